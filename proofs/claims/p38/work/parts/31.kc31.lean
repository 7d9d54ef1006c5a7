theorem kn121 : (121 : Int32).toInt = 121 := by decide
theorem oz904 {a0 a1 a2 : Int} (h0 : a0 = (-1)) : (a0 = (-1)) ∨ (a1 < a2) := by omega
theorem oz905 {a0 a1 : Int} (h0 : a0 < a1) (h1 : (0 : Int) ≤ a0) (h2 : a1 = 0) : False := by omega
theorem oz906 {a0 a1 a2 : Int} (h0 : a0 < a1) : (a2 = (-1)) ∨ (a0 < a1) := by omega
theorem oz907 {a0 a1 : Int} (h0 : a0 < a1) (h1 : a1 = 48) : ¬ (((48 : Int) ≤ a0) ∧ (a0 ≤ 57)) := by omega
theorem oz908 {a0 a1 : Int} (h0 : a0 < a1) (h1 : a0 = 57) : ¬ (((48 : Int) ≤ a1) ∧ (a1 ≤ 57)) := by omega
theorem oz909 {a0 a1 a2 : Int} (h0 : a0 ≤ a1) (h1 : a1 ≤ a2) (h2 : a0 = 48) (h3 : a2 = 57) : ((48 : Int) ≤ a1) ∧ (a1 ≤ 57) := by omega
theorem oz910 {a0 a1 a2 : Int} (h0 : a0 ≤ a1) (h1 : a0 = 121) (h2 : a2 = 1) : (-2147483648 : Int) ≤ a1 - a2 := by omega
theorem oz911 {a0 a1 : Int} (h0 : a0 ≤ 121) (h1 : a1 = 1) : a0 - a1 ≤ 2147483647 := by omega
theorem oz912 {a0 a1 : Int} (h0 : a0 < a1) (h1 : a1 = 121) : a0 < 121 := by omega
theorem oz913 {a0 a1 : Int} (h0 : a0 ≤ 121) (h1 : a1 = 1) : a0 + a1 ≤ 2147483647 := by omega
theorem oz914 {a0 a1 a2 a3 : Int} (h0 : a0 < a1) (h1 : a2 = a0 + a3) (h2 : a1 = 121) (h3 : a3 = 1) : a2 ≤ 121 := by omega
theorem oz915 {a0 a1 a2 : Int} (h0 : (0 : Int) ≤ a0) (h1 : a1 = a0 + a2) (h2 : a2 = 1) : (-2147483648 : Int) ≤ a1 - a2 := by omega
theorem oz916 {a0 a1 a2 : Int} (h0 : a0 ≤ 121) (h1 : a1 = a0 + a2) (h2 : a2 = 1) : a1 - a2 ≤ 2147483647 := by omega
theorem oz917 {a0 a1 a2 a3 a4 : Int} (h0 : a0 ≤ 120) (h1 : a1 = a2 + a3) (h2 : (48 : Int) ≤ a4) (h3 : (a4 = (-1)) ∨ (a2 < a0)) (h4 : a3 = 1) : a1 ≤ 120 := by omega
theorem oz918 {a0 a1 : Int} (h0 : a0 < a1) (h1 : a1 ≤ 6) : a0 < 6 := by omega
theorem oz919 {a0 a1 a2 : Int} (h0 : a0 < a1) (h1 : a1 ≤ 6) (h2 : a2 = 1) : a0 + a2 ≤ 2147483647 := by omega
theorem oz920 {a0 a1 : Int} (h0 : a0 ≤ a1) (h1 : a1 = 6) : a0 ≤ 6 := by omega
theorem oz921 {a0 a1 a2 a3 a4 a5 : Int} (h0 : a0 ≠ a1) (h1 : a2 ≤ 120) (h2 : a3 = a4 + a5) (h3 : (a0 = (-1)) ∨ (a4 < a2)) (h4 : a1 = (-1)) (h5 : a5 = 1) : a3 ≤ 120 := by omega
theorem oz922 {a0 a1 : Int} (h0 : a0 < a1) (h1 : a1 ≤ 3) : a0 < 3 := by omega
theorem oz923 {a0 a1 a2 : Int} (h0 : a0 < a1) (h1 : a1 ≤ 3) (h2 : a2 = 1) : a0 + a2 ≤ 2147483647 := by omega
theorem oz924 {a0 a1 : Int} (h0 : a0 ≤ a1) (h1 : a1 = 3) : a0 ≤ 3 := by omega
theorem oz925 {a0 a1 a2 : Int} (h0 : a0 < a1) (h1 : (a0 + a2) = 6) (h2 : a1 = 6) : (1 : Int) ≤ a2 := by omega
theorem oz926 {a0 a1 a2 a3 a4 : Int} (h0 : a0 = a1 + 1) (h1 : (0 : Int) ≤ a2) (h2 : (a2 + a0) = 6) (h3 : a3 = a2 + a4) (h4 : a4 = 1) : ((0 : Int) ≤ a3) ∧ ((a3 + a1) = 6) := by omega
theorem oz927 {a0 a1 a2 a3 a4 a5 : Int} (h0 : a0 = a1) (h1 : a2 ≤ 120) (h2 : (0 : Int) ≤ a1) (h3 : a3 = a4 + a5) (h4 : (a0 = (-1)) ∨ (a4 < a2)) (h5 : a5 = 1) : a3 ≤ 120 := by omega
theorem oz928 {a0 a1 : Int} (h0 : (0 : Int) ≤ a0) (h1 : (a0 + a1) = 6) : ((0 : Int) ≤ a0) ∧ ((a0 + a1) = 6) := by omega
theorem oz929 {a0 a1 a2 : Int} (h0 : a0 < a1) (h1 : a1 ≤ 120) (h2 : a2 = 1) : a0 + a2 ≤ 2147483647 := by omega
theorem oz930 {a0 a1 : Int} (h0 : a0 < a1) (h1 : a1 ≤ 2) : a0 < 2 := by omega
theorem oz931 {a0 a1 a2 : Int} (h0 : a0 < a1) (h1 : a1 ≤ 2) (h2 : a2 = 1) : a0 + a2 ≤ 2147483647 := by omega
theorem oz932 {a0 a1 : Int} (h0 : a0 ≤ a1) (h1 : a1 = 2) : a0 ≤ 2 := by omega
theorem oz933 {a0 a1 a2 a3 a4 a5 a6 : Int} (h0 : a0 = a1) (h1 : a2 = a3) (h2 : a1 = a2) (h3 : a4 = a5 + a6) (h4 : a6 = 1) : (a0 - a4) < (a3 - a5) := by omega
theorem oz934 {a0 a1 : Int} (h0 : a0 ≤ a1) (h1 : a1 = 6) : a0 < 7 := by omega
theorem oz935 {a0 a1 a2 : Int} (h0 : a0 ≤ a1) (h1 : a1 ≤ a2) (h2 : a0 = 0) (h3 : a2 = 6) : ((0 : Int) ≤ a1) ∧ (a1 ≤ 6) := by omega
theorem oz936 {a0 a1 : Int} (h0 : a0 < a1) (h1 : a1 = 8) : a0 < 8 := by omega
theorem oz937 {a0 a1 a2 a3 : Int} (h0 : a0 < a1) (h1 : a2 = a0 + a3) (h2 : a1 = 8) (h3 : a3 = 1) : a2 ≤ 8 := by omega
theorem oz938 {a0 a1 a2 : Int} (h0 : a0 ≤ 8) (h1 : a1 = a0 + a2) (h2 : a2 = 1) : a1 - a2 ≤ 2147483647 := by omega
theorem oz940 {a0 a1 a2 a3 : Int} (h0 : a0 ≠ a1) (h1 : a0 ≤ 2) (h2 : a1 = 2) : ¬ ((a0 = 2) ∧ (a2 = a3)) := by omega
theorem oz941 {a0 a1 a2 : Int} (h0 : a0 ≠ a1) : ¬ ((a2 = 2) ∧ (a0 = a1)) := by omega
theorem oz942 {a0 a1 a2 a3 : Int} (h0 : a0 = a1) (h1 : a2 = a3) (h2 : a0 ≤ 2) (h3 : a1 = 2) : (a0 = 2) ∧ (a2 = a3) := by omega
theorem oz943 {a0 : Int} (h0 : (0 : Int) ≤ a0) : (-2147483648 : Int) ≤ 3 * a0 := by omega
theorem oz944 {a0 a1 a2 : Int} (h0 : a0 < a1) (h1 : a1 ≤ a2) (h2 : a2 = 8) : 3 * a0 ≤ 2147483647 := by omega
theorem oz945 {a0 a1 a2 a3 : Int} (h0 : (0 : Int) ≤ a0) (h1 : a1 = 3 * a0) (h2 : a2 ≤ a3) (h3 : a2 = 0) : (-2147483648 : Int) ≤ a3 + a1 := by omega
theorem oz946 {a0 a1 a2 a3 a4 a5 : Int} (h0 : a0 < a1) (h1 : a2 = 3 * a0) (h2 : a3 ≤ a4) (h3 : a1 ≤ a5) (h4 : a4 = 60) (h5 : a5 = 8) : a3 + a2 ≤ 2147483647 := by omega
theorem oz947 {a0 a1 a2 : Int} (h0 : a0 ≤ a1) (h1 : a0 = 0) (h2 : a2 = 2) : (-2147483648 : Int) ≤ a1 + a2 := by omega
theorem oz948 {a0 a1 : Int} (h0 : a0 ≤ 1000) (h1 : a1 = 2) : a0 + a1 ≤ 2147483647 := by omega
theorem oz949 {a0 a1 a2 a3 : Int} (h0 : a0 < a1) (h1 : a1 ≤ 60) (h2 : a0 = a2 + a3) (h3 : a3 = 2) : a2 < 60 := by omega
theorem oz950 {a0 a1 a2 : Int} (h0 : a0 ≤ a1) (h1 : a0 = 0) (h2 : a2 = 1) : (-2147483648 : Int) ≤ a1 + a2 := by omega
theorem oz951 {a0 a1 : Int} (h0 : a0 ≤ 1000) (h1 : a1 = 1) : a0 + a1 ≤ 2147483647 := by omega
theorem oz952 {a0 a1 a2 a3 : Int} (h0 : a0 ≤ a1) (h1 : a2 = a1 + a3) (h2 : a0 = 0) (h3 : a3 = 1) : (0 : Int) ≤ a2 := by omega
theorem oz953 {a0 a1 a2 a3 a4 a5 : Int} (h0 : a0 < a1) (h1 : a1 ≤ 60) (h2 : a0 = a2 + a3) (h3 : a4 = a2 + a5) (h4 : a3 = 2) (h5 : a5 = 1) : a4 < 60 := by omega
theorem oz954 {a0 a1 a2 a3 : Int} (h0 : a0 ≤ a1) (h1 : a2 = a1 + a3) (h2 : a0 = 0) (h3 : a3 = 2) : (0 : Int) ≤ a2 := by omega
theorem oz955 {a0 a1 a2 a3 a4 a5 a6 : Int} (h0 : a0 < a1) (h1 : a2 = 3 * a0) (h2 : a3 = a4 + a2) (h3 : a4 ≤ a5) (h4 : a1 ≤ a6) (h5 : a5 = 60) (h6 : a6 = 8) : a3 ≤ 1000 := by omega
theorem oz956 {a0 a1 a2 a3 a4 a5 : Int} (h0 : a0 < a1) (h1 : a2 = 3 * a0) (h2 : a1 ≤ a3) (h3 : a4 ≤ a5) (h4 : a3 = 8) (h5 : a5 = 60) : a4 + a2 ≤ 2147483647 := by omega
theorem oz957 {a0 a1 a2 a3 a4 a5 a6 : Int} (h0 : a0 < a1) (h1 : a2 = 3 * a0) (h2 : a3 = a4 + a2) (h3 : a1 ≤ a5) (h4 : a4 ≤ a6) (h5 : a5 = 8) (h6 : a6 = 60) : a3 ≤ 1000 := by omega
theorem oz958 {a0 : Int} (h0 : ¬ (a0 = 5)) (h1 : ¬ (a0 = 1)) (h2 : ¬ (a0 = 2)) (h3 : ¬ (a0 = 0)) (h4 : ¬ (a0 = 3)) (h5 : ¬ (a0 = 4)) (h6 : (0 : Int) ≤ a0) (h7 : a0 ≤ 5) : False := by omega
set_option maxRecDepth 100000 in
theorem kc45_98 {i : Nat → Int32} {a : Nat → List Int32} {q : Nat → List Int64} {r : Nat → Nat} (hI : kI i a q) (hr : kr r)  : km 1 45 [.ref 98] (ks i a q r) (kPI (ks i a q r) (fun v => (v.toInt = (-1)) ∨ ((i 6274).toInt < (i 6273).toInt))) := by
  have hG := kG_self kW0 hI hr
  refine km_ofPI (q := (mi_h45, mi_c45)) rfl (by decide) (Nat.le_of_ble_eq_true rfl) ?_
  intro P hP
  have fi_6275 : ((0 : Int) ≤ (i 6275).toInt) ∧ ((i 6275).toInt ≤ 1) := hG.I.1 6275
  refine ft_go mi_k45 2 4 [(0, .ref 98)] [.int (i 6275)] i a q r (by rfl) ?_
  refine ft_if mi_k45 ((i 6275) != 0) 37 7 [(0, .ref 98)] [] (by rfl) (fun c => ?_) (fun c => ?_)
  ·
    have c1 : (i 6275).toInt ≠ (0 : Int32).toInt := kd_ne c; clear c
    refine ft_go mi_k45 1 38 [(0, .ref 98)] [.int (-1)] i a q r (by rfl) ?_
    have fi_6274 : ((0 : Int) ≤ (i 6274).toInt) ∧ ((i 6274).toInt ≤ 120) := hG.I.1 6274
    have fi_6273 : ((0 : Int) ≤ (i 6273).toInt) ∧ ((i 6273).toInt ≤ 120) := hG.I.1 6273
    exact ft_ret mi_k45 (by rfl) (hP (-1) (oz904 knm1))
  ·
    have c2 : (i 6275).toInt = (0 : Int32).toInt := kd_neF c; clear c
    have fi_6274 : ((0 : Int) ≤ (i 6274).toInt) ∧ ((i 6274).toInt ≤ 120) := hG.I.1 6274
    refine ft_go mi_k45 2 11 [(0, .ref 98)] [.int (i 6274)] i a q r (by rfl) ?_
    refine ft_if mi_k45 (decide ((i 6274) < 0)) 37 14 [(0, .ref 98)] [] (by rfl) (fun c => ?_) (fun c => ?_)
    ·
      have c3 : (i 6274).toInt < (0 : Int32).toInt := kd_lt c; clear c
      exact (oz905 c3 fi_6274.1 kn0).elim
    ·
      have c4 : (0 : Int32).toInt ≤ (i 6274).toInt := kd_ltF c; clear c
      have fi_6273 : ((0 : Int) ≤ (i 6273).toInt) ∧ ((i 6273).toInt ≤ 120) := hG.I.1 6273
      refine ft_go mi_k45 4 22 [(0, .ref 98)] [.int (i 6273), .int (i 6274)] i a q r (by rfl) ?_
      refine ft_if mi_k45 (decide ((i 6273) ≤ (i 6274))) 37 25 [(0, .ref 98)] [] (by rfl) (fun c => ?_) (fun c => ?_)
      ·
        have c5 : (i 6273).toInt ≤ (i 6274).toInt := kd_le c; clear c
        refine ft_go mi_k45 1 38 [(0, .ref 98)] [.int (-1)] i a q r (by rfl) ?_
        exact ft_ret mi_k45 (by rfl) (hP (-1) (oz904 knm1))
      ·
        have c6 : (i 6274).toInt < (i 6273).toInt := kd_leF c; clear c
        refine ft_go mi_k45 4 33 [(0, .ref 98)] [.int (i 6274), .ref 99] i a q r (by rfl) ?_
        refine ko_iald3 mi_k45.1 (n := 120) (c := 120) (ax := (0, 0, 0, 0, 0)) (mi_k45.2 _ _ (by rfl)) (by rfl) (ksG99 _ _ _ _) (hG.I.2.1 99) rfl (oz3 fi_6274.1) (oz702 c6 fi_6273.2) ?_
        refine ft_go mi_k45 1 38 [(0, .ref 98)] [.int ((a 99).getD (i 6274).toNatClampNeg 0)] i a q r (by rfl) ?_
        exact ft_ret mi_k45 (by rfl) (hP ((a 99).getD (i 6274).toNatClampNeg 0) (oz906 c6))
set_option maxRecDepth 100000 in
theorem kc56 {i : Nat → Int32} {a : Nat → List Int32} {q : Nat → List Int64} {r : Nat → Nat} (hI : kI i a q) (hr : kr r) (x1 : Int32) : km 1 56 [.int x1] (ks i a q r) (kPI (ks i a q r) (fun v => (v = 1 ∧ (((48 : Int) ≤ x1.toInt) ∧ (x1.toInt ≤ 57))) ∨ (v = 0 ∧ (¬ (((48 : Int) ≤ x1.toInt) ∧ (x1.toInt ≤ 57)))))) := by
  have hG := kG_self kW0 hI hr
  refine km_ofPI (q := (mi_h56, mi_c56)) rfl (by decide) (Nat.le_of_ble_eq_true rfl) ?_
  intro P hP
  refine ft_go mi_k56 2 3 [(0, .int x1)] [.int 48, .int x1] i a q r (by rfl) ?_
  refine ft_if mi_k56 (decide (x1 < 48)) 16 6 [(0, .int x1)] [] (by rfl) (fun c => ?_) (fun c => ?_)
  ·
    have c1 : x1.toInt < (48 : Int32).toInt := kd_lt c; clear c
    refine ft_go mi_k56 1 17 [(0, .int x1)] [.int 0] i a q r (by rfl) ?_
    exact ft_ret mi_k56 (by rfl) (hP 0 (Or.inr ⟨rfl, (oz907 c1 kn48)⟩))
  ·
    have c2 : (48 : Int32).toInt ≤ x1.toInt := kd_ltF c; clear c
    refine ft_go mi_k56 2 9 [(0, .int x1)] [.int 57, .int x1] i a q r (by rfl) ?_
    refine ft_if mi_k56 (decide (57 < x1)) 16 12 [(0, .int x1)] [] (by rfl) (fun c => ?_) (fun c => ?_)
    ·
      have c3 : (57 : Int32).toInt < x1.toInt := kd_lt c; clear c
      refine ft_go mi_k56 1 17 [(0, .int x1)] [.int 0] i a q r (by rfl) ?_
      exact ft_ret mi_k56 (by rfl) (hP 0 (Or.inr ⟨rfl, (oz908 c3 kn57)⟩))
    ·
      have c4 : x1.toInt ≤ (57 : Int32).toInt := kd_ltF c; clear c
      refine ft_go mi_k56 2 17 [(0, .int x1)] [.int 1] i a q r (by rfl) ?_
      exact ft_ret mi_k56 (by rfl) (hP 1 (Or.inl ⟨rfl, (oz909 c2 c4 kn48 kn57)⟩))
def w17_100 : kW := ([6403], [101, 102], [], [])
set_option maxRecDepth 100000 in
theorem kc17_100 {i : Nat → Int32} {a : Nat → List Int32} {q : Nat → List Int64} {r : Nat → Nat} (hI : kI i a q) (hr : kr r) (x1 : Int32) (x2 : Int32) : km 1 17 [.ref 100, .int x1, .int x2] (ks i a q r) (kVI w17_100 i a q r (fun v i1 a1 q1 r1 => True)) := by
  have hG := kG_self w17_100 hI hr
  refine km_ofI (q := (mi_h17, mi_c17)) rfl (by decide) (Nat.le_of_ble_eq_true rfl) ?_
  intro P hP
  have fi_6403 : ((0 : Int) ≤ (i 6403).toInt) ∧ ((i 6403).toInt ≤ 121) := hG.I.1 6403
  refine ft_go mi_k17 3 6 [(0, .ref 100), (1, .int x1), (2, .int x2)] [.int 121, .int (i 6403)] i a q r (by rfl) ?_
  refine ft_if mi_k17 (decide (121 ≤ (i 6403))) 39 9 [(0, .ref 100), (1, .int x1), (2, .int x2)] [] (by rfl) (fun c => ?_) (fun c => ?_)
  ·
    have c1 : (121 : Int32).toInt ≤ (i 6403).toInt := kd_le c; clear c
    have s2 : ((i 6403) - 1).toInt = (i 6403).toInt - (1 : Int32).toInt := kd_sub (oz910 c1 kn121 kn1) (oz911 fi_6403.2 kn1)
    refine ft_go mi_k17 4 45 [(0, .ref 100), (1, .int x1), (2, .int x2)] [.int ((i 6403) - 1)] i a q r (by rfl) ?_
    exact ft_ret mi_k17 (by rfl) (hP ((i 6403) - 1) _ _ _ _ hG trivial)
  ·
    have c3 : (i 6403).toInt < (121 : Int32).toInt := kd_leF c; clear c
    refine ft_go mi_k17 5 18 [(0, .ref 100), (1, .int x1), (2, .int x2)] [.int x1, .int (i 6403), .ref 101] i a q r (by rfl) ?_
    refine ko_iast3 mi_k17.1 (n := 121) (c := 121) (ax := (0, 0, 0, 0, 0)) (mi_k17.2 _ _ (by rfl)) (by rfl) (ksG101 _ _ _ _) (ksA101 _ _ _ _) (hG.I.2.1 101) rfl (oz3 fi_6403.1) (oz912 c3 kn121) ?_
    intro a4 ea4 fa4
    have hJ4 := kG_a3 hG 101 rfl ea4 fa4 (kd_bd _)
    refine ft_go mi_k17 5 28 [(0, .ref 100), (1, .int x1), (2, .int x2)] [.int x2, .int (i 6403), .ref 102] i a4 q r (by rfl) ?_
    refine ko_iast3 mi_k17.1 (n := 121) (c := 121) (ax := (0, 0, 0, 0, 0)) (mi_k17.2 _ _ (by rfl)) (by rfl) (ksG102 _ _ _ _) (ksA102 _ _ _ _) (hJ4.I.2.1 102) rfl (oz3 fi_6403.1) (oz912 c3 kn121) ?_
    intro a5 ea5 fa5
    have hJ5 := kG_a3 hJ4 102 rfl ea5 fa5 (kd_bd _)
    have s6 : ((i 6403) + 1).toInt = (i 6403).toInt + (1 : Int32).toInt := kd_add (oz12 fi_6403.1 kn1) (oz913 fi_6403.2 kn1)
    have hJ7 := kG_i hJ5 6403 rfl (v := ((i 6403) + 1)) ⟨(oz14 fi_6403.1 s6 kn1), (oz914 c3 s6 kn121 kn1)⟩
    have s8 : (((i 6403) + 1) - 1).toInt = ((i 6403) + 1).toInt - (1 : Int32).toInt := kd_sub (oz915 fi_6403.1 s6 kn1) (oz916 fi_6403.2 s6 kn1)
    refine ft_go mi_k17 10 45 [(0, .ref 100), (1, .int x1), (2, .int x2)] [.int (((i 6403) + 1) - 1)] (ku i 6403 ((i 6403) + 1)) a5 q r (by rfl) ?_
    exact ft_ret mi_k17 (by rfl) (hP (((i 6403) + 1) - 1) _ _ _ _ hJ7 trivial)
def w17_10 : kW := ([643], [11, 12], [], [])
set_option maxRecDepth 100000 in
theorem kc17_10 {i : Nat → Int32} {a : Nat → List Int32} {q : Nat → List Int64} {r : Nat → Nat} (hI : kI i a q) (hr : kr r) (x1 : Int32) (x2 : Int32) : km 1 17 [.ref 10, .int x1, .int x2] (ks i a q r) (kVI w17_10 i a q r (fun v i1 a1 q1 r1 => True)) := by
  have hG := kG_self w17_10 hI hr
  refine km_ofI (q := (mi_h17, mi_c17)) rfl (by decide) (Nat.le_of_ble_eq_true rfl) ?_
  intro P hP
  have fi_643 : ((0 : Int) ≤ (i 643).toInt) ∧ ((i 643).toInt ≤ 121) := hG.I.1 643
  refine ft_go mi_k17 3 6 [(0, .ref 10), (1, .int x1), (2, .int x2)] [.int 121, .int (i 643)] i a q r (by rfl) ?_
  refine ft_if mi_k17 (decide (121 ≤ (i 643))) 39 9 [(0, .ref 10), (1, .int x1), (2, .int x2)] [] (by rfl) (fun c => ?_) (fun c => ?_)
  ·
    have c1 : (121 : Int32).toInt ≤ (i 643).toInt := kd_le c; clear c
    have s2 : ((i 643) - 1).toInt = (i 643).toInt - (1 : Int32).toInt := kd_sub (oz910 c1 kn121 kn1) (oz911 fi_643.2 kn1)
    refine ft_go mi_k17 4 45 [(0, .ref 10), (1, .int x1), (2, .int x2)] [.int ((i 643) - 1)] i a q r (by rfl) ?_
    exact ft_ret mi_k17 (by rfl) (hP ((i 643) - 1) _ _ _ _ hG trivial)
  ·
    have c3 : (i 643).toInt < (121 : Int32).toInt := kd_leF c; clear c
    refine ft_go mi_k17 5 18 [(0, .ref 10), (1, .int x1), (2, .int x2)] [.int x1, .int (i 643), .ref 11] i a q r (by rfl) ?_
    refine ko_iast3 mi_k17.1 (n := 121) (c := 121) (ax := (0, 0, 0, 0, 0)) (mi_k17.2 _ _ (by rfl)) (by rfl) (ksG11 _ _ _ _) (ksA11 _ _ _ _) (hG.I.2.1 11) rfl (oz3 fi_643.1) (oz912 c3 kn121) ?_
    intro a4 ea4 fa4
    have hJ4 := kG_a3 hG 11 rfl ea4 fa4 (kd_bd _)
    refine ft_go mi_k17 5 28 [(0, .ref 10), (1, .int x1), (2, .int x2)] [.int x2, .int (i 643), .ref 12] i a4 q r (by rfl) ?_
    refine ko_iast3 mi_k17.1 (n := 121) (c := 121) (ax := (0, 0, 0, 0, 0)) (mi_k17.2 _ _ (by rfl)) (by rfl) (ksG12 _ _ _ _) (ksA12 _ _ _ _) (hJ4.I.2.1 12) rfl (oz3 fi_643.1) (oz912 c3 kn121) ?_
    intro a5 ea5 fa5
    have hJ5 := kG_a3 hJ4 12 rfl ea5 fa5 (kd_bd _)
    have s6 : ((i 643) + 1).toInt = (i 643).toInt + (1 : Int32).toInt := kd_add (oz12 fi_643.1 kn1) (oz913 fi_643.2 kn1)
    have hJ7 := kG_i hJ5 643 rfl (v := ((i 643) + 1)) ⟨(oz14 fi_643.1 s6 kn1), (oz914 c3 s6 kn121 kn1)⟩
    have s8 : (((i 643) + 1) - 1).toInt = ((i 643) + 1).toInt - (1 : Int32).toInt := kd_sub (oz915 fi_643.1 s6 kn1) (oz916 fi_643.2 s6 kn1)
    refine ft_go mi_k17 10 45 [(0, .ref 10), (1, .int x1), (2, .int x2)] [.int (((i 643) + 1) - 1)] (ku i 643 ((i 643) + 1)) a5 q r (by rfl) ?_
    exact ft_ret mi_k17 (by rfl) (hP (((i 643) + 1) - 1) _ _ _ _ hJ7 trivial)
def w55_98 : kW := ([643, 6274, 6403], [11, 12, 101, 102], [], [])
def w55_98_L4 : kW := ([6274], [], [], [])
set_option maxRecDepth 100000 in
theorem kc55_98 {i : Nat → Int32} {a : Nat → List Int32} {q : Nat → List Int64} {r : Nat → Nat} (hI : kI i a q) (hr : kr r)  : km 3 55 [.ref 98] (ks i a q r) (kVN w55_98 i a q r (fun i1 a1 q1 r1 => True)) := by
  have hG := kG_self w55_98 hI hr
  refine km_ofN (q := (mi_h55, mi_c55)) rfl (by decide) (Nat.le_of_ble_eq_true rfl) ?_
  intro P hP
  refine ft_go mi_k55 4 4 [(2, .int 0), (1, .int 0), (0, .ref 98)] [] i a q r (by rfl) ?_
  have lp1 : ∀ (nz : Nat) (i1 : Nat → Int32) (a1 : Nat → List Int32) (q1 : Nat → List Int64) (r1 : Nat → Nat) (l2_1 : Int32) (l1_1 : Int32), kG w55_98_L4 i a q r i1 a1 q1 r1 → (0 : Int) ≤ l2_1.toInt → ((4 - l2_1.toInt)).toNat < nz → ko 3 (mi_h55, mi_c55) P (4, [(2, .int l2_1), (1, .int l1_1), (0, .ref 98)], [], (0, 0), ks i1 a1 q1 r1) := by
    intro nz
    induction nz with
    | zero =>
      intro _ _ _ _ _ _ _ _ hm
      exact absurd hm (Nat.not_lt_zero _)
    | succ nz ih1 =>
      intro i1 a1 q1 r1 l2_1 l1_1 hL1 p1_0 hm1
      refine ft_go mi_k55 2 6 [(2, .int l2_1), (1, .int l1_1), (0, .ref 98)] [.int 4, .int l2_1] i1 a1 q1 r1 (by rfl) ?_
      refine ft_if mi_k55 (decide (4 ≤ l2_1)) 48 9 [(2, .int l2_1), (1, .int l1_1), (0, .ref 98)] [] (by rfl) (fun c => ?_) (fun c => ?_)
      ·
        have c2 : (4 : Int32).toInt ≤ l2_1.toInt := kd_le c; clear c
        have hG3 := kG_call hG hL1 (by decide +kernel)
        refine ft_go mi_k55 2 52 [(2, .int l2_1), (1, .int l1_1), (0, .ref 98)] [.ref (r1 2)] i1 a1 q1 r1 (by rfl) ?_
        rcases hG3.R.1 with ⟨eRr1_0, eRr1_2⟩ | ⟨eRr1_0, eRr1_2⟩
        ·
          have eRr1_0 : r1 0 = 10 := eRr1_0
          have eRr1_2 : r1 2 = 100 := eRr1_2
          refine ko_eq (x1 := (52, [(2, .int l2_1), (1, .int l1_1), (0, .ref 98)], [.ref 100], (0, 0), ks i1 a1 q1 r1)) (by rw [eRr1_2]) ?_
          refine ft_go mi_k55 2 54 [(2, .int l2_1), (1, .int l1_1), (0, .ref 98)] [.int l1_1, .int 0, .ref 100] i1 a1 q1 r1 (by rfl) ?_
          refine ko_callI mi_k55.1 (pc := 54) (ls := [(2, .int l2_1), (1, .int l1_1), (0, .ref 98)]) (st := [.int l1_1, .int 0, .ref 100]) (h := ks i1 a1 q1 r1) (i := (.invokevirtual 60, 3, 17, 0, 9, 0, 187)) (mi_k55.2 _ _ (by rfl)) (ft_invS mi_pq17 (by rfl)) (cy := mi_c17) mi_pq17 rfl (kc17_100 hG3.I hG3.R 0 l1_1) (by decide) ?_
          intro vg4 ig4 ag4 qg4 rg4 kg4 hg4
          have hGg4 := kG_call hG3 kg4 (by decide +kernel)
          have eRrg4_0 : rg4 0 = 10 := (kg4.fr 0 rfl).trans eRr1_0
          have eRrg4_2 : rg4 2 = 100 := (kg4.fr 2 rfl).trans eRr1_2
          refine ft_go mi_k55 1 58 [(2, .int l2_1), (1, .int l1_1), (0, .ref 98)] [] ig4 ag4 qg4 rg4 (by rfl) ?_
          exact ft_ret mi_k55 (by rfl) (hP  _ _ _ _ hGg4 trivial)
        ·
          have eRr1_0 : r1 0 = 100 := eRr1_0
          have eRr1_2 : r1 2 = 10 := eRr1_2
          refine ko_eq (x1 := (52, [(2, .int l2_1), (1, .int l1_1), (0, .ref 98)], [.ref 10], (0, 0), ks i1 a1 q1 r1)) (by rw [eRr1_2]) ?_
          refine ft_go mi_k55 2 54 [(2, .int l2_1), (1, .int l1_1), (0, .ref 98)] [.int l1_1, .int 0, .ref 10] i1 a1 q1 r1 (by rfl) ?_
          refine ko_callI mi_k55.1 (pc := 54) (ls := [(2, .int l2_1), (1, .int l1_1), (0, .ref 98)]) (st := [.int l1_1, .int 0, .ref 10]) (h := ks i1 a1 q1 r1) (i := (.invokevirtual 60, 3, 17, 0, 9, 0, 187)) (mi_k55.2 _ _ (by rfl)) (ft_invS mi_pq17 (by rfl)) (cy := mi_c17) mi_pq17 rfl (kc17_10 hG3.I hG3.R 0 l1_1) (by decide) ?_
          intro vg5 ig5 ag5 qg5 rg5 kg5 hg5
          have hGg5 := kG_call hG3 kg5 (by decide +kernel)
          have eRrg5_0 : rg5 0 = 100 := (kg5.fr 0 rfl).trans eRr1_0
          have eRrg5_2 : rg5 2 = 10 := (kg5.fr 2 rfl).trans eRr1_2
          refine ft_go mi_k55 1 58 [(2, .int l2_1), (1, .int l1_1), (0, .ref 98)] [] ig5 ag5 qg5 rg5 (by rfl) ?_
          exact ft_ret mi_k55 (by rfl) (hP  _ _ _ _ hGg5 trivial)
      ·
        have c6 : l2_1.toInt < (4 : Int32).toInt := kd_leF c; clear c
        refine ft_go mi_k55 1 10 [(2, .int l2_1), (1, .int l1_1), (0, .ref 98)] [.ref 98] i1 a1 q1 r1 (by rfl) ?_
        refine ko_callPI mi_k55.1 (pc := 10) (ls := [(2, .int l2_1), (1, .int l1_1), (0, .ref 98)]) (st := [.ref 98]) (h := ks i1 a1 q1 r1) (i := (.invokevirtual 46, 3, 45, 0, 9, 0, 184)) (mi_k55.2 _ _ (by rfl)) (ft_invS mi_pq45 (by rfl)) (cy := mi_c45) mi_pq45 rfl (kc45_98 hL1.I hL1.R ) (by decide) ?_
        intro vg7 hg7
        have fi1_6274 : ((0 : Int) ≤ (i1 6274).toInt) ∧ ((i1 6274).toInt ≤ 120) := hL1.I.1 6274
        have fi1_6273 : ((0 : Int) ≤ (i1 6273).toInt) ∧ ((i1 6273).toInt ≤ 120) := hL1.I.1 6273
        have fi_6273 : ((0 : Int) ≤ (i 6273).toInt) ∧ ((i 6273).toInt ≤ 120) := hG.I.1 6273
        have efi1_6273 : (i1 6273).toInt = (i 6273).toInt := hL1.ti 6273 rfl
        have z8 : (vg7.toInt = (-1)) ∨ ((i1 6274).toInt < (i1 6273).toInt) := hg7
        refine ko_callPI mi_k55.1 (pc := 13) (ls := [(2, .int l2_1), (1, .int l1_1), (0, .ref 98)]) (st := [.int vg7]) (h := ks i1 a1 q1 r1) (i := (.invokestatic 92, 3, 56, 0, 9, 0, 185)) (mi_k55.2 _ _ (by rfl)) (ft_invS mi_pq56 (by rfl)) (cy := mi_c56) mi_pq56 rfl (kc56 hL1.I hL1.R vg7) (by decide) ?_
        intro vg9 hg9
        rcases hg9 with ⟨eg9, hg9⟩ | ⟨eg9, hg9⟩
        ·
          subst eg9
          have z10 : ((48 : Int) ≤ vg7.toInt) ∧ (vg7.toInt ≤ 57) := hg9
          have b11 : ((-2147483648 : Int) ≤ l1_1.toInt) ∧ (l1_1.toInt ≤ 2147483647) := kd_bd l1_1
          refine ft_go mi_k55 5 24 [(2, .int l2_1), (1, .int l1_1), (0, .ref 98)] [.ref 98, .int (l1_1 * 10)] i1 a1 q1 r1 (by rfl) ?_
          refine ko_callPI mi_k55.1 (pc := 24) (ls := [(2, .int l2_1), (1, .int l1_1), (0, .ref 98)]) (st := [.ref 98, .int (l1_1 * 10)]) (h := ks i1 a1 q1 r1) (i := (.invokevirtual 46, 3, 45, 0, 9, 0, 184)) (mi_k55.2 _ _ (by rfl)) (ft_invS mi_pq45 (by rfl)) (cy := mi_c45) mi_pq45 rfl (kc45_98 hL1.I hL1.R ) (by decide) ?_
          intro vg12 hg12
          have z13 : (vg12.toInt = (-1)) ∨ ((i1 6274).toInt < (i1 6273).toInt) := hg12
          have b14 : ((-2147483648 : Int) ≤ (l1_1 * 10).toInt) ∧ ((l1_1 * 10).toInt ≤ 2147483647) := kd_bd (l1_1 * 10)
          have b15 : ((-2147483648 : Int) ≤ vg12.toInt) ∧ (vg12.toInt ≤ 2147483647) := kd_bd vg12
          have b16 : ((-2147483648 : Int) ≤ ((l1_1 * 10) + vg12).toInt) ∧ (((l1_1 * 10) + vg12).toInt ≤ 2147483647) := kd_bd ((l1_1 * 10) + vg12)
          have s17 : ((i1 6274) + 1).toInt = (i1 6274).toInt + (1 : Int32).toInt := kd_add (oz12 fi1_6274.1 kn1) (oz192 fi1_6274.2 kn1)
          have hJ18 := kG_i hL1 6274 rfl (v := ((i1 6274) + 1)) ⟨(oz14 fi1_6274.1 s17 kn1), (oz917 fi1_6273.2 s17 z10.1 z8 kn1)⟩
          have s19 : (l2_1 + 1).toInt = l2_1.toInt + (1 : Int32).toInt := kd_add (oz12 p1_0 kn1) (oz717 c6 kn4 kn1)
          refine ft_go mi_k55 12 4 [(2, .int (l2_1 + 1)), (1, .int (((l1_1 * 10) + vg12) - 48)), (0, .ref 98)] [] (ku i1 6274 ((i1 6274) + 1)) a1 q1 r1 (by rfl) ?_
          exact ih1 _ _ _ _ _ _ hJ18 (oz14 p1_0 s19 kn1) (kj_meas (oz723 s19 kn1) (oz724 c6 kn4) hm1)
        ·
          subst eg9
          have z20 : ¬ (((48 : Int) ≤ vg7.toInt) ∧ (vg7.toInt ≤ 57)) := hg9
          refine ft_go mi_k55 1 48 [(2, .int l2_1), (1, .int l1_1), (0, .ref 98)] [] i1 a1 q1 r1 (by rfl) ?_
          have hG21 := kG_call hG hL1 (by decide +kernel)
          refine ft_go mi_k55 2 52 [(2, .int l2_1), (1, .int l1_1), (0, .ref 98)] [.ref (r1 2)] i1 a1 q1 r1 (by rfl) ?_
          rcases hG21.R.1 with ⟨eRr1_0, eRr1_2⟩ | ⟨eRr1_0, eRr1_2⟩
          ·
            have eRr1_0 : r1 0 = 10 := eRr1_0
            have eRr1_2 : r1 2 = 100 := eRr1_2
            refine ko_eq (x1 := (52, [(2, .int l2_1), (1, .int l1_1), (0, .ref 98)], [.ref 100], (0, 0), ks i1 a1 q1 r1)) (by rw [eRr1_2]) ?_
            refine ft_go mi_k55 2 54 [(2, .int l2_1), (1, .int l1_1), (0, .ref 98)] [.int l1_1, .int 0, .ref 100] i1 a1 q1 r1 (by rfl) ?_
            refine ko_callI mi_k55.1 (pc := 54) (ls := [(2, .int l2_1), (1, .int l1_1), (0, .ref 98)]) (st := [.int l1_1, .int 0, .ref 100]) (h := ks i1 a1 q1 r1) (i := (.invokevirtual 60, 3, 17, 0, 9, 0, 187)) (mi_k55.2 _ _ (by rfl)) (ft_invS mi_pq17 (by rfl)) (cy := mi_c17) mi_pq17 rfl (kc17_100 hG21.I hG21.R 0 l1_1) (by decide) ?_
            intro vg22 ig22 ag22 qg22 rg22 kg22 hg22
            have hGg22 := kG_call hG21 kg22 (by decide +kernel)
            have eRrg22_0 : rg22 0 = 10 := (kg22.fr 0 rfl).trans eRr1_0
            have eRrg22_2 : rg22 2 = 100 := (kg22.fr 2 rfl).trans eRr1_2
            refine ft_go mi_k55 1 58 [(2, .int l2_1), (1, .int l1_1), (0, .ref 98)] [] ig22 ag22 qg22 rg22 (by rfl) ?_
            exact ft_ret mi_k55 (by rfl) (hP  _ _ _ _ hGg22 trivial)
          ·
            have eRr1_0 : r1 0 = 100 := eRr1_0
            have eRr1_2 : r1 2 = 10 := eRr1_2
            refine ko_eq (x1 := (52, [(2, .int l2_1), (1, .int l1_1), (0, .ref 98)], [.ref 10], (0, 0), ks i1 a1 q1 r1)) (by rw [eRr1_2]) ?_
            refine ft_go mi_k55 2 54 [(2, .int l2_1), (1, .int l1_1), (0, .ref 98)] [.int l1_1, .int 0, .ref 10] i1 a1 q1 r1 (by rfl) ?_
            refine ko_callI mi_k55.1 (pc := 54) (ls := [(2, .int l2_1), (1, .int l1_1), (0, .ref 98)]) (st := [.int l1_1, .int 0, .ref 10]) (h := ks i1 a1 q1 r1) (i := (.invokevirtual 60, 3, 17, 0, 9, 0, 187)) (mi_k55.2 _ _ (by rfl)) (ft_invS mi_pq17 (by rfl)) (cy := mi_c17) mi_pq17 rfl (kc17_10 hG21.I hG21.R 0 l1_1) (by decide) ?_
            intro vg23 ig23 ag23 qg23 rg23 kg23 hg23
            have hGg23 := kG_call hG21 kg23 (by decide +kernel)
            have eRrg23_0 : rg23 0 = 100 := (kg23.fr 0 rfl).trans eRr1_0
            have eRrg23_2 : rg23 2 = 10 := (kg23.fr 2 rfl).trans eRr1_2
            refine ft_go mi_k55 1 58 [(2, .int l2_1), (1, .int l1_1), (0, .ref 98)] [] ig23 ag23 qg23 rg23 (by rfl) ?_
            exact ft_ret mi_k55 (by rfl) (hP  _ _ _ _ hGg23 trivial)
  exact lp1 _ _ _ _ _ _ _ (kG_self _ hG.I hG.R) (oz46 kn0) (Nat.lt_succ_self _)
set_option maxRecDepth 100000 in
theorem kc231_S10 {i : Nat → Int32} {a : Nat → List Int32} {q : Nat → List Int64} {r : Nat → Nat} (hI : kI i a q) (hr : kr r)  : km 1 231 [.ref (mi_RO + 10)] (ks i a q r) (kPI (ks i a q r) (fun v => (v = 1 ∧ (True)) ∨ (v = 0 ∧ ((2 : Int) ≤ 1)))) := by
  have hG := kG_self kW0 hI hr
  refine km_ofPI (q := (mi_h231, mi_c231)) rfl (by decide) (Nat.le_of_ble_eq_true rfl) ?_
  intro P hP
  refine ft_go mi_k231 7 18 [(0, .ref (mi_RO + 10))] [.int 1] i a q r (by rfl) ?_
  exact ft_ret mi_k231 (by rfl) (hP 1 (Or.inl ⟨rfl, trivial⟩))
set_option maxRecDepth 100000 in
theorem kc230_S10 {i : Nat → Int32} {a : Nat → List Int32} {q : Nat → List Int64} {r : Nat → Nat} (hI : kI i a q) (hr : kr r)  : km 1 230 [.ref (mi_RO + 10)] (ks i a q r) (kPI (ks i a q r) (fun v => True)) := by
  have hG := kG_self kW0 hI hr
  refine km_ofPI (q := (mi_h230, mi_c230)) rfl (by decide) (Nat.le_of_ble_eq_true rfl) ?_
  intro P hP
  refine ft_go mi_k230 5 14 [(0, .ref (mi_RO + 10))] [.int 0] i a q r (by rfl) ?_
  exact ft_ret mi_k230 (by rfl) (hP 0 trivial)
set_option maxRecDepth 100000 in
theorem kc227_S10 {i : Nat → Int32} {a : Nat → List Int32} {q : Nat → List Int64} {r : Nat → Nat} (hI : kI i a q) (hr : kr r)  : km 3 227 [.ref (mi_RO + 10)] (ks i a q r) (kPI (ks i a q r) (fun v => True)) := by
  have hG := kG_self kW0 hI hr
  refine km_ofPI (q := (mi_h227, mi_c227)) rfl (by decide) (Nat.le_of_ble_eq_true rfl) ?_
  intro P hP
  first | refine ft_go mi_k227 4 6 [(0, .ref (mi_RO + 10))] [.ref (mi_RO + 10), .int 6] i a q r (by rfl) ?_ | refine ko_steps mi_in227 4 _ (6, [(0, .ref (mi_RO + 10))], [.ref (mi_RO + 10), .int 6], (0, 0), ks i a q r) (by rfl) ?_
  refine ko_callPI mi_k227.1 (pc := 6) (ls := [(0, .ref (mi_RO + 10))]) (st := [.ref (mi_RO + 10), .int 6]) (h := ks i a q r) (i := (.invokevirtual 335, 3, 230, 0, 9, 0, 32)) (mi_k227.2 _ _ (by rfl)) (ft_invS mi_pq230 (by rfl)) (cy := mi_c230) mi_pq230 rfl (kc230_S10 hG.I hG.R ) (by decide) ?_
  intro vg1 hg1
  first | refine ft_go mi_k227 1 10 [(0, .ref (mi_RO + 10))] [.int (6 >>> (vg1 &&& 31))] i a q r (by rfl) ?_ | refine ko_steps mi_in227 1 _ (10, [(0, .ref (mi_RO + 10))], [.int (6 >>> (vg1 &&& 31))], (0, 0), ks i a q r) (by rfl) ?_
  exact ft_ret mi_k227 (by rfl) (hP (6 >>> (vg1 &&& 31)) trivial)
set_option maxRecDepth 100000 in
theorem kc232 {i : Nat → Int32} {a : Nat → List Int32} {q : Nat → List Int64} {r : Nat → Nat} (hI : kI i a q) (hr : kr r) (x1 : Int32) : km 1 232 [.int x1] (ks i a q r) (kPI (ks i a q r) (fun v => (v = 1 ∧ (True)) ∨ (v = 0 ∧ (True)))) := by
  have hG := kG_self kW0 hI hr
  refine km_ofPI (q := (mi_h232, mi_c232)) rfl (by decide) (Nat.le_of_ble_eq_true rfl) ?_
  intro P hP
  refine ft_go mi_k232 1 1 [(0, .int x1)] [.int x1] i a q r (by rfl) ?_
  refine ft_if mi_k232 (decide (x1 < 0)) 15 4 [(0, .int x1)] [] (by rfl) (fun c => ?_) (fun c => ?_)
  ·
    have c1 : x1.toInt < (0 : Int32).toInt := kd_lt c; clear c
    refine ft_go mi_k232 1 16 [(0, .int x1)] [.int 0] i a q r (by rfl) ?_
    exact ft_ret mi_k232 (by rfl) (hP 0 (Or.inr ⟨rfl, trivial⟩))
  ·
    have c2 : (0 : Int32).toInt ≤ x1.toInt := kd_ltF c; clear c
    refine ft_go mi_k232 2 8 [(0, .int x1)] [.int 255, .int x1] i a q r (by rfl) ?_
    refine ft_if mi_k232 (decide (255 < x1)) 15 11 [(0, .int x1)] [] (by rfl) (fun c => ?_) (fun c => ?_)
    ·
      have c3 : (255 : Int32).toInt < x1.toInt := kd_lt c; clear c
      refine ft_go mi_k232 1 16 [(0, .int x1)] [.int 0] i a q r (by rfl) ?_
      exact ft_ret mi_k232 (by rfl) (hP 0 (Or.inr ⟨rfl, trivial⟩))
    ·
      have c4 : x1.toInt ≤ (255 : Int32).toInt := kd_ltF c; clear c
      refine ft_go mi_k232 2 16 [(0, .int x1)] [.int 1] i a q r (by rfl) ?_
      exact ft_ret mi_k232 (by rfl) (hP 1 (Or.inl ⟨rfl, trivial⟩))
set_option maxRecDepth 100000 in
theorem kc234_S20 {i : Nat → Int32} {a : Nat → List Int32} {q : Nat → List Int64} {r : Nat → Nat} (hI : kI i a q) (hr : kr r) (x2 : Int32) (x3 : Int32) (x4 : Int32) (hp0 : (0 : Int) ≤ x3.toInt) (hp1 : x4.toInt ≤ 6) : km 1 234 [.ref (mi_RO + 20), .int x2, .int x3, .int x4] (ks i a q r) (kPI (ks i a q r) (fun v => True)) := by
  have hG := kG_self kW0 hI hr
  refine km_ofPI (q := (mi_h234, mi_c234)) rfl (by decide) (Nat.le_of_ble_eq_true rfl) ?_
  intro P hP
  first | refine ft_go mi_k234 5 7 [(5, .int x3), (4, .int x2.toInt8.toInt32), (0, .ref (mi_RO + 20)), (1, .int x2), (2, .int x3), (3, .int x4)] [] i a q r (by rfl) ?_ | refine ko_steps mi_in234 5 _ (7, [(5, .int x3), (4, .int x2.toInt8.toInt32), (0, .ref (mi_RO + 20)), (1, .int x2), (2, .int x3), (3, .int x4)], [], (0, 0), ks i a q r) (by rfl) ?_
  have lp1 : ∀ (nz : Nat) (l5_1 : Int32), (0 : Int) ≤ l5_1.toInt → ((x4.toInt - l5_1.toInt)).toNat < nz → ko 1 (mi_h234, mi_c234) P (7, [(5, .int l5_1), (4, .int x2.toInt8.toInt32), (0, .ref (mi_RO + 20)), (1, .int x2), (2, .int x3), (3, .int x4)], [], (0, 0), ks i a q r) := by
    intro nz
    induction nz with
    | zero =>
      intro _ _ hm
      exact absurd hm (Nat.not_lt_zero _)
    | succ nz ih1 =>
      intro l5_1 p1_0 hm1
      first | refine ft_go mi_k234 2 10 [(5, .int l5_1), (4, .int x2.toInt8.toInt32), (0, .ref (mi_RO + 20)), (1, .int x2), (2, .int x3), (3, .int x4)] [.int x4, .int l5_1] i a q r (by rfl) ?_ | refine ko_steps mi_in234 2 _ (10, [(5, .int l5_1), (4, .int x2.toInt8.toInt32), (0, .ref (mi_RO + 20)), (1, .int x2), (2, .int x3), (3, .int x4)], [.int x4, .int l5_1], (0, 0), ks i a q r) (by rfl) ?_
      refine ft_if mi_k234 (decide (x4 ≤ l5_1)) 31 13 [(5, .int l5_1), (4, .int x2.toInt8.toInt32), (0, .ref (mi_RO + 20)), (1, .int x2), (2, .int x3), (3, .int x4)] [] (by rfl) (fun c => ?_) (fun c => ?_)
      ·
        have c2 : x4.toInt ≤ l5_1.toInt := kd_le c; clear c
        first | refine ft_go mi_k234 1 32 [(5, .int l5_1), (4, .int x2.toInt8.toInt32), (0, .ref (mi_RO + 20)), (1, .int x2), (2, .int x3), (3, .int x4)] [.int (-1)] i a q r (by rfl) ?_ | refine ko_steps mi_in234 1 _ (32, [(5, .int l5_1), (4, .int x2.toInt8.toInt32), (0, .ref (mi_RO + 20)), (1, .int x2), (2, .int x3), (3, .int x4)], [.int (-1)], (0, 0), ks i a q r) (by rfl) ?_
        exact ft_ret mi_k234 (by rfl) (hP (-1) trivial)
      ·
        have c3 : l5_1.toInt < x4.toInt := kd_leF c; clear c
        first | refine ft_go mi_k234 2 16 [(5, .int l5_1), (4, .int x2.toInt8.toInt32), (0, .ref (mi_RO + 20)), (1, .int x2), (2, .int x3), (3, .int x4)] [.int l5_1, .ref (mi_RO + 20)] i a q r (by rfl) ?_ | refine ko_steps mi_in234 2 _ (16, [(5, .int l5_1), (4, .int x2.toInt8.toInt32), (0, .ref (mi_RO + 20)), (1, .int x2), (2, .int x3), (3, .int x4)], [.int l5_1, .ref (mi_RO + 20)], (0, 0), ks i a q r) (by rfl) ?_
        refine ko_baro2 mi_k234.1 (l := [119, 112, 104, 110, 111, 100]) (n := 6) (c := 6) (ax := (0, 0, 0, 0, 0)) (mi_k234.2 _ _ (by rfl)) (by rfl) (by rfl) rfl rfl (oz3 p1_0) (oz918 c3 hp1) ?_
        first | refine ft_go mi_k234 1 19 [(5, .int l5_1), (4, .int x2.toInt8.toInt32), (0, .ref (mi_RO + 20)), (1, .int x2), (2, .int x3), (3, .int x4)] [.int x2.toInt8.toInt32, .int (([119, 112, 104, 110, 111, 100] : List Int32).getD l5_1.toNatClampNeg 0)] i a q r (by rfl) ?_ | refine ko_steps mi_in234 1 _ (19, [(5, .int l5_1), (4, .int x2.toInt8.toInt32), (0, .ref (mi_RO + 20)), (1, .int x2), (2, .int x3), (3, .int x4)], [.int x2.toInt8.toInt32, .int (([119, 112, 104, 110, 111, 100] : List Int32).getD l5_1.toNatClampNeg 0)], (0, 0), ks i a q r) (by rfl) ?_
        refine ft_if mi_k234 ((([119, 112, 104, 110, 111, 100] : List Int32).getD l5_1.toNatClampNeg 0) != x2.toInt8.toInt32) 25 22 [(5, .int l5_1), (4, .int x2.toInt8.toInt32), (0, .ref (mi_RO + 20)), (1, .int x2), (2, .int x3), (3, .int x4)] [] (by rfl) (fun c => ?_) (fun c => ?_)
        ·
          have c4 : (([119, 112, 104, 110, 111, 100] : List Int32).getD l5_1.toNatClampNeg 0).toInt ≠ x2.toInt8.toInt32.toInt := kd_ne c; clear c
          have s5 : (l5_1 + 1).toInt = l5_1.toInt + (1 : Int32).toInt := kd_add (oz12 p1_0 kn1) (oz919 c3 hp1 kn1)
          first | refine ft_go mi_k234 2 7 [(5, .int (l5_1 + 1)), (4, .int x2.toInt8.toInt32), (0, .ref (mi_RO + 20)), (1, .int x2), (2, .int x3), (3, .int x4)] [] i a q r (by rfl) ?_ | refine ko_steps mi_in234 2 _ (7, [(5, .int (l5_1 + 1)), (4, .int x2.toInt8.toInt32), (0, .ref (mi_RO + 20)), (1, .int x2), (2, .int x3), (3, .int x4)], [], (0, 0), ks i a q r) (by rfl) ?_
          exact ih1 _ (oz14 p1_0 s5 kn1) (kj_meas (oz44 s5 kn1) (oz45 c3) hm1)
        ·
          have c6 : (([119, 112, 104, 110, 111, 100] : List Int32).getD l5_1.toNatClampNeg 0).toInt = x2.toInt8.toInt32.toInt := kd_neF c; clear c
          first | refine ft_go mi_k234 1 24 [(5, .int l5_1), (4, .int x2.toInt8.toInt32), (0, .ref (mi_RO + 20)), (1, .int x2), (2, .int x3), (3, .int x4)] [.int l5_1] i a q r (by rfl) ?_ | refine ko_steps mi_in234 1 _ (24, [(5, .int l5_1), (4, .int x2.toInt8.toInt32), (0, .ref (mi_RO + 20)), (1, .int x2), (2, .int x3), (3, .int x4)], [.int l5_1], (0, 0), ks i a q r) (by rfl) ?_
          exact ft_ret mi_k234 (by rfl) (hP l5_1 trivial)
  exact lp1 _ _ (oz3 hp0) (Nat.lt_succ_self _)
set_option maxRecDepth 100000 in
theorem kc233_S20 {i : Nat → Int32} {a : Nat → List Int32} {q : Nat → List Int64} {r : Nat → Nat} (hI : kI i a q) (hr : kr r) (x2 : Int32) (x3 : Int32) (x4 : Int32) : km 3 233 [.ref (mi_RO + 20), .int x2, .int x3, .int x4] (ks i a q r) (kPI (ks i a q r) (fun v => True)) := by
  have hG := kG_self kW0 hI hr
  refine km_ofPI (q := (mi_h233, mi_c233)) rfl (by decide) (Nat.le_of_ble_eq_true rfl) ?_
  intro P hP
  first | refine ft_go mi_k233 1 1 [(0, .ref (mi_RO + 20)), (1, .int x2), (2, .int x3), (3, .int x4)] [.int x2] i a q r (by rfl) ?_ | refine ko_steps mi_in233 1 _ (1, [(0, .ref (mi_RO + 20)), (1, .int x2), (2, .int x3), (3, .int x4)], [.int x2], (0, 0), ks i a q r) (by rfl) ?_
  refine ko_callPI mi_k233.1 (pc := 1) (ls := [(0, .ref (mi_RO + 20)), (1, .int x2), (2, .int x3), (3, .int x4)]) (st := [.int x2]) (h := ks i a q r) (i := (.invokestatic 88, 3, 232, 0, 9, 0, 195)) (mi_k233.2 _ _ (by rfl)) (ft_invS mi_pq232 (by rfl)) (cy := mi_c232) mi_pq232 rfl (kc232 hG.I hG.R x2) (by decide) ?_
  intro vg1 hg1
  rcases hg1 with ⟨eg1, hg1⟩ | ⟨eg1, hg1⟩
  ·
    subst eg1
    first | refine ft_go mi_k233 3 11 [(0, .ref (mi_RO + 20)), (1, .int x2), (2, .int x3), (3, .int x4)] [.int 0, .int x3] i a q r (by rfl) ?_ | refine ko_steps mi_in233 3 _ (11, [(0, .ref (mi_RO + 20)), (1, .int x2), (2, .int x3), (3, .int x4)], [.int 0, .int x3], (0, 0), ks i a q r) (by rfl) ?_
    have m3 : ((x3.toInt ≤ (bif decide (x3 < 0) then 0 else x3).toInt) ∧ ((0 : Int32).toInt ≤ (bif decide (x3 < 0) then 0 else x3).toInt)) ∧ ((bif decide (x3 < 0) then 0 else x3).toInt = x3.toInt ∨ (bif decide (x3 < 0) then 0 else x3).toInt = (0 : Int32).toInt) := kd_max
    first | refine ft_go mi_k233 1 14 [(0, .ref (mi_RO + 20)), (1, .int x2), (2, .int x3), (3, .int x4)] [.int (bif decide (x3 < 0) then 0 else x3)] i a q r (by rfl) ?_ | refine ko_steps mi_in233 1 _ (14, [(0, .ref (mi_RO + 20)), (1, .int x2), (2, .int x3), (3, .int x4)], [.int (bif decide (x3 < 0) then 0 else x3)], (0, 0), ks i a q r) (by rfl) ?_
    generalize (bif decide (x3 < 0) then 0 else x3) = m2 at m3 ⊢
    first | refine ft_go mi_k233 4 18 [(2, .int m2), (0, .ref (mi_RO + 20)), (1, .int x2), (3, .int x4)] [.int 6, .int x4] i a q r (by rfl) ?_ | refine ko_steps mi_in233 4 _ (18, [(2, .int m2), (0, .ref (mi_RO + 20)), (1, .int x2), (3, .int x4)], [.int 6, .int x4], (0, 0), ks i a q r) (by rfl) ?_
    have m5 : (((bif decide (6 < x4) then 6 else x4).toInt ≤ x4.toInt) ∧ ((bif decide (6 < x4) then 6 else x4).toInt ≤ (6 : Int32).toInt)) ∧ ((bif decide (6 < x4) then 6 else x4).toInt = x4.toInt ∨ (bif decide (6 < x4) then 6 else x4).toInt = (6 : Int32).toInt) := kd_min
    first | refine ft_go mi_k233 1 21 [(2, .int m2), (0, .ref (mi_RO + 20)), (1, .int x2), (3, .int x4)] [.int (bif decide (6 < x4) then 6 else x4)] i a q r (by rfl) ?_ | refine ko_steps mi_in233 1 _ (21, [(2, .int m2), (0, .ref (mi_RO + 20)), (1, .int x2), (3, .int x4)], [.int (bif decide (6 < x4) then 6 else x4)], (0, 0), ks i a q r) (by rfl) ?_
    generalize (bif decide (6 < x4) then 6 else x4) = m4 at m5 ⊢
    first | refine ft_go mi_k233 3 24 [(3, .int m4), (2, .int m2), (0, .ref (mi_RO + 20)), (1, .int x2)] [.int m4, .int m2] i a q r (by rfl) ?_ | refine ko_steps mi_in233 3 _ (24, [(3, .int m4), (2, .int m2), (0, .ref (mi_RO + 20)), (1, .int x2)], [.int m4, .int m2], (0, 0), ks i a q r) (by rfl) ?_
    refine ft_if mi_k233 (decide (m2 < m4)) 29 27 [(3, .int m4), (2, .int m2), (0, .ref (mi_RO + 20)), (1, .int x2)] [] (by rfl) (fun c => ?_) (fun c => ?_)
    ·
      have c6 : m2.toInt < m4.toInt := kd_lt c; clear c
      first | refine ft_go mi_k233 4 33 [(3, .int m4), (2, .int m2), (0, .ref (mi_RO + 20)), (1, .int x2)] [.int m4, .int m2, .int x2, .ref (mi_RO + 20)] i a q r (by rfl) ?_ | refine ko_steps mi_in233 4 _ (33, [(3, .int m4), (2, .int m2), (0, .ref (mi_RO + 20)), (1, .int x2)], [.int m4, .int m2, .int x2, .ref (mi_RO + 20)], (0, 0), ks i a q r) (by rfl) ?_
      refine ko_callPI mi_k233.1 (pc := 33) (ls := [(3, .int m4), (2, .int m2), (0, .ref (mi_RO + 20)), (1, .int x2)]) (st := [.int m4, .int m2, .int x2, .ref (mi_RO + 20)]) (h := ks i a q r) (i := (.invokestatic 95, 3, 234, 0, 9, 0, 198)) (mi_k233.2 _ _ (by rfl)) (ft_invS mi_pq234 (by rfl)) (cy := mi_c234) mi_pq234 rfl (kc234_S20 hG.I hG.R x2 m2 m4 (oz389 m3.1.2 kn0) (oz920 m5.1.2 kn6)) (by decide) ?_
      intro vg7 hg7
      exact ft_ret mi_k233 (by rfl) (hP vg7 trivial)
    ·
      have c8 : m4.toInt ≤ m2.toInt := kd_ltF c; clear c
      first | refine ft_go mi_k233 1 28 [(3, .int m4), (2, .int m2), (0, .ref (mi_RO + 20)), (1, .int x2)] [.int (-1)] i a q r (by rfl) ?_ | refine ko_steps mi_in233 1 _ (28, [(3, .int m4), (2, .int m2), (0, .ref (mi_RO + 20)), (1, .int x2)], [.int (-1)], (0, 0), ks i a q r) (by rfl) ?_
      exact ft_ret mi_k233 (by rfl) (hP (-1) trivial)
  ·
    subst eg1
    first | refine ft_go mi_k233 2 8 [(0, .ref (mi_RO + 20)), (1, .int x2), (2, .int x3), (3, .int x4)] [.int (-1)] i a q r (by rfl) ?_ | refine ko_steps mi_in233 2 _ (8, [(0, .ref (mi_RO + 20)), (1, .int x2), (2, .int x3), (3, .int x4)], [.int (-1)], (0, 0), ks i a q r) (by rfl) ?_
    exact ft_ret mi_k233 (by rfl) (hP (-1) trivial)
set_option maxRecDepth 100000 in
theorem kc229_S10 {i : Nat → Int32} {a : Nat → List Int32} {q : Nat → List Int64} {r : Nat → Nat} (hI : kI i a q) (hr : kr r) (x1 : Int32) (x2 : Int32) : km 5 229 [.ref (mi_RO + 10), .int x1, .int x2] (ks i a q r) (kPI (ks i a q r) (fun v => True)) := by
  have hG := kG_self kW0 hI hr
  refine km_ofPI (q := (mi_h229, mi_c229)) rfl (by decide) (Nat.le_of_ble_eq_true rfl) ?_
  intro P hP
  refine ft_go mi_k229 1 1 [(0, .ref (mi_RO + 10)), (1, .int x1), (2, .int x2)] [.ref (mi_RO + 10)] i a q r (by rfl) ?_
  refine ko_callPI mi_k229.1 (pc := 1) (ls := [(0, .ref (mi_RO + 10)), (1, .int x1), (2, .int x2)]) (st := [.ref (mi_RO + 10)]) (h := ks i a q r) (i := (.invokevirtual 492, 3, 231, 0, 9, 0, 192)) (mi_k229.2 _ _ (by rfl)) (ft_invS mi_pq231 (by rfl)) (cy := mi_c231) mi_pq231 rfl (kc231_S10 hG.I hG.R ) (by decide) ?_
  intro vg1 hg1
  rcases hg1 with ⟨eg1, hg1⟩ | ⟨eg1, hg1⟩
  ·
    subst eg1
    refine ft_go mi_k229 6 14 [(0, .ref (mi_RO + 10)), (1, .int x1), (2, .int x2)] [.ref (mi_RO + 10), .int x2, .int x1, .ref (mi_RO + 20)] i a q r (by rfl) ?_
    refine ko_callPI mi_k229.1 (pc := 14) (ls := [(0, .ref (mi_RO + 10)), (1, .int x1), (2, .int x2)]) (st := [.ref (mi_RO + 10), .int x2, .int x1, .ref (mi_RO + 20)]) (h := ks i a q r) (i := (.invokevirtual 505, 3, 227, 0, 9, 0, 193)) (mi_k229.2 _ _ (by rfl)) (ft_invS mi_pq227 (by rfl)) (cy := mi_c227) mi_pq227 rfl (kc227_S10 hG.I hG.R ) (by decide) ?_
    intro vg2 hg2
    refine ko_callPI mi_k229.1 (pc := 17) (ls := [(0, .ref (mi_RO + 10)), (1, .int x1), (2, .int x2)]) (st := [.int vg2, .int x2, .int x1, .ref (mi_RO + 20)]) (h := ks i a q r) (i := (.invokestatic 637, 3, 233, 0, 9, 0, 194)) (mi_k229.2 _ _ (by rfl)) (ft_invS mi_pq233 (by rfl)) (cy := mi_c233) mi_pq233 rfl (kc233_S20 hG.I hG.R x1 x2 vg2) (by decide) ?_
    intro vg3 hg3
    refine ft_go mi_k229 1 36 [(0, .ref (mi_RO + 10)), (1, .int x1), (2, .int x2)] [.int vg3] i a q r (by rfl) ?_
    exact ft_ret mi_k229 (by rfl) (hP vg3 trivial)
  ·
    subst eg1
    have z4 : (2 : Int) ≤ 1 := hg1
    exact (oz755 z4).elim
set_option maxRecDepth 100000 in
theorem kc228_S10 {i : Nat → Int32} {a : Nat → List Int32} {q : Nat → List Int64} {r : Nat → Nat} (hI : kI i a q) (hr : kr r) (x1 : Int32) : km 7 228 [.ref (mi_RO + 10), .int x1] (ks i a q r) (kPI (ks i a q r) (fun v => True)) := by
  have hG := kG_self kW0 hI hr
  refine km_ofPI (q := (mi_h228, mi_c228)) rfl (by decide) (Nat.le_of_ble_eq_true rfl) ?_
  intro P hP
  refine ft_go mi_k228 3 3 [(0, .ref (mi_RO + 10)), (1, .int x1)] [.int 0, .int x1, .ref (mi_RO + 10)] i a q r (by rfl) ?_
  refine ko_callPI mi_k228.1 (pc := 3) (ls := [(0, .ref (mi_RO + 10)), (1, .int x1)]) (st := [.int 0, .int x1, .ref (mi_RO + 10)]) (h := ks i a q r) (i := (.invokevirtual 633, 3, 229, 0, 9, 0, 191)) (mi_k228.2 _ _ (by rfl)) (ft_invS mi_pq229 (by rfl)) (cy := mi_c229) mi_pq229 rfl (kc229_S10 hG.I hG.R x1 0) (by decide) ?_
  intro vg1 hg1
  exact ft_ret mi_k228 (by rfl) (hP vg1 trivial)
def w47_98_S10 : kW := ([6274], [], [], [])
set_option maxRecDepth 100000 in
theorem kc47_98_S10 {i : Nat → Int32} {a : Nat → List Int32} {q : Nat → List Int64} {r : Nat → Nat} (hI : kI i a q) (hr : kr r)  : km 9 47 [.ref 98, .ref (mi_RO + 10)] (ks i a q r) (kVI w47_98_S10 i a q r (fun v i1 a1 q1 r1 => True)) := by
  have hG := kG_self w47_98_S10 hI hr
  refine km_ofI (q := (mi_h47, mi_c47)) rfl (by decide) (Nat.le_of_ble_eq_true rfl) ?_
  intro P hP
  refine ft_go mi_k47 1 1 [(0, .ref 98), (1, .ref (mi_RO + 10))] [.ref 98] i a q r (by rfl) ?_
  refine ko_callPI mi_k47.1 (pc := 1) (ls := [(0, .ref 98), (1, .ref (mi_RO + 10))]) (st := [.ref 98]) (h := ks i a q r) (i := (.invokevirtual 46, 3, 45, 0, 9, 0, 184)) (mi_k47.2 _ _ (by rfl)) (ft_invS mi_pq45 (by rfl)) (cy := mi_c45) mi_pq45 rfl (kc45_98 hG.I hG.R ) (by decide) ?_
  intro vg1 hg1
  have fi_6274 : ((0 : Int) ≤ (i 6274).toInt) ∧ ((i 6274).toInt ≤ 120) := hG.I.1 6274
  have fi_6273 : ((0 : Int) ≤ (i 6273).toInt) ∧ ((i 6273).toInt ≤ 120) := hG.I.1 6273
  have z2 : (vg1.toInt = (-1)) ∨ ((i 6274).toInt < (i 6273).toInt) := hg1
  refine ft_go mi_k47 3 7 [(2, .int vg1), (0, .ref 98), (1, .ref (mi_RO + 10))] [.int (-1), .int vg1] i a q r (by rfl) ?_
  refine ft_if mi_k47 (vg1 == (-1)) 19 10 [(2, .int vg1), (0, .ref 98), (1, .ref (mi_RO + 10))] [] (by rfl) (fun c => ?_) (fun c => ?_)
  ·
    have c3 : vg1.toInt = ((-1) : Int32).toInt := kd_eq c; clear c
    refine ft_go mi_k47 1 20 [(2, .int vg1), (0, .ref 98), (1, .ref (mi_RO + 10))] [.int (-1)] i a q r (by rfl) ?_
    exact ft_ret mi_k47 (by rfl) (hP (-1) _ _ _ _ hG trivial)
  ·
    have c4 : vg1.toInt ≠ ((-1) : Int32).toInt := kd_eqF c; clear c
    refine ft_go mi_k47 3 13 [(2, .int vg1), (0, .ref 98), (1, .ref (mi_RO + 10))] [.int ((vg1.toUInt32 % 65536).toInt32), .ref (mi_RO + 10)] i a q r (by rfl) ?_
    refine ko_callPI mi_k47.1 (pc := 13) (ls := [(2, .int vg1), (0, .ref 98), (1, .ref (mi_RO + 10))]) (st := [.int ((vg1.toUInt32 % 65536).toInt32), .ref (mi_RO + 10)]) (h := ks i a q r) (i := (.invokevirtual 50, 3, 228, 0, 9, 0, 190)) (mi_k47.2 _ _ (by rfl)) (ft_invS mi_pq228 (by rfl)) (cy := mi_c228) mi_pq228 rfl (kc228_S10 hG.I hG.R ((vg1.toUInt32 % 65536).toInt32)) (by decide) ?_
    intro vg5 hg5
    refine ft_if mi_k47 (decide (0 ≤ vg5)) 21 19 [(2, .int vg1), (0, .ref 98), (1, .ref (mi_RO + 10))] [] (by rfl) (fun c => ?_) (fun c => ?_)
    ·
      have c6 : (0 : Int32).toInt ≤ vg5.toInt := kd_le c; clear c
      have s7 : ((i 6274) + 1).toInt = (i 6274).toInt + (1 : Int32).toInt := kd_add (oz12 fi_6274.1 kn1) (oz192 fi_6274.2 kn1)
      have hJ8 := kG_i hG 6274 rfl (v := ((i 6274) + 1)) ⟨(oz14 fi_6274.1 s7 kn1), (oz921 c4 fi_6273.2 s7 z2 knm1 kn1)⟩
      refine ft_go mi_k47 7 32 [(2, .int vg1), (0, .ref 98), (1, .ref (mi_RO + 10))] [.int vg1] (ku i 6274 ((i 6274) + 1)) a q r (by rfl) ?_
      exact ft_ret mi_k47 (by rfl) (hP vg1 _ _ _ _ hJ8 trivial)
    ·
      have c9 : vg5.toInt < (0 : Int32).toInt := kd_leF c; clear c
      refine ft_go mi_k47 1 20 [(2, .int vg1), (0, .ref 98), (1, .ref (mi_RO + 10))] [.int (-1)] i a q r (by rfl) ?_
      exact ft_ret mi_k47 (by rfl) (hP (-1) _ _ _ _ hG trivial)
set_option maxRecDepth 100000 in
theorem kc231_S11 {i : Nat → Int32} {a : Nat → List Int32} {q : Nat → List Int64} {r : Nat → Nat} (hI : kI i a q) (hr : kr r)  : km 1 231 [.ref (mi_RO + 11)] (ks i a q r) (kPI (ks i a q r) (fun v => (v = 1 ∧ (True)) ∨ (v = 0 ∧ ((2 : Int) ≤ 1)))) := by
  have hG := kG_self kW0 hI hr
  refine km_ofPI (q := (mi_h231, mi_c231)) rfl (by decide) (Nat.le_of_ble_eq_true rfl) ?_
  intro P hP
  refine ft_go mi_k231 7 18 [(0, .ref (mi_RO + 11))] [.int 1] i a q r (by rfl) ?_
  exact ft_ret mi_k231 (by rfl) (hP 1 (Or.inl ⟨rfl, trivial⟩))
set_option maxRecDepth 100000 in
theorem kc230_S11 {i : Nat → Int32} {a : Nat → List Int32} {q : Nat → List Int64} {r : Nat → Nat} (hI : kI i a q) (hr : kr r)  : km 1 230 [.ref (mi_RO + 11)] (ks i a q r) (kPI (ks i a q r) (fun v => True)) := by
  have hG := kG_self kW0 hI hr
  refine km_ofPI (q := (mi_h230, mi_c230)) rfl (by decide) (Nat.le_of_ble_eq_true rfl) ?_
  intro P hP
  refine ft_go mi_k230 5 14 [(0, .ref (mi_RO + 11))] [.int 0] i a q r (by rfl) ?_
  exact ft_ret mi_k230 (by rfl) (hP 0 trivial)
set_option maxRecDepth 100000 in
theorem kc227_S11 {i : Nat → Int32} {a : Nat → List Int32} {q : Nat → List Int64} {r : Nat → Nat} (hI : kI i a q) (hr : kr r)  : km 3 227 [.ref (mi_RO + 11)] (ks i a q r) (kPI (ks i a q r) (fun v => True)) := by
  have hG := kG_self kW0 hI hr
  refine km_ofPI (q := (mi_h227, mi_c227)) rfl (by decide) (Nat.le_of_ble_eq_true rfl) ?_
  intro P hP
  first | refine ft_go mi_k227 4 6 [(0, .ref (mi_RO + 11))] [.ref (mi_RO + 11), .int 3] i a q r (by rfl) ?_ | refine ko_steps mi_in227 4 _ (6, [(0, .ref (mi_RO + 11))], [.ref (mi_RO + 11), .int 3], (0, 0), ks i a q r) (by rfl) ?_
  refine ko_callPI mi_k227.1 (pc := 6) (ls := [(0, .ref (mi_RO + 11))]) (st := [.ref (mi_RO + 11), .int 3]) (h := ks i a q r) (i := (.invokevirtual 335, 3, 230, 0, 9, 0, 32)) (mi_k227.2 _ _ (by rfl)) (ft_invS mi_pq230 (by rfl)) (cy := mi_c230) mi_pq230 rfl (kc230_S11 hG.I hG.R ) (by decide) ?_
  intro vg1 hg1
  first | refine ft_go mi_k227 1 10 [(0, .ref (mi_RO + 11))] [.int (3 >>> (vg1 &&& 31))] i a q r (by rfl) ?_ | refine ko_steps mi_in227 1 _ (10, [(0, .ref (mi_RO + 11))], [.int (3 >>> (vg1 &&& 31))], (0, 0), ks i a q r) (by rfl) ?_
  exact ft_ret mi_k227 (by rfl) (hP (3 >>> (vg1 &&& 31)) trivial)
set_option maxRecDepth 100000 in
theorem kc234_S21 {i : Nat → Int32} {a : Nat → List Int32} {q : Nat → List Int64} {r : Nat → Nat} (hI : kI i a q) (hr : kr r) (x2 : Int32) (x3 : Int32) (x4 : Int32) (hp0 : (0 : Int) ≤ x3.toInt) (hp1 : x4.toInt ≤ 3) : km 1 234 [.ref (mi_RO + 21), .int x2, .int x3, .int x4] (ks i a q r) (kPI (ks i a q r) (fun v => True)) := by
  have hG := kG_self kW0 hI hr
  refine km_ofPI (q := (mi_h234, mi_c234)) rfl (by decide) (Nat.le_of_ble_eq_true rfl) ?_
  intro P hP
  first | refine ft_go mi_k234 5 7 [(5, .int x3), (4, .int x2.toInt8.toInt32), (0, .ref (mi_RO + 21)), (1, .int x2), (2, .int x3), (3, .int x4)] [] i a q r (by rfl) ?_ | refine ko_steps mi_in234 5 _ (7, [(5, .int x3), (4, .int x2.toInt8.toInt32), (0, .ref (mi_RO + 21)), (1, .int x2), (2, .int x3), (3, .int x4)], [], (0, 0), ks i a q r) (by rfl) ?_
  have lp1 : ∀ (nz : Nat) (l5_1 : Int32), (0 : Int) ≤ l5_1.toInt → ((x4.toInt - l5_1.toInt)).toNat < nz → ko 1 (mi_h234, mi_c234) P (7, [(5, .int l5_1), (4, .int x2.toInt8.toInt32), (0, .ref (mi_RO + 21)), (1, .int x2), (2, .int x3), (3, .int x4)], [], (0, 0), ks i a q r) := by
    intro nz
    induction nz with
    | zero =>
      intro _ _ hm
      exact absurd hm (Nat.not_lt_zero _)
    | succ nz ih1 =>
      intro l5_1 p1_0 hm1
      first | refine ft_go mi_k234 2 10 [(5, .int l5_1), (4, .int x2.toInt8.toInt32), (0, .ref (mi_RO + 21)), (1, .int x2), (2, .int x3), (3, .int x4)] [.int x4, .int l5_1] i a q r (by rfl) ?_ | refine ko_steps mi_in234 2 _ (10, [(5, .int l5_1), (4, .int x2.toInt8.toInt32), (0, .ref (mi_RO + 21)), (1, .int x2), (2, .int x3), (3, .int x4)], [.int x4, .int l5_1], (0, 0), ks i a q r) (by rfl) ?_
      refine ft_if mi_k234 (decide (x4 ≤ l5_1)) 31 13 [(5, .int l5_1), (4, .int x2.toInt8.toInt32), (0, .ref (mi_RO + 21)), (1, .int x2), (2, .int x3), (3, .int x4)] [] (by rfl) (fun c => ?_) (fun c => ?_)
      ·
        have c2 : x4.toInt ≤ l5_1.toInt := kd_le c; clear c
        first | refine ft_go mi_k234 1 32 [(5, .int l5_1), (4, .int x2.toInt8.toInt32), (0, .ref (mi_RO + 21)), (1, .int x2), (2, .int x3), (3, .int x4)] [.int (-1)] i a q r (by rfl) ?_ | refine ko_steps mi_in234 1 _ (32, [(5, .int l5_1), (4, .int x2.toInt8.toInt32), (0, .ref (mi_RO + 21)), (1, .int x2), (2, .int x3), (3, .int x4)], [.int (-1)], (0, 0), ks i a q r) (by rfl) ?_
        exact ft_ret mi_k234 (by rfl) (hP (-1) trivial)
      ·
        have c3 : l5_1.toInt < x4.toInt := kd_leF c; clear c
        first | refine ft_go mi_k234 2 16 [(5, .int l5_1), (4, .int x2.toInt8.toInt32), (0, .ref (mi_RO + 21)), (1, .int x2), (2, .int x3), (3, .int x4)] [.int l5_1, .ref (mi_RO + 21)] i a q r (by rfl) ?_ | refine ko_steps mi_in234 2 _ (16, [(5, .int l5_1), (4, .int x2.toInt8.toInt32), (0, .ref (mi_RO + 21)), (1, .int x2), (2, .int x3), (3, .int x4)], [.int l5_1, .ref (mi_RO + 21)], (0, 0), ks i a q r) (by rfl) ?_
        refine ko_baro2 mi_k234.1 (l := [40, 33, 45]) (n := 3) (c := 3) (ax := (0, 0, 0, 0, 0)) (mi_k234.2 _ _ (by rfl)) (by rfl) (by rfl) rfl rfl (oz3 p1_0) (oz922 c3 hp1) ?_
        first | refine ft_go mi_k234 1 19 [(5, .int l5_1), (4, .int x2.toInt8.toInt32), (0, .ref (mi_RO + 21)), (1, .int x2), (2, .int x3), (3, .int x4)] [.int x2.toInt8.toInt32, .int (([40, 33, 45] : List Int32).getD l5_1.toNatClampNeg 0)] i a q r (by rfl) ?_ | refine ko_steps mi_in234 1 _ (19, [(5, .int l5_1), (4, .int x2.toInt8.toInt32), (0, .ref (mi_RO + 21)), (1, .int x2), (2, .int x3), (3, .int x4)], [.int x2.toInt8.toInt32, .int (([40, 33, 45] : List Int32).getD l5_1.toNatClampNeg 0)], (0, 0), ks i a q r) (by rfl) ?_
        refine ft_if mi_k234 ((([40, 33, 45] : List Int32).getD l5_1.toNatClampNeg 0) != x2.toInt8.toInt32) 25 22 [(5, .int l5_1), (4, .int x2.toInt8.toInt32), (0, .ref (mi_RO + 21)), (1, .int x2), (2, .int x3), (3, .int x4)] [] (by rfl) (fun c => ?_) (fun c => ?_)
        ·
          have c4 : (([40, 33, 45] : List Int32).getD l5_1.toNatClampNeg 0).toInt ≠ x2.toInt8.toInt32.toInt := kd_ne c; clear c
          have s5 : (l5_1 + 1).toInt = l5_1.toInt + (1 : Int32).toInt := kd_add (oz12 p1_0 kn1) (oz923 c3 hp1 kn1)
          first | refine ft_go mi_k234 2 7 [(5, .int (l5_1 + 1)), (4, .int x2.toInt8.toInt32), (0, .ref (mi_RO + 21)), (1, .int x2), (2, .int x3), (3, .int x4)] [] i a q r (by rfl) ?_ | refine ko_steps mi_in234 2 _ (7, [(5, .int (l5_1 + 1)), (4, .int x2.toInt8.toInt32), (0, .ref (mi_RO + 21)), (1, .int x2), (2, .int x3), (3, .int x4)], [], (0, 0), ks i a q r) (by rfl) ?_
          exact ih1 _ (oz14 p1_0 s5 kn1) (kj_meas (oz44 s5 kn1) (oz45 c3) hm1)
        ·
          have c6 : (([40, 33, 45] : List Int32).getD l5_1.toNatClampNeg 0).toInt = x2.toInt8.toInt32.toInt := kd_neF c; clear c
          first | refine ft_go mi_k234 1 24 [(5, .int l5_1), (4, .int x2.toInt8.toInt32), (0, .ref (mi_RO + 21)), (1, .int x2), (2, .int x3), (3, .int x4)] [.int l5_1] i a q r (by rfl) ?_ | refine ko_steps mi_in234 1 _ (24, [(5, .int l5_1), (4, .int x2.toInt8.toInt32), (0, .ref (mi_RO + 21)), (1, .int x2), (2, .int x3), (3, .int x4)], [.int l5_1], (0, 0), ks i a q r) (by rfl) ?_
          exact ft_ret mi_k234 (by rfl) (hP l5_1 trivial)
  exact lp1 _ _ (oz3 hp0) (Nat.lt_succ_self _)
set_option maxRecDepth 100000 in
theorem kc233_S21 {i : Nat → Int32} {a : Nat → List Int32} {q : Nat → List Int64} {r : Nat → Nat} (hI : kI i a q) (hr : kr r) (x2 : Int32) (x3 : Int32) (x4 : Int32) : km 3 233 [.ref (mi_RO + 21), .int x2, .int x3, .int x4] (ks i a q r) (kPI (ks i a q r) (fun v => True)) := by
  have hG := kG_self kW0 hI hr
  refine km_ofPI (q := (mi_h233, mi_c233)) rfl (by decide) (Nat.le_of_ble_eq_true rfl) ?_
  intro P hP
  first | refine ft_go mi_k233 1 1 [(0, .ref (mi_RO + 21)), (1, .int x2), (2, .int x3), (3, .int x4)] [.int x2] i a q r (by rfl) ?_ | refine ko_steps mi_in233 1 _ (1, [(0, .ref (mi_RO + 21)), (1, .int x2), (2, .int x3), (3, .int x4)], [.int x2], (0, 0), ks i a q r) (by rfl) ?_
  refine ko_callPI mi_k233.1 (pc := 1) (ls := [(0, .ref (mi_RO + 21)), (1, .int x2), (2, .int x3), (3, .int x4)]) (st := [.int x2]) (h := ks i a q r) (i := (.invokestatic 88, 3, 232, 0, 9, 0, 195)) (mi_k233.2 _ _ (by rfl)) (ft_invS mi_pq232 (by rfl)) (cy := mi_c232) mi_pq232 rfl (kc232 hG.I hG.R x2) (by decide) ?_
  intro vg1 hg1
  rcases hg1 with ⟨eg1, hg1⟩ | ⟨eg1, hg1⟩
  ·
    subst eg1
    first | refine ft_go mi_k233 3 11 [(0, .ref (mi_RO + 21)), (1, .int x2), (2, .int x3), (3, .int x4)] [.int 0, .int x3] i a q r (by rfl) ?_ | refine ko_steps mi_in233 3 _ (11, [(0, .ref (mi_RO + 21)), (1, .int x2), (2, .int x3), (3, .int x4)], [.int 0, .int x3], (0, 0), ks i a q r) (by rfl) ?_
    have m3 : ((x3.toInt ≤ (bif decide (x3 < 0) then 0 else x3).toInt) ∧ ((0 : Int32).toInt ≤ (bif decide (x3 < 0) then 0 else x3).toInt)) ∧ ((bif decide (x3 < 0) then 0 else x3).toInt = x3.toInt ∨ (bif decide (x3 < 0) then 0 else x3).toInt = (0 : Int32).toInt) := kd_max
    first | refine ft_go mi_k233 1 14 [(0, .ref (mi_RO + 21)), (1, .int x2), (2, .int x3), (3, .int x4)] [.int (bif decide (x3 < 0) then 0 else x3)] i a q r (by rfl) ?_ | refine ko_steps mi_in233 1 _ (14, [(0, .ref (mi_RO + 21)), (1, .int x2), (2, .int x3), (3, .int x4)], [.int (bif decide (x3 < 0) then 0 else x3)], (0, 0), ks i a q r) (by rfl) ?_
    generalize (bif decide (x3 < 0) then 0 else x3) = m2 at m3 ⊢
    first | refine ft_go mi_k233 4 18 [(2, .int m2), (0, .ref (mi_RO + 21)), (1, .int x2), (3, .int x4)] [.int 3, .int x4] i a q r (by rfl) ?_ | refine ko_steps mi_in233 4 _ (18, [(2, .int m2), (0, .ref (mi_RO + 21)), (1, .int x2), (3, .int x4)], [.int 3, .int x4], (0, 0), ks i a q r) (by rfl) ?_
    have m5 : (((bif decide (3 < x4) then 3 else x4).toInt ≤ x4.toInt) ∧ ((bif decide (3 < x4) then 3 else x4).toInt ≤ (3 : Int32).toInt)) ∧ ((bif decide (3 < x4) then 3 else x4).toInt = x4.toInt ∨ (bif decide (3 < x4) then 3 else x4).toInt = (3 : Int32).toInt) := kd_min
    first | refine ft_go mi_k233 1 21 [(2, .int m2), (0, .ref (mi_RO + 21)), (1, .int x2), (3, .int x4)] [.int (bif decide (3 < x4) then 3 else x4)] i a q r (by rfl) ?_ | refine ko_steps mi_in233 1 _ (21, [(2, .int m2), (0, .ref (mi_RO + 21)), (1, .int x2), (3, .int x4)], [.int (bif decide (3 < x4) then 3 else x4)], (0, 0), ks i a q r) (by rfl) ?_
    generalize (bif decide (3 < x4) then 3 else x4) = m4 at m5 ⊢
    first | refine ft_go mi_k233 3 24 [(3, .int m4), (2, .int m2), (0, .ref (mi_RO + 21)), (1, .int x2)] [.int m4, .int m2] i a q r (by rfl) ?_ | refine ko_steps mi_in233 3 _ (24, [(3, .int m4), (2, .int m2), (0, .ref (mi_RO + 21)), (1, .int x2)], [.int m4, .int m2], (0, 0), ks i a q r) (by rfl) ?_
    refine ft_if mi_k233 (decide (m2 < m4)) 29 27 [(3, .int m4), (2, .int m2), (0, .ref (mi_RO + 21)), (1, .int x2)] [] (by rfl) (fun c => ?_) (fun c => ?_)
    ·
      have c6 : m2.toInt < m4.toInt := kd_lt c; clear c
      first | refine ft_go mi_k233 4 33 [(3, .int m4), (2, .int m2), (0, .ref (mi_RO + 21)), (1, .int x2)] [.int m4, .int m2, .int x2, .ref (mi_RO + 21)] i a q r (by rfl) ?_ | refine ko_steps mi_in233 4 _ (33, [(3, .int m4), (2, .int m2), (0, .ref (mi_RO + 21)), (1, .int x2)], [.int m4, .int m2, .int x2, .ref (mi_RO + 21)], (0, 0), ks i a q r) (by rfl) ?_
      refine ko_callPI mi_k233.1 (pc := 33) (ls := [(3, .int m4), (2, .int m2), (0, .ref (mi_RO + 21)), (1, .int x2)]) (st := [.int m4, .int m2, .int x2, .ref (mi_RO + 21)]) (h := ks i a q r) (i := (.invokestatic 95, 3, 234, 0, 9, 0, 198)) (mi_k233.2 _ _ (by rfl)) (ft_invS mi_pq234 (by rfl)) (cy := mi_c234) mi_pq234 rfl (kc234_S21 hG.I hG.R x2 m2 m4 (oz389 m3.1.2 kn0) (oz924 m5.1.2 kn3)) (by decide) ?_
      intro vg7 hg7
      exact ft_ret mi_k233 (by rfl) (hP vg7 trivial)
    ·
      have c8 : m4.toInt ≤ m2.toInt := kd_ltF c; clear c
      first | refine ft_go mi_k233 1 28 [(3, .int m4), (2, .int m2), (0, .ref (mi_RO + 21)), (1, .int x2)] [.int (-1)] i a q r (by rfl) ?_ | refine ko_steps mi_in233 1 _ (28, [(3, .int m4), (2, .int m2), (0, .ref (mi_RO + 21)), (1, .int x2)], [.int (-1)], (0, 0), ks i a q r) (by rfl) ?_
      exact ft_ret mi_k233 (by rfl) (hP (-1) trivial)
  ·
    subst eg1
    first | refine ft_go mi_k233 2 8 [(0, .ref (mi_RO + 21)), (1, .int x2), (2, .int x3), (3, .int x4)] [.int (-1)] i a q r (by rfl) ?_ | refine ko_steps mi_in233 2 _ (8, [(0, .ref (mi_RO + 21)), (1, .int x2), (2, .int x3), (3, .int x4)], [.int (-1)], (0, 0), ks i a q r) (by rfl) ?_
    exact ft_ret mi_k233 (by rfl) (hP (-1) trivial)
set_option maxRecDepth 100000 in
theorem kc229_S11 {i : Nat → Int32} {a : Nat → List Int32} {q : Nat → List Int64} {r : Nat → Nat} (hI : kI i a q) (hr : kr r) (x1 : Int32) (x2 : Int32) : km 5 229 [.ref (mi_RO + 11), .int x1, .int x2] (ks i a q r) (kPI (ks i a q r) (fun v => True)) := by
  have hG := kG_self kW0 hI hr
  refine km_ofPI (q := (mi_h229, mi_c229)) rfl (by decide) (Nat.le_of_ble_eq_true rfl) ?_
  intro P hP
  refine ft_go mi_k229 1 1 [(0, .ref (mi_RO + 11)), (1, .int x1), (2, .int x2)] [.ref (mi_RO + 11)] i a q r (by rfl) ?_
  refine ko_callPI mi_k229.1 (pc := 1) (ls := [(0, .ref (mi_RO + 11)), (1, .int x1), (2, .int x2)]) (st := [.ref (mi_RO + 11)]) (h := ks i a q r) (i := (.invokevirtual 492, 3, 231, 0, 9, 0, 192)) (mi_k229.2 _ _ (by rfl)) (ft_invS mi_pq231 (by rfl)) (cy := mi_c231) mi_pq231 rfl (kc231_S11 hG.I hG.R ) (by decide) ?_
  intro vg1 hg1
  rcases hg1 with ⟨eg1, hg1⟩ | ⟨eg1, hg1⟩
  ·
    subst eg1
    refine ft_go mi_k229 6 14 [(0, .ref (mi_RO + 11)), (1, .int x1), (2, .int x2)] [.ref (mi_RO + 11), .int x2, .int x1, .ref (mi_RO + 21)] i a q r (by rfl) ?_
    refine ko_callPI mi_k229.1 (pc := 14) (ls := [(0, .ref (mi_RO + 11)), (1, .int x1), (2, .int x2)]) (st := [.ref (mi_RO + 11), .int x2, .int x1, .ref (mi_RO + 21)]) (h := ks i a q r) (i := (.invokevirtual 505, 3, 227, 0, 9, 0, 193)) (mi_k229.2 _ _ (by rfl)) (ft_invS mi_pq227 (by rfl)) (cy := mi_c227) mi_pq227 rfl (kc227_S11 hG.I hG.R ) (by decide) ?_
    intro vg2 hg2
    refine ko_callPI mi_k229.1 (pc := 17) (ls := [(0, .ref (mi_RO + 11)), (1, .int x1), (2, .int x2)]) (st := [.int vg2, .int x2, .int x1, .ref (mi_RO + 21)]) (h := ks i a q r) (i := (.invokestatic 637, 3, 233, 0, 9, 0, 194)) (mi_k229.2 _ _ (by rfl)) (ft_invS mi_pq233 (by rfl)) (cy := mi_c233) mi_pq233 rfl (kc233_S21 hG.I hG.R x1 x2 vg2) (by decide) ?_
    intro vg3 hg3
    refine ft_go mi_k229 1 36 [(0, .ref (mi_RO + 11)), (1, .int x1), (2, .int x2)] [.int vg3] i a q r (by rfl) ?_
    exact ft_ret mi_k229 (by rfl) (hP vg3 trivial)
  ·
    subst eg1
    have z4 : (2 : Int) ≤ 1 := hg1
    exact (oz755 z4).elim
set_option maxRecDepth 100000 in
theorem kc228_S11 {i : Nat → Int32} {a : Nat → List Int32} {q : Nat → List Int64} {r : Nat → Nat} (hI : kI i a q) (hr : kr r) (x1 : Int32) : km 7 228 [.ref (mi_RO + 11), .int x1] (ks i a q r) (kPI (ks i a q r) (fun v => True)) := by
  have hG := kG_self kW0 hI hr
  refine km_ofPI (q := (mi_h228, mi_c228)) rfl (by decide) (Nat.le_of_ble_eq_true rfl) ?_
  intro P hP
  refine ft_go mi_k228 3 3 [(0, .ref (mi_RO + 11)), (1, .int x1)] [.int 0, .int x1, .ref (mi_RO + 11)] i a q r (by rfl) ?_
  refine ko_callPI mi_k228.1 (pc := 3) (ls := [(0, .ref (mi_RO + 11)), (1, .int x1)]) (st := [.int 0, .int x1, .ref (mi_RO + 11)]) (h := ks i a q r) (i := (.invokevirtual 633, 3, 229, 0, 9, 0, 191)) (mi_k228.2 _ _ (by rfl)) (ft_invS mi_pq229 (by rfl)) (cy := mi_c229) mi_pq229 rfl (kc229_S11 hG.I hG.R x1 0) (by decide) ?_
  intro vg1 hg1
  exact ft_ret mi_k228 (by rfl) (hP vg1 trivial)
def w47_98_S11 : kW := ([6274], [], [], [])
set_option maxRecDepth 100000 in
theorem kc47_98_S11 {i : Nat → Int32} {a : Nat → List Int32} {q : Nat → List Int64} {r : Nat → Nat} (hI : kI i a q) (hr : kr r)  : km 9 47 [.ref 98, .ref (mi_RO + 11)] (ks i a q r) (kVI w47_98_S11 i a q r (fun v i1 a1 q1 r1 => True)) := by
  have hG := kG_self w47_98_S11 hI hr
  refine km_ofI (q := (mi_h47, mi_c47)) rfl (by decide) (Nat.le_of_ble_eq_true rfl) ?_
  intro P hP
  refine ft_go mi_k47 1 1 [(0, .ref 98), (1, .ref (mi_RO + 11))] [.ref 98] i a q r (by rfl) ?_
  refine ko_callPI mi_k47.1 (pc := 1) (ls := [(0, .ref 98), (1, .ref (mi_RO + 11))]) (st := [.ref 98]) (h := ks i a q r) (i := (.invokevirtual 46, 3, 45, 0, 9, 0, 184)) (mi_k47.2 _ _ (by rfl)) (ft_invS mi_pq45 (by rfl)) (cy := mi_c45) mi_pq45 rfl (kc45_98 hG.I hG.R ) (by decide) ?_
  intro vg1 hg1
  have fi_6274 : ((0 : Int) ≤ (i 6274).toInt) ∧ ((i 6274).toInt ≤ 120) := hG.I.1 6274
  have fi_6273 : ((0 : Int) ≤ (i 6273).toInt) ∧ ((i 6273).toInt ≤ 120) := hG.I.1 6273
  have z2 : (vg1.toInt = (-1)) ∨ ((i 6274).toInt < (i 6273).toInt) := hg1
  refine ft_go mi_k47 3 7 [(2, .int vg1), (0, .ref 98), (1, .ref (mi_RO + 11))] [.int (-1), .int vg1] i a q r (by rfl) ?_
  refine ft_if mi_k47 (vg1 == (-1)) 19 10 [(2, .int vg1), (0, .ref 98), (1, .ref (mi_RO + 11))] [] (by rfl) (fun c => ?_) (fun c => ?_)
  ·
    have c3 : vg1.toInt = ((-1) : Int32).toInt := kd_eq c; clear c
    refine ft_go mi_k47 1 20 [(2, .int vg1), (0, .ref 98), (1, .ref (mi_RO + 11))] [.int (-1)] i a q r (by rfl) ?_
    exact ft_ret mi_k47 (by rfl) (hP (-1) _ _ _ _ hG trivial)
  ·
    have c4 : vg1.toInt ≠ ((-1) : Int32).toInt := kd_eqF c; clear c
    refine ft_go mi_k47 3 13 [(2, .int vg1), (0, .ref 98), (1, .ref (mi_RO + 11))] [.int ((vg1.toUInt32 % 65536).toInt32), .ref (mi_RO + 11)] i a q r (by rfl) ?_
    refine ko_callPI mi_k47.1 (pc := 13) (ls := [(2, .int vg1), (0, .ref 98), (1, .ref (mi_RO + 11))]) (st := [.int ((vg1.toUInt32 % 65536).toInt32), .ref (mi_RO + 11)]) (h := ks i a q r) (i := (.invokevirtual 50, 3, 228, 0, 9, 0, 190)) (mi_k47.2 _ _ (by rfl)) (ft_invS mi_pq228 (by rfl)) (cy := mi_c228) mi_pq228 rfl (kc228_S11 hG.I hG.R ((vg1.toUInt32 % 65536).toInt32)) (by decide) ?_
    intro vg5 hg5
    refine ft_if mi_k47 (decide (0 ≤ vg5)) 21 19 [(2, .int vg1), (0, .ref 98), (1, .ref (mi_RO + 11))] [] (by rfl) (fun c => ?_) (fun c => ?_)
    ·
      have c6 : (0 : Int32).toInt ≤ vg5.toInt := kd_le c; clear c
      have s7 : ((i 6274) + 1).toInt = (i 6274).toInt + (1 : Int32).toInt := kd_add (oz12 fi_6274.1 kn1) (oz192 fi_6274.2 kn1)
      have hJ8 := kG_i hG 6274 rfl (v := ((i 6274) + 1)) ⟨(oz14 fi_6274.1 s7 kn1), (oz921 c4 fi_6273.2 s7 z2 knm1 kn1)⟩
      refine ft_go mi_k47 7 32 [(2, .int vg1), (0, .ref 98), (1, .ref (mi_RO + 11))] [.int vg1] (ku i 6274 ((i 6274) + 1)) a q r (by rfl) ?_
      exact ft_ret mi_k47 (by rfl) (hP vg1 _ _ _ _ hJ8 trivial)
    ·
      have c9 : vg5.toInt < (0 : Int32).toInt := kd_leF c; clear c
      refine ft_go mi_k47 1 20 [(2, .int vg1), (0, .ref 98), (1, .ref (mi_RO + 11))] [.int (-1)] i a q r (by rfl) ?_
      exact ft_ret mi_k47 (by rfl) (hP (-1) _ _ _ _ hG trivial)
def w46_98 : kW := ([6274], [], [], [])
set_option maxRecDepth 100000 in
theorem kc46_98 {i : Nat → Int32} {a : Nat → List Int32} {q : Nat → List Int64} {r : Nat → Nat} (hI : kI i a q) (hr : kr r) (x1 : Int32) (hp0 : (0 : Int) ≤ x1.toInt) : km 3 46 [.ref 98, .int x1] (ks i a q r) (kVI w46_98 i a q r (fun v i1 a1 q1 r1 => (v = 1 ∧ (True)) ∨ (v = 0 ∧ (True)))) := by
  have hG := kG_self w46_98 hI hr
  refine km_ofI (q := (mi_h46, mi_c46)) rfl (by decide) (Nat.le_of_ble_eq_true rfl) ?_
  intro P hP
  refine ft_go mi_k46 1 1 [(0, .ref 98), (1, .int x1)] [.ref 98] i a q r (by rfl) ?_
  refine ko_callPI mi_k46.1 (pc := 1) (ls := [(0, .ref 98), (1, .int x1)]) (st := [.ref 98]) (h := ks i a q r) (i := (.invokevirtual 46, 3, 45, 0, 9, 0, 184)) (mi_k46.2 _ _ (by rfl)) (ft_invS mi_pq45 (by rfl)) (cy := mi_c45) mi_pq45 rfl (kc45_98 hG.I hG.R ) (by decide) ?_
  intro vg1 hg1
  have fi_6274 : ((0 : Int) ≤ (i 6274).toInt) ∧ ((i 6274).toInt ≤ 120) := hG.I.1 6274
  have fi_6273 : ((0 : Int) ≤ (i 6273).toInt) ∧ ((i 6273).toInt ≤ 120) := hG.I.1 6273
  have z2 : (vg1.toInt = (-1)) ∨ ((i 6274).toInt < (i 6273).toInt) := hg1
  refine ft_go mi_k46 1 5 [(0, .ref 98), (1, .int x1)] [.int x1, .int vg1] i a q r (by rfl) ?_
  refine ft_if mi_k46 (vg1 == x1) 10 8 [(0, .ref 98), (1, .int x1)] [] (by rfl) (fun c => ?_) (fun c => ?_)
  ·
    have c3 : vg1.toInt = x1.toInt := kd_eq c; clear c
    have s4 : ((i 6274) + 1).toInt = (i 6274).toInt + (1 : Int32).toInt := kd_add (oz12 fi_6274.1 kn1) (oz192 fi_6274.2 kn1)
    have hJ5 := kG_i hG 6274 rfl (v := ((i 6274) + 1)) ⟨(oz14 fi_6274.1 s4 kn1), (oz927 c3 fi_6273.2 hp0 s4 z2 kn1)⟩
    refine ft_go mi_k46 7 21 [(0, .ref 98), (1, .int x1)] [.int 1] (ku i 6274 ((i 6274) + 1)) a q r (by rfl) ?_
    exact ft_ret mi_k46 (by rfl) (hP 1 _ _ _ _ hJ5 (Or.inl ⟨rfl, trivial⟩))
  ·
    have c6 : vg1.toInt ≠ x1.toInt := kd_eqF c; clear c
    refine ft_go mi_k46 1 9 [(0, .ref 98), (1, .int x1)] [.int 0] i a q r (by rfl) ?_
    exact ft_ret mi_k46 (by rfl) (hP 0 _ _ _ _ hG (Or.inr ⟨rfl, trivial⟩))
set_option maxRecDepth 100000 in
theorem kc231_S12 {i : Nat → Int32} {a : Nat → List Int32} {q : Nat → List Int64} {r : Nat → Nat} (hI : kI i a q) (hr : kr r)  : km 1 231 [.ref (mi_RO + 12)] (ks i a q r) (kPI (ks i a q r) (fun v => (v = 1 ∧ (True)) ∨ (v = 0 ∧ ((2 : Int) ≤ 1)))) := by
  have hG := kG_self kW0 hI hr
  refine km_ofPI (q := (mi_h231, mi_c231)) rfl (by decide) (Nat.le_of_ble_eq_true rfl) ?_
  intro P hP
  refine ft_go mi_k231 7 18 [(0, .ref (mi_RO + 12))] [.int 1] i a q r (by rfl) ?_
  exact ft_ret mi_k231 (by rfl) (hP 1 (Or.inl ⟨rfl, trivial⟩))
set_option maxRecDepth 100000 in
theorem kc230_S12 {i : Nat → Int32} {a : Nat → List Int32} {q : Nat → List Int64} {r : Nat → Nat} (hI : kI i a q) (hr : kr r)  : km 1 230 [.ref (mi_RO + 12)] (ks i a q r) (kPI (ks i a q r) (fun v => True)) := by
  have hG := kG_self kW0 hI hr
  refine km_ofPI (q := (mi_h230, mi_c230)) rfl (by decide) (Nat.le_of_ble_eq_true rfl) ?_
  intro P hP
  refine ft_go mi_k230 5 14 [(0, .ref (mi_RO + 12))] [.int 0] i a q r (by rfl) ?_
  exact ft_ret mi_k230 (by rfl) (hP 0 trivial)
set_option maxRecDepth 100000 in
theorem kc227_S12 {i : Nat → Int32} {a : Nat → List Int32} {q : Nat → List Int64} {r : Nat → Nat} (hI : kI i a q) (hr : kr r)  : km 3 227 [.ref (mi_RO + 12)] (ks i a q r) (kPI (ks i a q r) (fun v => True)) := by
  have hG := kG_self kW0 hI hr
  refine km_ofPI (q := (mi_h227, mi_c227)) rfl (by decide) (Nat.le_of_ble_eq_true rfl) ?_
  intro P hP
  first | refine ft_go mi_k227 4 6 [(0, .ref (mi_RO + 12))] [.ref (mi_RO + 12), .int 3] i a q r (by rfl) ?_ | refine ko_steps mi_in227 4 _ (6, [(0, .ref (mi_RO + 12))], [.ref (mi_RO + 12), .int 3], (0, 0), ks i a q r) (by rfl) ?_
  refine ko_callPI mi_k227.1 (pc := 6) (ls := [(0, .ref (mi_RO + 12))]) (st := [.ref (mi_RO + 12), .int 3]) (h := ks i a q r) (i := (.invokevirtual 335, 3, 230, 0, 9, 0, 32)) (mi_k227.2 _ _ (by rfl)) (ft_invS mi_pq230 (by rfl)) (cy := mi_c230) mi_pq230 rfl (kc230_S12 hG.I hG.R ) (by decide) ?_
  intro vg1 hg1
  first | refine ft_go mi_k227 1 10 [(0, .ref (mi_RO + 12))] [.int (3 >>> (vg1 &&& 31))] i a q r (by rfl) ?_ | refine ko_steps mi_in227 1 _ (10, [(0, .ref (mi_RO + 12))], [.int (3 >>> (vg1 &&& 31))], (0, 0), ks i a q r) (by rfl) ?_
  exact ft_ret mi_k227 (by rfl) (hP (3 >>> (vg1 &&& 31)) trivial)
set_option maxRecDepth 100000 in
theorem kc234_S22 {i : Nat → Int32} {a : Nat → List Int32} {q : Nat → List Int64} {r : Nat → Nat} (hI : kI i a q) (hr : kr r) (x2 : Int32) (x3 : Int32) (x4 : Int32) (hp0 : (0 : Int) ≤ x3.toInt) (hp1 : x4.toInt ≤ 3) : km 1 234 [.ref (mi_RO + 22), .int x2, .int x3, .int x4] (ks i a q r) (kPI (ks i a q r) (fun v => True)) := by
  have hG := kG_self kW0 hI hr
  refine km_ofPI (q := (mi_h234, mi_c234)) rfl (by decide) (Nat.le_of_ble_eq_true rfl) ?_
  intro P hP
  first | refine ft_go mi_k234 5 7 [(5, .int x3), (4, .int x2.toInt8.toInt32), (0, .ref (mi_RO + 22)), (1, .int x2), (2, .int x3), (3, .int x4)] [] i a q r (by rfl) ?_ | refine ko_steps mi_in234 5 _ (7, [(5, .int x3), (4, .int x2.toInt8.toInt32), (0, .ref (mi_RO + 22)), (1, .int x2), (2, .int x3), (3, .int x4)], [], (0, 0), ks i a q r) (by rfl) ?_
  have lp1 : ∀ (nz : Nat) (l5_1 : Int32), (0 : Int) ≤ l5_1.toInt → ((x4.toInt - l5_1.toInt)).toNat < nz → ko 1 (mi_h234, mi_c234) P (7, [(5, .int l5_1), (4, .int x2.toInt8.toInt32), (0, .ref (mi_RO + 22)), (1, .int x2), (2, .int x3), (3, .int x4)], [], (0, 0), ks i a q r) := by
    intro nz
    induction nz with
    | zero =>
      intro _ _ hm
      exact absurd hm (Nat.not_lt_zero _)
    | succ nz ih1 =>
      intro l5_1 p1_0 hm1
      first | refine ft_go mi_k234 2 10 [(5, .int l5_1), (4, .int x2.toInt8.toInt32), (0, .ref (mi_RO + 22)), (1, .int x2), (2, .int x3), (3, .int x4)] [.int x4, .int l5_1] i a q r (by rfl) ?_ | refine ko_steps mi_in234 2 _ (10, [(5, .int l5_1), (4, .int x2.toInt8.toInt32), (0, .ref (mi_RO + 22)), (1, .int x2), (2, .int x3), (3, .int x4)], [.int x4, .int l5_1], (0, 0), ks i a q r) (by rfl) ?_
      refine ft_if mi_k234 (decide (x4 ≤ l5_1)) 31 13 [(5, .int l5_1), (4, .int x2.toInt8.toInt32), (0, .ref (mi_RO + 22)), (1, .int x2), (2, .int x3), (3, .int x4)] [] (by rfl) (fun c => ?_) (fun c => ?_)
      ·
        have c2 : x4.toInt ≤ l5_1.toInt := kd_le c; clear c
        first | refine ft_go mi_k234 1 32 [(5, .int l5_1), (4, .int x2.toInt8.toInt32), (0, .ref (mi_RO + 22)), (1, .int x2), (2, .int x3), (3, .int x4)] [.int (-1)] i a q r (by rfl) ?_ | refine ko_steps mi_in234 1 _ (32, [(5, .int l5_1), (4, .int x2.toInt8.toInt32), (0, .ref (mi_RO + 22)), (1, .int x2), (2, .int x3), (3, .int x4)], [.int (-1)], (0, 0), ks i a q r) (by rfl) ?_
        exact ft_ret mi_k234 (by rfl) (hP (-1) trivial)
      ·
        have c3 : l5_1.toInt < x4.toInt := kd_leF c; clear c
        first | refine ft_go mi_k234 2 16 [(5, .int l5_1), (4, .int x2.toInt8.toInt32), (0, .ref (mi_RO + 22)), (1, .int x2), (2, .int x3), (3, .int x4)] [.int l5_1, .ref (mi_RO + 22)] i a q r (by rfl) ?_ | refine ko_steps mi_in234 2 _ (16, [(5, .int l5_1), (4, .int x2.toInt8.toInt32), (0, .ref (mi_RO + 22)), (1, .int x2), (2, .int x3), (3, .int x4)], [.int l5_1, .ref (mi_RO + 22)], (0, 0), ks i a q r) (by rfl) ?_
        refine ko_baro2 mi_k234.1 (l := [42, 47, 37]) (n := 3) (c := 3) (ax := (0, 0, 0, 0, 0)) (mi_k234.2 _ _ (by rfl)) (by rfl) (by rfl) rfl rfl (oz3 p1_0) (oz922 c3 hp1) ?_
        first | refine ft_go mi_k234 1 19 [(5, .int l5_1), (4, .int x2.toInt8.toInt32), (0, .ref (mi_RO + 22)), (1, .int x2), (2, .int x3), (3, .int x4)] [.int x2.toInt8.toInt32, .int (([42, 47, 37] : List Int32).getD l5_1.toNatClampNeg 0)] i a q r (by rfl) ?_ | refine ko_steps mi_in234 1 _ (19, [(5, .int l5_1), (4, .int x2.toInt8.toInt32), (0, .ref (mi_RO + 22)), (1, .int x2), (2, .int x3), (3, .int x4)], [.int x2.toInt8.toInt32, .int (([42, 47, 37] : List Int32).getD l5_1.toNatClampNeg 0)], (0, 0), ks i a q r) (by rfl) ?_
        refine ft_if mi_k234 ((([42, 47, 37] : List Int32).getD l5_1.toNatClampNeg 0) != x2.toInt8.toInt32) 25 22 [(5, .int l5_1), (4, .int x2.toInt8.toInt32), (0, .ref (mi_RO + 22)), (1, .int x2), (2, .int x3), (3, .int x4)] [] (by rfl) (fun c => ?_) (fun c => ?_)
        ·
          have c4 : (([42, 47, 37] : List Int32).getD l5_1.toNatClampNeg 0).toInt ≠ x2.toInt8.toInt32.toInt := kd_ne c; clear c
          have s5 : (l5_1 + 1).toInt = l5_1.toInt + (1 : Int32).toInt := kd_add (oz12 p1_0 kn1) (oz923 c3 hp1 kn1)
          first | refine ft_go mi_k234 2 7 [(5, .int (l5_1 + 1)), (4, .int x2.toInt8.toInt32), (0, .ref (mi_RO + 22)), (1, .int x2), (2, .int x3), (3, .int x4)] [] i a q r (by rfl) ?_ | refine ko_steps mi_in234 2 _ (7, [(5, .int (l5_1 + 1)), (4, .int x2.toInt8.toInt32), (0, .ref (mi_RO + 22)), (1, .int x2), (2, .int x3), (3, .int x4)], [], (0, 0), ks i a q r) (by rfl) ?_
          exact ih1 _ (oz14 p1_0 s5 kn1) (kj_meas (oz44 s5 kn1) (oz45 c3) hm1)
        ·
          have c6 : (([42, 47, 37] : List Int32).getD l5_1.toNatClampNeg 0).toInt = x2.toInt8.toInt32.toInt := kd_neF c; clear c
          first | refine ft_go mi_k234 1 24 [(5, .int l5_1), (4, .int x2.toInt8.toInt32), (0, .ref (mi_RO + 22)), (1, .int x2), (2, .int x3), (3, .int x4)] [.int l5_1] i a q r (by rfl) ?_ | refine ko_steps mi_in234 1 _ (24, [(5, .int l5_1), (4, .int x2.toInt8.toInt32), (0, .ref (mi_RO + 22)), (1, .int x2), (2, .int x3), (3, .int x4)], [.int l5_1], (0, 0), ks i a q r) (by rfl) ?_
          exact ft_ret mi_k234 (by rfl) (hP l5_1 trivial)
  exact lp1 _ _ (oz3 hp0) (Nat.lt_succ_self _)
set_option maxRecDepth 100000 in
theorem kc233_S22 {i : Nat → Int32} {a : Nat → List Int32} {q : Nat → List Int64} {r : Nat → Nat} (hI : kI i a q) (hr : kr r) (x2 : Int32) (x3 : Int32) (x4 : Int32) : km 3 233 [.ref (mi_RO + 22), .int x2, .int x3, .int x4] (ks i a q r) (kPI (ks i a q r) (fun v => True)) := by
  have hG := kG_self kW0 hI hr
  refine km_ofPI (q := (mi_h233, mi_c233)) rfl (by decide) (Nat.le_of_ble_eq_true rfl) ?_
  intro P hP
  first | refine ft_go mi_k233 1 1 [(0, .ref (mi_RO + 22)), (1, .int x2), (2, .int x3), (3, .int x4)] [.int x2] i a q r (by rfl) ?_ | refine ko_steps mi_in233 1 _ (1, [(0, .ref (mi_RO + 22)), (1, .int x2), (2, .int x3), (3, .int x4)], [.int x2], (0, 0), ks i a q r) (by rfl) ?_
  refine ko_callPI mi_k233.1 (pc := 1) (ls := [(0, .ref (mi_RO + 22)), (1, .int x2), (2, .int x3), (3, .int x4)]) (st := [.int x2]) (h := ks i a q r) (i := (.invokestatic 88, 3, 232, 0, 9, 0, 195)) (mi_k233.2 _ _ (by rfl)) (ft_invS mi_pq232 (by rfl)) (cy := mi_c232) mi_pq232 rfl (kc232 hG.I hG.R x2) (by decide) ?_
  intro vg1 hg1
  rcases hg1 with ⟨eg1, hg1⟩ | ⟨eg1, hg1⟩
  ·
    subst eg1
    first | refine ft_go mi_k233 3 11 [(0, .ref (mi_RO + 22)), (1, .int x2), (2, .int x3), (3, .int x4)] [.int 0, .int x3] i a q r (by rfl) ?_ | refine ko_steps mi_in233 3 _ (11, [(0, .ref (mi_RO + 22)), (1, .int x2), (2, .int x3), (3, .int x4)], [.int 0, .int x3], (0, 0), ks i a q r) (by rfl) ?_
    have m3 : ((x3.toInt ≤ (bif decide (x3 < 0) then 0 else x3).toInt) ∧ ((0 : Int32).toInt ≤ (bif decide (x3 < 0) then 0 else x3).toInt)) ∧ ((bif decide (x3 < 0) then 0 else x3).toInt = x3.toInt ∨ (bif decide (x3 < 0) then 0 else x3).toInt = (0 : Int32).toInt) := kd_max
    first | refine ft_go mi_k233 1 14 [(0, .ref (mi_RO + 22)), (1, .int x2), (2, .int x3), (3, .int x4)] [.int (bif decide (x3 < 0) then 0 else x3)] i a q r (by rfl) ?_ | refine ko_steps mi_in233 1 _ (14, [(0, .ref (mi_RO + 22)), (1, .int x2), (2, .int x3), (3, .int x4)], [.int (bif decide (x3 < 0) then 0 else x3)], (0, 0), ks i a q r) (by rfl) ?_
    generalize (bif decide (x3 < 0) then 0 else x3) = m2 at m3 ⊢
    first | refine ft_go mi_k233 4 18 [(2, .int m2), (0, .ref (mi_RO + 22)), (1, .int x2), (3, .int x4)] [.int 3, .int x4] i a q r (by rfl) ?_ | refine ko_steps mi_in233 4 _ (18, [(2, .int m2), (0, .ref (mi_RO + 22)), (1, .int x2), (3, .int x4)], [.int 3, .int x4], (0, 0), ks i a q r) (by rfl) ?_
    have m5 : (((bif decide (3 < x4) then 3 else x4).toInt ≤ x4.toInt) ∧ ((bif decide (3 < x4) then 3 else x4).toInt ≤ (3 : Int32).toInt)) ∧ ((bif decide (3 < x4) then 3 else x4).toInt = x4.toInt ∨ (bif decide (3 < x4) then 3 else x4).toInt = (3 : Int32).toInt) := kd_min
    first | refine ft_go mi_k233 1 21 [(2, .int m2), (0, .ref (mi_RO + 22)), (1, .int x2), (3, .int x4)] [.int (bif decide (3 < x4) then 3 else x4)] i a q r (by rfl) ?_ | refine ko_steps mi_in233 1 _ (21, [(2, .int m2), (0, .ref (mi_RO + 22)), (1, .int x2), (3, .int x4)], [.int (bif decide (3 < x4) then 3 else x4)], (0, 0), ks i a q r) (by rfl) ?_
    generalize (bif decide (3 < x4) then 3 else x4) = m4 at m5 ⊢
    first | refine ft_go mi_k233 3 24 [(3, .int m4), (2, .int m2), (0, .ref (mi_RO + 22)), (1, .int x2)] [.int m4, .int m2] i a q r (by rfl) ?_ | refine ko_steps mi_in233 3 _ (24, [(3, .int m4), (2, .int m2), (0, .ref (mi_RO + 22)), (1, .int x2)], [.int m4, .int m2], (0, 0), ks i a q r) (by rfl) ?_
    refine ft_if mi_k233 (decide (m2 < m4)) 29 27 [(3, .int m4), (2, .int m2), (0, .ref (mi_RO + 22)), (1, .int x2)] [] (by rfl) (fun c => ?_) (fun c => ?_)
    ·
      have c6 : m2.toInt < m4.toInt := kd_lt c; clear c
      first | refine ft_go mi_k233 4 33 [(3, .int m4), (2, .int m2), (0, .ref (mi_RO + 22)), (1, .int x2)] [.int m4, .int m2, .int x2, .ref (mi_RO + 22)] i a q r (by rfl) ?_ | refine ko_steps mi_in233 4 _ (33, [(3, .int m4), (2, .int m2), (0, .ref (mi_RO + 22)), (1, .int x2)], [.int m4, .int m2, .int x2, .ref (mi_RO + 22)], (0, 0), ks i a q r) (by rfl) ?_
      refine ko_callPI mi_k233.1 (pc := 33) (ls := [(3, .int m4), (2, .int m2), (0, .ref (mi_RO + 22)), (1, .int x2)]) (st := [.int m4, .int m2, .int x2, .ref (mi_RO + 22)]) (h := ks i a q r) (i := (.invokestatic 95, 3, 234, 0, 9, 0, 198)) (mi_k233.2 _ _ (by rfl)) (ft_invS mi_pq234 (by rfl)) (cy := mi_c234) mi_pq234 rfl (kc234_S22 hG.I hG.R x2 m2 m4 (oz389 m3.1.2 kn0) (oz924 m5.1.2 kn3)) (by decide) ?_
      intro vg7 hg7
      exact ft_ret mi_k233 (by rfl) (hP vg7 trivial)
    ·
      have c8 : m4.toInt ≤ m2.toInt := kd_ltF c; clear c
      first | refine ft_go mi_k233 1 28 [(3, .int m4), (2, .int m2), (0, .ref (mi_RO + 22)), (1, .int x2)] [.int (-1)] i a q r (by rfl) ?_ | refine ko_steps mi_in233 1 _ (28, [(3, .int m4), (2, .int m2), (0, .ref (mi_RO + 22)), (1, .int x2)], [.int (-1)], (0, 0), ks i a q r) (by rfl) ?_
      exact ft_ret mi_k233 (by rfl) (hP (-1) trivial)
  ·
    subst eg1
    first | refine ft_go mi_k233 2 8 [(0, .ref (mi_RO + 22)), (1, .int x2), (2, .int x3), (3, .int x4)] [.int (-1)] i a q r (by rfl) ?_ | refine ko_steps mi_in233 2 _ (8, [(0, .ref (mi_RO + 22)), (1, .int x2), (2, .int x3), (3, .int x4)], [.int (-1)], (0, 0), ks i a q r) (by rfl) ?_
    exact ft_ret mi_k233 (by rfl) (hP (-1) trivial)
set_option maxRecDepth 100000 in
theorem kc229_S12 {i : Nat → Int32} {a : Nat → List Int32} {q : Nat → List Int64} {r : Nat → Nat} (hI : kI i a q) (hr : kr r) (x1 : Int32) (x2 : Int32) : km 5 229 [.ref (mi_RO + 12), .int x1, .int x2] (ks i a q r) (kPI (ks i a q r) (fun v => True)) := by
  have hG := kG_self kW0 hI hr
  refine km_ofPI (q := (mi_h229, mi_c229)) rfl (by decide) (Nat.le_of_ble_eq_true rfl) ?_
  intro P hP
  refine ft_go mi_k229 1 1 [(0, .ref (mi_RO + 12)), (1, .int x1), (2, .int x2)] [.ref (mi_RO + 12)] i a q r (by rfl) ?_
  refine ko_callPI mi_k229.1 (pc := 1) (ls := [(0, .ref (mi_RO + 12)), (1, .int x1), (2, .int x2)]) (st := [.ref (mi_RO + 12)]) (h := ks i a q r) (i := (.invokevirtual 492, 3, 231, 0, 9, 0, 192)) (mi_k229.2 _ _ (by rfl)) (ft_invS mi_pq231 (by rfl)) (cy := mi_c231) mi_pq231 rfl (kc231_S12 hG.I hG.R ) (by decide) ?_
  intro vg1 hg1
  rcases hg1 with ⟨eg1, hg1⟩ | ⟨eg1, hg1⟩
  ·
    subst eg1
    refine ft_go mi_k229 6 14 [(0, .ref (mi_RO + 12)), (1, .int x1), (2, .int x2)] [.ref (mi_RO + 12), .int x2, .int x1, .ref (mi_RO + 22)] i a q r (by rfl) ?_
    refine ko_callPI mi_k229.1 (pc := 14) (ls := [(0, .ref (mi_RO + 12)), (1, .int x1), (2, .int x2)]) (st := [.ref (mi_RO + 12), .int x2, .int x1, .ref (mi_RO + 22)]) (h := ks i a q r) (i := (.invokevirtual 505, 3, 227, 0, 9, 0, 193)) (mi_k229.2 _ _ (by rfl)) (ft_invS mi_pq227 (by rfl)) (cy := mi_c227) mi_pq227 rfl (kc227_S12 hG.I hG.R ) (by decide) ?_
    intro vg2 hg2
    refine ko_callPI mi_k229.1 (pc := 17) (ls := [(0, .ref (mi_RO + 12)), (1, .int x1), (2, .int x2)]) (st := [.int vg2, .int x2, .int x1, .ref (mi_RO + 22)]) (h := ks i a q r) (i := (.invokestatic 637, 3, 233, 0, 9, 0, 194)) (mi_k229.2 _ _ (by rfl)) (ft_invS mi_pq233 (by rfl)) (cy := mi_c233) mi_pq233 rfl (kc233_S22 hG.I hG.R x1 x2 vg2) (by decide) ?_
    intro vg3 hg3
    refine ft_go mi_k229 1 36 [(0, .ref (mi_RO + 12)), (1, .int x1), (2, .int x2)] [.int vg3] i a q r (by rfl) ?_
    exact ft_ret mi_k229 (by rfl) (hP vg3 trivial)
  ·
    subst eg1
    have z4 : (2 : Int) ≤ 1 := hg1
    exact (oz755 z4).elim
set_option maxRecDepth 100000 in
theorem kc228_S12 {i : Nat → Int32} {a : Nat → List Int32} {q : Nat → List Int64} {r : Nat → Nat} (hI : kI i a q) (hr : kr r) (x1 : Int32) : km 7 228 [.ref (mi_RO + 12), .int x1] (ks i a q r) (kPI (ks i a q r) (fun v => True)) := by
  have hG := kG_self kW0 hI hr
  refine km_ofPI (q := (mi_h228, mi_c228)) rfl (by decide) (Nat.le_of_ble_eq_true rfl) ?_
  intro P hP
  refine ft_go mi_k228 3 3 [(0, .ref (mi_RO + 12)), (1, .int x1)] [.int 0, .int x1, .ref (mi_RO + 12)] i a q r (by rfl) ?_
  refine ko_callPI mi_k228.1 (pc := 3) (ls := [(0, .ref (mi_RO + 12)), (1, .int x1)]) (st := [.int 0, .int x1, .ref (mi_RO + 12)]) (h := ks i a q r) (i := (.invokevirtual 633, 3, 229, 0, 9, 0, 191)) (mi_k228.2 _ _ (by rfl)) (ft_invS mi_pq229 (by rfl)) (cy := mi_c229) mi_pq229 rfl (kc229_S12 hG.I hG.R x1 0) (by decide) ?_
  intro vg1 hg1
  exact ft_ret mi_k228 (by rfl) (hP vg1 trivial)
def w47_98_S12 : kW := ([6274], [], [], [])
set_option maxRecDepth 100000 in
theorem kc47_98_S12 {i : Nat → Int32} {a : Nat → List Int32} {q : Nat → List Int64} {r : Nat → Nat} (hI : kI i a q) (hr : kr r)  : km 9 47 [.ref 98, .ref (mi_RO + 12)] (ks i a q r) (kVI w47_98_S12 i a q r (fun v i1 a1 q1 r1 => True)) := by
  have hG := kG_self w47_98_S12 hI hr
  refine km_ofI (q := (mi_h47, mi_c47)) rfl (by decide) (Nat.le_of_ble_eq_true rfl) ?_
  intro P hP
  refine ft_go mi_k47 1 1 [(0, .ref 98), (1, .ref (mi_RO + 12))] [.ref 98] i a q r (by rfl) ?_
  refine ko_callPI mi_k47.1 (pc := 1) (ls := [(0, .ref 98), (1, .ref (mi_RO + 12))]) (st := [.ref 98]) (h := ks i a q r) (i := (.invokevirtual 46, 3, 45, 0, 9, 0, 184)) (mi_k47.2 _ _ (by rfl)) (ft_invS mi_pq45 (by rfl)) (cy := mi_c45) mi_pq45 rfl (kc45_98 hG.I hG.R ) (by decide) ?_
  intro vg1 hg1
  have fi_6274 : ((0 : Int) ≤ (i 6274).toInt) ∧ ((i 6274).toInt ≤ 120) := hG.I.1 6274
  have fi_6273 : ((0 : Int) ≤ (i 6273).toInt) ∧ ((i 6273).toInt ≤ 120) := hG.I.1 6273
  have z2 : (vg1.toInt = (-1)) ∨ ((i 6274).toInt < (i 6273).toInt) := hg1
  refine ft_go mi_k47 3 7 [(2, .int vg1), (0, .ref 98), (1, .ref (mi_RO + 12))] [.int (-1), .int vg1] i a q r (by rfl) ?_
  refine ft_if mi_k47 (vg1 == (-1)) 19 10 [(2, .int vg1), (0, .ref 98), (1, .ref (mi_RO + 12))] [] (by rfl) (fun c => ?_) (fun c => ?_)
  ·
    have c3 : vg1.toInt = ((-1) : Int32).toInt := kd_eq c; clear c
    refine ft_go mi_k47 1 20 [(2, .int vg1), (0, .ref 98), (1, .ref (mi_RO + 12))] [.int (-1)] i a q r (by rfl) ?_
    exact ft_ret mi_k47 (by rfl) (hP (-1) _ _ _ _ hG trivial)
  ·
    have c4 : vg1.toInt ≠ ((-1) : Int32).toInt := kd_eqF c; clear c
    refine ft_go mi_k47 3 13 [(2, .int vg1), (0, .ref 98), (1, .ref (mi_RO + 12))] [.int ((vg1.toUInt32 % 65536).toInt32), .ref (mi_RO + 12)] i a q r (by rfl) ?_
    refine ko_callPI mi_k47.1 (pc := 13) (ls := [(2, .int vg1), (0, .ref 98), (1, .ref (mi_RO + 12))]) (st := [.int ((vg1.toUInt32 % 65536).toInt32), .ref (mi_RO + 12)]) (h := ks i a q r) (i := (.invokevirtual 50, 3, 228, 0, 9, 0, 190)) (mi_k47.2 _ _ (by rfl)) (ft_invS mi_pq228 (by rfl)) (cy := mi_c228) mi_pq228 rfl (kc228_S12 hG.I hG.R ((vg1.toUInt32 % 65536).toInt32)) (by decide) ?_
    intro vg5 hg5
    refine ft_if mi_k47 (decide (0 ≤ vg5)) 21 19 [(2, .int vg1), (0, .ref 98), (1, .ref (mi_RO + 12))] [] (by rfl) (fun c => ?_) (fun c => ?_)
    ·
      have c6 : (0 : Int32).toInt ≤ vg5.toInt := kd_le c; clear c
      have s7 : ((i 6274) + 1).toInt = (i 6274).toInt + (1 : Int32).toInt := kd_add (oz12 fi_6274.1 kn1) (oz192 fi_6274.2 kn1)
      have hJ8 := kG_i hG 6274 rfl (v := ((i 6274) + 1)) ⟨(oz14 fi_6274.1 s7 kn1), (oz921 c4 fi_6273.2 s7 z2 knm1 kn1)⟩
      refine ft_go mi_k47 7 32 [(2, .int vg1), (0, .ref 98), (1, .ref (mi_RO + 12))] [.int vg1] (ku i 6274 ((i 6274) + 1)) a q r (by rfl) ?_
      exact ft_ret mi_k47 (by rfl) (hP vg1 _ _ _ _ hJ8 trivial)
    ·
      have c9 : vg5.toInt < (0 : Int32).toInt := kd_leF c; clear c
      refine ft_go mi_k47 1 20 [(2, .int vg1), (0, .ref 98), (1, .ref (mi_RO + 12))] [.int (-1)] i a q r (by rfl) ?_
      exact ft_ret mi_k47 (by rfl) (hP (-1) _ _ _ _ hG trivial)
set_option maxRecDepth 100000 in
theorem kc231_S13 {i : Nat → Int32} {a : Nat → List Int32} {q : Nat → List Int64} {r : Nat → Nat} (hI : kI i a q) (hr : kr r)  : km 1 231 [.ref (mi_RO + 13)] (ks i a q r) (kPI (ks i a q r) (fun v => (v = 1 ∧ (True)) ∨ (v = 0 ∧ ((2 : Int) ≤ 1)))) := by
  have hG := kG_self kW0 hI hr
  refine km_ofPI (q := (mi_h231, mi_c231)) rfl (by decide) (Nat.le_of_ble_eq_true rfl) ?_
  intro P hP
  refine ft_go mi_k231 7 18 [(0, .ref (mi_RO + 13))] [.int 1] i a q r (by rfl) ?_
  exact ft_ret mi_k231 (by rfl) (hP 1 (Or.inl ⟨rfl, trivial⟩))
set_option maxRecDepth 100000 in
theorem kc230_S13 {i : Nat → Int32} {a : Nat → List Int32} {q : Nat → List Int64} {r : Nat → Nat} (hI : kI i a q) (hr : kr r)  : km 1 230 [.ref (mi_RO + 13)] (ks i a q r) (kPI (ks i a q r) (fun v => True)) := by
  have hG := kG_self kW0 hI hr
  refine km_ofPI (q := (mi_h230, mi_c230)) rfl (by decide) (Nat.le_of_ble_eq_true rfl) ?_
  intro P hP
  refine ft_go mi_k230 5 14 [(0, .ref (mi_RO + 13))] [.int 0] i a q r (by rfl) ?_
  exact ft_ret mi_k230 (by rfl) (hP 0 trivial)
set_option maxRecDepth 100000 in
theorem kc227_S13 {i : Nat → Int32} {a : Nat → List Int32} {q : Nat → List Int64} {r : Nat → Nat} (hI : kI i a q) (hr : kr r)  : km 3 227 [.ref (mi_RO + 13)] (ks i a q r) (kPI (ks i a q r) (fun v => True)) := by
  have hG := kG_self kW0 hI hr
  refine km_ofPI (q := (mi_h227, mi_c227)) rfl (by decide) (Nat.le_of_ble_eq_true rfl) ?_
  intro P hP
  first | refine ft_go mi_k227 4 6 [(0, .ref (mi_RO + 13))] [.ref (mi_RO + 13), .int 2] i a q r (by rfl) ?_ | refine ko_steps mi_in227 4 _ (6, [(0, .ref (mi_RO + 13))], [.ref (mi_RO + 13), .int 2], (0, 0), ks i a q r) (by rfl) ?_
  refine ko_callPI mi_k227.1 (pc := 6) (ls := [(0, .ref (mi_RO + 13))]) (st := [.ref (mi_RO + 13), .int 2]) (h := ks i a q r) (i := (.invokevirtual 335, 3, 230, 0, 9, 0, 32)) (mi_k227.2 _ _ (by rfl)) (ft_invS mi_pq230 (by rfl)) (cy := mi_c230) mi_pq230 rfl (kc230_S13 hG.I hG.R ) (by decide) ?_
  intro vg1 hg1
  first | refine ft_go mi_k227 1 10 [(0, .ref (mi_RO + 13))] [.int (2 >>> (vg1 &&& 31))] i a q r (by rfl) ?_ | refine ko_steps mi_in227 1 _ (10, [(0, .ref (mi_RO + 13))], [.int (2 >>> (vg1 &&& 31))], (0, 0), ks i a q r) (by rfl) ?_
  exact ft_ret mi_k227 (by rfl) (hP (2 >>> (vg1 &&& 31)) trivial)
set_option maxRecDepth 100000 in
theorem kc234_S23 {i : Nat → Int32} {a : Nat → List Int32} {q : Nat → List Int64} {r : Nat → Nat} (hI : kI i a q) (hr : kr r) (x2 : Int32) (x3 : Int32) (x4 : Int32) (hp0 : (0 : Int) ≤ x3.toInt) (hp1 : x4.toInt ≤ 2) : km 1 234 [.ref (mi_RO + 23), .int x2, .int x3, .int x4] (ks i a q r) (kPI (ks i a q r) (fun v => True)) := by
  have hG := kG_self kW0 hI hr
  refine km_ofPI (q := (mi_h234, mi_c234)) rfl (by decide) (Nat.le_of_ble_eq_true rfl) ?_
  intro P hP
  first | refine ft_go mi_k234 5 7 [(5, .int x3), (4, .int x2.toInt8.toInt32), (0, .ref (mi_RO + 23)), (1, .int x2), (2, .int x3), (3, .int x4)] [] i a q r (by rfl) ?_ | refine ko_steps mi_in234 5 _ (7, [(5, .int x3), (4, .int x2.toInt8.toInt32), (0, .ref (mi_RO + 23)), (1, .int x2), (2, .int x3), (3, .int x4)], [], (0, 0), ks i a q r) (by rfl) ?_
  have lp1 : ∀ (nz : Nat) (l5_1 : Int32), (0 : Int) ≤ l5_1.toInt → ((x4.toInt - l5_1.toInt)).toNat < nz → ko 1 (mi_h234, mi_c234) P (7, [(5, .int l5_1), (4, .int x2.toInt8.toInt32), (0, .ref (mi_RO + 23)), (1, .int x2), (2, .int x3), (3, .int x4)], [], (0, 0), ks i a q r) := by
    intro nz
    induction nz with
    | zero =>
      intro _ _ hm
      exact absurd hm (Nat.not_lt_zero _)
    | succ nz ih1 =>
      intro l5_1 p1_0 hm1
      first | refine ft_go mi_k234 2 10 [(5, .int l5_1), (4, .int x2.toInt8.toInt32), (0, .ref (mi_RO + 23)), (1, .int x2), (2, .int x3), (3, .int x4)] [.int x4, .int l5_1] i a q r (by rfl) ?_ | refine ko_steps mi_in234 2 _ (10, [(5, .int l5_1), (4, .int x2.toInt8.toInt32), (0, .ref (mi_RO + 23)), (1, .int x2), (2, .int x3), (3, .int x4)], [.int x4, .int l5_1], (0, 0), ks i a q r) (by rfl) ?_
      refine ft_if mi_k234 (decide (x4 ≤ l5_1)) 31 13 [(5, .int l5_1), (4, .int x2.toInt8.toInt32), (0, .ref (mi_RO + 23)), (1, .int x2), (2, .int x3), (3, .int x4)] [] (by rfl) (fun c => ?_) (fun c => ?_)
      ·
        have c2 : x4.toInt ≤ l5_1.toInt := kd_le c; clear c
        first | refine ft_go mi_k234 1 32 [(5, .int l5_1), (4, .int x2.toInt8.toInt32), (0, .ref (mi_RO + 23)), (1, .int x2), (2, .int x3), (3, .int x4)] [.int (-1)] i a q r (by rfl) ?_ | refine ko_steps mi_in234 1 _ (32, [(5, .int l5_1), (4, .int x2.toInt8.toInt32), (0, .ref (mi_RO + 23)), (1, .int x2), (2, .int x3), (3, .int x4)], [.int (-1)], (0, 0), ks i a q r) (by rfl) ?_
        exact ft_ret mi_k234 (by rfl) (hP (-1) trivial)
      ·
        have c3 : l5_1.toInt < x4.toInt := kd_leF c; clear c
        first | refine ft_go mi_k234 2 16 [(5, .int l5_1), (4, .int x2.toInt8.toInt32), (0, .ref (mi_RO + 23)), (1, .int x2), (2, .int x3), (3, .int x4)] [.int l5_1, .ref (mi_RO + 23)] i a q r (by rfl) ?_ | refine ko_steps mi_in234 2 _ (16, [(5, .int l5_1), (4, .int x2.toInt8.toInt32), (0, .ref (mi_RO + 23)), (1, .int x2), (2, .int x3), (3, .int x4)], [.int l5_1, .ref (mi_RO + 23)], (0, 0), ks i a q r) (by rfl) ?_
        refine ko_baro2 mi_k234.1 (l := [43, 45]) (n := 2) (c := 2) (ax := (0, 0, 0, 0, 0)) (mi_k234.2 _ _ (by rfl)) (by rfl) (by rfl) rfl rfl (oz3 p1_0) (oz930 c3 hp1) ?_
        first | refine ft_go mi_k234 1 19 [(5, .int l5_1), (4, .int x2.toInt8.toInt32), (0, .ref (mi_RO + 23)), (1, .int x2), (2, .int x3), (3, .int x4)] [.int x2.toInt8.toInt32, .int (([43, 45] : List Int32).getD l5_1.toNatClampNeg 0)] i a q r (by rfl) ?_ | refine ko_steps mi_in234 1 _ (19, [(5, .int l5_1), (4, .int x2.toInt8.toInt32), (0, .ref (mi_RO + 23)), (1, .int x2), (2, .int x3), (3, .int x4)], [.int x2.toInt8.toInt32, .int (([43, 45] : List Int32).getD l5_1.toNatClampNeg 0)], (0, 0), ks i a q r) (by rfl) ?_
        refine ft_if mi_k234 ((([43, 45] : List Int32).getD l5_1.toNatClampNeg 0) != x2.toInt8.toInt32) 25 22 [(5, .int l5_1), (4, .int x2.toInt8.toInt32), (0, .ref (mi_RO + 23)), (1, .int x2), (2, .int x3), (3, .int x4)] [] (by rfl) (fun c => ?_) (fun c => ?_)
        ·
          have c4 : (([43, 45] : List Int32).getD l5_1.toNatClampNeg 0).toInt ≠ x2.toInt8.toInt32.toInt := kd_ne c; clear c
          have s5 : (l5_1 + 1).toInt = l5_1.toInt + (1 : Int32).toInt := kd_add (oz12 p1_0 kn1) (oz931 c3 hp1 kn1)
          first | refine ft_go mi_k234 2 7 [(5, .int (l5_1 + 1)), (4, .int x2.toInt8.toInt32), (0, .ref (mi_RO + 23)), (1, .int x2), (2, .int x3), (3, .int x4)] [] i a q r (by rfl) ?_ | refine ko_steps mi_in234 2 _ (7, [(5, .int (l5_1 + 1)), (4, .int x2.toInt8.toInt32), (0, .ref (mi_RO + 23)), (1, .int x2), (2, .int x3), (3, .int x4)], [], (0, 0), ks i a q r) (by rfl) ?_
          exact ih1 _ (oz14 p1_0 s5 kn1) (kj_meas (oz44 s5 kn1) (oz45 c3) hm1)
        ·
          have c6 : (([43, 45] : List Int32).getD l5_1.toNatClampNeg 0).toInt = x2.toInt8.toInt32.toInt := kd_neF c; clear c
          first | refine ft_go mi_k234 1 24 [(5, .int l5_1), (4, .int x2.toInt8.toInt32), (0, .ref (mi_RO + 23)), (1, .int x2), (2, .int x3), (3, .int x4)] [.int l5_1] i a q r (by rfl) ?_ | refine ko_steps mi_in234 1 _ (24, [(5, .int l5_1), (4, .int x2.toInt8.toInt32), (0, .ref (mi_RO + 23)), (1, .int x2), (2, .int x3), (3, .int x4)], [.int l5_1], (0, 0), ks i a q r) (by rfl) ?_
          exact ft_ret mi_k234 (by rfl) (hP l5_1 trivial)
  exact lp1 _ _ (oz3 hp0) (Nat.lt_succ_self _)
set_option maxRecDepth 100000 in
theorem kc233_S23 {i : Nat → Int32} {a : Nat → List Int32} {q : Nat → List Int64} {r : Nat → Nat} (hI : kI i a q) (hr : kr r) (x2 : Int32) (x3 : Int32) (x4 : Int32) : km 3 233 [.ref (mi_RO + 23), .int x2, .int x3, .int x4] (ks i a q r) (kPI (ks i a q r) (fun v => True)) := by
  have hG := kG_self kW0 hI hr
  refine km_ofPI (q := (mi_h233, mi_c233)) rfl (by decide) (Nat.le_of_ble_eq_true rfl) ?_
  intro P hP
  first | refine ft_go mi_k233 1 1 [(0, .ref (mi_RO + 23)), (1, .int x2), (2, .int x3), (3, .int x4)] [.int x2] i a q r (by rfl) ?_ | refine ko_steps mi_in233 1 _ (1, [(0, .ref (mi_RO + 23)), (1, .int x2), (2, .int x3), (3, .int x4)], [.int x2], (0, 0), ks i a q r) (by rfl) ?_
  refine ko_callPI mi_k233.1 (pc := 1) (ls := [(0, .ref (mi_RO + 23)), (1, .int x2), (2, .int x3), (3, .int x4)]) (st := [.int x2]) (h := ks i a q r) (i := (.invokestatic 88, 3, 232, 0, 9, 0, 195)) (mi_k233.2 _ _ (by rfl)) (ft_invS mi_pq232 (by rfl)) (cy := mi_c232) mi_pq232 rfl (kc232 hG.I hG.R x2) (by decide) ?_
  intro vg1 hg1
  rcases hg1 with ⟨eg1, hg1⟩ | ⟨eg1, hg1⟩
  ·
    subst eg1
    first | refine ft_go mi_k233 3 11 [(0, .ref (mi_RO + 23)), (1, .int x2), (2, .int x3), (3, .int x4)] [.int 0, .int x3] i a q r (by rfl) ?_ | refine ko_steps mi_in233 3 _ (11, [(0, .ref (mi_RO + 23)), (1, .int x2), (2, .int x3), (3, .int x4)], [.int 0, .int x3], (0, 0), ks i a q r) (by rfl) ?_
    have m3 : ((x3.toInt ≤ (bif decide (x3 < 0) then 0 else x3).toInt) ∧ ((0 : Int32).toInt ≤ (bif decide (x3 < 0) then 0 else x3).toInt)) ∧ ((bif decide (x3 < 0) then 0 else x3).toInt = x3.toInt ∨ (bif decide (x3 < 0) then 0 else x3).toInt = (0 : Int32).toInt) := kd_max
    first | refine ft_go mi_k233 1 14 [(0, .ref (mi_RO + 23)), (1, .int x2), (2, .int x3), (3, .int x4)] [.int (bif decide (x3 < 0) then 0 else x3)] i a q r (by rfl) ?_ | refine ko_steps mi_in233 1 _ (14, [(0, .ref (mi_RO + 23)), (1, .int x2), (2, .int x3), (3, .int x4)], [.int (bif decide (x3 < 0) then 0 else x3)], (0, 0), ks i a q r) (by rfl) ?_
    generalize (bif decide (x3 < 0) then 0 else x3) = m2 at m3 ⊢
    first | refine ft_go mi_k233 4 18 [(2, .int m2), (0, .ref (mi_RO + 23)), (1, .int x2), (3, .int x4)] [.int 2, .int x4] i a q r (by rfl) ?_ | refine ko_steps mi_in233 4 _ (18, [(2, .int m2), (0, .ref (mi_RO + 23)), (1, .int x2), (3, .int x4)], [.int 2, .int x4], (0, 0), ks i a q r) (by rfl) ?_
    have m5 : (((bif decide (2 < x4) then 2 else x4).toInt ≤ x4.toInt) ∧ ((bif decide (2 < x4) then 2 else x4).toInt ≤ (2 : Int32).toInt)) ∧ ((bif decide (2 < x4) then 2 else x4).toInt = x4.toInt ∨ (bif decide (2 < x4) then 2 else x4).toInt = (2 : Int32).toInt) := kd_min
    first | refine ft_go mi_k233 1 21 [(2, .int m2), (0, .ref (mi_RO + 23)), (1, .int x2), (3, .int x4)] [.int (bif decide (2 < x4) then 2 else x4)] i a q r (by rfl) ?_ | refine ko_steps mi_in233 1 _ (21, [(2, .int m2), (0, .ref (mi_RO + 23)), (1, .int x2), (3, .int x4)], [.int (bif decide (2 < x4) then 2 else x4)], (0, 0), ks i a q r) (by rfl) ?_
    generalize (bif decide (2 < x4) then 2 else x4) = m4 at m5 ⊢
    first | refine ft_go mi_k233 3 24 [(3, .int m4), (2, .int m2), (0, .ref (mi_RO + 23)), (1, .int x2)] [.int m4, .int m2] i a q r (by rfl) ?_ | refine ko_steps mi_in233 3 _ (24, [(3, .int m4), (2, .int m2), (0, .ref (mi_RO + 23)), (1, .int x2)], [.int m4, .int m2], (0, 0), ks i a q r) (by rfl) ?_
    refine ft_if mi_k233 (decide (m2 < m4)) 29 27 [(3, .int m4), (2, .int m2), (0, .ref (mi_RO + 23)), (1, .int x2)] [] (by rfl) (fun c => ?_) (fun c => ?_)
    ·
      have c6 : m2.toInt < m4.toInt := kd_lt c; clear c
      first | refine ft_go mi_k233 4 33 [(3, .int m4), (2, .int m2), (0, .ref (mi_RO + 23)), (1, .int x2)] [.int m4, .int m2, .int x2, .ref (mi_RO + 23)] i a q r (by rfl) ?_ | refine ko_steps mi_in233 4 _ (33, [(3, .int m4), (2, .int m2), (0, .ref (mi_RO + 23)), (1, .int x2)], [.int m4, .int m2, .int x2, .ref (mi_RO + 23)], (0, 0), ks i a q r) (by rfl) ?_
      refine ko_callPI mi_k233.1 (pc := 33) (ls := [(3, .int m4), (2, .int m2), (0, .ref (mi_RO + 23)), (1, .int x2)]) (st := [.int m4, .int m2, .int x2, .ref (mi_RO + 23)]) (h := ks i a q r) (i := (.invokestatic 95, 3, 234, 0, 9, 0, 198)) (mi_k233.2 _ _ (by rfl)) (ft_invS mi_pq234 (by rfl)) (cy := mi_c234) mi_pq234 rfl (kc234_S23 hG.I hG.R x2 m2 m4 (oz389 m3.1.2 kn0) (oz932 m5.1.2 kn2)) (by decide) ?_
      intro vg7 hg7
      exact ft_ret mi_k233 (by rfl) (hP vg7 trivial)
    ·
      have c8 : m4.toInt ≤ m2.toInt := kd_ltF c; clear c
      first | refine ft_go mi_k233 1 28 [(3, .int m4), (2, .int m2), (0, .ref (mi_RO + 23)), (1, .int x2)] [.int (-1)] i a q r (by rfl) ?_ | refine ko_steps mi_in233 1 _ (28, [(3, .int m4), (2, .int m2), (0, .ref (mi_RO + 23)), (1, .int x2)], [.int (-1)], (0, 0), ks i a q r) (by rfl) ?_
      exact ft_ret mi_k233 (by rfl) (hP (-1) trivial)
  ·
    subst eg1
    first | refine ft_go mi_k233 2 8 [(0, .ref (mi_RO + 23)), (1, .int x2), (2, .int x3), (3, .int x4)] [.int (-1)] i a q r (by rfl) ?_ | refine ko_steps mi_in233 2 _ (8, [(0, .ref (mi_RO + 23)), (1, .int x2), (2, .int x3), (3, .int x4)], [.int (-1)], (0, 0), ks i a q r) (by rfl) ?_
    exact ft_ret mi_k233 (by rfl) (hP (-1) trivial)
set_option maxRecDepth 100000 in
theorem kc229_S13 {i : Nat → Int32} {a : Nat → List Int32} {q : Nat → List Int64} {r : Nat → Nat} (hI : kI i a q) (hr : kr r) (x1 : Int32) (x2 : Int32) : km 5 229 [.ref (mi_RO + 13), .int x1, .int x2] (ks i a q r) (kPI (ks i a q r) (fun v => True)) := by
  have hG := kG_self kW0 hI hr
  refine km_ofPI (q := (mi_h229, mi_c229)) rfl (by decide) (Nat.le_of_ble_eq_true rfl) ?_
  intro P hP
  refine ft_go mi_k229 1 1 [(0, .ref (mi_RO + 13)), (1, .int x1), (2, .int x2)] [.ref (mi_RO + 13)] i a q r (by rfl) ?_
  refine ko_callPI mi_k229.1 (pc := 1) (ls := [(0, .ref (mi_RO + 13)), (1, .int x1), (2, .int x2)]) (st := [.ref (mi_RO + 13)]) (h := ks i a q r) (i := (.invokevirtual 492, 3, 231, 0, 9, 0, 192)) (mi_k229.2 _ _ (by rfl)) (ft_invS mi_pq231 (by rfl)) (cy := mi_c231) mi_pq231 rfl (kc231_S13 hG.I hG.R ) (by decide) ?_
  intro vg1 hg1
  rcases hg1 with ⟨eg1, hg1⟩ | ⟨eg1, hg1⟩
  ·
    subst eg1
    refine ft_go mi_k229 6 14 [(0, .ref (mi_RO + 13)), (1, .int x1), (2, .int x2)] [.ref (mi_RO + 13), .int x2, .int x1, .ref (mi_RO + 23)] i a q r (by rfl) ?_
    refine ko_callPI mi_k229.1 (pc := 14) (ls := [(0, .ref (mi_RO + 13)), (1, .int x1), (2, .int x2)]) (st := [.ref (mi_RO + 13), .int x2, .int x1, .ref (mi_RO + 23)]) (h := ks i a q r) (i := (.invokevirtual 505, 3, 227, 0, 9, 0, 193)) (mi_k229.2 _ _ (by rfl)) (ft_invS mi_pq227 (by rfl)) (cy := mi_c227) mi_pq227 rfl (kc227_S13 hG.I hG.R ) (by decide) ?_
    intro vg2 hg2
    refine ko_callPI mi_k229.1 (pc := 17) (ls := [(0, .ref (mi_RO + 13)), (1, .int x1), (2, .int x2)]) (st := [.int vg2, .int x2, .int x1, .ref (mi_RO + 23)]) (h := ks i a q r) (i := (.invokestatic 637, 3, 233, 0, 9, 0, 194)) (mi_k229.2 _ _ (by rfl)) (ft_invS mi_pq233 (by rfl)) (cy := mi_c233) mi_pq233 rfl (kc233_S23 hG.I hG.R x1 x2 vg2) (by decide) ?_
    intro vg3 hg3
    refine ft_go mi_k229 1 36 [(0, .ref (mi_RO + 13)), (1, .int x1), (2, .int x2)] [.int vg3] i a q r (by rfl) ?_
    exact ft_ret mi_k229 (by rfl) (hP vg3 trivial)
  ·
    subst eg1
    have z4 : (2 : Int) ≤ 1 := hg1
    exact (oz755 z4).elim
set_option maxRecDepth 100000 in
theorem kc228_S13 {i : Nat → Int32} {a : Nat → List Int32} {q : Nat → List Int64} {r : Nat → Nat} (hI : kI i a q) (hr : kr r) (x1 : Int32) : km 7 228 [.ref (mi_RO + 13), .int x1] (ks i a q r) (kPI (ks i a q r) (fun v => True)) := by
  have hG := kG_self kW0 hI hr
  refine km_ofPI (q := (mi_h228, mi_c228)) rfl (by decide) (Nat.le_of_ble_eq_true rfl) ?_
  intro P hP
  refine ft_go mi_k228 3 3 [(0, .ref (mi_RO + 13)), (1, .int x1)] [.int 0, .int x1, .ref (mi_RO + 13)] i a q r (by rfl) ?_
  refine ko_callPI mi_k228.1 (pc := 3) (ls := [(0, .ref (mi_RO + 13)), (1, .int x1)]) (st := [.int 0, .int x1, .ref (mi_RO + 13)]) (h := ks i a q r) (i := (.invokevirtual 633, 3, 229, 0, 9, 0, 191)) (mi_k228.2 _ _ (by rfl)) (ft_invS mi_pq229 (by rfl)) (cy := mi_c229) mi_pq229 rfl (kc229_S13 hG.I hG.R x1 0) (by decide) ?_
  intro vg1 hg1
  exact ft_ret mi_k228 (by rfl) (hP vg1 trivial)
def w47_98_S13 : kW := ([6274], [], [], [])
set_option maxRecDepth 100000 in
theorem kc47_98_S13 {i : Nat → Int32} {a : Nat → List Int32} {q : Nat → List Int64} {r : Nat → Nat} (hI : kI i a q) (hr : kr r)  : km 9 47 [.ref 98, .ref (mi_RO + 13)] (ks i a q r) (kVI w47_98_S13 i a q r (fun v i1 a1 q1 r1 => True)) := by
  have hG := kG_self w47_98_S13 hI hr
  refine km_ofI (q := (mi_h47, mi_c47)) rfl (by decide) (Nat.le_of_ble_eq_true rfl) ?_
  intro P hP
  refine ft_go mi_k47 1 1 [(0, .ref 98), (1, .ref (mi_RO + 13))] [.ref 98] i a q r (by rfl) ?_
  refine ko_callPI mi_k47.1 (pc := 1) (ls := [(0, .ref 98), (1, .ref (mi_RO + 13))]) (st := [.ref 98]) (h := ks i a q r) (i := (.invokevirtual 46, 3, 45, 0, 9, 0, 184)) (mi_k47.2 _ _ (by rfl)) (ft_invS mi_pq45 (by rfl)) (cy := mi_c45) mi_pq45 rfl (kc45_98 hG.I hG.R ) (by decide) ?_
  intro vg1 hg1
  have fi_6274 : ((0 : Int) ≤ (i 6274).toInt) ∧ ((i 6274).toInt ≤ 120) := hG.I.1 6274
  have fi_6273 : ((0 : Int) ≤ (i 6273).toInt) ∧ ((i 6273).toInt ≤ 120) := hG.I.1 6273
  have z2 : (vg1.toInt = (-1)) ∨ ((i 6274).toInt < (i 6273).toInt) := hg1
  refine ft_go mi_k47 3 7 [(2, .int vg1), (0, .ref 98), (1, .ref (mi_RO + 13))] [.int (-1), .int vg1] i a q r (by rfl) ?_
  refine ft_if mi_k47 (vg1 == (-1)) 19 10 [(2, .int vg1), (0, .ref 98), (1, .ref (mi_RO + 13))] [] (by rfl) (fun c => ?_) (fun c => ?_)
  ·
    have c3 : vg1.toInt = ((-1) : Int32).toInt := kd_eq c; clear c
    refine ft_go mi_k47 1 20 [(2, .int vg1), (0, .ref 98), (1, .ref (mi_RO + 13))] [.int (-1)] i a q r (by rfl) ?_
    exact ft_ret mi_k47 (by rfl) (hP (-1) _ _ _ _ hG trivial)
  ·
    have c4 : vg1.toInt ≠ ((-1) : Int32).toInt := kd_eqF c; clear c
    refine ft_go mi_k47 3 13 [(2, .int vg1), (0, .ref 98), (1, .ref (mi_RO + 13))] [.int ((vg1.toUInt32 % 65536).toInt32), .ref (mi_RO + 13)] i a q r (by rfl) ?_
    refine ko_callPI mi_k47.1 (pc := 13) (ls := [(2, .int vg1), (0, .ref 98), (1, .ref (mi_RO + 13))]) (st := [.int ((vg1.toUInt32 % 65536).toInt32), .ref (mi_RO + 13)]) (h := ks i a q r) (i := (.invokevirtual 50, 3, 228, 0, 9, 0, 190)) (mi_k47.2 _ _ (by rfl)) (ft_invS mi_pq228 (by rfl)) (cy := mi_c228) mi_pq228 rfl (kc228_S13 hG.I hG.R ((vg1.toUInt32 % 65536).toInt32)) (by decide) ?_
    intro vg5 hg5
    refine ft_if mi_k47 (decide (0 ≤ vg5)) 21 19 [(2, .int vg1), (0, .ref 98), (1, .ref (mi_RO + 13))] [] (by rfl) (fun c => ?_) (fun c => ?_)
    ·
      have c6 : (0 : Int32).toInt ≤ vg5.toInt := kd_le c; clear c
      have s7 : ((i 6274) + 1).toInt = (i 6274).toInt + (1 : Int32).toInt := kd_add (oz12 fi_6274.1 kn1) (oz192 fi_6274.2 kn1)
      have hJ8 := kG_i hG 6274 rfl (v := ((i 6274) + 1)) ⟨(oz14 fi_6274.1 s7 kn1), (oz921 c4 fi_6273.2 s7 z2 knm1 kn1)⟩
      refine ft_go mi_k47 7 32 [(2, .int vg1), (0, .ref 98), (1, .ref (mi_RO + 13))] [.int vg1] (ku i 6274 ((i 6274) + 1)) a q r (by rfl) ?_
      exact ft_ret mi_k47 (by rfl) (hP vg1 _ _ _ _ hJ8 trivial)
    ·
      have c9 : vg5.toInt < (0 : Int32).toInt := kd_leF c; clear c
      refine ft_go mi_k47 1 20 [(2, .int vg1), (0, .ref 98), (1, .ref (mi_RO + 13))] [.int (-1)] i a q r (by rfl) ?_
      exact ft_ret mi_k47 (by rfl) (hP (-1) _ _ _ _ hG trivial)
set_option maxRecDepth 100000 in
theorem kc231_S14 {i : Nat → Int32} {a : Nat → List Int32} {q : Nat → List Int64} {r : Nat → Nat} (hI : kI i a q) (hr : kr r)  : km 1 231 [.ref (mi_RO + 14)] (ks i a q r) (kPI (ks i a q r) (fun v => (v = 1 ∧ (True)) ∨ (v = 0 ∧ ((2 : Int) ≤ 1)))) := by
  have hG := kG_self kW0 hI hr
  refine km_ofPI (q := (mi_h231, mi_c231)) rfl (by decide) (Nat.le_of_ble_eq_true rfl) ?_
  intro P hP
  refine ft_go mi_k231 7 18 [(0, .ref (mi_RO + 14))] [.int 1] i a q r (by rfl) ?_
  exact ft_ret mi_k231 (by rfl) (hP 1 (Or.inl ⟨rfl, trivial⟩))
set_option maxRecDepth 100000 in
theorem kc230_S14 {i : Nat → Int32} {a : Nat → List Int32} {q : Nat → List Int64} {r : Nat → Nat} (hI : kI i a q) (hr : kr r)  : km 1 230 [.ref (mi_RO + 14)] (ks i a q r) (kPI (ks i a q r) (fun v => True)) := by
  have hG := kG_self kW0 hI hr
  refine km_ofPI (q := (mi_h230, mi_c230)) rfl (by decide) (Nat.le_of_ble_eq_true rfl) ?_
  intro P hP
  refine ft_go mi_k230 5 14 [(0, .ref (mi_RO + 14))] [.int 0] i a q r (by rfl) ?_
  exact ft_ret mi_k230 (by rfl) (hP 0 trivial)
set_option maxRecDepth 100000 in
theorem kc227_S14 {i : Nat → Int32} {a : Nat → List Int32} {q : Nat → List Int64} {r : Nat → Nat} (hI : kI i a q) (hr : kr r)  : km 3 227 [.ref (mi_RO + 14)] (ks i a q r) (kPI (ks i a q r) (fun v => True)) := by
  have hG := kG_self kW0 hI hr
  refine km_ofPI (q := (mi_h227, mi_c227)) rfl (by decide) (Nat.le_of_ble_eq_true rfl) ?_
  intro P hP
  first | refine ft_go mi_k227 4 6 [(0, .ref (mi_RO + 14))] [.ref (mi_RO + 14), .int 3] i a q r (by rfl) ?_ | refine ko_steps mi_in227 4 _ (6, [(0, .ref (mi_RO + 14))], [.ref (mi_RO + 14), .int 3], (0, 0), ks i a q r) (by rfl) ?_
  refine ko_callPI mi_k227.1 (pc := 6) (ls := [(0, .ref (mi_RO + 14))]) (st := [.ref (mi_RO + 14), .int 3]) (h := ks i a q r) (i := (.invokevirtual 335, 3, 230, 0, 9, 0, 32)) (mi_k227.2 _ _ (by rfl)) (ft_invS mi_pq230 (by rfl)) (cy := mi_c230) mi_pq230 rfl (kc230_S14 hG.I hG.R ) (by decide) ?_
  intro vg1 hg1
  first | refine ft_go mi_k227 1 10 [(0, .ref (mi_RO + 14))] [.int (3 >>> (vg1 &&& 31))] i a q r (by rfl) ?_ | refine ko_steps mi_in227 1 _ (10, [(0, .ref (mi_RO + 14))], [.int (3 >>> (vg1 &&& 31))], (0, 0), ks i a q r) (by rfl) ?_
  exact ft_ret mi_k227 (by rfl) (hP (3 >>> (vg1 &&& 31)) trivial)
set_option maxRecDepth 100000 in
theorem kc234_S24 {i : Nat → Int32} {a : Nat → List Int32} {q : Nat → List Int64} {r : Nat → Nat} (hI : kI i a q) (hr : kr r) (x2 : Int32) (x3 : Int32) (x4 : Int32) (hp0 : (0 : Int) ≤ x3.toInt) (hp1 : x4.toInt ≤ 3) : km 1 234 [.ref (mi_RO + 24), .int x2, .int x3, .int x4] (ks i a q r) (kPI (ks i a q r) (fun v => True)) := by
  have hG := kG_self kW0 hI hr
  refine km_ofPI (q := (mi_h234, mi_c234)) rfl (by decide) (Nat.le_of_ble_eq_true rfl) ?_
  intro P hP
  first | refine ft_go mi_k234 5 7 [(5, .int x3), (4, .int x2.toInt8.toInt32), (0, .ref (mi_RO + 24)), (1, .int x2), (2, .int x3), (3, .int x4)] [] i a q r (by rfl) ?_ | refine ko_steps mi_in234 5 _ (7, [(5, .int x3), (4, .int x2.toInt8.toInt32), (0, .ref (mi_RO + 24)), (1, .int x2), (2, .int x3), (3, .int x4)], [], (0, 0), ks i a q r) (by rfl) ?_
  have lp1 : ∀ (nz : Nat) (l5_1 : Int32), (0 : Int) ≤ l5_1.toInt → ((x4.toInt - l5_1.toInt)).toNat < nz → ko 1 (mi_h234, mi_c234) P (7, [(5, .int l5_1), (4, .int x2.toInt8.toInt32), (0, .ref (mi_RO + 24)), (1, .int x2), (2, .int x3), (3, .int x4)], [], (0, 0), ks i a q r) := by
    intro nz
    induction nz with
    | zero =>
      intro _ _ hm
      exact absurd hm (Nat.not_lt_zero _)
    | succ nz ih1 =>
      intro l5_1 p1_0 hm1
      first | refine ft_go mi_k234 2 10 [(5, .int l5_1), (4, .int x2.toInt8.toInt32), (0, .ref (mi_RO + 24)), (1, .int x2), (2, .int x3), (3, .int x4)] [.int x4, .int l5_1] i a q r (by rfl) ?_ | refine ko_steps mi_in234 2 _ (10, [(5, .int l5_1), (4, .int x2.toInt8.toInt32), (0, .ref (mi_RO + 24)), (1, .int x2), (2, .int x3), (3, .int x4)], [.int x4, .int l5_1], (0, 0), ks i a q r) (by rfl) ?_
      refine ft_if mi_k234 (decide (x4 ≤ l5_1)) 31 13 [(5, .int l5_1), (4, .int x2.toInt8.toInt32), (0, .ref (mi_RO + 24)), (1, .int x2), (2, .int x3), (3, .int x4)] [] (by rfl) (fun c => ?_) (fun c => ?_)
      ·
        have c2 : x4.toInt ≤ l5_1.toInt := kd_le c; clear c
        first | refine ft_go mi_k234 1 32 [(5, .int l5_1), (4, .int x2.toInt8.toInt32), (0, .ref (mi_RO + 24)), (1, .int x2), (2, .int x3), (3, .int x4)] [.int (-1)] i a q r (by rfl) ?_ | refine ko_steps mi_in234 1 _ (32, [(5, .int l5_1), (4, .int x2.toInt8.toInt32), (0, .ref (mi_RO + 24)), (1, .int x2), (2, .int x3), (3, .int x4)], [.int (-1)], (0, 0), ks i a q r) (by rfl) ?_
        exact ft_ret mi_k234 (by rfl) (hP (-1) trivial)
      ·
        have c3 : l5_1.toInt < x4.toInt := kd_leF c; clear c
        first | refine ft_go mi_k234 2 16 [(5, .int l5_1), (4, .int x2.toInt8.toInt32), (0, .ref (mi_RO + 24)), (1, .int x2), (2, .int x3), (3, .int x4)] [.int l5_1, .ref (mi_RO + 24)] i a q r (by rfl) ?_ | refine ko_steps mi_in234 2 _ (16, [(5, .int l5_1), (4, .int x2.toInt8.toInt32), (0, .ref (mi_RO + 24)), (1, .int x2), (2, .int x3), (3, .int x4)], [.int l5_1, .ref (mi_RO + 24)], (0, 0), ks i a q r) (by rfl) ?_
        refine ko_baro2 mi_k234.1 (l := [60, 61, 62]) (n := 3) (c := 3) (ax := (0, 0, 0, 0, 0)) (mi_k234.2 _ _ (by rfl)) (by rfl) (by rfl) rfl rfl (oz3 p1_0) (oz922 c3 hp1) ?_
        first | refine ft_go mi_k234 1 19 [(5, .int l5_1), (4, .int x2.toInt8.toInt32), (0, .ref (mi_RO + 24)), (1, .int x2), (2, .int x3), (3, .int x4)] [.int x2.toInt8.toInt32, .int (([60, 61, 62] : List Int32).getD l5_1.toNatClampNeg 0)] i a q r (by rfl) ?_ | refine ko_steps mi_in234 1 _ (19, [(5, .int l5_1), (4, .int x2.toInt8.toInt32), (0, .ref (mi_RO + 24)), (1, .int x2), (2, .int x3), (3, .int x4)], [.int x2.toInt8.toInt32, .int (([60, 61, 62] : List Int32).getD l5_1.toNatClampNeg 0)], (0, 0), ks i a q r) (by rfl) ?_
        refine ft_if mi_k234 ((([60, 61, 62] : List Int32).getD l5_1.toNatClampNeg 0) != x2.toInt8.toInt32) 25 22 [(5, .int l5_1), (4, .int x2.toInt8.toInt32), (0, .ref (mi_RO + 24)), (1, .int x2), (2, .int x3), (3, .int x4)] [] (by rfl) (fun c => ?_) (fun c => ?_)
        ·
          have c4 : (([60, 61, 62] : List Int32).getD l5_1.toNatClampNeg 0).toInt ≠ x2.toInt8.toInt32.toInt := kd_ne c; clear c
          have s5 : (l5_1 + 1).toInt = l5_1.toInt + (1 : Int32).toInt := kd_add (oz12 p1_0 kn1) (oz923 c3 hp1 kn1)
          first | refine ft_go mi_k234 2 7 [(5, .int (l5_1 + 1)), (4, .int x2.toInt8.toInt32), (0, .ref (mi_RO + 24)), (1, .int x2), (2, .int x3), (3, .int x4)] [] i a q r (by rfl) ?_ | refine ko_steps mi_in234 2 _ (7, [(5, .int (l5_1 + 1)), (4, .int x2.toInt8.toInt32), (0, .ref (mi_RO + 24)), (1, .int x2), (2, .int x3), (3, .int x4)], [], (0, 0), ks i a q r) (by rfl) ?_
          exact ih1 _ (oz14 p1_0 s5 kn1) (kj_meas (oz44 s5 kn1) (oz45 c3) hm1)
        ·
          have c6 : (([60, 61, 62] : List Int32).getD l5_1.toNatClampNeg 0).toInt = x2.toInt8.toInt32.toInt := kd_neF c; clear c
          first | refine ft_go mi_k234 1 24 [(5, .int l5_1), (4, .int x2.toInt8.toInt32), (0, .ref (mi_RO + 24)), (1, .int x2), (2, .int x3), (3, .int x4)] [.int l5_1] i a q r (by rfl) ?_ | refine ko_steps mi_in234 1 _ (24, [(5, .int l5_1), (4, .int x2.toInt8.toInt32), (0, .ref (mi_RO + 24)), (1, .int x2), (2, .int x3), (3, .int x4)], [.int l5_1], (0, 0), ks i a q r) (by rfl) ?_
          exact ft_ret mi_k234 (by rfl) (hP l5_1 trivial)
  exact lp1 _ _ (oz3 hp0) (Nat.lt_succ_self _)
set_option maxRecDepth 100000 in
theorem kc233_S24 {i : Nat → Int32} {a : Nat → List Int32} {q : Nat → List Int64} {r : Nat → Nat} (hI : kI i a q) (hr : kr r) (x2 : Int32) (x3 : Int32) (x4 : Int32) : km 3 233 [.ref (mi_RO + 24), .int x2, .int x3, .int x4] (ks i a q r) (kPI (ks i a q r) (fun v => True)) := by
  have hG := kG_self kW0 hI hr
  refine km_ofPI (q := (mi_h233, mi_c233)) rfl (by decide) (Nat.le_of_ble_eq_true rfl) ?_
  intro P hP
  first | refine ft_go mi_k233 1 1 [(0, .ref (mi_RO + 24)), (1, .int x2), (2, .int x3), (3, .int x4)] [.int x2] i a q r (by rfl) ?_ | refine ko_steps mi_in233 1 _ (1, [(0, .ref (mi_RO + 24)), (1, .int x2), (2, .int x3), (3, .int x4)], [.int x2], (0, 0), ks i a q r) (by rfl) ?_
  refine ko_callPI mi_k233.1 (pc := 1) (ls := [(0, .ref (mi_RO + 24)), (1, .int x2), (2, .int x3), (3, .int x4)]) (st := [.int x2]) (h := ks i a q r) (i := (.invokestatic 88, 3, 232, 0, 9, 0, 195)) (mi_k233.2 _ _ (by rfl)) (ft_invS mi_pq232 (by rfl)) (cy := mi_c232) mi_pq232 rfl (kc232 hG.I hG.R x2) (by decide) ?_
  intro vg1 hg1
  rcases hg1 with ⟨eg1, hg1⟩ | ⟨eg1, hg1⟩
  ·
    subst eg1
    first | refine ft_go mi_k233 3 11 [(0, .ref (mi_RO + 24)), (1, .int x2), (2, .int x3), (3, .int x4)] [.int 0, .int x3] i a q r (by rfl) ?_ | refine ko_steps mi_in233 3 _ (11, [(0, .ref (mi_RO + 24)), (1, .int x2), (2, .int x3), (3, .int x4)], [.int 0, .int x3], (0, 0), ks i a q r) (by rfl) ?_
    have m3 : ((x3.toInt ≤ (bif decide (x3 < 0) then 0 else x3).toInt) ∧ ((0 : Int32).toInt ≤ (bif decide (x3 < 0) then 0 else x3).toInt)) ∧ ((bif decide (x3 < 0) then 0 else x3).toInt = x3.toInt ∨ (bif decide (x3 < 0) then 0 else x3).toInt = (0 : Int32).toInt) := kd_max
    first | refine ft_go mi_k233 1 14 [(0, .ref (mi_RO + 24)), (1, .int x2), (2, .int x3), (3, .int x4)] [.int (bif decide (x3 < 0) then 0 else x3)] i a q r (by rfl) ?_ | refine ko_steps mi_in233 1 _ (14, [(0, .ref (mi_RO + 24)), (1, .int x2), (2, .int x3), (3, .int x4)], [.int (bif decide (x3 < 0) then 0 else x3)], (0, 0), ks i a q r) (by rfl) ?_
    generalize (bif decide (x3 < 0) then 0 else x3) = m2 at m3 ⊢
    first | refine ft_go mi_k233 4 18 [(2, .int m2), (0, .ref (mi_RO + 24)), (1, .int x2), (3, .int x4)] [.int 3, .int x4] i a q r (by rfl) ?_ | refine ko_steps mi_in233 4 _ (18, [(2, .int m2), (0, .ref (mi_RO + 24)), (1, .int x2), (3, .int x4)], [.int 3, .int x4], (0, 0), ks i a q r) (by rfl) ?_
    have m5 : (((bif decide (3 < x4) then 3 else x4).toInt ≤ x4.toInt) ∧ ((bif decide (3 < x4) then 3 else x4).toInt ≤ (3 : Int32).toInt)) ∧ ((bif decide (3 < x4) then 3 else x4).toInt = x4.toInt ∨ (bif decide (3 < x4) then 3 else x4).toInt = (3 : Int32).toInt) := kd_min
    first | refine ft_go mi_k233 1 21 [(2, .int m2), (0, .ref (mi_RO + 24)), (1, .int x2), (3, .int x4)] [.int (bif decide (3 < x4) then 3 else x4)] i a q r (by rfl) ?_ | refine ko_steps mi_in233 1 _ (21, [(2, .int m2), (0, .ref (mi_RO + 24)), (1, .int x2), (3, .int x4)], [.int (bif decide (3 < x4) then 3 else x4)], (0, 0), ks i a q r) (by rfl) ?_
    generalize (bif decide (3 < x4) then 3 else x4) = m4 at m5 ⊢
    first | refine ft_go mi_k233 3 24 [(3, .int m4), (2, .int m2), (0, .ref (mi_RO + 24)), (1, .int x2)] [.int m4, .int m2] i a q r (by rfl) ?_ | refine ko_steps mi_in233 3 _ (24, [(3, .int m4), (2, .int m2), (0, .ref (mi_RO + 24)), (1, .int x2)], [.int m4, .int m2], (0, 0), ks i a q r) (by rfl) ?_
    refine ft_if mi_k233 (decide (m2 < m4)) 29 27 [(3, .int m4), (2, .int m2), (0, .ref (mi_RO + 24)), (1, .int x2)] [] (by rfl) (fun c => ?_) (fun c => ?_)
    ·
      have c6 : m2.toInt < m4.toInt := kd_lt c; clear c
      first | refine ft_go mi_k233 4 33 [(3, .int m4), (2, .int m2), (0, .ref (mi_RO + 24)), (1, .int x2)] [.int m4, .int m2, .int x2, .ref (mi_RO + 24)] i a q r (by rfl) ?_ | refine ko_steps mi_in233 4 _ (33, [(3, .int m4), (2, .int m2), (0, .ref (mi_RO + 24)), (1, .int x2)], [.int m4, .int m2, .int x2, .ref (mi_RO + 24)], (0, 0), ks i a q r) (by rfl) ?_
      refine ko_callPI mi_k233.1 (pc := 33) (ls := [(3, .int m4), (2, .int m2), (0, .ref (mi_RO + 24)), (1, .int x2)]) (st := [.int m4, .int m2, .int x2, .ref (mi_RO + 24)]) (h := ks i a q r) (i := (.invokestatic 95, 3, 234, 0, 9, 0, 198)) (mi_k233.2 _ _ (by rfl)) (ft_invS mi_pq234 (by rfl)) (cy := mi_c234) mi_pq234 rfl (kc234_S24 hG.I hG.R x2 m2 m4 (oz389 m3.1.2 kn0) (oz924 m5.1.2 kn3)) (by decide) ?_
      intro vg7 hg7
      exact ft_ret mi_k233 (by rfl) (hP vg7 trivial)
    ·
      have c8 : m4.toInt ≤ m2.toInt := kd_ltF c; clear c
      first | refine ft_go mi_k233 1 28 [(3, .int m4), (2, .int m2), (0, .ref (mi_RO + 24)), (1, .int x2)] [.int (-1)] i a q r (by rfl) ?_ | refine ko_steps mi_in233 1 _ (28, [(3, .int m4), (2, .int m2), (0, .ref (mi_RO + 24)), (1, .int x2)], [.int (-1)], (0, 0), ks i a q r) (by rfl) ?_
      exact ft_ret mi_k233 (by rfl) (hP (-1) trivial)
  ·
    subst eg1
    first | refine ft_go mi_k233 2 8 [(0, .ref (mi_RO + 24)), (1, .int x2), (2, .int x3), (3, .int x4)] [.int (-1)] i a q r (by rfl) ?_ | refine ko_steps mi_in233 2 _ (8, [(0, .ref (mi_RO + 24)), (1, .int x2), (2, .int x3), (3, .int x4)], [.int (-1)], (0, 0), ks i a q r) (by rfl) ?_
    exact ft_ret mi_k233 (by rfl) (hP (-1) trivial)
set_option maxRecDepth 100000 in
theorem kc229_S14 {i : Nat → Int32} {a : Nat → List Int32} {q : Nat → List Int64} {r : Nat → Nat} (hI : kI i a q) (hr : kr r) (x1 : Int32) (x2 : Int32) : km 5 229 [.ref (mi_RO + 14), .int x1, .int x2] (ks i a q r) (kPI (ks i a q r) (fun v => True)) := by
  have hG := kG_self kW0 hI hr
  refine km_ofPI (q := (mi_h229, mi_c229)) rfl (by decide) (Nat.le_of_ble_eq_true rfl) ?_
  intro P hP
  refine ft_go mi_k229 1 1 [(0, .ref (mi_RO + 14)), (1, .int x1), (2, .int x2)] [.ref (mi_RO + 14)] i a q r (by rfl) ?_
  refine ko_callPI mi_k229.1 (pc := 1) (ls := [(0, .ref (mi_RO + 14)), (1, .int x1), (2, .int x2)]) (st := [.ref (mi_RO + 14)]) (h := ks i a q r) (i := (.invokevirtual 492, 3, 231, 0, 9, 0, 192)) (mi_k229.2 _ _ (by rfl)) (ft_invS mi_pq231 (by rfl)) (cy := mi_c231) mi_pq231 rfl (kc231_S14 hG.I hG.R ) (by decide) ?_
  intro vg1 hg1
  rcases hg1 with ⟨eg1, hg1⟩ | ⟨eg1, hg1⟩
  ·
    subst eg1
    refine ft_go mi_k229 6 14 [(0, .ref (mi_RO + 14)), (1, .int x1), (2, .int x2)] [.ref (mi_RO + 14), .int x2, .int x1, .ref (mi_RO + 24)] i a q r (by rfl) ?_
    refine ko_callPI mi_k229.1 (pc := 14) (ls := [(0, .ref (mi_RO + 14)), (1, .int x1), (2, .int x2)]) (st := [.ref (mi_RO + 14), .int x2, .int x1, .ref (mi_RO + 24)]) (h := ks i a q r) (i := (.invokevirtual 505, 3, 227, 0, 9, 0, 193)) (mi_k229.2 _ _ (by rfl)) (ft_invS mi_pq227 (by rfl)) (cy := mi_c227) mi_pq227 rfl (kc227_S14 hG.I hG.R ) (by decide) ?_
    intro vg2 hg2
    refine ko_callPI mi_k229.1 (pc := 17) (ls := [(0, .ref (mi_RO + 14)), (1, .int x1), (2, .int x2)]) (st := [.int vg2, .int x2, .int x1, .ref (mi_RO + 24)]) (h := ks i a q r) (i := (.invokestatic 637, 3, 233, 0, 9, 0, 194)) (mi_k229.2 _ _ (by rfl)) (ft_invS mi_pq233 (by rfl)) (cy := mi_c233) mi_pq233 rfl (kc233_S24 hG.I hG.R x1 x2 vg2) (by decide) ?_
    intro vg3 hg3
    refine ft_go mi_k229 1 36 [(0, .ref (mi_RO + 14)), (1, .int x1), (2, .int x2)] [.int vg3] i a q r (by rfl) ?_
    exact ft_ret mi_k229 (by rfl) (hP vg3 trivial)
  ·
    subst eg1
    have z4 : (2 : Int) ≤ 1 := hg1
    exact (oz755 z4).elim
set_option maxRecDepth 100000 in
theorem kc228_S14 {i : Nat → Int32} {a : Nat → List Int32} {q : Nat → List Int64} {r : Nat → Nat} (hI : kI i a q) (hr : kr r) (x1 : Int32) : km 7 228 [.ref (mi_RO + 14), .int x1] (ks i a q r) (kPI (ks i a q r) (fun v => True)) := by
  have hG := kG_self kW0 hI hr
  refine km_ofPI (q := (mi_h228, mi_c228)) rfl (by decide) (Nat.le_of_ble_eq_true rfl) ?_
  intro P hP
  refine ft_go mi_k228 3 3 [(0, .ref (mi_RO + 14)), (1, .int x1)] [.int 0, .int x1, .ref (mi_RO + 14)] i a q r (by rfl) ?_
  refine ko_callPI mi_k228.1 (pc := 3) (ls := [(0, .ref (mi_RO + 14)), (1, .int x1)]) (st := [.int 0, .int x1, .ref (mi_RO + 14)]) (h := ks i a q r) (i := (.invokevirtual 633, 3, 229, 0, 9, 0, 191)) (mi_k228.2 _ _ (by rfl)) (ft_invS mi_pq229 (by rfl)) (cy := mi_c229) mi_pq229 rfl (kc229_S14 hG.I hG.R x1 0) (by decide) ?_
  intro vg1 hg1
  exact ft_ret mi_k228 (by rfl) (hP vg1 trivial)
def w47_98_S14 : kW := ([6274], [], [], [])
set_option maxRecDepth 100000 in
theorem kc47_98_S14 {i : Nat → Int32} {a : Nat → List Int32} {q : Nat → List Int64} {r : Nat → Nat} (hI : kI i a q) (hr : kr r)  : km 9 47 [.ref 98, .ref (mi_RO + 14)] (ks i a q r) (kVI w47_98_S14 i a q r (fun v i1 a1 q1 r1 => True)) := by
  have hG := kG_self w47_98_S14 hI hr
  refine km_ofI (q := (mi_h47, mi_c47)) rfl (by decide) (Nat.le_of_ble_eq_true rfl) ?_
  intro P hP
  refine ft_go mi_k47 1 1 [(0, .ref 98), (1, .ref (mi_RO + 14))] [.ref 98] i a q r (by rfl) ?_
  refine ko_callPI mi_k47.1 (pc := 1) (ls := [(0, .ref 98), (1, .ref (mi_RO + 14))]) (st := [.ref 98]) (h := ks i a q r) (i := (.invokevirtual 46, 3, 45, 0, 9, 0, 184)) (mi_k47.2 _ _ (by rfl)) (ft_invS mi_pq45 (by rfl)) (cy := mi_c45) mi_pq45 rfl (kc45_98 hG.I hG.R ) (by decide) ?_
  intro vg1 hg1
  have fi_6274 : ((0 : Int) ≤ (i 6274).toInt) ∧ ((i 6274).toInt ≤ 120) := hG.I.1 6274
  have fi_6273 : ((0 : Int) ≤ (i 6273).toInt) ∧ ((i 6273).toInt ≤ 120) := hG.I.1 6273
  have z2 : (vg1.toInt = (-1)) ∨ ((i 6274).toInt < (i 6273).toInt) := hg1
  refine ft_go mi_k47 3 7 [(2, .int vg1), (0, .ref 98), (1, .ref (mi_RO + 14))] [.int (-1), .int vg1] i a q r (by rfl) ?_
  refine ft_if mi_k47 (vg1 == (-1)) 19 10 [(2, .int vg1), (0, .ref 98), (1, .ref (mi_RO + 14))] [] (by rfl) (fun c => ?_) (fun c => ?_)
  ·
    have c3 : vg1.toInt = ((-1) : Int32).toInt := kd_eq c; clear c
    refine ft_go mi_k47 1 20 [(2, .int vg1), (0, .ref 98), (1, .ref (mi_RO + 14))] [.int (-1)] i a q r (by rfl) ?_
    exact ft_ret mi_k47 (by rfl) (hP (-1) _ _ _ _ hG trivial)
  ·
    have c4 : vg1.toInt ≠ ((-1) : Int32).toInt := kd_eqF c; clear c
    refine ft_go mi_k47 3 13 [(2, .int vg1), (0, .ref 98), (1, .ref (mi_RO + 14))] [.int ((vg1.toUInt32 % 65536).toInt32), .ref (mi_RO + 14)] i a q r (by rfl) ?_
    refine ko_callPI mi_k47.1 (pc := 13) (ls := [(2, .int vg1), (0, .ref 98), (1, .ref (mi_RO + 14))]) (st := [.int ((vg1.toUInt32 % 65536).toInt32), .ref (mi_RO + 14)]) (h := ks i a q r) (i := (.invokevirtual 50, 3, 228, 0, 9, 0, 190)) (mi_k47.2 _ _ (by rfl)) (ft_invS mi_pq228 (by rfl)) (cy := mi_c228) mi_pq228 rfl (kc228_S14 hG.I hG.R ((vg1.toUInt32 % 65536).toInt32)) (by decide) ?_
    intro vg5 hg5
    refine ft_if mi_k47 (decide (0 ≤ vg5)) 21 19 [(2, .int vg1), (0, .ref 98), (1, .ref (mi_RO + 14))] [] (by rfl) (fun c => ?_) (fun c => ?_)
    ·
      have c6 : (0 : Int32).toInt ≤ vg5.toInt := kd_le c; clear c
      have s7 : ((i 6274) + 1).toInt = (i 6274).toInt + (1 : Int32).toInt := kd_add (oz12 fi_6274.1 kn1) (oz192 fi_6274.2 kn1)
      have hJ8 := kG_i hG 6274 rfl (v := ((i 6274) + 1)) ⟨(oz14 fi_6274.1 s7 kn1), (oz921 c4 fi_6273.2 s7 z2 knm1 kn1)⟩
      refine ft_go mi_k47 7 32 [(2, .int vg1), (0, .ref 98), (1, .ref (mi_RO + 14))] [.int vg1] (ku i 6274 ((i 6274) + 1)) a q r (by rfl) ?_
      exact ft_ret mi_k47 (by rfl) (hP vg1 _ _ _ _ hJ8 trivial)
    ·
      have c9 : vg5.toInt < (0 : Int32).toInt := kd_leF c; clear c
      refine ft_go mi_k47 1 20 [(2, .int vg1), (0, .ref 98), (1, .ref (mi_RO + 14))] [.int (-1)] i a q r (by rfl) ?_
      exact ft_ret mi_k47 (by rfl) (hP (-1) _ _ _ _ hG trivial)
def wT : kW := ([643, 6274, 6275, 6403], [11, 12, 101, 102], [], [])
def kLT_54 (n : Nat) : Prop := ∀ (i : Nat → Int32) (a : Nat → List Int32) (q : Nat → List Int64) (r : Nat → Nat), kI i a q → kr r → ∀ (x1 : Int32), ((0 : Int) ≤ x1.toInt) ∧ ((x1.toInt + (n : Int)) = 6) → km (6 * n + 10) 54 [.ref 98, .int x1] (ks i a q r) (kVN wT i a q r (fun i1 a1 q1 r1 => True))
def w53_98_L14 : kW := ([643, 6274, 6275, 6403], [11, 12, 101, 102], [], [])
def kLT_53 (n : Nat) : Prop := ∀ (i : Nat → Int32) (a : Nat → List Int32) (q : Nat → List Int64) (r : Nat → Nat), kI i a q → kr r → ∀ (x1 : Int32), ((0 : Int) ≤ x1.toInt) ∧ ((x1.toInt + (n : Int)) = 6) → km (6 * n + 11) 53 [.ref 98, .int x1] (ks i a q r) (kVN wT i a q r (fun i1 a1 q1 r1 => True))
def w52_98_L14 : kW := ([643, 6274, 6275, 6403], [11, 12, 101, 102], [], [])
def kLT_52 (n : Nat) : Prop := ∀ (i : Nat → Int32) (a : Nat → List Int32) (q : Nat → List Int64) (r : Nat → Nat), kI i a q → kr r → ∀ (x1 : Int32), ((0 : Int) ≤ x1.toInt) ∧ ((x1.toInt + (n : Int)) = 6) → km (6 * n + 12) 52 [.ref 98, .int x1] (ks i a q r) (kVN wT i a q r (fun i1 a1 q1 r1 => True))
def kLT_51 (n : Nat) : Prop := ∀ (i : Nat → Int32) (a : Nat → List Int32) (q : Nat → List Int64) (r : Nat → Nat), kI i a q → kr r → ∀ (x1 : Int32), ((0 : Int) ≤ x1.toInt) ∧ ((x1.toInt + (n : Int)) = 6) → km (6 * n + 13) 51 [.ref 98, .int x1] (ks i a q r) (kVN wT i a q r (fun i1 a1 q1 r1 => True))
def w50_98_L7 : kW := ([643, 6274, 6275, 6403], [11, 12, 101, 102], [], [])
def kLT_50 (n : Nat) : Prop := ∀ (i : Nat → Int32) (a : Nat → List Int32) (q : Nat → List Int64) (r : Nat → Nat), kI i a q → kr r → ∀ (x1 : Int32), ((0 : Int) ≤ x1.toInt) ∧ ((x1.toInt + (n : Int)) = 6) → km (6 * n + 14) 50 [.ref 98, .int x1] (ks i a q r) (kVN wT i a q r (fun i1 a1 q1 r1 => True))
def w49_98_L7 : kW := ([643, 6274, 6275, 6403], [11, 12, 101, 102], [], [])
def kLT_49 (n : Nat) : Prop := ∀ (i : Nat → Int32) (a : Nat → List Int32) (q : Nat → List Int64) (r : Nat → Nat), kI i a q → kr r → ∀ (x1 : Int32), ((0 : Int) ≤ x1.toInt) ∧ ((x1.toInt + (n : Int)) = 6) → km (6 * n + 15) 49 [.ref 98, .int x1] (ks i a q r) (kVN wT i a q r (fun i1 a1 q1 r1 => True))
set_option maxRecDepth 100000 in
theorem kLsT_54 (n : Nat)  (ih : ∀ m, n = m + 1 → kLT_49 m ∧ kLT_54 m) : kLT_54 n := by
  intro i a q r hI hr x1 hp0
  have hG := kG_self wT hI hr
  refine km_ofN (q := (mi_h54, mi_c54)) rfl (by decide) (Nat.le_of_ble_eq_true rfl) ?_
  intro P hP
  have hn0 : (0 : Int) ≤ (n : Int) := Int.natCast_nonneg n
  refine ft_go mi_k54 1 1 [(0, .ref 98), (1, .int x1)] [.ref 98] i a q r (by rfl) ?_
  refine ko_callPI mi_k54.1 (pc := 1) (ls := [(0, .ref 98), (1, .int x1)]) (st := [.ref 98]) (h := ks i a q r) (i := (.invokevirtual 46, 3, 45, 0, 9, 0, 184)) (mi_k54.2 _ _ (by rfl)) (ft_invS mi_pq45 (by rfl)) (cy := mi_c45) mi_pq45 rfl (kc45_98 hG.I hG.R ) (kj_d3 (n := n) (c := 1) (o1 := 10) (by decide)) ?_
  intro vg1 hg1
  have fi_6274 : ((0 : Int) ≤ (i 6274).toInt) ∧ ((i 6274).toInt ≤ 120) := hG.I.1 6274
  have fi_6273 : ((0 : Int) ≤ (i 6273).toInt) ∧ ((i 6273).toInt ≤ 120) := hG.I.1 6273
  have z2 : (vg1.toInt = (-1)) ∨ ((i 6274).toInt < (i 6273).toInt) := hg1
  refine ft_go mi_k54 2 6 [(2, .int vg1), (0, .ref 98), (1, .int x1)] [.int vg1] i a q r (by rfl) ?_
  refine ko_callPI mi_k54.1 (pc := 6) (ls := [(2, .int vg1), (0, .ref 98), (1, .int x1)]) (st := [.int vg1]) (h := ks i a q r) (i := (.invokestatic 92, 3, 56, 0, 9, 0, 185)) (mi_k54.2 _ _ (by rfl)) (ft_invS mi_pq56 (by rfl)) (cy := mi_c56) mi_pq56 rfl (kc56 hG.I hG.R vg1) (kj_d3 (n := n) (c := 1) (o1 := 10) (by decide)) ?_
  intro vg3 hg3
  rcases hg3 with ⟨eg3, hg3⟩ | ⟨eg3, hg3⟩
  ·
    subst eg3
    have z4 : ((48 : Int) ≤ vg1.toInt) ∧ (vg1.toInt ≤ 57) := hg3
    refine ft_go mi_k54 2 13 [(2, .int vg1), (0, .ref 98), (1, .int x1)] [.ref 98] i a q r (by rfl) ?_
    refine ko_callN mi_k54.1 (pc := 13) (ls := [(2, .int vg1), (0, .ref 98), (1, .int x1)]) (st := [.ref 98]) (h := ks i a q r) (i := (.invokevirtual 95, 3, 55, 0, 9, 0, 186)) (mi_k54.2 _ _ (by rfl)) (ft_invS mi_pq55 (by rfl)) (cy := mi_c55) mi_pq55 rfl (kc55_98 hG.I hG.R ) (kj_d3 (n := n) (c := 3) (o1 := 10) (by decide)) ?_
    intro ig5 ag5 qg5 rg5 kg5 hg5
    have hGg5 := kG_call hG kg5 (by decide +kernel)
    exact ft_ret mi_k54 (by rfl) (hP  _ _ _ _ hGg5 trivial)
  ·
    subst eg3
    have z6 : ¬ (((48 : Int) ≤ vg1.toInt) ∧ (vg1.toInt ≤ 57)) := hg3
    refine ft_go mi_k54 3 20 [(2, .int vg1), (0, .ref 98), (1, .int x1)] [.ref (mi_RO + 10), .ref 98] i a q r (by rfl) ?_
    refine ko_callI mi_k54.1 (pc := 20) (ls := [(2, .int vg1), (0, .ref 98), (1, .int x1)]) (st := [.ref (mi_RO + 10), .ref 98]) (h := ks i a q r) (i := (.invokevirtual 78, 3, 47, 0, 9, 0, 189)) (mi_k54.2 _ _ (by rfl)) (ft_invS mi_pq47 (by rfl)) (cy := mi_c47) mi_pq47 rfl (kc47_98_S10 hG.I hG.R ) (kj_d3 (n := n) (c := 9) (o1 := 10) (by decide)) ?_
    intro vg7 ig7 ag7 qg7 rg7 kg7 hg7
    have hGg7 := kG_call hG kg7 (by decide +kernel)
    refine ft_go mi_k54 3 26 [(3, .int vg7), (2, .int vg1), (0, .ref 98), (1, .int x1)] [.int (-1), .int vg7] ig7 ag7 qg7 rg7 (by rfl) ?_
    refine ft_if mi_k54 (vg7 == (-1)) 46 29 [(3, .int vg7), (2, .int vg1), (0, .ref 98), (1, .int x1)] [] (by rfl) (fun c => ?_) (fun c => ?_)
    ·
      have c8 : vg7.toInt = ((-1) : Int32).toInt := kd_eq c; clear c
      refine ft_go mi_k54 2 49 [(3, .int vg7), (2, .int vg1), (0, .ref 98), (1, .int x1)] [.int 6, .int x1] ig7 ag7 qg7 rg7 (by rfl) ?_
      refine ft_if mi_k54 (decide (6 ≤ x1)) 62 52 [(3, .int vg7), (2, .int vg1), (0, .ref 98), (1, .int x1)] [] (by rfl) (fun c => ?_) (fun c => ?_)
      ·
        have c9 : (6 : Int32).toInt ≤ x1.toInt := kd_le c; clear c
        have hJ10 := kG_i hGg7 6275 rfl (v := 1) ⟨(oz246 kn1), (oz558 kn1)⟩
        refine ft_go mi_k54 3 67 [(3, .int vg7), (2, .int vg1), (0, .ref 98), (1, .int x1)] [] (ku ig7 6275 1) ag7 qg7 rg7 (by rfl) ?_
        exact ft_ret mi_k54 (by rfl) (hP  _ _ _ _ hJ10 trivial)
      ·
        have c11 : x1.toInt < (6 : Int32).toInt := kd_leF c; clear c
        refine ft_go mi_k54 2 55 [(3, .int vg7), (2, .int vg1), (0, .ref 98), (1, .int x1)] [.ref (mi_RO + 11), .ref 98] ig7 ag7 qg7 rg7 (by rfl) ?_
        refine ko_callI mi_k54.1 (pc := 55) (ls := [(3, .int vg7), (2, .int vg1), (0, .ref 98), (1, .int x1)]) (st := [.ref (mi_RO + 11), .ref 98]) (h := ks ig7 ag7 qg7 rg7) (i := (.invokevirtual 78, 3, 47, 0, 9, 0, 189)) (mi_k54.2 _ _ (by rfl)) (ft_invS mi_pq47 (by rfl)) (cy := mi_c47) mi_pq47 rfl (kc47_98_S11 hGg7.I hGg7.R ) (kj_d3 (n := n) (c := 9) (o1 := 10) (by decide)) ?_
        intro vg12 ig12 ag12 qg12 rg12 kg12 hg12
        have hGg12 := kG_call hGg7 kg12 (by decide +kernel)
        refine ft_go mi_k54 1 59 [(3, .int vg7), (2, .int vg1), (0, .ref 98), (1, .int x1)] [.int (-1), .int vg12] ig12 ag12 qg12 rg12 (by rfl) ?_
        refine ft_if mi_k54 (vg12 != (-1)) 68 62 [(3, .int vg7), (2, .int vg1), (0, .ref 98), (1, .int x1)] [] (by rfl) (fun c => ?_) (fun c => ?_)
        ·
          have c13 : vg12.toInt ≠ ((-1) : Int32).toInt := kd_ne c; clear c
          refine ft_go mi_k54 2 71 [(3, .int vg7), (2, .int vg1), (0, .ref 98), (1, .int x1)] [.int 40, .int vg1] ig12 ag12 qg12 rg12 (by rfl) ?_
          refine ft_if mi_k54 (vg1 != 40) 96 74 [(3, .int vg7), (2, .int vg1), (0, .ref 98), (1, .int x1)] [] (by rfl) (fun c => ?_) (fun c => ?_)
          ·
            have c14 : vg1.toInt ≠ (40 : Int32).toInt := kd_ne c; clear c
            have s15 : (x1 + 1).toInt = x1.toInt + (1 : Int32).toInt := kd_add (oz12 hp0.1 kn1) (oz739 hn0 hp0.2 kn1)
            refine ft_go mi_k54 4 100 [(3, .int vg7), (2, .int vg1), (0, .ref 98), (1, .int x1)] [.int (x1 + 1), .ref 98] ig12 ag12 qg12 rg12 (by rfl) ?_
            obtain ⟨m, hm, hmI⟩ := kj_pred (oz925 c11 hp0.2 kn6)
            refine ko_callN mi_k54.1 (pc := 100) (ls := [(3, .int vg7), (2, .int vg1), (0, .ref 98), (1, .int x1)]) (st := [.int (x1 + 1), .ref 98]) (h := ks ig12 ag12 qg12 rg12) (i := (.invokevirtual 87, 3, 54, 0, 9, 0, 183)) (mi_k54.2 _ _ (by rfl)) (ft_invS mi_pq54 (by rfl)) (cy := mi_c54) mi_pq54 rfl ((ih m hm).2 _ _ _ _ hGg12.I hGg12.R (x1 + 1) (oz926 hmI hp0.1 hp0.2 s15 kn1)) (kj_d2 (n := n) (m := m) (o := 10) (o1 := 10) hm (by decide)) ?_
            intro ig16 ag16 qg16 rg16 kg16 hg16
            have hGg16 := kG_call hGg12 kg16 (by decide +kernel)
            refine ft_go mi_k54 2 107 [(3, .int vg7), (2, .int vg1), (0, .ref 98), (1, .int x1)] [.ref (rg16 2)] ig16 ag16 qg16 rg16 (by rfl) ?_
            rcases hGg16.R.1 with ⟨eRrg16_0, eRrg16_2⟩ | ⟨eRrg16_0, eRrg16_2⟩
            ·
              have eRrg16_0 : rg16 0 = 10 := eRrg16_0
              have eRrg16_2 : rg16 2 = 100 := eRrg16_2
              refine ko_eq (x1 := (107, [(3, .int vg7), (2, .int vg1), (0, .ref 98), (1, .int x1)], [.ref 100], (0, 0), ks ig16 ag16 qg16 rg16)) (by rw [eRrg16_2]) ?_
              refine ft_go mi_k54 2 110 [(3, .int vg7), (2, .int vg1), (0, .ref 98), (1, .int x1)] [.int 45, .int vg1, .ref 100] ig16 ag16 qg16 rg16 (by rfl) ?_
              refine ft_if mi_k54 (vg1 != 45) 118 113 [(3, .int vg7), (2, .int vg1), (0, .ref 98), (1, .int x1)] [.ref 100] (by rfl) (fun c => ?_) (fun c => ?_)
              ·
                have c17 : vg1.toInt ≠ (45 : Int32).toInt := kd_ne c; clear c
                refine ft_go mi_k54 2 120 [(3, .int vg7), (2, .int vg1), (0, .ref 98), (1, .int x1)] [.int 0, .int vg1, .ref 100] ig16 ag16 qg16 rg16 (by rfl) ?_
                refine ko_callI mi_k54.1 (pc := 120) (ls := [(3, .int vg7), (2, .int vg1), (0, .ref 98), (1, .int x1)]) (st := [.int 0, .int vg1, .ref 100]) (h := ks ig16 ag16 qg16 rg16) (i := (.invokevirtual 60, 3, 17, 0, 9, 0, 187)) (mi_k54.2 _ _ (by rfl)) (ft_invS mi_pq17 (by rfl)) (cy := mi_c17) mi_pq17 rfl (kc17_100 hGg16.I hGg16.R vg1 0) (kj_d3 (n := n) (c := 1) (o1 := 10) (by decide)) ?_
                intro vg18 ig18 ag18 qg18 rg18 kg18 hg18
                have hGg18 := kG_call hGg16 kg18 (by decide +kernel)
                have eRrg18_0 : rg18 0 = 10 := (kg18.fr 0 rfl).trans eRrg16_0
                have eRrg18_2 : rg18 2 = 100 := (kg18.fr 2 rfl).trans eRrg16_2
                refine ft_go mi_k54 1 124 [(3, .int vg7), (2, .int vg1), (0, .ref 98), (1, .int x1)] [] ig18 ag18 qg18 rg18 (by rfl) ?_
                exact ft_ret mi_k54 (by rfl) (hP  _ _ _ _ hGg18 trivial)
              ·
                have c19 : vg1.toInt = (45 : Int32).toInt := kd_neF c; clear c
                refine ft_go mi_k54 3 120 [(3, .int vg7), (2, .int vg1), (0, .ref 98), (1, .int x1)] [.int 0, .int 126, .ref 100] ig16 ag16 qg16 rg16 (by rfl) ?_
                refine ko_callI mi_k54.1 (pc := 120) (ls := [(3, .int vg7), (2, .int vg1), (0, .ref 98), (1, .int x1)]) (st := [.int 0, .int 126, .ref 100]) (h := ks ig16 ag16 qg16 rg16) (i := (.invokevirtual 60, 3, 17, 0, 9, 0, 187)) (mi_k54.2 _ _ (by rfl)) (ft_invS mi_pq17 (by rfl)) (cy := mi_c17) mi_pq17 rfl (kc17_100 hGg16.I hGg16.R 126 0) (kj_d3 (n := n) (c := 1) (o1 := 10) (by decide)) ?_
                intro vg20 ig20 ag20 qg20 rg20 kg20 hg20
                have hGg20 := kG_call hGg16 kg20 (by decide +kernel)
                have eRrg20_0 : rg20 0 = 10 := (kg20.fr 0 rfl).trans eRrg16_0
                have eRrg20_2 : rg20 2 = 100 := (kg20.fr 2 rfl).trans eRrg16_2
                refine ft_go mi_k54 1 124 [(3, .int vg7), (2, .int vg1), (0, .ref 98), (1, .int x1)] [] ig20 ag20 qg20 rg20 (by rfl) ?_
                exact ft_ret mi_k54 (by rfl) (hP  _ _ _ _ hGg20 trivial)
            ·
              have eRrg16_0 : rg16 0 = 100 := eRrg16_0
              have eRrg16_2 : rg16 2 = 10 := eRrg16_2
              refine ko_eq (x1 := (107, [(3, .int vg7), (2, .int vg1), (0, .ref 98), (1, .int x1)], [.ref 10], (0, 0), ks ig16 ag16 qg16 rg16)) (by rw [eRrg16_2]) ?_
              refine ft_go mi_k54 2 110 [(3, .int vg7), (2, .int vg1), (0, .ref 98), (1, .int x1)] [.int 45, .int vg1, .ref 10] ig16 ag16 qg16 rg16 (by rfl) ?_
              refine ft_if mi_k54 (vg1 != 45) 118 113 [(3, .int vg7), (2, .int vg1), (0, .ref 98), (1, .int x1)] [.ref 10] (by rfl) (fun c => ?_) (fun c => ?_)
              ·
                have c21 : vg1.toInt ≠ (45 : Int32).toInt := kd_ne c; clear c
                refine ft_go mi_k54 2 120 [(3, .int vg7), (2, .int vg1), (0, .ref 98), (1, .int x1)] [.int 0, .int vg1, .ref 10] ig16 ag16 qg16 rg16 (by rfl) ?_
                refine ko_callI mi_k54.1 (pc := 120) (ls := [(3, .int vg7), (2, .int vg1), (0, .ref 98), (1, .int x1)]) (st := [.int 0, .int vg1, .ref 10]) (h := ks ig16 ag16 qg16 rg16) (i := (.invokevirtual 60, 3, 17, 0, 9, 0, 187)) (mi_k54.2 _ _ (by rfl)) (ft_invS mi_pq17 (by rfl)) (cy := mi_c17) mi_pq17 rfl (kc17_10 hGg16.I hGg16.R vg1 0) (kj_d3 (n := n) (c := 1) (o1 := 10) (by decide)) ?_
                intro vg22 ig22 ag22 qg22 rg22 kg22 hg22
                have hGg22 := kG_call hGg16 kg22 (by decide +kernel)
                have eRrg22_0 : rg22 0 = 100 := (kg22.fr 0 rfl).trans eRrg16_0
                have eRrg22_2 : rg22 2 = 10 := (kg22.fr 2 rfl).trans eRrg16_2
                refine ft_go mi_k54 1 124 [(3, .int vg7), (2, .int vg1), (0, .ref 98), (1, .int x1)] [] ig22 ag22 qg22 rg22 (by rfl) ?_
                exact ft_ret mi_k54 (by rfl) (hP  _ _ _ _ hGg22 trivial)
              ·
                have c23 : vg1.toInt = (45 : Int32).toInt := kd_neF c; clear c
                refine ft_go mi_k54 3 120 [(3, .int vg7), (2, .int vg1), (0, .ref 98), (1, .int x1)] [.int 0, .int 126, .ref 10] ig16 ag16 qg16 rg16 (by rfl) ?_
                refine ko_callI mi_k54.1 (pc := 120) (ls := [(3, .int vg7), (2, .int vg1), (0, .ref 98), (1, .int x1)]) (st := [.int 0, .int 126, .ref 10]) (h := ks ig16 ag16 qg16 rg16) (i := (.invokevirtual 60, 3, 17, 0, 9, 0, 187)) (mi_k54.2 _ _ (by rfl)) (ft_invS mi_pq17 (by rfl)) (cy := mi_c17) mi_pq17 rfl (kc17_10 hGg16.I hGg16.R 126 0) (kj_d3 (n := n) (c := 1) (o1 := 10) (by decide)) ?_
                intro vg24 ig24 ag24 qg24 rg24 kg24 hg24
                have hGg24 := kG_call hGg16 kg24 (by decide +kernel)
                have eRrg24_0 : rg24 0 = 100 := (kg24.fr 0 rfl).trans eRrg16_0
                have eRrg24_2 : rg24 2 = 10 := (kg24.fr 2 rfl).trans eRrg16_2
                refine ft_go mi_k54 1 124 [(3, .int vg7), (2, .int vg1), (0, .ref 98), (1, .int x1)] [] ig24 ag24 qg24 rg24 (by rfl) ?_
                exact ft_ret mi_k54 (by rfl) (hP  _ _ _ _ hGg24 trivial)
          ·
            have c25 : vg1.toInt = (40 : Int32).toInt := kd_neF c; clear c
            have s26 : (x1 + 1).toInt = x1.toInt + (1 : Int32).toInt := kd_add (oz12 hp0.1 kn1) (oz739 hn0 hp0.2 kn1)
            refine ft_go mi_k54 4 78 [(3, .int vg7), (2, .int vg1), (0, .ref 98), (1, .int x1)] [.int (x1 + 1), .ref 98] ig12 ag12 qg12 rg12 (by rfl) ?_
            obtain ⟨m, hm, hmI⟩ := kj_pred (oz925 c11 hp0.2 kn6)
            refine ko_callN mi_k54.1 (pc := 78) (ls := [(3, .int vg7), (2, .int vg1), (0, .ref 98), (1, .int x1)]) (st := [.int (x1 + 1), .ref 98]) (h := ks ig12 ag12 qg12 rg12) (i := (.invokevirtual 56, 3, 49, 0, 9, 0, 178)) (mi_k54.2 _ _ (by rfl)) (ft_invS mi_pq49 (by rfl)) (cy := mi_c49) mi_pq49 rfl ((ih m hm).1 _ _ _ _ hGg12.I hGg12.R (x1 + 1) (oz926 hmI hp0.1 hp0.2 s26 kn1)) (kj_d2 (n := n) (m := m) (o := 15) (o1 := 10) hm (by decide)) ?_
            intro ig27 ag27 qg27 rg27 kg27 hg27
            have hGg27 := kG_call hGg12 kg27 (by decide +kernel)
            refine ft_go mi_k54 2 84 [(3, .int vg7), (2, .int vg1), (0, .ref 98), (1, .int x1)] [.int 41, .ref 98] ig27 ag27 qg27 rg27 (by rfl) ?_
            refine ko_callI mi_k54.1 (pc := 84) (ls := [(3, .int vg7), (2, .int vg1), (0, .ref 98), (1, .int x1)]) (st := [.int 41, .ref 98]) (h := ks ig27 ag27 qg27 rg27) (i := (.invokevirtual 39, 3, 46, 0, 9, 0, 200)) (mi_k54.2 _ _ (by rfl)) (ft_invS mi_pq46 (by rfl)) (cy := mi_c46) mi_pq46 rfl (kc46_98 hGg27.I hGg27.R 41 (oz774 kn41)) (kj_d3 (n := n) (c := 3) (o1 := 10) (by decide)) ?_
            intro vg28 ig28 ag28 qg28 rg28 kg28 hg28
            have hGg28 := kG_call hGg27 kg28 (by decide +kernel)
            rcases hg28 with ⟨eg28, hg28⟩ | ⟨eg28, hg28⟩
            ·
              subst eg28
              refine ft_go mi_k54 1 95 [(3, .int vg7), (2, .int vg1), (0, .ref 98), (1, .int x1)] [] ig28 ag28 qg28 rg28 (by rfl) ?_
              exact ft_ret mi_k54 (by rfl) (hP  _ _ _ _ hGg28 trivial)
            ·
              subst eg28
              have hJ29 := kG_i hGg28 6275 rfl (v := 1) ⟨(oz246 kn1), (oz558 kn1)⟩
              refine ft_go mi_k54 4 95 [(3, .int vg7), (2, .int vg1), (0, .ref 98), (1, .int x1)] [] (ku ig28 6275 1) ag28 qg28 rg28 (by rfl) ?_
              exact ft_ret mi_k54 (by rfl) (hP  _ _ _ _ hJ29 trivial)
        ·
          have c30 : vg12.toInt = ((-1) : Int32).toInt := kd_neF c; clear c
          have hJ31 := kG_i hGg12 6275 rfl (v := 1) ⟨(oz246 kn1), (oz558 kn1)⟩
          refine ft_go mi_k54 3 67 [(3, .int vg7), (2, .int vg1), (0, .ref 98), (1, .int x1)] [] (ku ig12 6275 1) ag12 qg12 rg12 (by rfl) ?_
          exact ft_ret mi_k54 (by rfl) (hP  _ _ _ _ hJ31 trivial)
    ·
      have c32 : vg7.toInt ≠ ((-1) : Int32).toInt := kd_eqF c; clear c
      refine ft_go mi_k54 2 33 [(3, .int vg7), (2, .int vg1), (0, .ref 98), (1, .int x1)] [.ref (rg7 2)] ig7 ag7 qg7 rg7 (by rfl) ?_
      rcases hGg7.R.1 with ⟨eRrg7_0, eRrg7_2⟩ | ⟨eRrg7_0, eRrg7_2⟩
      ·
        have eRrg7_0 : rg7 0 = 10 := eRrg7_0
        have eRrg7_2 : rg7 2 = 100 := eRrg7_2
        refine ko_eq (x1 := (33, [(3, .int vg7), (2, .int vg1), (0, .ref 98), (1, .int x1)], [.ref 100], (0, 0), ks ig7 ag7 qg7 rg7)) (by rw [eRrg7_2]) ?_
        refine ft_go mi_k54 4 38 [(3, .int vg7), (2, .int vg1), (0, .ref 98), (1, .int x1)] [.int ((vg7.toUInt32 % 65536).toInt32), .ref (mi_RO + 10), .int 1, .ref 100] ig7 ag7 qg7 rg7 (by rfl) ?_
        refine ko_callPI mi_k54.1 (pc := 38) (ls := [(3, .int vg7), (2, .int vg1), (0, .ref 98), (1, .int x1)]) (st := [.int ((vg7.toUInt32 % 65536).toInt32), .ref (mi_RO + 10), .int 1, .ref 100]) (h := ks ig7 ag7 qg7 rg7) (i := (.invokevirtual 50, 3, 228, 0, 9, 0, 190)) (mi_k54.2 _ _ (by rfl)) (ft_invS mi_pq228 (by rfl)) (cy := mi_c228) mi_pq228 rfl (kc228_S10 hGg7.I hGg7.R ((vg7.toUInt32 % 65536).toInt32)) (kj_d3 (n := n) (c := 7) (o1 := 10) (by decide)) ?_
        intro vg33 hg33
        refine ko_callI mi_k54.1 (pc := 41) (ls := [(3, .int vg7), (2, .int vg1), (0, .ref 98), (1, .int x1)]) (st := [.int vg33, .int 1, .ref 100]) (h := ks ig7 ag7 qg7 rg7) (i := (.invokevirtual 60, 3, 17, 0, 9, 0, 187)) (mi_k54.2 _ _ (by rfl)) (ft_invS mi_pq17 (by rfl)) (cy := mi_c17) mi_pq17 rfl (kc17_100 hGg7.I hGg7.R 1 vg33) (kj_d3 (n := n) (c := 1) (o1 := 10) (by decide)) ?_
        intro vg34 ig34 ag34 qg34 rg34 kg34 hg34
        have hGg34 := kG_call hGg7 kg34 (by decide +kernel)
        have eRrg34_0 : rg34 0 = 10 := (kg34.fr 0 rfl).trans eRrg7_0
        have eRrg34_2 : rg34 2 = 100 := (kg34.fr 2 rfl).trans eRrg7_2
        refine ft_go mi_k54 1 45 [(3, .int vg7), (2, .int vg1), (0, .ref 98), (1, .int x1)] [] ig34 ag34 qg34 rg34 (by rfl) ?_
        exact ft_ret mi_k54 (by rfl) (hP  _ _ _ _ hGg34 trivial)
      ·
        have eRrg7_0 : rg7 0 = 100 := eRrg7_0
        have eRrg7_2 : rg7 2 = 10 := eRrg7_2
        refine ko_eq (x1 := (33, [(3, .int vg7), (2, .int vg1), (0, .ref 98), (1, .int x1)], [.ref 10], (0, 0), ks ig7 ag7 qg7 rg7)) (by rw [eRrg7_2]) ?_
        refine ft_go mi_k54 4 38 [(3, .int vg7), (2, .int vg1), (0, .ref 98), (1, .int x1)] [.int ((vg7.toUInt32 % 65536).toInt32), .ref (mi_RO + 10), .int 1, .ref 10] ig7 ag7 qg7 rg7 (by rfl) ?_
        refine ko_callPI mi_k54.1 (pc := 38) (ls := [(3, .int vg7), (2, .int vg1), (0, .ref 98), (1, .int x1)]) (st := [.int ((vg7.toUInt32 % 65536).toInt32), .ref (mi_RO + 10), .int 1, .ref 10]) (h := ks ig7 ag7 qg7 rg7) (i := (.invokevirtual 50, 3, 228, 0, 9, 0, 190)) (mi_k54.2 _ _ (by rfl)) (ft_invS mi_pq228 (by rfl)) (cy := mi_c228) mi_pq228 rfl (kc228_S10 hGg7.I hGg7.R ((vg7.toUInt32 % 65536).toInt32)) (kj_d3 (n := n) (c := 7) (o1 := 10) (by decide)) ?_
        intro vg35 hg35
        refine ko_callI mi_k54.1 (pc := 41) (ls := [(3, .int vg7), (2, .int vg1), (0, .ref 98), (1, .int x1)]) (st := [.int vg35, .int 1, .ref 10]) (h := ks ig7 ag7 qg7 rg7) (i := (.invokevirtual 60, 3, 17, 0, 9, 0, 187)) (mi_k54.2 _ _ (by rfl)) (ft_invS mi_pq17 (by rfl)) (cy := mi_c17) mi_pq17 rfl (kc17_10 hGg7.I hGg7.R 1 vg35) (kj_d3 (n := n) (c := 1) (o1 := 10) (by decide)) ?_
        intro vg36 ig36 ag36 qg36 rg36 kg36 hg36
        have hGg36 := kG_call hGg7 kg36 (by decide +kernel)
        have eRrg36_0 : rg36 0 = 100 := (kg36.fr 0 rfl).trans eRrg7_0
        have eRrg36_2 : rg36 2 = 10 := (kg36.fr 2 rfl).trans eRrg7_2
        refine ft_go mi_k54 1 45 [(3, .int vg7), (2, .int vg1), (0, .ref 98), (1, .int x1)] [] ig36 ag36 qg36 rg36 (by rfl) ?_
        exact ft_ret mi_k54 (by rfl) (hP  _ _ _ _ hGg36 trivial)
set_option maxRecDepth 100000 in
theorem kLsT_53 (n : Nat) (h54 : kLT_54 n) : kLT_53 n := by
  intro i a q r hI hr x1 hp0
  have hG := kG_self wT hI hr
  refine km_ofN (q := (mi_h53, mi_c53)) rfl (by decide) (Nat.le_of_ble_eq_true rfl) ?_
  intro P hP
  have hn0 : (0 : Int) ≤ (n : Int) := Int.natCast_nonneg n
  refine ft_go mi_k53 2 2 [(0, .ref 98), (1, .int x1)] [.int x1, .ref 98] i a q r (by rfl) ?_
  refine ko_callN mi_k53.1 (pc := 2) (ls := [(0, .ref 98), (1, .int x1)]) (st := [.int x1, .ref 98]) (h := ks i a q r) (i := (.invokevirtual 87, 3, 54, 0, 9, 0, 183)) (mi_k53.2 _ _ (by rfl)) (ft_invS mi_pq54 (by rfl)) (cy := mi_c54) mi_pq54 rfl (h54 _ _ _ _ hG.I hG.R x1 (oz928 hp0.1 hp0.2)) (kj_d1 (n := n) (o := 10) (o1 := 11) (by decide)) ?_
  intro ig1 ag1 qg1 rg1 kg1 hg1
  have hGg1 := kG_call hG kg1 (by decide +kernel)
  refine ft_go mi_k53 2 8 [(0, .ref 98), (1, .int x1)] [.ref (mi_RO + 12), .ref 98] ig1 ag1 qg1 rg1 (by rfl) ?_
  refine ko_callI mi_k53.1 (pc := 8) (ls := [(0, .ref 98), (1, .int x1)]) (st := [.ref (mi_RO + 12), .ref 98]) (h := ks ig1 ag1 qg1 rg1) (i := (.invokevirtual 78, 3, 47, 0, 9, 0, 189)) (mi_k53.2 _ _ (by rfl)) (ft_invS mi_pq47 (by rfl)) (cy := mi_c47) mi_pq47 rfl (kc47_98_S12 hGg1.I hGg1.R ) (kj_d3 (n := n) (c := 9) (o1 := 11) (by decide)) ?_
  intro vg2 ig2 ag2 qg2 rg2 kg2 hg2
  have hGg2 := kG_call hGg1 kg2 (by decide +kernel)
  refine ft_go mi_k53 3 14 [(3, .int 0), (2, .int vg2), (0, .ref 98), (1, .int x1)] [] ig2 ag2 qg2 rg2 (by rfl) ?_
  have lp3 : ∀ (nz : Nat) (i3 : Nat → Int32) (a3 : Nat → List Int32) (q3 : Nat → List Int64) (r3 : Nat → Nat) (l3_3 : Int32) (l2_3 : Int32), kG w53_98_L14 ig2 ag2 qg2 rg2 i3 a3 q3 r3 → (0 : Int) ≤ l3_3.toInt → (((i3 6273).toInt - l3_3.toInt)).toNat < nz → ko (6 * n + 11) (mi_h53, mi_c53) P (14, [(3, .int l3_3), (2, .int l2_3), (0, .ref 98), (1, .int x1)], [], (0, 0), ks i3 a3 q3 r3) := by
    intro nz
    induction nz with
    | zero =>
      intro _ _ _ _ _ _ _ _ hm
      exact absurd hm (Nat.not_lt_zero _)
    | succ nz ih3 =>
      intro i3 a3 q3 r3 l3_3 l2_3 hL3 p3_0 hm3
      have fi3_6273 : ((0 : Int) ≤ (i3 6273).toInt) ∧ ((i3 6273).toInt ≤ 120) := hL3.I.1 6273
      have fig2_6273 : ((0 : Int) ≤ (ig2 6273).toInt) ∧ ((ig2 6273).toInt ≤ 120) := hGg2.I.1 6273
      have fig1_6273 : ((0 : Int) ≤ (ig1 6273).toInt) ∧ ((ig1 6273).toInt ≤ 120) := hGg1.I.1 6273
      have fi_6273 : ((0 : Int) ≤ (i 6273).toInt) ∧ ((i 6273).toInt ≤ 120) := hG.I.1 6273
      have efig1_6273 : (ig1 6273).toInt = (i 6273).toInt := kg1.ti 6273 rfl
      have efig2_6273 : (ig2 6273).toInt = (ig1 6273).toInt := kg2.ti 6273 rfl
      have efi3_6273 : (i3 6273).toInt = (ig2 6273).toInt := hL3.ti 6273 rfl
      refine ft_go mi_k53 3 19 [(3, .int l3_3), (2, .int l2_3), (0, .ref 98), (1, .int x1)] [.int (i3 6273), .int l3_3] i3 a3 q3 r3 (by rfl) ?_
      refine ft_if mi_k53 (decide ((i3 6273) ≤ l3_3)) 55 22 [(3, .int l3_3), (2, .int l2_3), (0, .ref 98), (1, .int x1)] [] (by rfl) (fun c => ?_) (fun c => ?_)
      ·
        have c4 : (i3 6273).toInt ≤ l3_3.toInt := kd_le c; clear c
        have hG5 := kG_call hGg2 hL3 (by decide +kernel)
        exact ft_ret mi_k53 (by rfl) (hP  _ _ _ _ hG5 trivial)
      ·
        have c6 : l3_3.toInt < (i3 6273).toInt := kd_leF c; clear c
        refine ft_go mi_k53 2 24 [(3, .int l3_3), (2, .int l2_3), (0, .ref 98), (1, .int x1)] [.int (-1), .int l2_3] i3 a3 q3 r3 (by rfl) ?_
        refine ft_if mi_k53 (l2_3 == (-1)) 55 27 [(3, .int l3_3), (2, .int l2_3), (0, .ref 98), (1, .int x1)] [] (by rfl) (fun c => ?_) (fun c => ?_)
        ·
          have c7 : l2_3.toInt = ((-1) : Int32).toInt := kd_eq c; clear c
          have hG8 := kG_call hGg2 hL3 (by decide +kernel)
          exact ft_ret mi_k53 (by rfl) (hP  _ _ _ _ hG8 trivial)
        ·
          have c9 : l2_3.toInt ≠ ((-1) : Int32).toInt := kd_eqF c; clear c
          refine ft_go mi_k53 2 29 [(3, .int l3_3), (2, .int l2_3), (0, .ref 98), (1, .int x1)] [.int x1, .ref 98] i3 a3 q3 r3 (by rfl) ?_
          refine ko_callN mi_k53.1 (pc := 29) (ls := [(3, .int l3_3), (2, .int l2_3), (0, .ref 98), (1, .int x1)]) (st := [.int x1, .ref 98]) (h := ks i3 a3 q3 r3) (i := (.invokevirtual 87, 3, 54, 0, 9, 0, 183)) (mi_k53.2 _ _ (by rfl)) (ft_invS mi_pq54 (by rfl)) (cy := mi_c54) mi_pq54 rfl (h54 _ _ _ _ hL3.I hL3.R x1 (oz928 hp0.1 hp0.2)) (kj_d1 (n := n) (o := 10) (o1 := 11) (by decide)) ?_
          intro ig10 ag10 qg10 rg10 kg10 hg10
          have hGg10 := kG_call hL3 kg10 (by decide +kernel)
          refine ft_go mi_k53 2 36 [(3, .int l3_3), (2, .int l2_3), (0, .ref 98), (1, .int x1)] [.ref (rg10 2)] ig10 ag10 qg10 rg10 (by rfl) ?_
          rcases hGg10.R.1 with ⟨eRrg10_0, eRrg10_2⟩ | ⟨eRrg10_0, eRrg10_2⟩
          ·
            have eRrg10_0 : rg10 0 = 10 := eRrg10_0
            have eRrg10_2 : rg10 2 = 100 := eRrg10_2
            refine ko_eq (x1 := (36, [(3, .int l3_3), (2, .int l2_3), (0, .ref 98), (1, .int x1)], [.ref 100], (0, 0), ks ig10 ag10 qg10 rg10)) (by rw [eRrg10_2]) ?_
            refine ft_go mi_k53 2 38 [(3, .int l3_3), (2, .int l2_3), (0, .ref 98), (1, .int x1)] [.int 0, .int l2_3, .ref 100] ig10 ag10 qg10 rg10 (by rfl) ?_
            refine ko_callI mi_k53.1 (pc := 38) (ls := [(3, .int l3_3), (2, .int l2_3), (0, .ref 98), (1, .int x1)]) (st := [.int 0, .int l2_3, .ref 100]) (h := ks ig10 ag10 qg10 rg10) (i := (.invokevirtual 60, 3, 17, 0, 9, 0, 187)) (mi_k53.2 _ _ (by rfl)) (ft_invS mi_pq17 (by rfl)) (cy := mi_c17) mi_pq17 rfl (kc17_100 hGg10.I hGg10.R l2_3 0) (kj_d3 (n := n) (c := 1) (o1 := 11) (by decide)) ?_
            intro vg11 ig11 ag11 qg11 rg11 kg11 hg11
            have hGg11 := kG_call hGg10 kg11 (by decide +kernel)
            have eRrg11_0 : rg11 0 = 10 := (kg11.fr 0 rfl).trans eRrg10_0
            have eRrg11_2 : rg11 2 = 100 := (kg11.fr 2 rfl).trans eRrg10_2
            refine ft_go mi_k53 3 45 [(3, .int l3_3), (2, .int l2_3), (0, .ref 98), (1, .int x1)] [.ref (mi_RO + 12), .ref 98] ig11 ag11 qg11 rg11 (by rfl) ?_
            refine ko_callI mi_k53.1 (pc := 45) (ls := [(3, .int l3_3), (2, .int l2_3), (0, .ref 98), (1, .int x1)]) (st := [.ref (mi_RO + 12), .ref 98]) (h := ks ig11 ag11 qg11 rg11) (i := (.invokevirtual 78, 3, 47, 0, 9, 0, 189)) (mi_k53.2 _ _ (by rfl)) (ft_invS mi_pq47 (by rfl)) (cy := mi_c47) mi_pq47 rfl (kc47_98_S12 hGg11.I hGg11.R ) (kj_d3 (n := n) (c := 9) (o1 := 11) (by decide)) ?_
            intro vg12 ig12 ag12 qg12 rg12 kg12 hg12
            have hGg12 := kG_call hGg11 kg12 (by decide +kernel)
            have eRrg12_0 : rg12 0 = 10 := (kg12.fr 0 rfl).trans eRrg11_0
            have eRrg12_2 : rg12 2 = 100 := (kg12.fr 2 rfl).trans eRrg11_2
            have s13 : (l3_3 + 1).toInt = l3_3.toInt + (1 : Int32).toInt := kd_add (oz12 p3_0 kn1) (oz929 c6 fi3_6273.2 kn1)
            refine ft_go mi_k53 3 14 [(3, .int (l3_3 + 1)), (2, .int vg12), (0, .ref 98), (1, .int x1)] [] ig12 ag12 qg12 rg12 (by rfl) ?_
            have fig12_6273 : ((0 : Int) ≤ (ig12 6273).toInt) ∧ ((ig12 6273).toInt ≤ 120) := hGg12.I.1 6273
            have fig11_6273 : ((0 : Int) ≤ (ig11 6273).toInt) ∧ ((ig11 6273).toInt ≤ 120) := hGg11.I.1 6273
            have fig10_6273 : ((0 : Int) ≤ (ig10 6273).toInt) ∧ ((ig10 6273).toInt ≤ 120) := hGg10.I.1 6273
            have efig10_6273 : (ig10 6273).toInt = (i3 6273).toInt := kg10.ti 6273 rfl
            have efig11_6273 : (ig11 6273).toInt = (ig10 6273).toInt := kg11.ti 6273 rfl
            have efig12_6273 : (ig12 6273).toInt = (ig11 6273).toInt := kg12.ti 6273 rfl
            exact ih3 _ _ _ _ _ _ hGg12 (oz14 p3_0 s13 kn1) (kj_meas (oz445 efig10_6273 efig11_6273 efig12_6273 s13 kn1) (oz45 c6) hm3)
          ·
            have eRrg10_0 : rg10 0 = 100 := eRrg10_0
            have eRrg10_2 : rg10 2 = 10 := eRrg10_2
            refine ko_eq (x1 := (36, [(3, .int l3_3), (2, .int l2_3), (0, .ref 98), (1, .int x1)], [.ref 10], (0, 0), ks ig10 ag10 qg10 rg10)) (by rw [eRrg10_2]) ?_
            refine ft_go mi_k53 2 38 [(3, .int l3_3), (2, .int l2_3), (0, .ref 98), (1, .int x1)] [.int 0, .int l2_3, .ref 10] ig10 ag10 qg10 rg10 (by rfl) ?_
            refine ko_callI mi_k53.1 (pc := 38) (ls := [(3, .int l3_3), (2, .int l2_3), (0, .ref 98), (1, .int x1)]) (st := [.int 0, .int l2_3, .ref 10]) (h := ks ig10 ag10 qg10 rg10) (i := (.invokevirtual 60, 3, 17, 0, 9, 0, 187)) (mi_k53.2 _ _ (by rfl)) (ft_invS mi_pq17 (by rfl)) (cy := mi_c17) mi_pq17 rfl (kc17_10 hGg10.I hGg10.R l2_3 0) (kj_d3 (n := n) (c := 1) (o1 := 11) (by decide)) ?_
            intro vg14 ig14 ag14 qg14 rg14 kg14 hg14
            have hGg14 := kG_call hGg10 kg14 (by decide +kernel)
            have eRrg14_0 : rg14 0 = 100 := (kg14.fr 0 rfl).trans eRrg10_0
            have eRrg14_2 : rg14 2 = 10 := (kg14.fr 2 rfl).trans eRrg10_2
            refine ft_go mi_k53 3 45 [(3, .int l3_3), (2, .int l2_3), (0, .ref 98), (1, .int x1)] [.ref (mi_RO + 12), .ref 98] ig14 ag14 qg14 rg14 (by rfl) ?_
            refine ko_callI mi_k53.1 (pc := 45) (ls := [(3, .int l3_3), (2, .int l2_3), (0, .ref 98), (1, .int x1)]) (st := [.ref (mi_RO + 12), .ref 98]) (h := ks ig14 ag14 qg14 rg14) (i := (.invokevirtual 78, 3, 47, 0, 9, 0, 189)) (mi_k53.2 _ _ (by rfl)) (ft_invS mi_pq47 (by rfl)) (cy := mi_c47) mi_pq47 rfl (kc47_98_S12 hGg14.I hGg14.R ) (kj_d3 (n := n) (c := 9) (o1 := 11) (by decide)) ?_
            intro vg15 ig15 ag15 qg15 rg15 kg15 hg15
            have hGg15 := kG_call hGg14 kg15 (by decide +kernel)
            have eRrg15_0 : rg15 0 = 100 := (kg15.fr 0 rfl).trans eRrg14_0
            have eRrg15_2 : rg15 2 = 10 := (kg15.fr 2 rfl).trans eRrg14_2
            have s16 : (l3_3 + 1).toInt = l3_3.toInt + (1 : Int32).toInt := kd_add (oz12 p3_0 kn1) (oz929 c6 fi3_6273.2 kn1)
            refine ft_go mi_k53 3 14 [(3, .int (l3_3 + 1)), (2, .int vg15), (0, .ref 98), (1, .int x1)] [] ig15 ag15 qg15 rg15 (by rfl) ?_
            have fig15_6273 : ((0 : Int) ≤ (ig15 6273).toInt) ∧ ((ig15 6273).toInt ≤ 120) := hGg15.I.1 6273
            have fig14_6273 : ((0 : Int) ≤ (ig14 6273).toInt) ∧ ((ig14 6273).toInt ≤ 120) := hGg14.I.1 6273
            have fig10_6273 : ((0 : Int) ≤ (ig10 6273).toInt) ∧ ((ig10 6273).toInt ≤ 120) := hGg10.I.1 6273
            have efig10_6273 : (ig10 6273).toInt = (i3 6273).toInt := kg10.ti 6273 rfl
            have efig14_6273 : (ig14 6273).toInt = (ig10 6273).toInt := kg14.ti 6273 rfl
            have efig15_6273 : (ig15 6273).toInt = (ig14 6273).toInt := kg15.ti 6273 rfl
            exact ih3 _ _ _ _ _ _ hGg15 (oz14 p3_0 s16 kn1) (kj_meas (oz445 efig10_6273 efig14_6273 efig15_6273 s16 kn1) (oz45 c6) hm3)
  exact lp3 _ _ _ _ _ _ _ (kG_self _ hGg2.I hGg2.R) (oz46 kn0) (Nat.lt_succ_self _)
set_option maxRecDepth 100000 in
theorem kLsT_52 (n : Nat) (h54 : kLT_54 n) (h53 : kLT_53 n) : kLT_52 n := by
  intro i a q r hI hr x1 hp0
  have hG := kG_self wT hI hr
  refine km_ofN (q := (mi_h52, mi_c52)) rfl (by decide) (Nat.le_of_ble_eq_true rfl) ?_
  intro P hP
  have hn0 : (0 : Int) ≤ (n : Int) := Int.natCast_nonneg n
  refine ft_go mi_k52 2 2 [(0, .ref 98), (1, .int x1)] [.int x1, .ref 98] i a q r (by rfl) ?_
  refine ko_callN mi_k52.1 (pc := 2) (ls := [(0, .ref 98), (1, .int x1)]) (st := [.int x1, .ref 98]) (h := ks i a q r) (i := (.invokevirtual 82, 3, 53, 0, 9, 0, 182)) (mi_k52.2 _ _ (by rfl)) (ft_invS mi_pq53 (by rfl)) (cy := mi_c53) mi_pq53 rfl (h53 _ _ _ _ hG.I hG.R x1 (oz928 hp0.1 hp0.2)) (kj_d1 (n := n) (o := 11) (o1 := 12) (by decide)) ?_
  intro ig1 ag1 qg1 rg1 kg1 hg1
  have hGg1 := kG_call hG kg1 (by decide +kernel)
  refine ft_go mi_k52 2 8 [(0, .ref 98), (1, .int x1)] [.ref (mi_RO + 13), .ref 98] ig1 ag1 qg1 rg1 (by rfl) ?_
  refine ko_callI mi_k52.1 (pc := 8) (ls := [(0, .ref 98), (1, .int x1)]) (st := [.ref (mi_RO + 13), .ref 98]) (h := ks ig1 ag1 qg1 rg1) (i := (.invokevirtual 78, 3, 47, 0, 9, 0, 189)) (mi_k52.2 _ _ (by rfl)) (ft_invS mi_pq47 (by rfl)) (cy := mi_c47) mi_pq47 rfl (kc47_98_S13 hGg1.I hGg1.R ) (kj_d3 (n := n) (c := 9) (o1 := 12) (by decide)) ?_
  intro vg2 ig2 ag2 qg2 rg2 kg2 hg2
  have hGg2 := kG_call hGg1 kg2 (by decide +kernel)
  refine ft_go mi_k52 3 14 [(3, .int 0), (2, .int vg2), (0, .ref 98), (1, .int x1)] [] ig2 ag2 qg2 rg2 (by rfl) ?_
  have lp3 : ∀ (nz : Nat) (i3 : Nat → Int32) (a3 : Nat → List Int32) (q3 : Nat → List Int64) (r3 : Nat → Nat) (l3_3 : Int32) (l2_3 : Int32), kG w52_98_L14 ig2 ag2 qg2 rg2 i3 a3 q3 r3 → (0 : Int) ≤ l3_3.toInt → (((i3 6273).toInt - l3_3.toInt)).toNat < nz → ko (6 * n + 12) (mi_h52, mi_c52) P (14, [(3, .int l3_3), (2, .int l2_3), (0, .ref 98), (1, .int x1)], [], (0, 0), ks i3 a3 q3 r3) := by
    intro nz
    induction nz with
    | zero =>
      intro _ _ _ _ _ _ _ _ hm
      exact absurd hm (Nat.not_lt_zero _)
    | succ nz ih3 =>
      intro i3 a3 q3 r3 l3_3 l2_3 hL3 p3_0 hm3
      have fi3_6273 : ((0 : Int) ≤ (i3 6273).toInt) ∧ ((i3 6273).toInt ≤ 120) := hL3.I.1 6273
      have fig2_6273 : ((0 : Int) ≤ (ig2 6273).toInt) ∧ ((ig2 6273).toInt ≤ 120) := hGg2.I.1 6273
      have fig1_6273 : ((0 : Int) ≤ (ig1 6273).toInt) ∧ ((ig1 6273).toInt ≤ 120) := hGg1.I.1 6273
      have fi_6273 : ((0 : Int) ≤ (i 6273).toInt) ∧ ((i 6273).toInt ≤ 120) := hG.I.1 6273
      have efig1_6273 : (ig1 6273).toInt = (i 6273).toInt := kg1.ti 6273 rfl
      have efig2_6273 : (ig2 6273).toInt = (ig1 6273).toInt := kg2.ti 6273 rfl
      have efi3_6273 : (i3 6273).toInt = (ig2 6273).toInt := hL3.ti 6273 rfl
      refine ft_go mi_k52 3 19 [(3, .int l3_3), (2, .int l2_3), (0, .ref 98), (1, .int x1)] [.int (i3 6273), .int l3_3] i3 a3 q3 r3 (by rfl) ?_
      refine ft_if mi_k52 (decide ((i3 6273) ≤ l3_3)) 55 22 [(3, .int l3_3), (2, .int l2_3), (0, .ref 98), (1, .int x1)] [] (by rfl) (fun c => ?_) (fun c => ?_)
      ·
        have c4 : (i3 6273).toInt ≤ l3_3.toInt := kd_le c; clear c
        have hG5 := kG_call hGg2 hL3 (by decide +kernel)
        exact ft_ret mi_k52 (by rfl) (hP  _ _ _ _ hG5 trivial)
      ·
        have c6 : l3_3.toInt < (i3 6273).toInt := kd_leF c; clear c
        refine ft_go mi_k52 2 24 [(3, .int l3_3), (2, .int l2_3), (0, .ref 98), (1, .int x1)] [.int (-1), .int l2_3] i3 a3 q3 r3 (by rfl) ?_
        refine ft_if mi_k52 (l2_3 == (-1)) 55 27 [(3, .int l3_3), (2, .int l2_3), (0, .ref 98), (1, .int x1)] [] (by rfl) (fun c => ?_) (fun c => ?_)
        ·
          have c7 : l2_3.toInt = ((-1) : Int32).toInt := kd_eq c; clear c
          have hG8 := kG_call hGg2 hL3 (by decide +kernel)
          exact ft_ret mi_k52 (by rfl) (hP  _ _ _ _ hG8 trivial)
        ·
          have c9 : l2_3.toInt ≠ ((-1) : Int32).toInt := kd_eqF c; clear c
          refine ft_go mi_k52 2 29 [(3, .int l3_3), (2, .int l2_3), (0, .ref 98), (1, .int x1)] [.int x1, .ref 98] i3 a3 q3 r3 (by rfl) ?_
          refine ko_callN mi_k52.1 (pc := 29) (ls := [(3, .int l3_3), (2, .int l2_3), (0, .ref 98), (1, .int x1)]) (st := [.int x1, .ref 98]) (h := ks i3 a3 q3 r3) (i := (.invokevirtual 82, 3, 53, 0, 9, 0, 182)) (mi_k52.2 _ _ (by rfl)) (ft_invS mi_pq53 (by rfl)) (cy := mi_c53) mi_pq53 rfl (h53 _ _ _ _ hL3.I hL3.R x1 (oz928 hp0.1 hp0.2)) (kj_d1 (n := n) (o := 11) (o1 := 12) (by decide)) ?_
          intro ig10 ag10 qg10 rg10 kg10 hg10
          have hGg10 := kG_call hL3 kg10 (by decide +kernel)
          refine ft_go mi_k52 2 36 [(3, .int l3_3), (2, .int l2_3), (0, .ref 98), (1, .int x1)] [.ref (rg10 2)] ig10 ag10 qg10 rg10 (by rfl) ?_
          rcases hGg10.R.1 with ⟨eRrg10_0, eRrg10_2⟩ | ⟨eRrg10_0, eRrg10_2⟩
          ·
            have eRrg10_0 : rg10 0 = 10 := eRrg10_0
            have eRrg10_2 : rg10 2 = 100 := eRrg10_2
            refine ko_eq (x1 := (36, [(3, .int l3_3), (2, .int l2_3), (0, .ref 98), (1, .int x1)], [.ref 100], (0, 0), ks ig10 ag10 qg10 rg10)) (by rw [eRrg10_2]) ?_
            refine ft_go mi_k52 2 38 [(3, .int l3_3), (2, .int l2_3), (0, .ref 98), (1, .int x1)] [.int 0, .int l2_3, .ref 100] ig10 ag10 qg10 rg10 (by rfl) ?_
            refine ko_callI mi_k52.1 (pc := 38) (ls := [(3, .int l3_3), (2, .int l2_3), (0, .ref 98), (1, .int x1)]) (st := [.int 0, .int l2_3, .ref 100]) (h := ks ig10 ag10 qg10 rg10) (i := (.invokevirtual 60, 3, 17, 0, 9, 0, 187)) (mi_k52.2 _ _ (by rfl)) (ft_invS mi_pq17 (by rfl)) (cy := mi_c17) mi_pq17 rfl (kc17_100 hGg10.I hGg10.R l2_3 0) (kj_d3 (n := n) (c := 1) (o1 := 12) (by decide)) ?_
            intro vg11 ig11 ag11 qg11 rg11 kg11 hg11
            have hGg11 := kG_call hGg10 kg11 (by decide +kernel)
            have eRrg11_0 : rg11 0 = 10 := (kg11.fr 0 rfl).trans eRrg10_0
            have eRrg11_2 : rg11 2 = 100 := (kg11.fr 2 rfl).trans eRrg10_2
            refine ft_go mi_k52 3 45 [(3, .int l3_3), (2, .int l2_3), (0, .ref 98), (1, .int x1)] [.ref (mi_RO + 13), .ref 98] ig11 ag11 qg11 rg11 (by rfl) ?_
            refine ko_callI mi_k52.1 (pc := 45) (ls := [(3, .int l3_3), (2, .int l2_3), (0, .ref 98), (1, .int x1)]) (st := [.ref (mi_RO + 13), .ref 98]) (h := ks ig11 ag11 qg11 rg11) (i := (.invokevirtual 78, 3, 47, 0, 9, 0, 189)) (mi_k52.2 _ _ (by rfl)) (ft_invS mi_pq47 (by rfl)) (cy := mi_c47) mi_pq47 rfl (kc47_98_S13 hGg11.I hGg11.R ) (kj_d3 (n := n) (c := 9) (o1 := 12) (by decide)) ?_
            intro vg12 ig12 ag12 qg12 rg12 kg12 hg12
            have hGg12 := kG_call hGg11 kg12 (by decide +kernel)
            have eRrg12_0 : rg12 0 = 10 := (kg12.fr 0 rfl).trans eRrg11_0
            have eRrg12_2 : rg12 2 = 100 := (kg12.fr 2 rfl).trans eRrg11_2
            have s13 : (l3_3 + 1).toInt = l3_3.toInt + (1 : Int32).toInt := kd_add (oz12 p3_0 kn1) (oz929 c6 fi3_6273.2 kn1)
            refine ft_go mi_k52 3 14 [(3, .int (l3_3 + 1)), (2, .int vg12), (0, .ref 98), (1, .int x1)] [] ig12 ag12 qg12 rg12 (by rfl) ?_
            have fig12_6273 : ((0 : Int) ≤ (ig12 6273).toInt) ∧ ((ig12 6273).toInt ≤ 120) := hGg12.I.1 6273
            have fig11_6273 : ((0 : Int) ≤ (ig11 6273).toInt) ∧ ((ig11 6273).toInt ≤ 120) := hGg11.I.1 6273
            have fig10_6273 : ((0 : Int) ≤ (ig10 6273).toInt) ∧ ((ig10 6273).toInt ≤ 120) := hGg10.I.1 6273
            have efig10_6273 : (ig10 6273).toInt = (i3 6273).toInt := kg10.ti 6273 rfl
            have efig11_6273 : (ig11 6273).toInt = (ig10 6273).toInt := kg11.ti 6273 rfl
            have efig12_6273 : (ig12 6273).toInt = (ig11 6273).toInt := kg12.ti 6273 rfl
            exact ih3 _ _ _ _ _ _ hGg12 (oz14 p3_0 s13 kn1) (kj_meas (oz445 efig10_6273 efig11_6273 efig12_6273 s13 kn1) (oz45 c6) hm3)
          ·
            have eRrg10_0 : rg10 0 = 100 := eRrg10_0
            have eRrg10_2 : rg10 2 = 10 := eRrg10_2
            refine ko_eq (x1 := (36, [(3, .int l3_3), (2, .int l2_3), (0, .ref 98), (1, .int x1)], [.ref 10], (0, 0), ks ig10 ag10 qg10 rg10)) (by rw [eRrg10_2]) ?_
            refine ft_go mi_k52 2 38 [(3, .int l3_3), (2, .int l2_3), (0, .ref 98), (1, .int x1)] [.int 0, .int l2_3, .ref 10] ig10 ag10 qg10 rg10 (by rfl) ?_
            refine ko_callI mi_k52.1 (pc := 38) (ls := [(3, .int l3_3), (2, .int l2_3), (0, .ref 98), (1, .int x1)]) (st := [.int 0, .int l2_3, .ref 10]) (h := ks ig10 ag10 qg10 rg10) (i := (.invokevirtual 60, 3, 17, 0, 9, 0, 187)) (mi_k52.2 _ _ (by rfl)) (ft_invS mi_pq17 (by rfl)) (cy := mi_c17) mi_pq17 rfl (kc17_10 hGg10.I hGg10.R l2_3 0) (kj_d3 (n := n) (c := 1) (o1 := 12) (by decide)) ?_
            intro vg14 ig14 ag14 qg14 rg14 kg14 hg14
            have hGg14 := kG_call hGg10 kg14 (by decide +kernel)
            have eRrg14_0 : rg14 0 = 100 := (kg14.fr 0 rfl).trans eRrg10_0
            have eRrg14_2 : rg14 2 = 10 := (kg14.fr 2 rfl).trans eRrg10_2
            refine ft_go mi_k52 3 45 [(3, .int l3_3), (2, .int l2_3), (0, .ref 98), (1, .int x1)] [.ref (mi_RO + 13), .ref 98] ig14 ag14 qg14 rg14 (by rfl) ?_
            refine ko_callI mi_k52.1 (pc := 45) (ls := [(3, .int l3_3), (2, .int l2_3), (0, .ref 98), (1, .int x1)]) (st := [.ref (mi_RO + 13), .ref 98]) (h := ks ig14 ag14 qg14 rg14) (i := (.invokevirtual 78, 3, 47, 0, 9, 0, 189)) (mi_k52.2 _ _ (by rfl)) (ft_invS mi_pq47 (by rfl)) (cy := mi_c47) mi_pq47 rfl (kc47_98_S13 hGg14.I hGg14.R ) (kj_d3 (n := n) (c := 9) (o1 := 12) (by decide)) ?_
            intro vg15 ig15 ag15 qg15 rg15 kg15 hg15
            have hGg15 := kG_call hGg14 kg15 (by decide +kernel)
            have eRrg15_0 : rg15 0 = 100 := (kg15.fr 0 rfl).trans eRrg14_0
            have eRrg15_2 : rg15 2 = 10 := (kg15.fr 2 rfl).trans eRrg14_2
            have s16 : (l3_3 + 1).toInt = l3_3.toInt + (1 : Int32).toInt := kd_add (oz12 p3_0 kn1) (oz929 c6 fi3_6273.2 kn1)
            refine ft_go mi_k52 3 14 [(3, .int (l3_3 + 1)), (2, .int vg15), (0, .ref 98), (1, .int x1)] [] ig15 ag15 qg15 rg15 (by rfl) ?_
            have fig15_6273 : ((0 : Int) ≤ (ig15 6273).toInt) ∧ ((ig15 6273).toInt ≤ 120) := hGg15.I.1 6273
            have fig14_6273 : ((0 : Int) ≤ (ig14 6273).toInt) ∧ ((ig14 6273).toInt ≤ 120) := hGg14.I.1 6273
            have fig10_6273 : ((0 : Int) ≤ (ig10 6273).toInt) ∧ ((ig10 6273).toInt ≤ 120) := hGg10.I.1 6273
            have efig10_6273 : (ig10 6273).toInt = (i3 6273).toInt := kg10.ti 6273 rfl
            have efig14_6273 : (ig14 6273).toInt = (ig10 6273).toInt := kg14.ti 6273 rfl
            have efig15_6273 : (ig15 6273).toInt = (ig14 6273).toInt := kg15.ti 6273 rfl
            exact ih3 _ _ _ _ _ _ hGg15 (oz14 p3_0 s16 kn1) (kj_meas (oz445 efig10_6273 efig14_6273 efig15_6273 s16 kn1) (oz45 c6) hm3)
  exact lp3 _ _ _ _ _ _ _ (kG_self _ hGg2.I hGg2.R) (oz46 kn0) (Nat.lt_succ_self _)
set_option maxRecDepth 100000 in
theorem kLsT_51 (n : Nat) (h54 : kLT_54 n) (h53 : kLT_53 n) (h52 : kLT_52 n) : kLT_51 n := by
  intro i a q r hI hr x1 hp0
  have hG := kG_self wT hI hr
  refine km_ofN (q := (mi_h51, mi_c51)) rfl (by decide) (Nat.le_of_ble_eq_true rfl) ?_
  intro P hP
  have hn0 : (0 : Int) ≤ (n : Int) := Int.natCast_nonneg n
  refine ft_go mi_k51 2 2 [(0, .ref 98), (1, .int x1)] [.int x1, .ref 98] i a q r (by rfl) ?_
  refine ko_callN mi_k51.1 (pc := 2) (ls := [(0, .ref 98), (1, .int x1)]) (st := [.int x1, .ref 98]) (h := ks i a q r) (i := (.invokevirtual 73, 3, 52, 0, 9, 0, 181)) (mi_k51.2 _ _ (by rfl)) (ft_invS mi_pq52 (by rfl)) (cy := mi_c52) mi_pq52 rfl (h52 _ _ _ _ hG.I hG.R x1 (oz928 hp0.1 hp0.2)) (kj_d1 (n := n) (o := 12) (o1 := 13) (by decide)) ?_
  intro ig1 ag1 qg1 rg1 kg1 hg1
  have hGg1 := kG_call hG kg1 (by decide +kernel)
  refine ft_go mi_k51 2 8 [(0, .ref 98), (1, .int x1)] [.ref (mi_RO + 14), .ref 98] ig1 ag1 qg1 rg1 (by rfl) ?_
  refine ko_callI mi_k51.1 (pc := 8) (ls := [(0, .ref 98), (1, .int x1)]) (st := [.ref (mi_RO + 14), .ref 98]) (h := ks ig1 ag1 qg1 rg1) (i := (.invokevirtual 78, 3, 47, 0, 9, 0, 189)) (mi_k51.2 _ _ (by rfl)) (ft_invS mi_pq47 (by rfl)) (cy := mi_c47) mi_pq47 rfl (kc47_98_S14 hGg1.I hGg1.R ) (kj_d3 (n := n) (c := 9) (o1 := 13) (by decide)) ?_
  intro vg2 ig2 ag2 qg2 rg2 kg2 hg2
  have hGg2 := kG_call hGg1 kg2 (by decide +kernel)
  refine ft_go mi_k51 3 14 [(2, .int vg2), (0, .ref 98), (1, .int x1)] [.int (-1), .int vg2] ig2 ag2 qg2 rg2 (by rfl) ?_
  refine ft_if mi_k51 (vg2 == (-1)) 32 17 [(2, .int vg2), (0, .ref 98), (1, .int x1)] [] (by rfl) (fun c => ?_) (fun c => ?_)
  ·
    have c3 : vg2.toInt = ((-1) : Int32).toInt := kd_eq c; clear c
    exact ft_ret mi_k51 (by rfl) (hP  _ _ _ _ hGg2 trivial)
  ·
    have c4 : vg2.toInt ≠ ((-1) : Int32).toInt := kd_eqF c; clear c
    refine ft_go mi_k51 2 19 [(2, .int vg2), (0, .ref 98), (1, .int x1)] [.int x1, .ref 98] ig2 ag2 qg2 rg2 (by rfl) ?_
    refine ko_callN mi_k51.1 (pc := 19) (ls := [(2, .int vg2), (0, .ref 98), (1, .int x1)]) (st := [.int x1, .ref 98]) (h := ks ig2 ag2 qg2 rg2) (i := (.invokevirtual 73, 3, 52, 0, 9, 0, 181)) (mi_k51.2 _ _ (by rfl)) (ft_invS mi_pq52 (by rfl)) (cy := mi_c52) mi_pq52 rfl (h52 _ _ _ _ hGg2.I hGg2.R x1 (oz928 hp0.1 hp0.2)) (kj_d1 (n := n) (o := 12) (o1 := 13) (by decide)) ?_
    intro ig5 ag5 qg5 rg5 kg5 hg5
    have hGg5 := kG_call hGg2 kg5 (by decide +kernel)
    refine ft_go mi_k51 2 26 [(2, .int vg2), (0, .ref 98), (1, .int x1)] [.ref (rg5 2)] ig5 ag5 qg5 rg5 (by rfl) ?_
    rcases hGg5.R.1 with ⟨eRrg5_0, eRrg5_2⟩ | ⟨eRrg5_0, eRrg5_2⟩
    ·
      have eRrg5_0 : rg5 0 = 10 := eRrg5_0
      have eRrg5_2 : rg5 2 = 100 := eRrg5_2
      refine ko_eq (x1 := (26, [(2, .int vg2), (0, .ref 98), (1, .int x1)], [.ref 100], (0, 0), ks ig5 ag5 qg5 rg5)) (by rw [eRrg5_2]) ?_
      refine ft_go mi_k51 2 28 [(2, .int vg2), (0, .ref 98), (1, .int x1)] [.int 0, .int vg2, .ref 100] ig5 ag5 qg5 rg5 (by rfl) ?_
      refine ko_callI mi_k51.1 (pc := 28) (ls := [(2, .int vg2), (0, .ref 98), (1, .int x1)]) (st := [.int 0, .int vg2, .ref 100]) (h := ks ig5 ag5 qg5 rg5) (i := (.invokevirtual 60, 3, 17, 0, 9, 0, 187)) (mi_k51.2 _ _ (by rfl)) (ft_invS mi_pq17 (by rfl)) (cy := mi_c17) mi_pq17 rfl (kc17_100 hGg5.I hGg5.R vg2 0) (kj_d3 (n := n) (c := 1) (o1 := 13) (by decide)) ?_
      intro vg6 ig6 ag6 qg6 rg6 kg6 hg6
      have hGg6 := kG_call hGg5 kg6 (by decide +kernel)
      have eRrg6_0 : rg6 0 = 10 := (kg6.fr 0 rfl).trans eRrg5_0
      have eRrg6_2 : rg6 2 = 100 := (kg6.fr 2 rfl).trans eRrg5_2
      refine ft_go mi_k51 1 32 [(2, .int vg2), (0, .ref 98), (1, .int x1)] [] ig6 ag6 qg6 rg6 (by rfl) ?_
      exact ft_ret mi_k51 (by rfl) (hP  _ _ _ _ hGg6 trivial)
    ·
      have eRrg5_0 : rg5 0 = 100 := eRrg5_0
      have eRrg5_2 : rg5 2 = 10 := eRrg5_2
      refine ko_eq (x1 := (26, [(2, .int vg2), (0, .ref 98), (1, .int x1)], [.ref 10], (0, 0), ks ig5 ag5 qg5 rg5)) (by rw [eRrg5_2]) ?_
      refine ft_go mi_k51 2 28 [(2, .int vg2), (0, .ref 98), (1, .int x1)] [.int 0, .int vg2, .ref 10] ig5 ag5 qg5 rg5 (by rfl) ?_
      refine ko_callI mi_k51.1 (pc := 28) (ls := [(2, .int vg2), (0, .ref 98), (1, .int x1)]) (st := [.int 0, .int vg2, .ref 10]) (h := ks ig5 ag5 qg5 rg5) (i := (.invokevirtual 60, 3, 17, 0, 9, 0, 187)) (mi_k51.2 _ _ (by rfl)) (ft_invS mi_pq17 (by rfl)) (cy := mi_c17) mi_pq17 rfl (kc17_10 hGg5.I hGg5.R vg2 0) (kj_d3 (n := n) (c := 1) (o1 := 13) (by decide)) ?_
      intro vg7 ig7 ag7 qg7 rg7 kg7 hg7
      have hGg7 := kG_call hGg5 kg7 (by decide +kernel)
      have eRrg7_0 : rg7 0 = 100 := (kg7.fr 0 rfl).trans eRrg5_0
      have eRrg7_2 : rg7 2 = 10 := (kg7.fr 2 rfl).trans eRrg5_2
      refine ft_go mi_k51 1 32 [(2, .int vg2), (0, .ref 98), (1, .int x1)] [] ig7 ag7 qg7 rg7 (by rfl) ?_
      exact ft_ret mi_k51 (by rfl) (hP  _ _ _ _ hGg7 trivial)
set_option maxRecDepth 100000 in
theorem kLsT_50 (n : Nat) (h54 : kLT_54 n) (h53 : kLT_53 n) (h52 : kLT_52 n) (h51 : kLT_51 n) : kLT_50 n := by
  intro i a q r hI hr x1 hp0
  have hG := kG_self wT hI hr
  refine km_ofN (q := (mi_h50, mi_c50)) rfl (by decide) (Nat.le_of_ble_eq_true rfl) ?_
  intro P hP
  have hn0 : (0 : Int) ≤ (n : Int) := Int.natCast_nonneg n
  refine ft_go mi_k50 2 2 [(0, .ref 98), (1, .int x1)] [.int x1, .ref 98] i a q r (by rfl) ?_
  refine ko_callN mi_k50.1 (pc := 2) (ls := [(0, .ref 98), (1, .int x1)]) (st := [.int x1, .ref 98]) (h := ks i a q r) (i := (.invokevirtual 70, 3, 51, 0, 9, 0, 180)) (mi_k50.2 _ _ (by rfl)) (ft_invS mi_pq51 (by rfl)) (cy := mi_c51) mi_pq51 rfl (h51 _ _ _ _ hG.I hG.R x1 (oz928 hp0.1 hp0.2)) (kj_d1 (n := n) (o := 13) (o1 := 14) (by decide)) ?_
  intro ig1 ag1 qg1 rg1 kg1 hg1
  have hGg1 := kG_call hG kg1 (by decide +kernel)
  refine ft_go mi_k50 2 7 [(2, .int 0), (0, .ref 98), (1, .int x1)] [] ig1 ag1 qg1 rg1 (by rfl) ?_
  have lp2 : ∀ (nz : Nat) (i2 : Nat → Int32) (a2 : Nat → List Int32) (q2 : Nat → List Int64) (r2 : Nat → Nat) (l2_2 : Int32), kG w50_98_L7 ig1 ag1 qg1 rg1 i2 a2 q2 r2 → (0 : Int) ≤ l2_2.toInt → (((i2 6273).toInt - l2_2.toInt)).toNat < nz → ko (6 * n + 14) (mi_h50, mi_c50) P (7, [(2, .int l2_2), (0, .ref 98), (1, .int x1)], [], (0, 0), ks i2 a2 q2 r2) := by
    intro nz
    induction nz with
    | zero =>
      intro _ _ _ _ _ _ _ hm
      exact absurd hm (Nat.not_lt_zero _)
    | succ nz ih2 =>
      intro i2 a2 q2 r2 l2_2 hL2 p2_0 hm2
      have fi2_6273 : ((0 : Int) ≤ (i2 6273).toInt) ∧ ((i2 6273).toInt ≤ 120) := hL2.I.1 6273
      have fig1_6273 : ((0 : Int) ≤ (ig1 6273).toInt) ∧ ((ig1 6273).toInt ≤ 120) := hGg1.I.1 6273
      have fi_6273 : ((0 : Int) ≤ (i 6273).toInt) ∧ ((i 6273).toInt ≤ 120) := hG.I.1 6273
      have efig1_6273 : (ig1 6273).toInt = (i 6273).toInt := kg1.ti 6273 rfl
      have efi2_6273 : (i2 6273).toInt = (ig1 6273).toInt := hL2.ti 6273 rfl
      refine ft_go mi_k50 3 12 [(2, .int l2_2), (0, .ref 98), (1, .int x1)] [.int (i2 6273), .int l2_2] i2 a2 q2 r2 (by rfl) ?_
      refine ft_if mi_k50 (decide ((i2 6273) ≤ l2_2)) 46 15 [(2, .int l2_2), (0, .ref 98), (1, .int x1)] [] (by rfl) (fun c => ?_) (fun c => ?_)
      ·
        have c3 : (i2 6273).toInt ≤ l2_2.toInt := kd_le c; clear c
        have hG4 := kG_call hGg1 hL2 (by decide +kernel)
        exact ft_ret mi_k50 (by rfl) (hP  _ _ _ _ hG4 trivial)
      ·
        have c5 : l2_2.toInt < (i2 6273).toInt := kd_leF c; clear c
        refine ft_go mi_k50 2 18 [(2, .int l2_2), (0, .ref 98), (1, .int x1)] [.int 38, .ref 98] i2 a2 q2 r2 (by rfl) ?_
        refine ko_callI mi_k50.1 (pc := 18) (ls := [(2, .int l2_2), (0, .ref 98), (1, .int x1)]) (st := [.int 38, .ref 98]) (h := ks i2 a2 q2 r2) (i := (.invokevirtual 39, 3, 46, 0, 9, 0, 200)) (mi_k50.2 _ _ (by rfl)) (ft_invS mi_pq46 (by rfl)) (cy := mi_c46) mi_pq46 rfl (kc46_98 hL2.I hL2.R 38 (oz879 kn38)) (kj_d3 (n := n) (c := 3) (o1 := 14) (by decide)) ?_
        intro vg6 ig6 ag6 qg6 rg6 kg6 hg6
        have hGg6 := kG_call hL2 kg6 (by decide +kernel)
        rcases hg6 with ⟨eg6, hg6⟩ | ⟨eg6, hg6⟩
        ·
          subst eg6
          refine ft_go mi_k50 3 26 [(2, .int l2_2), (0, .ref 98), (1, .int x1)] [.int x1, .ref 98] ig6 ag6 qg6 rg6 (by rfl) ?_
          refine ko_callN mi_k50.1 (pc := 26) (ls := [(2, .int l2_2), (0, .ref 98), (1, .int x1)]) (st := [.int x1, .ref 98]) (h := ks ig6 ag6 qg6 rg6) (i := (.invokevirtual 70, 3, 51, 0, 9, 0, 180)) (mi_k50.2 _ _ (by rfl)) (ft_invS mi_pq51 (by rfl)) (cy := mi_c51) mi_pq51 rfl (h51 _ _ _ _ hGg6.I hGg6.R x1 (oz928 hp0.1 hp0.2)) (kj_d1 (n := n) (o := 13) (o1 := 14) (by decide)) ?_
          intro ig7 ag7 qg7 rg7 kg7 hg7
          have hGg7 := kG_call hGg6 kg7 (by decide +kernel)
          refine ft_go mi_k50 2 33 [(2, .int l2_2), (0, .ref 98), (1, .int x1)] [.ref (rg7 2)] ig7 ag7 qg7 rg7 (by rfl) ?_
          rcases hGg7.R.1 with ⟨eRrg7_0, eRrg7_2⟩ | ⟨eRrg7_0, eRrg7_2⟩
          ·
            have eRrg7_0 : rg7 0 = 10 := eRrg7_0
            have eRrg7_2 : rg7 2 = 100 := eRrg7_2
            refine ko_eq (x1 := (33, [(2, .int l2_2), (0, .ref 98), (1, .int x1)], [.ref 100], (0, 0), ks ig7 ag7 qg7 rg7)) (by rw [eRrg7_2]) ?_
            refine ft_go mi_k50 2 36 [(2, .int l2_2), (0, .ref 98), (1, .int x1)] [.int 0, .int 38, .ref 100] ig7 ag7 qg7 rg7 (by rfl) ?_
            refine ko_callI mi_k50.1 (pc := 36) (ls := [(2, .int l2_2), (0, .ref 98), (1, .int x1)]) (st := [.int 0, .int 38, .ref 100]) (h := ks ig7 ag7 qg7 rg7) (i := (.invokevirtual 60, 3, 17, 0, 9, 0, 187)) (mi_k50.2 _ _ (by rfl)) (ft_invS mi_pq17 (by rfl)) (cy := mi_c17) mi_pq17 rfl (kc17_100 hGg7.I hGg7.R 38 0) (kj_d3 (n := n) (c := 1) (o1 := 14) (by decide)) ?_
            intro vg8 ig8 ag8 qg8 rg8 kg8 hg8
            have hGg8 := kG_call hGg7 kg8 (by decide +kernel)
            have eRrg8_0 : rg8 0 = 10 := (kg8.fr 0 rfl).trans eRrg7_0
            have eRrg8_2 : rg8 2 = 100 := (kg8.fr 2 rfl).trans eRrg7_2
            have s9 : (l2_2 + 1).toInt = l2_2.toInt + (1 : Int32).toInt := kd_add (oz12 p2_0 kn1) (oz929 c5 fi2_6273.2 kn1)
            refine ft_go mi_k50 3 7 [(2, .int (l2_2 + 1)), (0, .ref 98), (1, .int x1)] [] ig8 ag8 qg8 rg8 (by rfl) ?_
            have fig8_6273 : ((0 : Int) ≤ (ig8 6273).toInt) ∧ ((ig8 6273).toInt ≤ 120) := hGg8.I.1 6273
            have fig7_6273 : ((0 : Int) ≤ (ig7 6273).toInt) ∧ ((ig7 6273).toInt ≤ 120) := hGg7.I.1 6273
            have fig6_6273 : ((0 : Int) ≤ (ig6 6273).toInt) ∧ ((ig6 6273).toInt ≤ 120) := hGg6.I.1 6273
            have efig6_6273 : (ig6 6273).toInt = (i2 6273).toInt := kg6.ti 6273 rfl
            have efig7_6273 : (ig7 6273).toInt = (ig6 6273).toInt := kg7.ti 6273 rfl
            have efig8_6273 : (ig8 6273).toInt = (ig7 6273).toInt := kg8.ti 6273 rfl
            exact ih2 _ _ _ _ _ hGg8 (oz14 p2_0 s9 kn1) (kj_meas (oz445 efig6_6273 efig7_6273 efig8_6273 s9 kn1) (oz45 c5) hm2)
          ·
            have eRrg7_0 : rg7 0 = 100 := eRrg7_0
            have eRrg7_2 : rg7 2 = 10 := eRrg7_2
            refine ko_eq (x1 := (33, [(2, .int l2_2), (0, .ref 98), (1, .int x1)], [.ref 10], (0, 0), ks ig7 ag7 qg7 rg7)) (by rw [eRrg7_2]) ?_
            refine ft_go mi_k50 2 36 [(2, .int l2_2), (0, .ref 98), (1, .int x1)] [.int 0, .int 38, .ref 10] ig7 ag7 qg7 rg7 (by rfl) ?_
            refine ko_callI mi_k50.1 (pc := 36) (ls := [(2, .int l2_2), (0, .ref 98), (1, .int x1)]) (st := [.int 0, .int 38, .ref 10]) (h := ks ig7 ag7 qg7 rg7) (i := (.invokevirtual 60, 3, 17, 0, 9, 0, 187)) (mi_k50.2 _ _ (by rfl)) (ft_invS mi_pq17 (by rfl)) (cy := mi_c17) mi_pq17 rfl (kc17_10 hGg7.I hGg7.R 38 0) (kj_d3 (n := n) (c := 1) (o1 := 14) (by decide)) ?_
            intro vg10 ig10 ag10 qg10 rg10 kg10 hg10
            have hGg10 := kG_call hGg7 kg10 (by decide +kernel)
            have eRrg10_0 : rg10 0 = 100 := (kg10.fr 0 rfl).trans eRrg7_0
            have eRrg10_2 : rg10 2 = 10 := (kg10.fr 2 rfl).trans eRrg7_2
            have s11 : (l2_2 + 1).toInt = l2_2.toInt + (1 : Int32).toInt := kd_add (oz12 p2_0 kn1) (oz929 c5 fi2_6273.2 kn1)
            refine ft_go mi_k50 3 7 [(2, .int (l2_2 + 1)), (0, .ref 98), (1, .int x1)] [] ig10 ag10 qg10 rg10 (by rfl) ?_
            have fig10_6273 : ((0 : Int) ≤ (ig10 6273).toInt) ∧ ((ig10 6273).toInt ≤ 120) := hGg10.I.1 6273
            have fig7_6273 : ((0 : Int) ≤ (ig7 6273).toInt) ∧ ((ig7 6273).toInt ≤ 120) := hGg7.I.1 6273
            have fig6_6273 : ((0 : Int) ≤ (ig6 6273).toInt) ∧ ((ig6 6273).toInt ≤ 120) := hGg6.I.1 6273
            have efig6_6273 : (ig6 6273).toInt = (i2 6273).toInt := kg6.ti 6273 rfl
            have efig7_6273 : (ig7 6273).toInt = (ig6 6273).toInt := kg7.ti 6273 rfl
            have efig10_6273 : (ig10 6273).toInt = (ig7 6273).toInt := kg10.ti 6273 rfl
            exact ih2 _ _ _ _ _ hGg10 (oz14 p2_0 s11 kn1) (kj_meas (oz933 efig10_6273 efig6_6273 efig7_6273 s11 kn1) (oz45 c5) hm2)
        ·
          subst eg6
          refine ft_go mi_k50 1 46 [(2, .int l2_2), (0, .ref 98), (1, .int x1)] [] ig6 ag6 qg6 rg6 (by rfl) ?_
          have hG12 := kG_call hGg1 hGg6 (by decide +kernel)
          exact ft_ret mi_k50 (by rfl) (hP  _ _ _ _ hG12 trivial)
  exact lp2 _ _ _ _ _ _ (kG_self _ hGg1.I hGg1.R) (oz46 kn0) (Nat.lt_succ_self _)
set_option maxRecDepth 100000 in
theorem kLsT_49 (n : Nat) (h54 : kLT_54 n) (h53 : kLT_53 n) (h52 : kLT_52 n) (h51 : kLT_51 n) (h50 : kLT_50 n) : kLT_49 n := by
  intro i a q r hI hr x1 hp0
  have hG := kG_self wT hI hr
  refine km_ofN (q := (mi_h49, mi_c49)) rfl (by decide) (Nat.le_of_ble_eq_true rfl) ?_
  intro P hP
  have hn0 : (0 : Int) ≤ (n : Int) := Int.natCast_nonneg n
  refine ft_go mi_k49 2 2 [(0, .ref 98), (1, .int x1)] [.int x1, .ref 98] i a q r (by rfl) ?_
  refine ko_callN mi_k49.1 (pc := 2) (ls := [(0, .ref 98), (1, .int x1)]) (st := [.int x1, .ref 98]) (h := ks i a q r) (i := (.invokevirtual 67, 3, 50, 0, 9, 0, 179)) (mi_k49.2 _ _ (by rfl)) (ft_invS mi_pq50 (by rfl)) (cy := mi_c50) mi_pq50 rfl (h50 _ _ _ _ hG.I hG.R x1 (oz928 hp0.1 hp0.2)) (kj_d1 (n := n) (o := 14) (o1 := 15) (by decide)) ?_
  intro ig1 ag1 qg1 rg1 kg1 hg1
  have hGg1 := kG_call hG kg1 (by decide +kernel)
  refine ft_go mi_k49 2 7 [(2, .int 0), (0, .ref 98), (1, .int x1)] [] ig1 ag1 qg1 rg1 (by rfl) ?_
  have lp2 : ∀ (nz : Nat) (i2 : Nat → Int32) (a2 : Nat → List Int32) (q2 : Nat → List Int64) (r2 : Nat → Nat) (l2_2 : Int32), kG w49_98_L7 ig1 ag1 qg1 rg1 i2 a2 q2 r2 → (0 : Int) ≤ l2_2.toInt → (((i2 6273).toInt - l2_2.toInt)).toNat < nz → ko (6 * n + 15) (mi_h49, mi_c49) P (7, [(2, .int l2_2), (0, .ref 98), (1, .int x1)], [], (0, 0), ks i2 a2 q2 r2) := by
    intro nz
    induction nz with
    | zero =>
      intro _ _ _ _ _ _ _ hm
      exact absurd hm (Nat.not_lt_zero _)
    | succ nz ih2 =>
      intro i2 a2 q2 r2 l2_2 hL2 p2_0 hm2
      have fi2_6273 : ((0 : Int) ≤ (i2 6273).toInt) ∧ ((i2 6273).toInt ≤ 120) := hL2.I.1 6273
      have fig1_6273 : ((0 : Int) ≤ (ig1 6273).toInt) ∧ ((ig1 6273).toInt ≤ 120) := hGg1.I.1 6273
      have fi_6273 : ((0 : Int) ≤ (i 6273).toInt) ∧ ((i 6273).toInt ≤ 120) := hG.I.1 6273
      have efig1_6273 : (ig1 6273).toInt = (i 6273).toInt := kg1.ti 6273 rfl
      have efi2_6273 : (i2 6273).toInt = (ig1 6273).toInt := hL2.ti 6273 rfl
      refine ft_go mi_k49 3 12 [(2, .int l2_2), (0, .ref 98), (1, .int x1)] [.int (i2 6273), .int l2_2] i2 a2 q2 r2 (by rfl) ?_
      refine ft_if mi_k49 (decide ((i2 6273) ≤ l2_2)) 46 15 [(2, .int l2_2), (0, .ref 98), (1, .int x1)] [] (by rfl) (fun c => ?_) (fun c => ?_)
      ·
        have c3 : (i2 6273).toInt ≤ l2_2.toInt := kd_le c; clear c
        have hG4 := kG_call hGg1 hL2 (by decide +kernel)
        exact ft_ret mi_k49 (by rfl) (hP  _ _ _ _ hG4 trivial)
      ·
        have c5 : l2_2.toInt < (i2 6273).toInt := kd_leF c; clear c
        refine ft_go mi_k49 2 18 [(2, .int l2_2), (0, .ref 98), (1, .int x1)] [.int 124, .ref 98] i2 a2 q2 r2 (by rfl) ?_
        refine ko_callI mi_k49.1 (pc := 18) (ls := [(2, .int l2_2), (0, .ref 98), (1, .int x1)]) (st := [.int 124, .ref 98]) (h := ks i2 a2 q2 r2) (i := (.invokevirtual 39, 3, 46, 0, 9, 0, 200)) (mi_k49.2 _ _ (by rfl)) (ft_invS mi_pq46 (by rfl)) (cy := mi_c46) mi_pq46 rfl (kc46_98 hL2.I hL2.R 124 (oz901 kn124)) (kj_d3 (n := n) (c := 3) (o1 := 15) (by decide)) ?_
        intro vg6 ig6 ag6 qg6 rg6 kg6 hg6
        have hGg6 := kG_call hL2 kg6 (by decide +kernel)
        rcases hg6 with ⟨eg6, hg6⟩ | ⟨eg6, hg6⟩
        ·
          subst eg6
          refine ft_go mi_k49 3 26 [(2, .int l2_2), (0, .ref 98), (1, .int x1)] [.int x1, .ref 98] ig6 ag6 qg6 rg6 (by rfl) ?_
          refine ko_callN mi_k49.1 (pc := 26) (ls := [(2, .int l2_2), (0, .ref 98), (1, .int x1)]) (st := [.int x1, .ref 98]) (h := ks ig6 ag6 qg6 rg6) (i := (.invokevirtual 67, 3, 50, 0, 9, 0, 179)) (mi_k49.2 _ _ (by rfl)) (ft_invS mi_pq50 (by rfl)) (cy := mi_c50) mi_pq50 rfl (h50 _ _ _ _ hGg6.I hGg6.R x1 (oz928 hp0.1 hp0.2)) (kj_d1 (n := n) (o := 14) (o1 := 15) (by decide)) ?_
          intro ig7 ag7 qg7 rg7 kg7 hg7
          have hGg7 := kG_call hGg6 kg7 (by decide +kernel)
          refine ft_go mi_k49 2 33 [(2, .int l2_2), (0, .ref 98), (1, .int x1)] [.ref (rg7 2)] ig7 ag7 qg7 rg7 (by rfl) ?_
          rcases hGg7.R.1 with ⟨eRrg7_0, eRrg7_2⟩ | ⟨eRrg7_0, eRrg7_2⟩
          ·
            have eRrg7_0 : rg7 0 = 10 := eRrg7_0
            have eRrg7_2 : rg7 2 = 100 := eRrg7_2
            refine ko_eq (x1 := (33, [(2, .int l2_2), (0, .ref 98), (1, .int x1)], [.ref 100], (0, 0), ks ig7 ag7 qg7 rg7)) (by rw [eRrg7_2]) ?_
            refine ft_go mi_k49 2 36 [(2, .int l2_2), (0, .ref 98), (1, .int x1)] [.int 0, .int 124, .ref 100] ig7 ag7 qg7 rg7 (by rfl) ?_
            refine ko_callI mi_k49.1 (pc := 36) (ls := [(2, .int l2_2), (0, .ref 98), (1, .int x1)]) (st := [.int 0, .int 124, .ref 100]) (h := ks ig7 ag7 qg7 rg7) (i := (.invokevirtual 60, 3, 17, 0, 9, 0, 187)) (mi_k49.2 _ _ (by rfl)) (ft_invS mi_pq17 (by rfl)) (cy := mi_c17) mi_pq17 rfl (kc17_100 hGg7.I hGg7.R 124 0) (kj_d3 (n := n) (c := 1) (o1 := 15) (by decide)) ?_
            intro vg8 ig8 ag8 qg8 rg8 kg8 hg8
            have hGg8 := kG_call hGg7 kg8 (by decide +kernel)
            have eRrg8_0 : rg8 0 = 10 := (kg8.fr 0 rfl).trans eRrg7_0
            have eRrg8_2 : rg8 2 = 100 := (kg8.fr 2 rfl).trans eRrg7_2
            have s9 : (l2_2 + 1).toInt = l2_2.toInt + (1 : Int32).toInt := kd_add (oz12 p2_0 kn1) (oz929 c5 fi2_6273.2 kn1)
            refine ft_go mi_k49 3 7 [(2, .int (l2_2 + 1)), (0, .ref 98), (1, .int x1)] [] ig8 ag8 qg8 rg8 (by rfl) ?_
            have fig8_6273 : ((0 : Int) ≤ (ig8 6273).toInt) ∧ ((ig8 6273).toInt ≤ 120) := hGg8.I.1 6273
            have fig7_6273 : ((0 : Int) ≤ (ig7 6273).toInt) ∧ ((ig7 6273).toInt ≤ 120) := hGg7.I.1 6273
            have fig6_6273 : ((0 : Int) ≤ (ig6 6273).toInt) ∧ ((ig6 6273).toInt ≤ 120) := hGg6.I.1 6273
            have efig6_6273 : (ig6 6273).toInt = (i2 6273).toInt := kg6.ti 6273 rfl
            have efig7_6273 : (ig7 6273).toInt = (ig6 6273).toInt := kg7.ti 6273 rfl
            have efig8_6273 : (ig8 6273).toInt = (ig7 6273).toInt := kg8.ti 6273 rfl
            exact ih2 _ _ _ _ _ hGg8 (oz14 p2_0 s9 kn1) (kj_meas (oz445 efig6_6273 efig7_6273 efig8_6273 s9 kn1) (oz45 c5) hm2)
          ·
            have eRrg7_0 : rg7 0 = 100 := eRrg7_0
            have eRrg7_2 : rg7 2 = 10 := eRrg7_2
            refine ko_eq (x1 := (33, [(2, .int l2_2), (0, .ref 98), (1, .int x1)], [.ref 10], (0, 0), ks ig7 ag7 qg7 rg7)) (by rw [eRrg7_2]) ?_
            refine ft_go mi_k49 2 36 [(2, .int l2_2), (0, .ref 98), (1, .int x1)] [.int 0, .int 124, .ref 10] ig7 ag7 qg7 rg7 (by rfl) ?_
            refine ko_callI mi_k49.1 (pc := 36) (ls := [(2, .int l2_2), (0, .ref 98), (1, .int x1)]) (st := [.int 0, .int 124, .ref 10]) (h := ks ig7 ag7 qg7 rg7) (i := (.invokevirtual 60, 3, 17, 0, 9, 0, 187)) (mi_k49.2 _ _ (by rfl)) (ft_invS mi_pq17 (by rfl)) (cy := mi_c17) mi_pq17 rfl (kc17_10 hGg7.I hGg7.R 124 0) (kj_d3 (n := n) (c := 1) (o1 := 15) (by decide)) ?_
            intro vg10 ig10 ag10 qg10 rg10 kg10 hg10
            have hGg10 := kG_call hGg7 kg10 (by decide +kernel)
            have eRrg10_0 : rg10 0 = 100 := (kg10.fr 0 rfl).trans eRrg7_0
            have eRrg10_2 : rg10 2 = 10 := (kg10.fr 2 rfl).trans eRrg7_2
            have s11 : (l2_2 + 1).toInt = l2_2.toInt + (1 : Int32).toInt := kd_add (oz12 p2_0 kn1) (oz929 c5 fi2_6273.2 kn1)
            refine ft_go mi_k49 3 7 [(2, .int (l2_2 + 1)), (0, .ref 98), (1, .int x1)] [] ig10 ag10 qg10 rg10 (by rfl) ?_
            have fig10_6273 : ((0 : Int) ≤ (ig10 6273).toInt) ∧ ((ig10 6273).toInt ≤ 120) := hGg10.I.1 6273
            have fig7_6273 : ((0 : Int) ≤ (ig7 6273).toInt) ∧ ((ig7 6273).toInt ≤ 120) := hGg7.I.1 6273
            have fig6_6273 : ((0 : Int) ≤ (ig6 6273).toInt) ∧ ((ig6 6273).toInt ≤ 120) := hGg6.I.1 6273
            have efig6_6273 : (ig6 6273).toInt = (i2 6273).toInt := kg6.ti 6273 rfl
            have efig7_6273 : (ig7 6273).toInt = (ig6 6273).toInt := kg7.ti 6273 rfl
            have efig10_6273 : (ig10 6273).toInt = (ig7 6273).toInt := kg10.ti 6273 rfl
            exact ih2 _ _ _ _ _ hGg10 (oz14 p2_0 s11 kn1) (kj_meas (oz933 efig10_6273 efig6_6273 efig7_6273 s11 kn1) (oz45 c5) hm2)
        ·
          subst eg6
          refine ft_go mi_k49 1 46 [(2, .int l2_2), (0, .ref 98), (1, .int x1)] [] ig6 ag6 qg6 rg6 (by rfl) ?_
          have hG12 := kG_call hGg1 hGg6 (by decide +kernel)
          exact ft_ret mi_k49 (by rfl) (hP  _ _ _ _ hG12 trivial)
  exact lp2 _ _ _ _ _ _ (kG_self _ hGg1.I hGg1.R) (oz46 kn0) (Nat.lt_succ_self _)
theorem kLallT : ∀ n : Nat, kLT_49 n ∧ kLT_54 n
  | 0 => by
    have ih : ∀ m, 0 = m + 1 → kLT_49 m ∧ kLT_54 m := fun m h => by omega
    have h54 := kLsT_54 0  ih
    have h53 := kLsT_53 0 h54
    have h52 := kLsT_52 0 h54 h53
    have h51 := kLsT_51 0 h54 h53 h52
    have h50 := kLsT_50 0 h54 h53 h52 h51
    have h49 := kLsT_49 0 h54 h53 h52 h51 h50
    exact ⟨h49, h54⟩
  | n + 1 => by
    have ih : ∀ m, n + 1 = m + 1 → kLT_49 m ∧ kLT_54 m := fun m h => by
      have e : n = m := by omega
      subst e
      exact kLallT n
    have h54 := kLsT_54 (n + 1)  ih
    have h53 := kLsT_53 (n + 1) h54
    have h52 := kLsT_52 (n + 1) h54 h53
    have h51 := kLsT_51 (n + 1) h54 h53 h52
    have h50 := kLsT_50 (n + 1) h54 h53 h52 h51
    have h49 := kLsT_49 (n + 1) h54 h53 h52 h51 h50
    exact ⟨h49, h54⟩
set_option maxRecDepth 100000 in
theorem kc120 {i : Nat → Int32} {a : Nat → List Int32} {q : Nat → List Int64} {r : Nat → Nat} (hI : kI i a q) (hr : kr r) (x1 : Int32) (x2 : Int32) (x3 : Int32) : km 1 120 [.int x1, .int x2, .int x3] (ks i a q r) (kPI (ks i a q r) (fun v => (v = 1 ∧ ((x2.toInt ≤ x1.toInt) ∧ (x1.toInt ≤ x3.toInt))) ∨ (v = 0 ∧ (¬ ((x2.toInt ≤ x1.toInt) ∧ (x1.toInt ≤ x3.toInt)))))) := by
  have hG := kG_self kW0 hI hr
  refine km_ofPI (q := (mi_h120, mi_c120)) rfl (by decide) (Nat.le_of_ble_eq_true rfl) ?_
  intro P hP
  refine ft_go mi_k120 2 2 [(0, .int x1), (1, .int x2), (2, .int x3)] [.int x2, .int x1] i a q r (by rfl) ?_
  refine ft_if mi_k120 (decide (x1 < x2)) 14 5 [(0, .int x1), (1, .int x2), (2, .int x3)] [] (by rfl) (fun c => ?_) (fun c => ?_)
  ·
    have c1 : x1.toInt < x2.toInt := kd_lt c; clear c
    refine ft_go mi_k120 1 15 [(0, .int x1), (1, .int x2), (2, .int x3)] [.int 0] i a q r (by rfl) ?_
    exact ft_ret mi_k120 (by rfl) (hP 0 (Or.inr ⟨rfl, (oz0 c1)⟩))
  ·
    have c2 : x2.toInt ≤ x1.toInt := kd_ltF c; clear c
    refine ft_go mi_k120 2 7 [(0, .int x1), (1, .int x2), (2, .int x3)] [.int x3, .int x1] i a q r (by rfl) ?_
    refine ft_if mi_k120 (decide (x3 < x1)) 14 10 [(0, .int x1), (1, .int x2), (2, .int x3)] [] (by rfl) (fun c => ?_) (fun c => ?_)
    ·
      have c3 : x3.toInt < x1.toInt := kd_lt c; clear c
      refine ft_go mi_k120 1 15 [(0, .int x1), (1, .int x2), (2, .int x3)] [.int 0] i a q r (by rfl) ?_
      exact ft_ret mi_k120 (by rfl) (hP 0 (Or.inr ⟨rfl, (oz1 c3)⟩))
    ·
      have c4 : x1.toInt ≤ x3.toInt := kd_ltF c; clear c
      refine ft_go mi_k120 2 15 [(0, .int x1), (1, .int x2), (2, .int x3)] [.int 1] i a q r (by rfl) ?_
      exact ft_ret mi_k120 (by rfl) (hP 1 (Or.inl ⟨rfl, (oz2 c2 c4)⟩))
set_option maxRecDepth 100000 in
theorem kc126 {i : Nat → Int32} {a : Nat → List Int32} {q : Nat → List Int64} {r : Nat → Nat} (hI : kI i a q) (hr : kr r) (x1 : Int32) (x2 : Int32) : km 3 126 [.int x1, .int x2] (ks i a q r) (kPI (ks i a q r) (fun v => (v = 1 ∧ (((0 : Int) ≤ x1.toInt) ∧ (x1.toInt ≤ 6))) ∨ (v = 0 ∧ (True)))) := by
  have hG := kG_self kW0 hI hr
  refine km_ofPI (q := (mi_h126, mi_c126)) rfl (by decide) (Nat.le_of_ble_eq_true rfl) ?_
  intro P hP
  refine ft_go mi_k126 3 4 [(0, .int x1), (1, .int x2)] [.int 6, .int 0, .int x1] i a q r (by rfl) ?_
  refine ko_callPI mi_k126.1 (pc := 4) (ls := [(0, .int x1), (1, .int x2)]) (st := [.int 6, .int 0, .int x1]) (h := ks i a q r) (i := (.invokestatic 74, 3, 120, 0, 9, 0, 152)) (mi_k126.2 _ _ (by rfl)) (ft_invS mi_pq120 (by rfl)) (cy := mi_c120) mi_pq120 rfl (kc120 hG.I hG.R x1 0 6) (by decide) ?_
  intro vg1 hg1
  rcases hg1 with ⟨eg1, hg1⟩ | ⟨eg1, hg1⟩
  ·
    subst eg1
    have z2 : ((0 : Int32).toInt ≤ x1.toInt) ∧ (x1.toInt ≤ (6 : Int32).toInt) := hg1
    refine ft_go mi_k126 4 15 [(0, .int x1), (1, .int x2)] [.int x1, .ref (mi_RO + 1), .int x2] i a q r (by rfl) ?_
    refine ko_iaro2 mi_k126.1 (l := [0, 0, 0, 0, 1, 0, 0]) (n := 7) (c := 7) (ax := (0, 0, 0, 0, 0)) (mi_k126.2 _ _ (by rfl)) (by rfl) (by rfl) rfl rfl (oz389 z2.1 kn0) (oz934 z2.2 kn6) ?_
    have r3 : ((0 : Int) ≤ (([0, 0, 0, 0, 1, 0, 0] : List Int32).getD x1.toNatClampNeg 0).toInt) ∧ ((([0, 0, 0, 0, 1, 0, 0] : List Int32).getD x1.toNatClampNeg 0).toInt ≤ 1) := kro_rng (lo := 0) (hi := 1) (by decide) (x1.toNatClampNeg)
    refine ft_go mi_k126 2 20 [(0, .int x1), (1, .int x2)] [.int x1, .ref (mi_RO + 2), .int (([0, 0, 0, 0, 1, 0, 0] : List Int32).getD x1.toNatClampNeg 0), .int x2] i a q r (by rfl) ?_
    refine ko_iaro2 mi_k126.1 (l := [999, 9, 9, 1, 5, 1, 99]) (n := 7) (c := 7) (ax := (0, 0, 0, 0, 0)) (mi_k126.2 _ _ (by rfl)) (by rfl) (by rfl) rfl rfl (oz389 z2.1 kn0) (oz934 z2.2 kn6) ?_
    have r4 : ((0 : Int) ≤ (([999, 9, 9, 1, 5, 1, 99] : List Int32).getD x1.toNatClampNeg 0).toInt) ∧ ((([999, 9, 9, 1, 5, 1, 99] : List Int32).getD x1.toNatClampNeg 0).toInt ≤ 999) := kro_rng (lo := 0) (hi := 999) (by decide) (x1.toNatClampNeg)
    refine ko_callPI mi_k126.1 (pc := 21) (ls := [(0, .int x1), (1, .int x2)]) (st := [.int (([999, 9, 9, 1, 5, 1, 99] : List Int32).getD x1.toNatClampNeg 0), .int (([0, 0, 0, 0, 1, 0, 0] : List Int32).getD x1.toNatClampNeg 0), .int x2]) (h := ks i a q r) (i := (.invokestatic 74, 3, 120, 0, 9, 0, 152)) (mi_k126.2 _ _ (by rfl)) (ft_invS mi_pq120 (by rfl)) (cy := mi_c120) mi_pq120 rfl (kc120 hG.I hG.R x2 (([0, 0, 0, 0, 1, 0, 0] : List Int32).getD x1.toNatClampNeg 0) (([999, 9, 9, 1, 5, 1, 99] : List Int32).getD x1.toNatClampNeg 0)) (by decide) ?_
    intro vg5 hg5
    rcases hg5 with ⟨eg5, hg5⟩ | ⟨eg5, hg5⟩
    ·
      subst eg5
      have z6 : ((([0, 0, 0, 0, 1, 0, 0] : List Int32).getD x1.toNatClampNeg 0).toInt ≤ x2.toInt) ∧ (x2.toInt ≤ (([999, 9, 9, 1, 5, 1, 99] : List Int32).getD x1.toNatClampNeg 0).toInt) := hg5
      refine ft_go mi_k126 3 32 [(0, .int x1), (1, .int x2)] [.int 1] i a q r (by rfl) ?_
      exact ft_ret mi_k126 (by rfl) (hP 1 (Or.inl ⟨rfl, (oz935 z2.1 z2.2 kn0 kn6)⟩))
    ·
      subst eg5
      have z7 : ¬ (((([0, 0, 0, 0, 1, 0, 0] : List Int32).getD x1.toNatClampNeg 0).toInt ≤ x2.toInt) ∧ (x2.toInt ≤ (([999, 9, 9, 1, 5, 1, 99] : List Int32).getD x1.toNatClampNeg 0).toInt)) := hg5
      refine ft_go mi_k126 2 32 [(0, .int x1), (1, .int x2)] [.int 0] i a q r (by rfl) ?_
      exact ft_ret mi_k126 (by rfl) (hP 0 (Or.inr ⟨rfl, trivial⟩))
  ·
    subst eg1
    have z8 : ¬ (((0 : Int32).toInt ≤ x1.toInt) ∧ (x1.toInt ≤ (6 : Int32).toInt)) := hg1
    refine ft_go mi_k126 2 32 [(0, .int x1), (1, .int x2)] [.int 0] i a q r (by rfl) ?_
    exact ft_ret mi_k126 (by rfl) (hP 0 (Or.inr ⟨rfl, trivial⟩))
def w25_1 : kW := ([64], [2, 3, 4, 5, 6], [], [])
set_option maxRecDepth 100000 in
theorem kc25_1 {i : Nat → Int32} {a : Nat → List Int32} {q : Nat → List Int64} {r : Nat → Nat} (hI : kI i a q) (hr : kr r) (x1 : Int32) (x2 : Int32) (x3 : Int32) : km 1 25 [.ref 1, .int x1, .int x2, .int x3] (ks i a q r) (kVI w25_1 i a q r (fun v i1 a1 q1 r1 => True)) := by
  have hG := kG_self w25_1 hI hr
  refine km_ofI (q := (mi_h25, mi_c25)) rfl (by decide) (Nat.le_of_ble_eq_true rfl) ?_
  intro P hP
  have fi_64 : ((0 : Int) ≤ (i 64).toInt) ∧ ((i 64).toInt ≤ 8) := hG.I.1 64
  refine ft_go mi_k25 3 6 [(0, .ref 1), (1, .int x1), (2, .int x2), (3, .int x3)] [.int 8, .int (i 64)] i a q r (by rfl) ?_
  refine ft_if mi_k25 (decide ((i 64) < 8)) 12 9 [(0, .ref 1), (1, .int x1), (2, .int x2), (3, .int x3)] [] (by rfl) (fun c => ?_) (fun c => ?_)
  ·
    have c1 : (i 64).toInt < (8 : Int32).toInt := kd_lt c; clear c
    refine ft_go mi_k25 5 21 [(0, .ref 1), (1, .int x1), (2, .int x2), (3, .int x3)] [.int x1, .int (i 64), .ref 2] i a q r (by rfl) ?_
    refine ko_iast3 mi_k25.1 (n := 8) (c := 8) (ax := (0, 0, 0, 0, 0)) (mi_k25.2 _ _ (by rfl)) (by rfl) (ksG2 _ _ _ _) (ksA2 _ _ _ _) (hG.I.2.1 2) rfl (oz3 fi_64.1) (oz936 c1 kn8) ?_
    intro a2 ea2 fa2
    have hJ2 := kG_a3 hG 2 rfl ea2 fa2 (kd_bd _)
    refine ft_go mi_k25 5 31 [(0, .ref 1), (1, .int x1), (2, .int x2), (3, .int x3)] [.int x2, .int (i 64), .ref 3] i a2 q r (by rfl) ?_
    refine ko_iast3 mi_k25.1 (n := 8) (c := 8) (ax := (0, 0, 0, 0, 0)) (mi_k25.2 _ _ (by rfl)) (by rfl) (ksG3 _ _ _ _) (ksA3 _ _ _ _) (hJ2.I.2.1 3) rfl (oz3 fi_64.1) (oz936 c1 kn8) ?_
    intro a3 ea3 fa3
    have hJ3 := kG_a3 hJ2 3 rfl ea3 fa3 (kd_bd _)
    refine ft_go mi_k25 5 41 [(0, .ref 1), (1, .int x1), (2, .int x2), (3, .int x3)] [.int x3, .int (i 64), .ref 4] i a3 q r (by rfl) ?_
    refine ko_iast3 mi_k25.1 (n := 8) (c := 8) (ax := (0, 0, 0, 0, 0)) (mi_k25.2 _ _ (by rfl)) (by rfl) (ksG4 _ _ _ _) (ksA4 _ _ _ _) (hJ3.I.2.1 4) rfl (oz3 fi_64.1) (oz936 c1 kn8) ?_
    intro a4 ea4 fa4
    have hJ4 := kG_a3 hJ3 4 rfl ea4 fa4 (kd_bd _)
    refine ft_go mi_k25 5 51 [(0, .ref 1), (1, .int x1), (2, .int x2), (3, .int x3)] [.int 0, .int (i 64), .ref 5] i a4 q r (by rfl) ?_
    refine ko_iast3 mi_k25.1 (n := 8) (c := 8) (ax := (0, 0, 0, 0, 0)) (mi_k25.2 _ _ (by rfl)) (by rfl) (ksG5 _ _ _ _) (ksA5 _ _ _ _) (hJ4.I.2.1 5) rfl (oz3 fi_64.1) (oz936 c1 kn8) ?_
    intro a5 ea5 fa5
    have hJ5 := kG_a3 hJ4 5 rfl ea5 fa5 (kd_bd _)
    refine ft_go mi_k25 5 61 [(0, .ref 1), (1, .int x1), (2, .int x2), (3, .int x3)] [.int 0, .int (i 64), .ref 6] i a5 q r (by rfl) ?_
    refine ko_iast3 mi_k25.1 (n := 8) (c := 8) (ax := (0, 0, 0, 0, 0)) (mi_k25.2 _ _ (by rfl)) (by rfl) (ksG6 _ _ _ _) (ksA6 _ _ _ _) (hJ5.I.2.1 6) rfl (oz3 fi_64.1) (oz936 c1 kn8) ?_
    intro a6 ea6 fa6
    have hJ6 := kG_a3 hJ5 6 rfl ea6 fa6 (kd_bd _)
    have s7 : ((i 64) + 1).toInt = (i 64).toInt + (1 : Int32).toInt := kd_add (oz12 fi_64.1 kn1) (oz13 fi_64.2 kn1)
    have hJ8 := kG_i hJ6 64 rfl (v := ((i 64) + 1)) ⟨(oz14 fi_64.1 s7 kn1), (oz937 c1 s7 kn8 kn1)⟩
    have s9 : (((i 64) + 1) - 1).toInt = ((i 64) + 1).toInt - (1 : Int32).toInt := kd_sub (oz915 fi_64.1 s7 kn1) (oz938 fi_64.2 s7 kn1)
    refine ft_go mi_k25 10 78 [(0, .ref 1), (1, .int x1), (2, .int x2), (3, .int x3)] [.int (((i 64) + 1) - 1)] (ku i 64 ((i 64) + 1)) a6 q r (by rfl) ?_
    exact ft_ret mi_k25 (by rfl) (hP (((i 64) + 1) - 1) _ _ _ _ hJ8 trivial)
  ·
    have c10 : (8 : Int32).toInt ≤ (i 64).toInt := kd_ltF c; clear c
    refine ft_go mi_k25 1 11 [(0, .ref 1), (1, .int x1), (2, .int x2), (3, .int x3)] [.int (-3)] i a q r (by rfl) ?_
    exact ft_ret mi_k25 (by rfl) (hP (-3) _ _ _ _ hG trivial)
def w80_0 : kW := ([64], [2, 3, 4, 5, 6], [], [])
set_option maxRecDepth 100000 in
theorem kc80_0 {i : Nat → Int32} {a : Nat → List Int32} {q : Nat → List Int64} {r : Nat → Nat} (hI : kI i a q) (hr : kr r) (x1 : Int32) (x2 : Int32) : km 5 80 [.ref 0, .int x1, .int x2] (ks i a q r) (kVI w80_0 i a q r (fun v i1 a1 q1 r1 => True)) := by
  have hG := kG_self w80_0 hI hr
  refine km_ofI (q := (mi_h80, mi_c80)) rfl (by decide) (Nat.le_of_ble_eq_true rfl) ?_
  intro P hP
  refine ft_go mi_k80 2 2 [(0, .ref 0), (1, .int x1), (2, .int x2)] [.int x1, .int 1] i a q r (by rfl) ?_
  refine ko_callPI mi_k80.1 (pc := 2) (ls := [(0, .ref 0), (1, .int x1), (2, .int x2)]) (st := [.int x1, .int 1]) (h := ks i a q r) (i := (.invokestatic 58, 3, 126, 0, 9, 0, 151)) (mi_k80.2 _ _ (by rfl)) (ft_invS mi_pq126 (by rfl)) (cy := mi_c126) mi_pq126 rfl (kc126 hG.I hG.R 1 x1) (by decide) ?_
  intro vg1 hg1
  rcases hg1 with ⟨eg1, hg1⟩ | ⟨eg1, hg1⟩
  ·
    subst eg1
    have z2 : ((0 : Int) ≤ (1 : Int32).toInt) ∧ ((1 : Int32).toInt ≤ 6) := hg1
    refine ft_go mi_k80 3 10 [(0, .ref 0), (1, .int x1), (2, .int x2)] [.int x2, .int 2] i a q r (by rfl) ?_
    refine ko_callPI mi_k80.1 (pc := 10) (ls := [(0, .ref 0), (1, .int x1), (2, .int x2)]) (st := [.int x2, .int 2]) (h := ks i a q r) (i := (.invokestatic 58, 3, 126, 0, 9, 0, 151)) (mi_k80.2 _ _ (by rfl)) (ft_invS mi_pq126 (by rfl)) (cy := mi_c126) mi_pq126 rfl (kc126 hG.I hG.R 2 x2) (by decide) ?_
    intro vg3 hg3
    rcases hg3 with ⟨eg3, hg3⟩ | ⟨eg3, hg3⟩
    ·
      subst eg3
      have z4 : ((0 : Int) ≤ (2 : Int32).toInt) ∧ ((2 : Int32).toInt ≤ 6) := hg3
      have fi_64 : ((0 : Int) ≤ (i 64).toInt) ∧ ((i 64).toInt ≤ 8) := hG.I.1 64
      refine ft_go mi_k80 5 27 [(0, .ref 0), (1, .int x1), (2, .int x2)] [.int 8, .int (i 64)] i a q r (by rfl) ?_
      refine ft_if mi_k80 (decide ((i 64) < 8)) 35 30 [(0, .ref 0), (1, .int x1), (2, .int x2)] [] (by rfl) (fun c => ?_) (fun c => ?_)
      ·
        have c5 : (i 64).toInt < (8 : Int32).toInt := kd_lt c; clear c
        refine ft_go mi_k80 5 43 [(0, .ref 0), (1, .int x1), (2, .int x2)] [.int x2, .int x1, .int 100, .ref 1] i a q r (by rfl) ?_
        refine ko_callI mi_k80.1 (pc := 43) (ls := [(0, .ref 0), (1, .int x1), (2, .int x2)]) (st := [.int x2, .int x1, .int 100, .ref 1]) (h := ks i a q r) (i := (.invokevirtual 66, 3, 25, 0, 9, 0, 155)) (mi_k80.2 _ _ (by rfl)) (ft_invS mi_pq25 (by rfl)) (cy := mi_c25) mi_pq25 rfl (kc25_1 hG.I hG.R 100 x1 x2) (by decide) ?_
        intro vg6 ig6 ag6 qg6 rg6 kg6 hg6
        have hGg6 := kG_call hG kg6 (by decide +kernel)
        exact ft_ret mi_k80 (by rfl) (hP vg6 _ _ _ _ hGg6 trivial)
      ·
        have c7 : (8 : Int32).toInt ≤ (i 64).toInt := kd_ltF c; clear c
        refine ft_go mi_k80 2 46 [(0, .ref 0), (1, .int x1), (2, .int x2)] [.int (-3)] i a q r (by rfl) ?_
        exact ft_ret mi_k80 (by rfl) (hP (-3) _ _ _ _ hG trivial)
    ·
      subst eg3
      refine ft_go mi_k80 2 17 [(0, .ref 0), (1, .int x1), (2, .int x2)] [.int (-1)] i a q r (by rfl) ?_
      exact ft_ret mi_k80 (by rfl) (hP (-1) _ _ _ _ hG trivial)
  ·
    subst eg1
    refine ft_go mi_k80 2 17 [(0, .ref 0), (1, .int x1), (2, .int x2)] [.int (-1)] i a q r (by rfl) ?_
    exact ft_ret mi_k80 (by rfl) (hP (-1) _ _ _ _ hG trivial)
set_option maxRecDepth 100000 in
theorem kc121 {i : Nat → Int32} {a : Nat → List Int32} {q : Nat → List Int64} {r : Nat → Nat} (hI : kI i a q) (hr : kr r) (x1 : Int32) : km 3 121 [.int x1] (ks i a q r) (kPI (ks i a q r) (fun v => (v = 1 ∧ (((0 : Int) ≤ x1.toInt) ∧ (x1.toInt ≤ 5))) ∨ (v = 0 ∧ (¬ (((0 : Int) ≤ x1.toInt) ∧ (x1.toInt ≤ 5)))))) := by
  have hG := kG_self kW0 hI hr
  refine km_ofPI (q := (mi_h121, mi_c121)) rfl (by decide) (Nat.le_of_ble_eq_true rfl) ?_
  intro P hP
  refine ft_go mi_k121 3 3 [(0, .int x1)] [.int 5, .int 0, .int x1] i a q r (by rfl) ?_
  refine ko_callPI mi_k121.1 (pc := 3) (ls := [(0, .int x1)]) (st := [.int 5, .int 0, .int x1]) (h := ks i a q r) (i := (.invokestatic 74, 3, 120, 0, 9, 0, 152)) (mi_k121.2 _ _ (by rfl)) (ft_invS mi_pq120 (by rfl)) (cy := mi_c120) mi_pq120 rfl (kc120 hG.I hG.R x1 0 5) (by decide) ?_
  intro vg1 hg1
  rcases hg1 with ⟨eg1, hg1⟩ | ⟨eg1, hg1⟩
  ·
    subst eg1
    have z2 : ((0 : Int32).toInt ≤ x1.toInt) ∧ (x1.toInt ≤ (5 : Int32).toInt) := hg1
    exact ft_ret mi_k121 (by rfl) (hP 1 (Or.inl ⟨rfl, (oz17 z2.1 z2.2 kn0 kn5)⟩))
  ·
    subst eg1
    have z3 : ¬ (((0 : Int32).toInt ≤ x1.toInt) ∧ (x1.toInt ≤ (5 : Int32).toInt)) := hg1
    exact ft_ret mi_k121 (by rfl) (hP 0 (Or.inr ⟨rfl, (oz18 z3 kn0 kn5)⟩))
set_option maxRecDepth 100000 in
theorem kc36_104 {i : Nat → Int32} {a : Nat → List Int32} {q : Nat → List Int64} {r : Nat → Nat} (hI : kI i a q) (hr : kr r) (x1 : Int32) : km 1 36 [.ref 104, .int x1] (ks i a q r) (kPI (ks i a q r) (fun v => (v = 1 ∧ (((i 6656).toInt = 2) ∧ ((i 6658).toInt = x1.toInt))) ∨ (v = 0 ∧ (¬ (((i 6656).toInt = 2) ∧ ((i 6658).toInt = x1.toInt)))))) := by
  have hG := kG_self kW0 hI hr
  refine km_ofPI (q := (mi_h36, mi_c36)) rfl (by decide) (Nat.le_of_ble_eq_true rfl) ?_
  intro P hP
  have fi_6656 : ((0 : Int) ≤ (i 6656).toInt) ∧ ((i 6656).toInt ≤ 2) := hG.I.1 6656
  refine ft_go mi_k36 3 5 [(0, .ref 104), (1, .int x1)] [.int 2, .int (i 6656)] i a q r (by rfl) ?_
  refine ft_if mi_k36 ((i 6656) != 2) 20 8 [(0, .ref 104), (1, .int x1)] [] (by rfl) (fun c => ?_) (fun c => ?_)
  ·
    have c1 : (i 6656).toInt ≠ (2 : Int32).toInt := kd_ne c; clear c
    refine ft_go mi_k36 1 21 [(0, .ref 104), (1, .int x1)] [.int 0] i a q r (by rfl) ?_
    have fi_6658 : ((0 : Int) ≤ (i 6658).toInt) ∧ ((i 6658).toInt ≤ 4) := hG.I.1 6658
    exact ft_ret mi_k36 (by rfl) (hP 0 (Or.inr ⟨rfl, (oz940 c1 fi_6656.2 kn2)⟩))
  ·
    have c2 : (i 6656).toInt = (2 : Int32).toInt := kd_neF c; clear c
    have fi_6658 : ((0 : Int) ≤ (i 6658).toInt) ∧ ((i 6658).toInt ≤ 4) := hG.I.1 6658
    refine ft_go mi_k36 3 13 [(0, .ref 104), (1, .int x1)] [.int x1, .int (i 6658)] i a q r (by rfl) ?_
    refine ft_if mi_k36 ((i 6658) != x1) 20 16 [(0, .ref 104), (1, .int x1)] [] (by rfl) (fun c => ?_) (fun c => ?_)
    ·
      have c3 : (i 6658).toInt ≠ x1.toInt := kd_ne c; clear c
      refine ft_go mi_k36 1 21 [(0, .ref 104), (1, .int x1)] [.int 0] i a q r (by rfl) ?_
      exact ft_ret mi_k36 (by rfl) (hP 0 (Or.inr ⟨rfl, (oz941 c3)⟩))
    ·
      have c4 : (i 6658).toInt = x1.toInt := kd_neF c; clear c
      refine ft_go mi_k36 2 21 [(0, .ref 104), (1, .int x1)] [.int 1] i a q r (by rfl) ?_
      exact ft_ret mi_k36 (by rfl) (hP 1 (Or.inl ⟨rfl, (oz942 c2 c4 fi_6656.2 kn2)⟩))
def w82_0_104 : kW := ([64], [2, 3, 4, 5, 6], [], [])
set_option maxRecDepth 100000 in
theorem kc82_0_104 {i : Nat → Int32} {a : Nat → List Int32} {q : Nat → List Int64} {r : Nat → Nat} (hI : kI i a q) (hr : kr r) (x2 : Int32) (hp0 : x2.toInt ≤ 1000) : km 5 82 [.ref 0, .ref 104, .int x2] (ks i a q r) (kVI w82_0_104 i a q r (fun v i1 a1 q1 r1 => (v = 1 ∧ (True)) ∨ (v = 0 ∧ (True)))) := by
  have hG := kG_self w82_0_104 hI hr
  refine km_ofI (q := (mi_h82, mi_c82)) rfl (by decide) (Nat.le_of_ble_eq_true rfl) ?_
  intro P hP
  have fi_64 : ((0 : Int) ≤ (i 64).toInt) ∧ ((i 64).toInt ≤ 8) := hG.I.1 64
  refine ft_go mi_k82 4 9 [(0, .ref 0), (1, .ref 104), (2, .int x2)] [.int 8, .int (i 64)] i a q r (by rfl) ?_
  refine ft_if mi_k82 (decide (8 ≤ (i 64))) 26 12 [(0, .ref 0), (1, .ref 104), (2, .int x2)] [] (by rfl) (fun c => ?_) (fun c => ?_)
  ·
    have c1 : (8 : Int32).toInt ≤ (i 64).toInt := kd_le c; clear c
    refine ft_go mi_k82 1 27 [(0, .ref 0), (1, .ref 104), (2, .int x2)] [.int 0] i a q r (by rfl) ?_
    exact ft_ret mi_k82 (by rfl) (hP 0 _ _ _ _ hG (Or.inr ⟨rfl, trivial⟩))
  ·
    have c2 : (i 64).toInt < (8 : Int32).toInt := kd_leF c; clear c
    refine ft_go mi_k82 1 13 [(0, .ref 0), (1, .ref 104), (2, .int x2)] [.int x2] i a q r (by rfl) ?_
    refine ft_if mi_k82 (decide (x2 < 0)) 26 16 [(0, .ref 0), (1, .ref 104), (2, .int x2)] [] (by rfl) (fun c => ?_) (fun c => ?_)
    ·
      have c3 : x2.toInt < (0 : Int32).toInt := kd_lt c; clear c
      refine ft_go mi_k82 1 27 [(0, .ref 0), (1, .ref 104), (2, .int x2)] [.int 0] i a q r (by rfl) ?_
      exact ft_ret mi_k82 (by rfl) (hP 0 _ _ _ _ hG (Or.inr ⟨rfl, trivial⟩))
    ·
      have c4 : (0 : Int32).toInt ≤ x2.toInt := kd_ltF c; clear c
      have s5 : (x2 + 2).toInt = x2.toInt + (2 : Int32).toInt := kd_add (oz947 c4 kn0 kn2) (oz948 hp0 kn2)
      have fi_6659 : ((0 : Int) ≤ (i 6659).toInt) ∧ ((i 6659).toInt ≤ 60) := hG.I.1 6659
      refine ft_go mi_k82 5 23 [(0, .ref 0), (1, .ref 104), (2, .int x2)] [.int (i 6659), .int (x2 + 2)] i a q r (by rfl) ?_
      refine ft_if mi_k82 (decide ((x2 + 2) < (i 6659))) 28 26 [(0, .ref 0), (1, .ref 104), (2, .int x2)] [] (by rfl) (fun c => ?_) (fun c => ?_)
      ·
        have c6 : (x2 + 2).toInt < (i 6659).toInt := kd_lt c; clear c
        refine ft_go mi_k82 3 33 [(0, .ref 0), (1, .ref 104), (2, .int x2)] [.int x2, .ref 105] i a q r (by rfl) ?_
        refine ko_lald2 mi_k82.1 (l := q 105) (n := 60) (c := 60) (ax := (0, 0, 0, 0, 0)) (mi_k82.2 _ _ (by rfl)) (by rfl) (by rfl) (hG.I.2.2.2 105) rfl (oz389 c4 kn0) (oz949 c6 fi_6659.2 s5 kn2) ?_
        have s7 : (x2 + 1).toInt = x2.toInt + (1 : Int32).toInt := kd_add (oz950 c4 kn0 kn1) (oz951 hp0 kn1)
        refine ft_go mi_k82 7 43 [(3, .int (((q 105).getD x2.toNatClampNeg 0).toInt32)), (0, .ref 0), (1, .ref 104), (2, .int x2)] [.int (x2 + 1), .ref 105] i a q r (by rfl) ?_
        refine ko_lald2 mi_k82.1 (l := q 105) (n := 60) (c := 60) (ax := (0, 0, 0, 0, 0)) (mi_k82.2 _ _ (by rfl)) (by rfl) (by rfl) (hG.I.2.2.2 105) rfl (oz952 c4 s7 kn0 kn1) (oz953 c6 fi_6659.2 s5 s7 kn2 kn1) ?_
        refine ft_go mi_k82 7 54 [(4, .int (((q 105).getD (x2 + 1).toNatClampNeg 0).toInt32)), (3, .int (((q 105).getD x2.toNatClampNeg 0).toInt32)), (0, .ref 0), (1, .ref 104), (2, .int x2)] [.int (x2 + 2), .ref 105] i a q r (by rfl) ?_
        refine ko_lald2 mi_k82.1 (l := q 105) (n := 60) (c := 60) (ax := (0, 0, 0, 0, 0)) (mi_k82.2 _ _ (by rfl)) (by rfl) (by rfl) (hG.I.2.2.2 105) rfl (oz954 c4 s5 kn0 kn2) (oz266 c6 fi_6659.2) ?_
        refine ft_go mi_k82 4 60 [(5, .int (((q 105).getD (x2 + 2).toNatClampNeg 0).toInt32)), (4, .int (((q 105).getD (x2 + 1).toNatClampNeg 0).toInt32)), (3, .int (((q 105).getD x2.toNatClampNeg 0).toInt32)), (0, .ref 0), (1, .ref 104), (2, .int x2)] [.int (((q 105).getD x2.toNatClampNeg 0).toInt32), .int 0] i a q r (by rfl) ?_
        refine ko_callPI mi_k82.1 (pc := 60) (ls := [(5, .int (((q 105).getD (x2 + 2).toNatClampNeg 0).toInt32)), (4, .int (((q 105).getD (x2 + 1).toNatClampNeg 0).toInt32)), (3, .int (((q 105).getD x2.toNatClampNeg 0).toInt32)), (0, .ref 0), (1, .ref 104), (2, .int x2)]) (st := [.int (((q 105).getD x2.toNatClampNeg 0).toInt32), .int 0]) (h := ks i a q r) (i := (.invokestatic 58, 3, 126, 0, 9, 0, 151)) (mi_k82.2 _ _ (by rfl)) (ft_invS mi_pq126 (by rfl)) (cy := mi_c126) mi_pq126 rfl (kc126 hG.I hG.R 0 (((q 105).getD x2.toNatClampNeg 0).toInt32)) (by decide) ?_
        intro vg8 hg8
        rcases hg8 with ⟨eg8, hg8⟩ | ⟨eg8, hg8⟩
        ·
          subst eg8
          have z9 : ((0 : Int) ≤ (0 : Int32).toInt) ∧ ((0 : Int32).toInt ≤ 6) := hg8
          refine ft_go mi_k82 3 69 [(5, .int (((q 105).getD (x2 + 2).toNatClampNeg 0).toInt32)), (4, .int (((q 105).getD (x2 + 1).toNatClampNeg 0).toInt32)), (3, .int (((q 105).getD x2.toNatClampNeg 0).toInt32)), (0, .ref 0), (1, .ref 104), (2, .int x2)] [.int (((q 105).getD (x2 + 1).toNatClampNeg 0).toInt32), .int 1] i a q r (by rfl) ?_
          refine ko_callPI mi_k82.1 (pc := 69) (ls := [(5, .int (((q 105).getD (x2 + 2).toNatClampNeg 0).toInt32)), (4, .int (((q 105).getD (x2 + 1).toNatClampNeg 0).toInt32)), (3, .int (((q 105).getD x2.toNatClampNeg 0).toInt32)), (0, .ref 0), (1, .ref 104), (2, .int x2)]) (st := [.int (((q 105).getD (x2 + 1).toNatClampNeg 0).toInt32), .int 1]) (h := ks i a q r) (i := (.invokestatic 58, 3, 126, 0, 9, 0, 151)) (mi_k82.2 _ _ (by rfl)) (ft_invS mi_pq126 (by rfl)) (cy := mi_c126) mi_pq126 rfl (kc126 hG.I hG.R 1 (((q 105).getD (x2 + 1).toNatClampNeg 0).toInt32)) (by decide) ?_
          intro vg10 hg10
          rcases hg10 with ⟨eg10, hg10⟩ | ⟨eg10, hg10⟩
          ·
            subst eg10
            have z11 : ((0 : Int) ≤ (1 : Int32).toInt) ∧ ((1 : Int32).toInt ≤ 6) := hg10
            refine ft_go mi_k82 3 78 [(5, .int (((q 105).getD (x2 + 2).toNatClampNeg 0).toInt32)), (4, .int (((q 105).getD (x2 + 1).toNatClampNeg 0).toInt32)), (3, .int (((q 105).getD x2.toNatClampNeg 0).toInt32)), (0, .ref 0), (1, .ref 104), (2, .int x2)] [.int (((q 105).getD (x2 + 2).toNatClampNeg 0).toInt32), .int 2] i a q r (by rfl) ?_
            refine ko_callPI mi_k82.1 (pc := 78) (ls := [(5, .int (((q 105).getD (x2 + 2).toNatClampNeg 0).toInt32)), (4, .int (((q 105).getD (x2 + 1).toNatClampNeg 0).toInt32)), (3, .int (((q 105).getD x2.toNatClampNeg 0).toInt32)), (0, .ref 0), (1, .ref 104), (2, .int x2)]) (st := [.int (((q 105).getD (x2 + 2).toNatClampNeg 0).toInt32), .int 2]) (h := ks i a q r) (i := (.invokestatic 58, 3, 126, 0, 9, 0, 151)) (mi_k82.2 _ _ (by rfl)) (ft_invS mi_pq126 (by rfl)) (cy := mi_c126) mi_pq126 rfl (kc126 hG.I hG.R 2 (((q 105).getD (x2 + 2).toNatClampNeg 0).toInt32)) (by decide) ?_
            intro vg12 hg12
            rcases hg12 with ⟨eg12, hg12⟩ | ⟨eg12, hg12⟩
            ·
              subst eg12
              have z13 : ((0 : Int) ≤ (2 : Int32).toInt) ∧ ((2 : Int32).toInt ≤ 6) := hg12
              refine ft_go mi_k82 6 95 [(5, .int (((q 105).getD (x2 + 2).toNatClampNeg 0).toInt32)), (4, .int (((q 105).getD (x2 + 1).toNatClampNeg 0).toInt32)), (3, .int (((q 105).getD x2.toNatClampNeg 0).toInt32)), (0, .ref 0), (1, .ref 104), (2, .int x2)] [.int (((q 105).getD (x2 + 2).toNatClampNeg 0).toInt32), .int (((q 105).getD (x2 + 1).toNatClampNeg 0).toInt32), .int (((q 105).getD x2.toNatClampNeg 0).toInt32), .ref 1] i a q r (by rfl) ?_
              refine ko_callI mi_k82.1 (pc := 95) (ls := [(5, .int (((q 105).getD (x2 + 2).toNatClampNeg 0).toInt32)), (4, .int (((q 105).getD (x2 + 1).toNatClampNeg 0).toInt32)), (3, .int (((q 105).getD x2.toNatClampNeg 0).toInt32)), (0, .ref 0), (1, .ref 104), (2, .int x2)]) (st := [.int (((q 105).getD (x2 + 2).toNatClampNeg 0).toInt32), .int (((q 105).getD (x2 + 1).toNatClampNeg 0).toInt32), .int (((q 105).getD x2.toNatClampNeg 0).toInt32), .ref 1]) (h := ks i a q r) (i := (.invokevirtual 66, 3, 25, 0, 9, 0, 155)) (mi_k82.2 _ _ (by rfl)) (ft_invS mi_pq25 (by rfl)) (cy := mi_c25) mi_pq25 rfl (kc25_1 hG.I hG.R (((q 105).getD x2.toNatClampNeg 0).toInt32) (((q 105).getD (x2 + 1).toNatClampNeg 0).toInt32) (((q 105).getD (x2 + 2).toNatClampNeg 0).toInt32)) (by decide) ?_
              intro vg14 ig14 ag14 qg14 rg14 kg14 hg14
              have hGg14 := kG_call hG kg14 (by decide +kernel)
              refine ft_go mi_k82 2 100 [(5, .int (((q 105).getD (x2 + 2).toNatClampNeg 0).toInt32)), (4, .int (((q 105).getD (x2 + 1).toNatClampNeg 0).toInt32)), (3, .int (((q 105).getD x2.toNatClampNeg 0).toInt32)), (0, .ref 0), (1, .ref 104), (2, .int x2)] [.int 1] ig14 ag14 qg14 rg14 (by rfl) ?_
              exact ft_ret mi_k82 (by rfl) (hP 1 _ _ _ _ hGg14 (Or.inl ⟨rfl, trivial⟩))
            ·
              subst eg12
              refine ft_go mi_k82 2 85 [(5, .int (((q 105).getD (x2 + 2).toNatClampNeg 0).toInt32)), (4, .int (((q 105).getD (x2 + 1).toNatClampNeg 0).toInt32)), (3, .int (((q 105).getD x2.toNatClampNeg 0).toInt32)), (0, .ref 0), (1, .ref 104), (2, .int x2)] [.int 0] i a q r (by rfl) ?_
              exact ft_ret mi_k82 (by rfl) (hP 0 _ _ _ _ hG (Or.inr ⟨rfl, trivial⟩))
          ·
            subst eg10
            refine ft_go mi_k82 2 85 [(5, .int (((q 105).getD (x2 + 2).toNatClampNeg 0).toInt32)), (4, .int (((q 105).getD (x2 + 1).toNatClampNeg 0).toInt32)), (3, .int (((q 105).getD x2.toNatClampNeg 0).toInt32)), (0, .ref 0), (1, .ref 104), (2, .int x2)] [.int 0] i a q r (by rfl) ?_
            exact ft_ret mi_k82 (by rfl) (hP 0 _ _ _ _ hG (Or.inr ⟨rfl, trivial⟩))
        ·
          subst eg8
          refine ft_go mi_k82 2 85 [(5, .int (((q 105).getD (x2 + 2).toNatClampNeg 0).toInt32)), (4, .int (((q 105).getD (x2 + 1).toNatClampNeg 0).toInt32)), (3, .int (((q 105).getD x2.toNatClampNeg 0).toInt32)), (0, .ref 0), (1, .ref 104), (2, .int x2)] [.int 0] i a q r (by rfl) ?_
          exact ft_ret mi_k82 (by rfl) (hP 0 _ _ _ _ hG (Or.inr ⟨rfl, trivial⟩))
      ·
        have c15 : (i 6659).toInt ≤ (x2 + 2).toInt := kd_ltF c; clear c
        refine ft_go mi_k82 1 27 [(0, .ref 0), (1, .ref 104), (2, .int x2)] [.int 0] i a q r (by rfl) ?_
        exact ft_ret mi_k82 (by rfl) (hP 0 _ _ _ _ hG (Or.inr ⟨rfl, trivial⟩))
set_option maxRecDepth 100000 in
theorem kc36_106 {i : Nat → Int32} {a : Nat → List Int32} {q : Nat → List Int64} {r : Nat → Nat} (hI : kI i a q) (hr : kr r) (x1 : Int32) : km 1 36 [.ref 106, .int x1] (ks i a q r) (kPI (ks i a q r) (fun v => (v = 1 ∧ (((i 6784).toInt = 2) ∧ ((i 6786).toInt = x1.toInt))) ∨ (v = 0 ∧ (¬ (((i 6784).toInt = 2) ∧ ((i 6786).toInt = x1.toInt)))))) := by
  have hG := kG_self kW0 hI hr
  refine km_ofPI (q := (mi_h36, mi_c36)) rfl (by decide) (Nat.le_of_ble_eq_true rfl) ?_
  intro P hP
  have fi_6784 : ((0 : Int) ≤ (i 6784).toInt) ∧ ((i 6784).toInt ≤ 2) := hG.I.1 6784
  refine ft_go mi_k36 3 5 [(0, .ref 106), (1, .int x1)] [.int 2, .int (i 6784)] i a q r (by rfl) ?_
  refine ft_if mi_k36 ((i 6784) != 2) 20 8 [(0, .ref 106), (1, .int x1)] [] (by rfl) (fun c => ?_) (fun c => ?_)
  ·
    have c1 : (i 6784).toInt ≠ (2 : Int32).toInt := kd_ne c; clear c
    refine ft_go mi_k36 1 21 [(0, .ref 106), (1, .int x1)] [.int 0] i a q r (by rfl) ?_
    have fi_6786 : ((0 : Int) ≤ (i 6786).toInt) ∧ ((i 6786).toInt ≤ 4) := hG.I.1 6786
    exact ft_ret mi_k36 (by rfl) (hP 0 (Or.inr ⟨rfl, (oz940 c1 fi_6784.2 kn2)⟩))
  ·
    have c2 : (i 6784).toInt = (2 : Int32).toInt := kd_neF c; clear c
    have fi_6786 : ((0 : Int) ≤ (i 6786).toInt) ∧ ((i 6786).toInt ≤ 4) := hG.I.1 6786
    refine ft_go mi_k36 3 13 [(0, .ref 106), (1, .int x1)] [.int x1, .int (i 6786)] i a q r (by rfl) ?_
    refine ft_if mi_k36 ((i 6786) != x1) 20 16 [(0, .ref 106), (1, .int x1)] [] (by rfl) (fun c => ?_) (fun c => ?_)
    ·
      have c3 : (i 6786).toInt ≠ x1.toInt := kd_ne c; clear c
      refine ft_go mi_k36 1 21 [(0, .ref 106), (1, .int x1)] [.int 0] i a q r (by rfl) ?_
      exact ft_ret mi_k36 (by rfl) (hP 0 (Or.inr ⟨rfl, (oz941 c3)⟩))
    ·
      have c4 : (i 6786).toInt = x1.toInt := kd_neF c; clear c
      refine ft_go mi_k36 2 21 [(0, .ref 106), (1, .int x1)] [.int 1] i a q r (by rfl) ?_
      exact ft_ret mi_k36 (by rfl) (hP 1 (Or.inl ⟨rfl, (oz942 c2 c4 fi_6784.2 kn2)⟩))
def w82_0_106 : kW := ([64], [2, 3, 4, 5, 6], [], [])
set_option maxRecDepth 100000 in
theorem kc82_0_106 {i : Nat → Int32} {a : Nat → List Int32} {q : Nat → List Int64} {r : Nat → Nat} (hI : kI i a q) (hr : kr r) (x2 : Int32) (hp0 : x2.toInt ≤ 1000) : km 5 82 [.ref 0, .ref 106, .int x2] (ks i a q r) (kVI w82_0_106 i a q r (fun v i1 a1 q1 r1 => (v = 1 ∧ (True)) ∨ (v = 0 ∧ (True)))) := by
  have hG := kG_self w82_0_106 hI hr
  refine km_ofI (q := (mi_h82, mi_c82)) rfl (by decide) (Nat.le_of_ble_eq_true rfl) ?_
  intro P hP
  have fi_64 : ((0 : Int) ≤ (i 64).toInt) ∧ ((i 64).toInt ≤ 8) := hG.I.1 64
  refine ft_go mi_k82 4 9 [(0, .ref 0), (1, .ref 106), (2, .int x2)] [.int 8, .int (i 64)] i a q r (by rfl) ?_
  refine ft_if mi_k82 (decide (8 ≤ (i 64))) 26 12 [(0, .ref 0), (1, .ref 106), (2, .int x2)] [] (by rfl) (fun c => ?_) (fun c => ?_)
  ·
    have c1 : (8 : Int32).toInt ≤ (i 64).toInt := kd_le c; clear c
    refine ft_go mi_k82 1 27 [(0, .ref 0), (1, .ref 106), (2, .int x2)] [.int 0] i a q r (by rfl) ?_
    exact ft_ret mi_k82 (by rfl) (hP 0 _ _ _ _ hG (Or.inr ⟨rfl, trivial⟩))
  ·
    have c2 : (i 64).toInt < (8 : Int32).toInt := kd_leF c; clear c
    refine ft_go mi_k82 1 13 [(0, .ref 0), (1, .ref 106), (2, .int x2)] [.int x2] i a q r (by rfl) ?_
    refine ft_if mi_k82 (decide (x2 < 0)) 26 16 [(0, .ref 0), (1, .ref 106), (2, .int x2)] [] (by rfl) (fun c => ?_) (fun c => ?_)
    ·
      have c3 : x2.toInt < (0 : Int32).toInt := kd_lt c; clear c
      refine ft_go mi_k82 1 27 [(0, .ref 0), (1, .ref 106), (2, .int x2)] [.int 0] i a q r (by rfl) ?_
      exact ft_ret mi_k82 (by rfl) (hP 0 _ _ _ _ hG (Or.inr ⟨rfl, trivial⟩))
    ·
      have c4 : (0 : Int32).toInt ≤ x2.toInt := kd_ltF c; clear c
      have s5 : (x2 + 2).toInt = x2.toInt + (2 : Int32).toInt := kd_add (oz947 c4 kn0 kn2) (oz948 hp0 kn2)
      have fi_6787 : ((0 : Int) ≤ (i 6787).toInt) ∧ ((i 6787).toInt ≤ 60) := hG.I.1 6787
      refine ft_go mi_k82 5 23 [(0, .ref 0), (1, .ref 106), (2, .int x2)] [.int (i 6787), .int (x2 + 2)] i a q r (by rfl) ?_
      refine ft_if mi_k82 (decide ((x2 + 2) < (i 6787))) 28 26 [(0, .ref 0), (1, .ref 106), (2, .int x2)] [] (by rfl) (fun c => ?_) (fun c => ?_)
      ·
        have c6 : (x2 + 2).toInt < (i 6787).toInt := kd_lt c; clear c
        refine ft_go mi_k82 3 33 [(0, .ref 0), (1, .ref 106), (2, .int x2)] [.int x2, .ref 107] i a q r (by rfl) ?_
        refine ko_lald2 mi_k82.1 (l := q 107) (n := 60) (c := 60) (ax := (0, 0, 0, 0, 0)) (mi_k82.2 _ _ (by rfl)) (by rfl) (by rfl) (hG.I.2.2.2 107) rfl (oz389 c4 kn0) (oz949 c6 fi_6787.2 s5 kn2) ?_
        have s7 : (x2 + 1).toInt = x2.toInt + (1 : Int32).toInt := kd_add (oz950 c4 kn0 kn1) (oz951 hp0 kn1)
        refine ft_go mi_k82 7 43 [(3, .int (((q 107).getD x2.toNatClampNeg 0).toInt32)), (0, .ref 0), (1, .ref 106), (2, .int x2)] [.int (x2 + 1), .ref 107] i a q r (by rfl) ?_
        refine ko_lald2 mi_k82.1 (l := q 107) (n := 60) (c := 60) (ax := (0, 0, 0, 0, 0)) (mi_k82.2 _ _ (by rfl)) (by rfl) (by rfl) (hG.I.2.2.2 107) rfl (oz952 c4 s7 kn0 kn1) (oz953 c6 fi_6787.2 s5 s7 kn2 kn1) ?_
        refine ft_go mi_k82 7 54 [(4, .int (((q 107).getD (x2 + 1).toNatClampNeg 0).toInt32)), (3, .int (((q 107).getD x2.toNatClampNeg 0).toInt32)), (0, .ref 0), (1, .ref 106), (2, .int x2)] [.int (x2 + 2), .ref 107] i a q r (by rfl) ?_
        refine ko_lald2 mi_k82.1 (l := q 107) (n := 60) (c := 60) (ax := (0, 0, 0, 0, 0)) (mi_k82.2 _ _ (by rfl)) (by rfl) (by rfl) (hG.I.2.2.2 107) rfl (oz954 c4 s5 kn0 kn2) (oz266 c6 fi_6787.2) ?_
        refine ft_go mi_k82 4 60 [(5, .int (((q 107).getD (x2 + 2).toNatClampNeg 0).toInt32)), (4, .int (((q 107).getD (x2 + 1).toNatClampNeg 0).toInt32)), (3, .int (((q 107).getD x2.toNatClampNeg 0).toInt32)), (0, .ref 0), (1, .ref 106), (2, .int x2)] [.int (((q 107).getD x2.toNatClampNeg 0).toInt32), .int 0] i a q r (by rfl) ?_
        refine ko_callPI mi_k82.1 (pc := 60) (ls := [(5, .int (((q 107).getD (x2 + 2).toNatClampNeg 0).toInt32)), (4, .int (((q 107).getD (x2 + 1).toNatClampNeg 0).toInt32)), (3, .int (((q 107).getD x2.toNatClampNeg 0).toInt32)), (0, .ref 0), (1, .ref 106), (2, .int x2)]) (st := [.int (((q 107).getD x2.toNatClampNeg 0).toInt32), .int 0]) (h := ks i a q r) (i := (.invokestatic 58, 3, 126, 0, 9, 0, 151)) (mi_k82.2 _ _ (by rfl)) (ft_invS mi_pq126 (by rfl)) (cy := mi_c126) mi_pq126 rfl (kc126 hG.I hG.R 0 (((q 107).getD x2.toNatClampNeg 0).toInt32)) (by decide) ?_
        intro vg8 hg8
        rcases hg8 with ⟨eg8, hg8⟩ | ⟨eg8, hg8⟩
        ·
          subst eg8
          have z9 : ((0 : Int) ≤ (0 : Int32).toInt) ∧ ((0 : Int32).toInt ≤ 6) := hg8
          refine ft_go mi_k82 3 69 [(5, .int (((q 107).getD (x2 + 2).toNatClampNeg 0).toInt32)), (4, .int (((q 107).getD (x2 + 1).toNatClampNeg 0).toInt32)), (3, .int (((q 107).getD x2.toNatClampNeg 0).toInt32)), (0, .ref 0), (1, .ref 106), (2, .int x2)] [.int (((q 107).getD (x2 + 1).toNatClampNeg 0).toInt32), .int 1] i a q r (by rfl) ?_
          refine ko_callPI mi_k82.1 (pc := 69) (ls := [(5, .int (((q 107).getD (x2 + 2).toNatClampNeg 0).toInt32)), (4, .int (((q 107).getD (x2 + 1).toNatClampNeg 0).toInt32)), (3, .int (((q 107).getD x2.toNatClampNeg 0).toInt32)), (0, .ref 0), (1, .ref 106), (2, .int x2)]) (st := [.int (((q 107).getD (x2 + 1).toNatClampNeg 0).toInt32), .int 1]) (h := ks i a q r) (i := (.invokestatic 58, 3, 126, 0, 9, 0, 151)) (mi_k82.2 _ _ (by rfl)) (ft_invS mi_pq126 (by rfl)) (cy := mi_c126) mi_pq126 rfl (kc126 hG.I hG.R 1 (((q 107).getD (x2 + 1).toNatClampNeg 0).toInt32)) (by decide) ?_
          intro vg10 hg10
          rcases hg10 with ⟨eg10, hg10⟩ | ⟨eg10, hg10⟩
          ·
            subst eg10
            have z11 : ((0 : Int) ≤ (1 : Int32).toInt) ∧ ((1 : Int32).toInt ≤ 6) := hg10
            refine ft_go mi_k82 3 78 [(5, .int (((q 107).getD (x2 + 2).toNatClampNeg 0).toInt32)), (4, .int (((q 107).getD (x2 + 1).toNatClampNeg 0).toInt32)), (3, .int (((q 107).getD x2.toNatClampNeg 0).toInt32)), (0, .ref 0), (1, .ref 106), (2, .int x2)] [.int (((q 107).getD (x2 + 2).toNatClampNeg 0).toInt32), .int 2] i a q r (by rfl) ?_
            refine ko_callPI mi_k82.1 (pc := 78) (ls := [(5, .int (((q 107).getD (x2 + 2).toNatClampNeg 0).toInt32)), (4, .int (((q 107).getD (x2 + 1).toNatClampNeg 0).toInt32)), (3, .int (((q 107).getD x2.toNatClampNeg 0).toInt32)), (0, .ref 0), (1, .ref 106), (2, .int x2)]) (st := [.int (((q 107).getD (x2 + 2).toNatClampNeg 0).toInt32), .int 2]) (h := ks i a q r) (i := (.invokestatic 58, 3, 126, 0, 9, 0, 151)) (mi_k82.2 _ _ (by rfl)) (ft_invS mi_pq126 (by rfl)) (cy := mi_c126) mi_pq126 rfl (kc126 hG.I hG.R 2 (((q 107).getD (x2 + 2).toNatClampNeg 0).toInt32)) (by decide) ?_
            intro vg12 hg12
            rcases hg12 with ⟨eg12, hg12⟩ | ⟨eg12, hg12⟩
            ·
              subst eg12
              have z13 : ((0 : Int) ≤ (2 : Int32).toInt) ∧ ((2 : Int32).toInt ≤ 6) := hg12
              refine ft_go mi_k82 6 95 [(5, .int (((q 107).getD (x2 + 2).toNatClampNeg 0).toInt32)), (4, .int (((q 107).getD (x2 + 1).toNatClampNeg 0).toInt32)), (3, .int (((q 107).getD x2.toNatClampNeg 0).toInt32)), (0, .ref 0), (1, .ref 106), (2, .int x2)] [.int (((q 107).getD (x2 + 2).toNatClampNeg 0).toInt32), .int (((q 107).getD (x2 + 1).toNatClampNeg 0).toInt32), .int (((q 107).getD x2.toNatClampNeg 0).toInt32), .ref 1] i a q r (by rfl) ?_
              refine ko_callI mi_k82.1 (pc := 95) (ls := [(5, .int (((q 107).getD (x2 + 2).toNatClampNeg 0).toInt32)), (4, .int (((q 107).getD (x2 + 1).toNatClampNeg 0).toInt32)), (3, .int (((q 107).getD x2.toNatClampNeg 0).toInt32)), (0, .ref 0), (1, .ref 106), (2, .int x2)]) (st := [.int (((q 107).getD (x2 + 2).toNatClampNeg 0).toInt32), .int (((q 107).getD (x2 + 1).toNatClampNeg 0).toInt32), .int (((q 107).getD x2.toNatClampNeg 0).toInt32), .ref 1]) (h := ks i a q r) (i := (.invokevirtual 66, 3, 25, 0, 9, 0, 155)) (mi_k82.2 _ _ (by rfl)) (ft_invS mi_pq25 (by rfl)) (cy := mi_c25) mi_pq25 rfl (kc25_1 hG.I hG.R (((q 107).getD x2.toNatClampNeg 0).toInt32) (((q 107).getD (x2 + 1).toNatClampNeg 0).toInt32) (((q 107).getD (x2 + 2).toNatClampNeg 0).toInt32)) (by decide) ?_
              intro vg14 ig14 ag14 qg14 rg14 kg14 hg14
              have hGg14 := kG_call hG kg14 (by decide +kernel)
              refine ft_go mi_k82 2 100 [(5, .int (((q 107).getD (x2 + 2).toNatClampNeg 0).toInt32)), (4, .int (((q 107).getD (x2 + 1).toNatClampNeg 0).toInt32)), (3, .int (((q 107).getD x2.toNatClampNeg 0).toInt32)), (0, .ref 0), (1, .ref 106), (2, .int x2)] [.int 1] ig14 ag14 qg14 rg14 (by rfl) ?_
              exact ft_ret mi_k82 (by rfl) (hP 1 _ _ _ _ hGg14 (Or.inl ⟨rfl, trivial⟩))
            ·
              subst eg12
              refine ft_go mi_k82 2 85 [(5, .int (((q 107).getD (x2 + 2).toNatClampNeg 0).toInt32)), (4, .int (((q 107).getD (x2 + 1).toNatClampNeg 0).toInt32)), (3, .int (((q 107).getD x2.toNatClampNeg 0).toInt32)), (0, .ref 0), (1, .ref 106), (2, .int x2)] [.int 0] i a q r (by rfl) ?_
              exact ft_ret mi_k82 (by rfl) (hP 0 _ _ _ _ hG (Or.inr ⟨rfl, trivial⟩))
          ·
            subst eg10
            refine ft_go mi_k82 2 85 [(5, .int (((q 107).getD (x2 + 2).toNatClampNeg 0).toInt32)), (4, .int (((q 107).getD (x2 + 1).toNatClampNeg 0).toInt32)), (3, .int (((q 107).getD x2.toNatClampNeg 0).toInt32)), (0, .ref 0), (1, .ref 106), (2, .int x2)] [.int 0] i a q r (by rfl) ?_
            exact ft_ret mi_k82 (by rfl) (hP 0 _ _ _ _ hG (Or.inr ⟨rfl, trivial⟩))
        ·
          subst eg8
          refine ft_go mi_k82 2 85 [(5, .int (((q 107).getD (x2 + 2).toNatClampNeg 0).toInt32)), (4, .int (((q 107).getD (x2 + 1).toNatClampNeg 0).toInt32)), (3, .int (((q 107).getD x2.toNatClampNeg 0).toInt32)), (0, .ref 0), (1, .ref 106), (2, .int x2)] [.int 0] i a q r (by rfl) ?_
          exact ft_ret mi_k82 (by rfl) (hP 0 _ _ _ _ hG (Or.inr ⟨rfl, trivial⟩))
      ·
        have c15 : (i 6787).toInt ≤ (x2 + 2).toInt := kd_ltF c; clear c
        refine ft_go mi_k82 1 27 [(0, .ref 0), (1, .ref 106), (2, .int x2)] [.int 0] i a q r (by rfl) ?_
        exact ft_ret mi_k82 (by rfl) (hP 0 _ _ _ _ hG (Or.inr ⟨rfl, trivial⟩))
set_option maxRecDepth 100000 in
theorem kc36_108 {i : Nat → Int32} {a : Nat → List Int32} {q : Nat → List Int64} {r : Nat → Nat} (hI : kI i a q) (hr : kr r) (x1 : Int32) : km 1 36 [.ref 108, .int x1] (ks i a q r) (kPI (ks i a q r) (fun v => (v = 1 ∧ (((i 6912).toInt = 2) ∧ ((i 6914).toInt = x1.toInt))) ∨ (v = 0 ∧ (¬ (((i 6912).toInt = 2) ∧ ((i 6914).toInt = x1.toInt)))))) := by
  have hG := kG_self kW0 hI hr
  refine km_ofPI (q := (mi_h36, mi_c36)) rfl (by decide) (Nat.le_of_ble_eq_true rfl) ?_
  intro P hP
  have fi_6912 : ((0 : Int) ≤ (i 6912).toInt) ∧ ((i 6912).toInt ≤ 2) := hG.I.1 6912
  refine ft_go mi_k36 3 5 [(0, .ref 108), (1, .int x1)] [.int 2, .int (i 6912)] i a q r (by rfl) ?_
  refine ft_if mi_k36 ((i 6912) != 2) 20 8 [(0, .ref 108), (1, .int x1)] [] (by rfl) (fun c => ?_) (fun c => ?_)
  ·
    have c1 : (i 6912).toInt ≠ (2 : Int32).toInt := kd_ne c; clear c
    refine ft_go mi_k36 1 21 [(0, .ref 108), (1, .int x1)] [.int 0] i a q r (by rfl) ?_
    have fi_6914 : ((0 : Int) ≤ (i 6914).toInt) ∧ ((i 6914).toInt ≤ 4) := hG.I.1 6914
    exact ft_ret mi_k36 (by rfl) (hP 0 (Or.inr ⟨rfl, (oz940 c1 fi_6912.2 kn2)⟩))
  ·
    have c2 : (i 6912).toInt = (2 : Int32).toInt := kd_neF c; clear c
    have fi_6914 : ((0 : Int) ≤ (i 6914).toInt) ∧ ((i 6914).toInt ≤ 4) := hG.I.1 6914
    refine ft_go mi_k36 3 13 [(0, .ref 108), (1, .int x1)] [.int x1, .int (i 6914)] i a q r (by rfl) ?_
    refine ft_if mi_k36 ((i 6914) != x1) 20 16 [(0, .ref 108), (1, .int x1)] [] (by rfl) (fun c => ?_) (fun c => ?_)
    ·
      have c3 : (i 6914).toInt ≠ x1.toInt := kd_ne c; clear c
      refine ft_go mi_k36 1 21 [(0, .ref 108), (1, .int x1)] [.int 0] i a q r (by rfl) ?_
      exact ft_ret mi_k36 (by rfl) (hP 0 (Or.inr ⟨rfl, (oz941 c3)⟩))
    ·
      have c4 : (i 6914).toInt = x1.toInt := kd_neF c; clear c
      refine ft_go mi_k36 2 21 [(0, .ref 108), (1, .int x1)] [.int 1] i a q r (by rfl) ?_
      exact ft_ret mi_k36 (by rfl) (hP 1 (Or.inl ⟨rfl, (oz942 c2 c4 fi_6912.2 kn2)⟩))
def w82_0_108 : kW := ([64], [2, 3, 4, 5, 6], [], [])
set_option maxRecDepth 100000 in
theorem kc82_0_108 {i : Nat → Int32} {a : Nat → List Int32} {q : Nat → List Int64} {r : Nat → Nat} (hI : kI i a q) (hr : kr r) (x2 : Int32) (hp0 : x2.toInt ≤ 1000) : km 5 82 [.ref 0, .ref 108, .int x2] (ks i a q r) (kVI w82_0_108 i a q r (fun v i1 a1 q1 r1 => (v = 1 ∧ (True)) ∨ (v = 0 ∧ (True)))) := by
  have hG := kG_self w82_0_108 hI hr
  refine km_ofI (q := (mi_h82, mi_c82)) rfl (by decide) (Nat.le_of_ble_eq_true rfl) ?_
  intro P hP
  have fi_64 : ((0 : Int) ≤ (i 64).toInt) ∧ ((i 64).toInt ≤ 8) := hG.I.1 64
  refine ft_go mi_k82 4 9 [(0, .ref 0), (1, .ref 108), (2, .int x2)] [.int 8, .int (i 64)] i a q r (by rfl) ?_
  refine ft_if mi_k82 (decide (8 ≤ (i 64))) 26 12 [(0, .ref 0), (1, .ref 108), (2, .int x2)] [] (by rfl) (fun c => ?_) (fun c => ?_)
  ·
    have c1 : (8 : Int32).toInt ≤ (i 64).toInt := kd_le c; clear c
    refine ft_go mi_k82 1 27 [(0, .ref 0), (1, .ref 108), (2, .int x2)] [.int 0] i a q r (by rfl) ?_
    exact ft_ret mi_k82 (by rfl) (hP 0 _ _ _ _ hG (Or.inr ⟨rfl, trivial⟩))
  ·
    have c2 : (i 64).toInt < (8 : Int32).toInt := kd_leF c; clear c
    refine ft_go mi_k82 1 13 [(0, .ref 0), (1, .ref 108), (2, .int x2)] [.int x2] i a q r (by rfl) ?_
    refine ft_if mi_k82 (decide (x2 < 0)) 26 16 [(0, .ref 0), (1, .ref 108), (2, .int x2)] [] (by rfl) (fun c => ?_) (fun c => ?_)
    ·
      have c3 : x2.toInt < (0 : Int32).toInt := kd_lt c; clear c
      refine ft_go mi_k82 1 27 [(0, .ref 0), (1, .ref 108), (2, .int x2)] [.int 0] i a q r (by rfl) ?_
      exact ft_ret mi_k82 (by rfl) (hP 0 _ _ _ _ hG (Or.inr ⟨rfl, trivial⟩))
    ·
      have c4 : (0 : Int32).toInt ≤ x2.toInt := kd_ltF c; clear c
      have s5 : (x2 + 2).toInt = x2.toInt + (2 : Int32).toInt := kd_add (oz947 c4 kn0 kn2) (oz948 hp0 kn2)
      have fi_6915 : ((0 : Int) ≤ (i 6915).toInt) ∧ ((i 6915).toInt ≤ 60) := hG.I.1 6915
      refine ft_go mi_k82 5 23 [(0, .ref 0), (1, .ref 108), (2, .int x2)] [.int (i 6915), .int (x2 + 2)] i a q r (by rfl) ?_
      refine ft_if mi_k82 (decide ((x2 + 2) < (i 6915))) 28 26 [(0, .ref 0), (1, .ref 108), (2, .int x2)] [] (by rfl) (fun c => ?_) (fun c => ?_)
      ·
        have c6 : (x2 + 2).toInt < (i 6915).toInt := kd_lt c; clear c
        refine ft_go mi_k82 3 33 [(0, .ref 0), (1, .ref 108), (2, .int x2)] [.int x2, .ref 109] i a q r (by rfl) ?_
        refine ko_lald2 mi_k82.1 (l := q 109) (n := 60) (c := 60) (ax := (0, 0, 0, 0, 0)) (mi_k82.2 _ _ (by rfl)) (by rfl) (by rfl) (hG.I.2.2.2 109) rfl (oz389 c4 kn0) (oz949 c6 fi_6915.2 s5 kn2) ?_
        have s7 : (x2 + 1).toInt = x2.toInt + (1 : Int32).toInt := kd_add (oz950 c4 kn0 kn1) (oz951 hp0 kn1)
        refine ft_go mi_k82 7 43 [(3, .int (((q 109).getD x2.toNatClampNeg 0).toInt32)), (0, .ref 0), (1, .ref 108), (2, .int x2)] [.int (x2 + 1), .ref 109] i a q r (by rfl) ?_
        refine ko_lald2 mi_k82.1 (l := q 109) (n := 60) (c := 60) (ax := (0, 0, 0, 0, 0)) (mi_k82.2 _ _ (by rfl)) (by rfl) (by rfl) (hG.I.2.2.2 109) rfl (oz952 c4 s7 kn0 kn1) (oz953 c6 fi_6915.2 s5 s7 kn2 kn1) ?_
        refine ft_go mi_k82 7 54 [(4, .int (((q 109).getD (x2 + 1).toNatClampNeg 0).toInt32)), (3, .int (((q 109).getD x2.toNatClampNeg 0).toInt32)), (0, .ref 0), (1, .ref 108), (2, .int x2)] [.int (x2 + 2), .ref 109] i a q r (by rfl) ?_
        refine ko_lald2 mi_k82.1 (l := q 109) (n := 60) (c := 60) (ax := (0, 0, 0, 0, 0)) (mi_k82.2 _ _ (by rfl)) (by rfl) (by rfl) (hG.I.2.2.2 109) rfl (oz954 c4 s5 kn0 kn2) (oz266 c6 fi_6915.2) ?_
        refine ft_go mi_k82 4 60 [(5, .int (((q 109).getD (x2 + 2).toNatClampNeg 0).toInt32)), (4, .int (((q 109).getD (x2 + 1).toNatClampNeg 0).toInt32)), (3, .int (((q 109).getD x2.toNatClampNeg 0).toInt32)), (0, .ref 0), (1, .ref 108), (2, .int x2)] [.int (((q 109).getD x2.toNatClampNeg 0).toInt32), .int 0] i a q r (by rfl) ?_
        refine ko_callPI mi_k82.1 (pc := 60) (ls := [(5, .int (((q 109).getD (x2 + 2).toNatClampNeg 0).toInt32)), (4, .int (((q 109).getD (x2 + 1).toNatClampNeg 0).toInt32)), (3, .int (((q 109).getD x2.toNatClampNeg 0).toInt32)), (0, .ref 0), (1, .ref 108), (2, .int x2)]) (st := [.int (((q 109).getD x2.toNatClampNeg 0).toInt32), .int 0]) (h := ks i a q r) (i := (.invokestatic 58, 3, 126, 0, 9, 0, 151)) (mi_k82.2 _ _ (by rfl)) (ft_invS mi_pq126 (by rfl)) (cy := mi_c126) mi_pq126 rfl (kc126 hG.I hG.R 0 (((q 109).getD x2.toNatClampNeg 0).toInt32)) (by decide) ?_
        intro vg8 hg8
        rcases hg8 with ⟨eg8, hg8⟩ | ⟨eg8, hg8⟩
        ·
          subst eg8
          have z9 : ((0 : Int) ≤ (0 : Int32).toInt) ∧ ((0 : Int32).toInt ≤ 6) := hg8
          refine ft_go mi_k82 3 69 [(5, .int (((q 109).getD (x2 + 2).toNatClampNeg 0).toInt32)), (4, .int (((q 109).getD (x2 + 1).toNatClampNeg 0).toInt32)), (3, .int (((q 109).getD x2.toNatClampNeg 0).toInt32)), (0, .ref 0), (1, .ref 108), (2, .int x2)] [.int (((q 109).getD (x2 + 1).toNatClampNeg 0).toInt32), .int 1] i a q r (by rfl) ?_
          refine ko_callPI mi_k82.1 (pc := 69) (ls := [(5, .int (((q 109).getD (x2 + 2).toNatClampNeg 0).toInt32)), (4, .int (((q 109).getD (x2 + 1).toNatClampNeg 0).toInt32)), (3, .int (((q 109).getD x2.toNatClampNeg 0).toInt32)), (0, .ref 0), (1, .ref 108), (2, .int x2)]) (st := [.int (((q 109).getD (x2 + 1).toNatClampNeg 0).toInt32), .int 1]) (h := ks i a q r) (i := (.invokestatic 58, 3, 126, 0, 9, 0, 151)) (mi_k82.2 _ _ (by rfl)) (ft_invS mi_pq126 (by rfl)) (cy := mi_c126) mi_pq126 rfl (kc126 hG.I hG.R 1 (((q 109).getD (x2 + 1).toNatClampNeg 0).toInt32)) (by decide) ?_
          intro vg10 hg10
          rcases hg10 with ⟨eg10, hg10⟩ | ⟨eg10, hg10⟩
          ·
            subst eg10
            have z11 : ((0 : Int) ≤ (1 : Int32).toInt) ∧ ((1 : Int32).toInt ≤ 6) := hg10
            refine ft_go mi_k82 3 78 [(5, .int (((q 109).getD (x2 + 2).toNatClampNeg 0).toInt32)), (4, .int (((q 109).getD (x2 + 1).toNatClampNeg 0).toInt32)), (3, .int (((q 109).getD x2.toNatClampNeg 0).toInt32)), (0, .ref 0), (1, .ref 108), (2, .int x2)] [.int (((q 109).getD (x2 + 2).toNatClampNeg 0).toInt32), .int 2] i a q r (by rfl) ?_
            refine ko_callPI mi_k82.1 (pc := 78) (ls := [(5, .int (((q 109).getD (x2 + 2).toNatClampNeg 0).toInt32)), (4, .int (((q 109).getD (x2 + 1).toNatClampNeg 0).toInt32)), (3, .int (((q 109).getD x2.toNatClampNeg 0).toInt32)), (0, .ref 0), (1, .ref 108), (2, .int x2)]) (st := [.int (((q 109).getD (x2 + 2).toNatClampNeg 0).toInt32), .int 2]) (h := ks i a q r) (i := (.invokestatic 58, 3, 126, 0, 9, 0, 151)) (mi_k82.2 _ _ (by rfl)) (ft_invS mi_pq126 (by rfl)) (cy := mi_c126) mi_pq126 rfl (kc126 hG.I hG.R 2 (((q 109).getD (x2 + 2).toNatClampNeg 0).toInt32)) (by decide) ?_
            intro vg12 hg12
            rcases hg12 with ⟨eg12, hg12⟩ | ⟨eg12, hg12⟩
            ·
              subst eg12
              have z13 : ((0 : Int) ≤ (2 : Int32).toInt) ∧ ((2 : Int32).toInt ≤ 6) := hg12
              refine ft_go mi_k82 6 95 [(5, .int (((q 109).getD (x2 + 2).toNatClampNeg 0).toInt32)), (4, .int (((q 109).getD (x2 + 1).toNatClampNeg 0).toInt32)), (3, .int (((q 109).getD x2.toNatClampNeg 0).toInt32)), (0, .ref 0), (1, .ref 108), (2, .int x2)] [.int (((q 109).getD (x2 + 2).toNatClampNeg 0).toInt32), .int (((q 109).getD (x2 + 1).toNatClampNeg 0).toInt32), .int (((q 109).getD x2.toNatClampNeg 0).toInt32), .ref 1] i a q r (by rfl) ?_
              refine ko_callI mi_k82.1 (pc := 95) (ls := [(5, .int (((q 109).getD (x2 + 2).toNatClampNeg 0).toInt32)), (4, .int (((q 109).getD (x2 + 1).toNatClampNeg 0).toInt32)), (3, .int (((q 109).getD x2.toNatClampNeg 0).toInt32)), (0, .ref 0), (1, .ref 108), (2, .int x2)]) (st := [.int (((q 109).getD (x2 + 2).toNatClampNeg 0).toInt32), .int (((q 109).getD (x2 + 1).toNatClampNeg 0).toInt32), .int (((q 109).getD x2.toNatClampNeg 0).toInt32), .ref 1]) (h := ks i a q r) (i := (.invokevirtual 66, 3, 25, 0, 9, 0, 155)) (mi_k82.2 _ _ (by rfl)) (ft_invS mi_pq25 (by rfl)) (cy := mi_c25) mi_pq25 rfl (kc25_1 hG.I hG.R (((q 109).getD x2.toNatClampNeg 0).toInt32) (((q 109).getD (x2 + 1).toNatClampNeg 0).toInt32) (((q 109).getD (x2 + 2).toNatClampNeg 0).toInt32)) (by decide) ?_
              intro vg14 ig14 ag14 qg14 rg14 kg14 hg14
              have hGg14 := kG_call hG kg14 (by decide +kernel)
              refine ft_go mi_k82 2 100 [(5, .int (((q 109).getD (x2 + 2).toNatClampNeg 0).toInt32)), (4, .int (((q 109).getD (x2 + 1).toNatClampNeg 0).toInt32)), (3, .int (((q 109).getD x2.toNatClampNeg 0).toInt32)), (0, .ref 0), (1, .ref 108), (2, .int x2)] [.int 1] ig14 ag14 qg14 rg14 (by rfl) ?_
              exact ft_ret mi_k82 (by rfl) (hP 1 _ _ _ _ hGg14 (Or.inl ⟨rfl, trivial⟩))
            ·
              subst eg12
              refine ft_go mi_k82 2 85 [(5, .int (((q 109).getD (x2 + 2).toNatClampNeg 0).toInt32)), (4, .int (((q 109).getD (x2 + 1).toNatClampNeg 0).toInt32)), (3, .int (((q 109).getD x2.toNatClampNeg 0).toInt32)), (0, .ref 0), (1, .ref 108), (2, .int x2)] [.int 0] i a q r (by rfl) ?_
              exact ft_ret mi_k82 (by rfl) (hP 0 _ _ _ _ hG (Or.inr ⟨rfl, trivial⟩))
          ·
            subst eg10
            refine ft_go mi_k82 2 85 [(5, .int (((q 109).getD (x2 + 2).toNatClampNeg 0).toInt32)), (4, .int (((q 109).getD (x2 + 1).toNatClampNeg 0).toInt32)), (3, .int (((q 109).getD x2.toNatClampNeg 0).toInt32)), (0, .ref 0), (1, .ref 108), (2, .int x2)] [.int 0] i a q r (by rfl) ?_
            exact ft_ret mi_k82 (by rfl) (hP 0 _ _ _ _ hG (Or.inr ⟨rfl, trivial⟩))
        ·
          subst eg8
          refine ft_go mi_k82 2 85 [(5, .int (((q 109).getD (x2 + 2).toNatClampNeg 0).toInt32)), (4, .int (((q 109).getD (x2 + 1).toNatClampNeg 0).toInt32)), (3, .int (((q 109).getD x2.toNatClampNeg 0).toInt32)), (0, .ref 0), (1, .ref 108), (2, .int x2)] [.int 0] i a q r (by rfl) ?_
          exact ft_ret mi_k82 (by rfl) (hP 0 _ _ _ _ hG (Or.inr ⟨rfl, trivial⟩))
      ·
        have c15 : (i 6915).toInt ≤ (x2 + 2).toInt := kd_ltF c; clear c
        refine ft_go mi_k82 1 27 [(0, .ref 0), (1, .ref 108), (2, .int x2)] [.int 0] i a q r (by rfl) ?_
        exact ft_ret mi_k82 (by rfl) (hP 0 _ _ _ _ hG (Or.inr ⟨rfl, trivial⟩))
set_option maxRecDepth 100000 in
theorem kc36_110 {i : Nat → Int32} {a : Nat → List Int32} {q : Nat → List Int64} {r : Nat → Nat} (hI : kI i a q) (hr : kr r) (x1 : Int32) : km 1 36 [.ref 110, .int x1] (ks i a q r) (kPI (ks i a q r) (fun v => (v = 1 ∧ (((i 7040).toInt = 2) ∧ ((i 7042).toInt = x1.toInt))) ∨ (v = 0 ∧ (¬ (((i 7040).toInt = 2) ∧ ((i 7042).toInt = x1.toInt)))))) := by
  have hG := kG_self kW0 hI hr
  refine km_ofPI (q := (mi_h36, mi_c36)) rfl (by decide) (Nat.le_of_ble_eq_true rfl) ?_
  intro P hP
  have fi_7040 : ((0 : Int) ≤ (i 7040).toInt) ∧ ((i 7040).toInt ≤ 2) := hG.I.1 7040
  refine ft_go mi_k36 3 5 [(0, .ref 110), (1, .int x1)] [.int 2, .int (i 7040)] i a q r (by rfl) ?_
  refine ft_if mi_k36 ((i 7040) != 2) 20 8 [(0, .ref 110), (1, .int x1)] [] (by rfl) (fun c => ?_) (fun c => ?_)
  ·
    have c1 : (i 7040).toInt ≠ (2 : Int32).toInt := kd_ne c; clear c
    refine ft_go mi_k36 1 21 [(0, .ref 110), (1, .int x1)] [.int 0] i a q r (by rfl) ?_
    have fi_7042 : ((0 : Int) ≤ (i 7042).toInt) ∧ ((i 7042).toInt ≤ 4) := hG.I.1 7042
    exact ft_ret mi_k36 (by rfl) (hP 0 (Or.inr ⟨rfl, (oz940 c1 fi_7040.2 kn2)⟩))
  ·
    have c2 : (i 7040).toInt = (2 : Int32).toInt := kd_neF c; clear c
    have fi_7042 : ((0 : Int) ≤ (i 7042).toInt) ∧ ((i 7042).toInt ≤ 4) := hG.I.1 7042
    refine ft_go mi_k36 3 13 [(0, .ref 110), (1, .int x1)] [.int x1, .int (i 7042)] i a q r (by rfl) ?_
    refine ft_if mi_k36 ((i 7042) != x1) 20 16 [(0, .ref 110), (1, .int x1)] [] (by rfl) (fun c => ?_) (fun c => ?_)
    ·
      have c3 : (i 7042).toInt ≠ x1.toInt := kd_ne c; clear c
      refine ft_go mi_k36 1 21 [(0, .ref 110), (1, .int x1)] [.int 0] i a q r (by rfl) ?_
      exact ft_ret mi_k36 (by rfl) (hP 0 (Or.inr ⟨rfl, (oz941 c3)⟩))
    ·
      have c4 : (i 7042).toInt = x1.toInt := kd_neF c; clear c
      refine ft_go mi_k36 2 21 [(0, .ref 110), (1, .int x1)] [.int 1] i a q r (by rfl) ?_
      exact ft_ret mi_k36 (by rfl) (hP 1 (Or.inl ⟨rfl, (oz942 c2 c4 fi_7040.2 kn2)⟩))
def w82_0_110 : kW := ([64], [2, 3, 4, 5, 6], [], [])
set_option maxRecDepth 100000 in
theorem kc82_0_110 {i : Nat → Int32} {a : Nat → List Int32} {q : Nat → List Int64} {r : Nat → Nat} (hI : kI i a q) (hr : kr r) (x2 : Int32) (hp0 : x2.toInt ≤ 1000) : km 5 82 [.ref 0, .ref 110, .int x2] (ks i a q r) (kVI w82_0_110 i a q r (fun v i1 a1 q1 r1 => (v = 1 ∧ (True)) ∨ (v = 0 ∧ (True)))) := by
  have hG := kG_self w82_0_110 hI hr
  refine km_ofI (q := (mi_h82, mi_c82)) rfl (by decide) (Nat.le_of_ble_eq_true rfl) ?_
  intro P hP
  have fi_64 : ((0 : Int) ≤ (i 64).toInt) ∧ ((i 64).toInt ≤ 8) := hG.I.1 64
  refine ft_go mi_k82 4 9 [(0, .ref 0), (1, .ref 110), (2, .int x2)] [.int 8, .int (i 64)] i a q r (by rfl) ?_
  refine ft_if mi_k82 (decide (8 ≤ (i 64))) 26 12 [(0, .ref 0), (1, .ref 110), (2, .int x2)] [] (by rfl) (fun c => ?_) (fun c => ?_)
  ·
    have c1 : (8 : Int32).toInt ≤ (i 64).toInt := kd_le c; clear c
    refine ft_go mi_k82 1 27 [(0, .ref 0), (1, .ref 110), (2, .int x2)] [.int 0] i a q r (by rfl) ?_
    exact ft_ret mi_k82 (by rfl) (hP 0 _ _ _ _ hG (Or.inr ⟨rfl, trivial⟩))
  ·
    have c2 : (i 64).toInt < (8 : Int32).toInt := kd_leF c; clear c
    refine ft_go mi_k82 1 13 [(0, .ref 0), (1, .ref 110), (2, .int x2)] [.int x2] i a q r (by rfl) ?_
    refine ft_if mi_k82 (decide (x2 < 0)) 26 16 [(0, .ref 0), (1, .ref 110), (2, .int x2)] [] (by rfl) (fun c => ?_) (fun c => ?_)
    ·
      have c3 : x2.toInt < (0 : Int32).toInt := kd_lt c; clear c
      refine ft_go mi_k82 1 27 [(0, .ref 0), (1, .ref 110), (2, .int x2)] [.int 0] i a q r (by rfl) ?_
      exact ft_ret mi_k82 (by rfl) (hP 0 _ _ _ _ hG (Or.inr ⟨rfl, trivial⟩))
    ·
      have c4 : (0 : Int32).toInt ≤ x2.toInt := kd_ltF c; clear c
      have s5 : (x2 + 2).toInt = x2.toInt + (2 : Int32).toInt := kd_add (oz947 c4 kn0 kn2) (oz948 hp0 kn2)
      have fi_7043 : ((0 : Int) ≤ (i 7043).toInt) ∧ ((i 7043).toInt ≤ 60) := hG.I.1 7043
      refine ft_go mi_k82 5 23 [(0, .ref 0), (1, .ref 110), (2, .int x2)] [.int (i 7043), .int (x2 + 2)] i a q r (by rfl) ?_
      refine ft_if mi_k82 (decide ((x2 + 2) < (i 7043))) 28 26 [(0, .ref 0), (1, .ref 110), (2, .int x2)] [] (by rfl) (fun c => ?_) (fun c => ?_)
      ·
        have c6 : (x2 + 2).toInt < (i 7043).toInt := kd_lt c; clear c
        refine ft_go mi_k82 3 33 [(0, .ref 0), (1, .ref 110), (2, .int x2)] [.int x2, .ref 111] i a q r (by rfl) ?_
        refine ko_lald2 mi_k82.1 (l := q 111) (n := 60) (c := 60) (ax := (0, 0, 0, 0, 0)) (mi_k82.2 _ _ (by rfl)) (by rfl) (by rfl) (hG.I.2.2.2 111) rfl (oz389 c4 kn0) (oz949 c6 fi_7043.2 s5 kn2) ?_
        have s7 : (x2 + 1).toInt = x2.toInt + (1 : Int32).toInt := kd_add (oz950 c4 kn0 kn1) (oz951 hp0 kn1)
        refine ft_go mi_k82 7 43 [(3, .int (((q 111).getD x2.toNatClampNeg 0).toInt32)), (0, .ref 0), (1, .ref 110), (2, .int x2)] [.int (x2 + 1), .ref 111] i a q r (by rfl) ?_
        refine ko_lald2 mi_k82.1 (l := q 111) (n := 60) (c := 60) (ax := (0, 0, 0, 0, 0)) (mi_k82.2 _ _ (by rfl)) (by rfl) (by rfl) (hG.I.2.2.2 111) rfl (oz952 c4 s7 kn0 kn1) (oz953 c6 fi_7043.2 s5 s7 kn2 kn1) ?_
        refine ft_go mi_k82 7 54 [(4, .int (((q 111).getD (x2 + 1).toNatClampNeg 0).toInt32)), (3, .int (((q 111).getD x2.toNatClampNeg 0).toInt32)), (0, .ref 0), (1, .ref 110), (2, .int x2)] [.int (x2 + 2), .ref 111] i a q r (by rfl) ?_
        refine ko_lald2 mi_k82.1 (l := q 111) (n := 60) (c := 60) (ax := (0, 0, 0, 0, 0)) (mi_k82.2 _ _ (by rfl)) (by rfl) (by rfl) (hG.I.2.2.2 111) rfl (oz954 c4 s5 kn0 kn2) (oz266 c6 fi_7043.2) ?_
        refine ft_go mi_k82 4 60 [(5, .int (((q 111).getD (x2 + 2).toNatClampNeg 0).toInt32)), (4, .int (((q 111).getD (x2 + 1).toNatClampNeg 0).toInt32)), (3, .int (((q 111).getD x2.toNatClampNeg 0).toInt32)), (0, .ref 0), (1, .ref 110), (2, .int x2)] [.int (((q 111).getD x2.toNatClampNeg 0).toInt32), .int 0] i a q r (by rfl) ?_
        refine ko_callPI mi_k82.1 (pc := 60) (ls := [(5, .int (((q 111).getD (x2 + 2).toNatClampNeg 0).toInt32)), (4, .int (((q 111).getD (x2 + 1).toNatClampNeg 0).toInt32)), (3, .int (((q 111).getD x2.toNatClampNeg 0).toInt32)), (0, .ref 0), (1, .ref 110), (2, .int x2)]) (st := [.int (((q 111).getD x2.toNatClampNeg 0).toInt32), .int 0]) (h := ks i a q r) (i := (.invokestatic 58, 3, 126, 0, 9, 0, 151)) (mi_k82.2 _ _ (by rfl)) (ft_invS mi_pq126 (by rfl)) (cy := mi_c126) mi_pq126 rfl (kc126 hG.I hG.R 0 (((q 111).getD x2.toNatClampNeg 0).toInt32)) (by decide) ?_
        intro vg8 hg8
        rcases hg8 with ⟨eg8, hg8⟩ | ⟨eg8, hg8⟩
        ·
          subst eg8
          have z9 : ((0 : Int) ≤ (0 : Int32).toInt) ∧ ((0 : Int32).toInt ≤ 6) := hg8
          refine ft_go mi_k82 3 69 [(5, .int (((q 111).getD (x2 + 2).toNatClampNeg 0).toInt32)), (4, .int (((q 111).getD (x2 + 1).toNatClampNeg 0).toInt32)), (3, .int (((q 111).getD x2.toNatClampNeg 0).toInt32)), (0, .ref 0), (1, .ref 110), (2, .int x2)] [.int (((q 111).getD (x2 + 1).toNatClampNeg 0).toInt32), .int 1] i a q r (by rfl) ?_
          refine ko_callPI mi_k82.1 (pc := 69) (ls := [(5, .int (((q 111).getD (x2 + 2).toNatClampNeg 0).toInt32)), (4, .int (((q 111).getD (x2 + 1).toNatClampNeg 0).toInt32)), (3, .int (((q 111).getD x2.toNatClampNeg 0).toInt32)), (0, .ref 0), (1, .ref 110), (2, .int x2)]) (st := [.int (((q 111).getD (x2 + 1).toNatClampNeg 0).toInt32), .int 1]) (h := ks i a q r) (i := (.invokestatic 58, 3, 126, 0, 9, 0, 151)) (mi_k82.2 _ _ (by rfl)) (ft_invS mi_pq126 (by rfl)) (cy := mi_c126) mi_pq126 rfl (kc126 hG.I hG.R 1 (((q 111).getD (x2 + 1).toNatClampNeg 0).toInt32)) (by decide) ?_
          intro vg10 hg10
          rcases hg10 with ⟨eg10, hg10⟩ | ⟨eg10, hg10⟩
          ·
            subst eg10
            have z11 : ((0 : Int) ≤ (1 : Int32).toInt) ∧ ((1 : Int32).toInt ≤ 6) := hg10
            refine ft_go mi_k82 3 78 [(5, .int (((q 111).getD (x2 + 2).toNatClampNeg 0).toInt32)), (4, .int (((q 111).getD (x2 + 1).toNatClampNeg 0).toInt32)), (3, .int (((q 111).getD x2.toNatClampNeg 0).toInt32)), (0, .ref 0), (1, .ref 110), (2, .int x2)] [.int (((q 111).getD (x2 + 2).toNatClampNeg 0).toInt32), .int 2] i a q r (by rfl) ?_
            refine ko_callPI mi_k82.1 (pc := 78) (ls := [(5, .int (((q 111).getD (x2 + 2).toNatClampNeg 0).toInt32)), (4, .int (((q 111).getD (x2 + 1).toNatClampNeg 0).toInt32)), (3, .int (((q 111).getD x2.toNatClampNeg 0).toInt32)), (0, .ref 0), (1, .ref 110), (2, .int x2)]) (st := [.int (((q 111).getD (x2 + 2).toNatClampNeg 0).toInt32), .int 2]) (h := ks i a q r) (i := (.invokestatic 58, 3, 126, 0, 9, 0, 151)) (mi_k82.2 _ _ (by rfl)) (ft_invS mi_pq126 (by rfl)) (cy := mi_c126) mi_pq126 rfl (kc126 hG.I hG.R 2 (((q 111).getD (x2 + 2).toNatClampNeg 0).toInt32)) (by decide) ?_
            intro vg12 hg12
            rcases hg12 with ⟨eg12, hg12⟩ | ⟨eg12, hg12⟩
            ·
              subst eg12
              have z13 : ((0 : Int) ≤ (2 : Int32).toInt) ∧ ((2 : Int32).toInt ≤ 6) := hg12
              refine ft_go mi_k82 6 95 [(5, .int (((q 111).getD (x2 + 2).toNatClampNeg 0).toInt32)), (4, .int (((q 111).getD (x2 + 1).toNatClampNeg 0).toInt32)), (3, .int (((q 111).getD x2.toNatClampNeg 0).toInt32)), (0, .ref 0), (1, .ref 110), (2, .int x2)] [.int (((q 111).getD (x2 + 2).toNatClampNeg 0).toInt32), .int (((q 111).getD (x2 + 1).toNatClampNeg 0).toInt32), .int (((q 111).getD x2.toNatClampNeg 0).toInt32), .ref 1] i a q r (by rfl) ?_
              refine ko_callI mi_k82.1 (pc := 95) (ls := [(5, .int (((q 111).getD (x2 + 2).toNatClampNeg 0).toInt32)), (4, .int (((q 111).getD (x2 + 1).toNatClampNeg 0).toInt32)), (3, .int (((q 111).getD x2.toNatClampNeg 0).toInt32)), (0, .ref 0), (1, .ref 110), (2, .int x2)]) (st := [.int (((q 111).getD (x2 + 2).toNatClampNeg 0).toInt32), .int (((q 111).getD (x2 + 1).toNatClampNeg 0).toInt32), .int (((q 111).getD x2.toNatClampNeg 0).toInt32), .ref 1]) (h := ks i a q r) (i := (.invokevirtual 66, 3, 25, 0, 9, 0, 155)) (mi_k82.2 _ _ (by rfl)) (ft_invS mi_pq25 (by rfl)) (cy := mi_c25) mi_pq25 rfl (kc25_1 hG.I hG.R (((q 111).getD x2.toNatClampNeg 0).toInt32) (((q 111).getD (x2 + 1).toNatClampNeg 0).toInt32) (((q 111).getD (x2 + 2).toNatClampNeg 0).toInt32)) (by decide) ?_
              intro vg14 ig14 ag14 qg14 rg14 kg14 hg14
              have hGg14 := kG_call hG kg14 (by decide +kernel)
              refine ft_go mi_k82 2 100 [(5, .int (((q 111).getD (x2 + 2).toNatClampNeg 0).toInt32)), (4, .int (((q 111).getD (x2 + 1).toNatClampNeg 0).toInt32)), (3, .int (((q 111).getD x2.toNatClampNeg 0).toInt32)), (0, .ref 0), (1, .ref 110), (2, .int x2)] [.int 1] ig14 ag14 qg14 rg14 (by rfl) ?_
              exact ft_ret mi_k82 (by rfl) (hP 1 _ _ _ _ hGg14 (Or.inl ⟨rfl, trivial⟩))
            ·
              subst eg12
              refine ft_go mi_k82 2 85 [(5, .int (((q 111).getD (x2 + 2).toNatClampNeg 0).toInt32)), (4, .int (((q 111).getD (x2 + 1).toNatClampNeg 0).toInt32)), (3, .int (((q 111).getD x2.toNatClampNeg 0).toInt32)), (0, .ref 0), (1, .ref 110), (2, .int x2)] [.int 0] i a q r (by rfl) ?_
              exact ft_ret mi_k82 (by rfl) (hP 0 _ _ _ _ hG (Or.inr ⟨rfl, trivial⟩))
          ·
            subst eg10
            refine ft_go mi_k82 2 85 [(5, .int (((q 111).getD (x2 + 2).toNatClampNeg 0).toInt32)), (4, .int (((q 111).getD (x2 + 1).toNatClampNeg 0).toInt32)), (3, .int (((q 111).getD x2.toNatClampNeg 0).toInt32)), (0, .ref 0), (1, .ref 110), (2, .int x2)] [.int 0] i a q r (by rfl) ?_
            exact ft_ret mi_k82 (by rfl) (hP 0 _ _ _ _ hG (Or.inr ⟨rfl, trivial⟩))
        ·
          subst eg8
          refine ft_go mi_k82 2 85 [(5, .int (((q 111).getD (x2 + 2).toNatClampNeg 0).toInt32)), (4, .int (((q 111).getD (x2 + 1).toNatClampNeg 0).toInt32)), (3, .int (((q 111).getD x2.toNatClampNeg 0).toInt32)), (0, .ref 0), (1, .ref 110), (2, .int x2)] [.int 0] i a q r (by rfl) ?_
          exact ft_ret mi_k82 (by rfl) (hP 0 _ _ _ _ hG (Or.inr ⟨rfl, trivial⟩))
      ·
        have c15 : (i 7043).toInt ≤ (x2 + 2).toInt := kd_ltF c; clear c
        refine ft_go mi_k82 1 27 [(0, .ref 0), (1, .ref 110), (2, .int x2)] [.int 0] i a q r (by rfl) ?_
        exact ft_ret mi_k82 (by rfl) (hP 0 _ _ _ _ hG (Or.inr ⟨rfl, trivial⟩))
set_option maxRecDepth 100000 in
theorem kc36_112 {i : Nat → Int32} {a : Nat → List Int32} {q : Nat → List Int64} {r : Nat → Nat} (hI : kI i a q) (hr : kr r) (x1 : Int32) : km 1 36 [.ref 112, .int x1] (ks i a q r) (kPI (ks i a q r) (fun v => (v = 1 ∧ (((i 7168).toInt = 2) ∧ ((i 7170).toInt = x1.toInt))) ∨ (v = 0 ∧ (¬ (((i 7168).toInt = 2) ∧ ((i 7170).toInt = x1.toInt)))))) := by
  have hG := kG_self kW0 hI hr
  refine km_ofPI (q := (mi_h36, mi_c36)) rfl (by decide) (Nat.le_of_ble_eq_true rfl) ?_
  intro P hP
  have fi_7168 : ((0 : Int) ≤ (i 7168).toInt) ∧ ((i 7168).toInt ≤ 2) := hG.I.1 7168
  refine ft_go mi_k36 3 5 [(0, .ref 112), (1, .int x1)] [.int 2, .int (i 7168)] i a q r (by rfl) ?_
  refine ft_if mi_k36 ((i 7168) != 2) 20 8 [(0, .ref 112), (1, .int x1)] [] (by rfl) (fun c => ?_) (fun c => ?_)
  ·
    have c1 : (i 7168).toInt ≠ (2 : Int32).toInt := kd_ne c; clear c
    refine ft_go mi_k36 1 21 [(0, .ref 112), (1, .int x1)] [.int 0] i a q r (by rfl) ?_
    have fi_7170 : ((0 : Int) ≤ (i 7170).toInt) ∧ ((i 7170).toInt ≤ 4) := hG.I.1 7170
    exact ft_ret mi_k36 (by rfl) (hP 0 (Or.inr ⟨rfl, (oz940 c1 fi_7168.2 kn2)⟩))
  ·
    have c2 : (i 7168).toInt = (2 : Int32).toInt := kd_neF c; clear c
    have fi_7170 : ((0 : Int) ≤ (i 7170).toInt) ∧ ((i 7170).toInt ≤ 4) := hG.I.1 7170
    refine ft_go mi_k36 3 13 [(0, .ref 112), (1, .int x1)] [.int x1, .int (i 7170)] i a q r (by rfl) ?_
    refine ft_if mi_k36 ((i 7170) != x1) 20 16 [(0, .ref 112), (1, .int x1)] [] (by rfl) (fun c => ?_) (fun c => ?_)
    ·
      have c3 : (i 7170).toInt ≠ x1.toInt := kd_ne c; clear c
      refine ft_go mi_k36 1 21 [(0, .ref 112), (1, .int x1)] [.int 0] i a q r (by rfl) ?_
      exact ft_ret mi_k36 (by rfl) (hP 0 (Or.inr ⟨rfl, (oz941 c3)⟩))
    ·
      have c4 : (i 7170).toInt = x1.toInt := kd_neF c; clear c
      refine ft_go mi_k36 2 21 [(0, .ref 112), (1, .int x1)] [.int 1] i a q r (by rfl) ?_
      exact ft_ret mi_k36 (by rfl) (hP 1 (Or.inl ⟨rfl, (oz942 c2 c4 fi_7168.2 kn2)⟩))
def w82_0_112 : kW := ([64], [2, 3, 4, 5, 6], [], [])
set_option maxRecDepth 100000 in
theorem kc82_0_112 {i : Nat → Int32} {a : Nat → List Int32} {q : Nat → List Int64} {r : Nat → Nat} (hI : kI i a q) (hr : kr r) (x2 : Int32) (hp0 : x2.toInt ≤ 1000) : km 5 82 [.ref 0, .ref 112, .int x2] (ks i a q r) (kVI w82_0_112 i a q r (fun v i1 a1 q1 r1 => (v = 1 ∧ (True)) ∨ (v = 0 ∧ (True)))) := by
  have hG := kG_self w82_0_112 hI hr
  refine km_ofI (q := (mi_h82, mi_c82)) rfl (by decide) (Nat.le_of_ble_eq_true rfl) ?_
  intro P hP
  have fi_64 : ((0 : Int) ≤ (i 64).toInt) ∧ ((i 64).toInt ≤ 8) := hG.I.1 64
  refine ft_go mi_k82 4 9 [(0, .ref 0), (1, .ref 112), (2, .int x2)] [.int 8, .int (i 64)] i a q r (by rfl) ?_
  refine ft_if mi_k82 (decide (8 ≤ (i 64))) 26 12 [(0, .ref 0), (1, .ref 112), (2, .int x2)] [] (by rfl) (fun c => ?_) (fun c => ?_)
  ·
    have c1 : (8 : Int32).toInt ≤ (i 64).toInt := kd_le c; clear c
    refine ft_go mi_k82 1 27 [(0, .ref 0), (1, .ref 112), (2, .int x2)] [.int 0] i a q r (by rfl) ?_
    exact ft_ret mi_k82 (by rfl) (hP 0 _ _ _ _ hG (Or.inr ⟨rfl, trivial⟩))
  ·
    have c2 : (i 64).toInt < (8 : Int32).toInt := kd_leF c; clear c
    refine ft_go mi_k82 1 13 [(0, .ref 0), (1, .ref 112), (2, .int x2)] [.int x2] i a q r (by rfl) ?_
    refine ft_if mi_k82 (decide (x2 < 0)) 26 16 [(0, .ref 0), (1, .ref 112), (2, .int x2)] [] (by rfl) (fun c => ?_) (fun c => ?_)
    ·
      have c3 : x2.toInt < (0 : Int32).toInt := kd_lt c; clear c
      refine ft_go mi_k82 1 27 [(0, .ref 0), (1, .ref 112), (2, .int x2)] [.int 0] i a q r (by rfl) ?_
      exact ft_ret mi_k82 (by rfl) (hP 0 _ _ _ _ hG (Or.inr ⟨rfl, trivial⟩))
    ·
      have c4 : (0 : Int32).toInt ≤ x2.toInt := kd_ltF c; clear c
      have s5 : (x2 + 2).toInt = x2.toInt + (2 : Int32).toInt := kd_add (oz947 c4 kn0 kn2) (oz948 hp0 kn2)
      have fi_7171 : ((0 : Int) ≤ (i 7171).toInt) ∧ ((i 7171).toInt ≤ 60) := hG.I.1 7171
      refine ft_go mi_k82 5 23 [(0, .ref 0), (1, .ref 112), (2, .int x2)] [.int (i 7171), .int (x2 + 2)] i a q r (by rfl) ?_
      refine ft_if mi_k82 (decide ((x2 + 2) < (i 7171))) 28 26 [(0, .ref 0), (1, .ref 112), (2, .int x2)] [] (by rfl) (fun c => ?_) (fun c => ?_)
      ·
        have c6 : (x2 + 2).toInt < (i 7171).toInt := kd_lt c; clear c
        refine ft_go mi_k82 3 33 [(0, .ref 0), (1, .ref 112), (2, .int x2)] [.int x2, .ref 113] i a q r (by rfl) ?_
        refine ko_lald2 mi_k82.1 (l := q 113) (n := 60) (c := 60) (ax := (0, 0, 0, 0, 0)) (mi_k82.2 _ _ (by rfl)) (by rfl) (by rfl) (hG.I.2.2.2 113) rfl (oz389 c4 kn0) (oz949 c6 fi_7171.2 s5 kn2) ?_
        have s7 : (x2 + 1).toInt = x2.toInt + (1 : Int32).toInt := kd_add (oz950 c4 kn0 kn1) (oz951 hp0 kn1)
        refine ft_go mi_k82 7 43 [(3, .int (((q 113).getD x2.toNatClampNeg 0).toInt32)), (0, .ref 0), (1, .ref 112), (2, .int x2)] [.int (x2 + 1), .ref 113] i a q r (by rfl) ?_
        refine ko_lald2 mi_k82.1 (l := q 113) (n := 60) (c := 60) (ax := (0, 0, 0, 0, 0)) (mi_k82.2 _ _ (by rfl)) (by rfl) (by rfl) (hG.I.2.2.2 113) rfl (oz952 c4 s7 kn0 kn1) (oz953 c6 fi_7171.2 s5 s7 kn2 kn1) ?_
        refine ft_go mi_k82 7 54 [(4, .int (((q 113).getD (x2 + 1).toNatClampNeg 0).toInt32)), (3, .int (((q 113).getD x2.toNatClampNeg 0).toInt32)), (0, .ref 0), (1, .ref 112), (2, .int x2)] [.int (x2 + 2), .ref 113] i a q r (by rfl) ?_
        refine ko_lald2 mi_k82.1 (l := q 113) (n := 60) (c := 60) (ax := (0, 0, 0, 0, 0)) (mi_k82.2 _ _ (by rfl)) (by rfl) (by rfl) (hG.I.2.2.2 113) rfl (oz954 c4 s5 kn0 kn2) (oz266 c6 fi_7171.2) ?_
        refine ft_go mi_k82 4 60 [(5, .int (((q 113).getD (x2 + 2).toNatClampNeg 0).toInt32)), (4, .int (((q 113).getD (x2 + 1).toNatClampNeg 0).toInt32)), (3, .int (((q 113).getD x2.toNatClampNeg 0).toInt32)), (0, .ref 0), (1, .ref 112), (2, .int x2)] [.int (((q 113).getD x2.toNatClampNeg 0).toInt32), .int 0] i a q r (by rfl) ?_
        refine ko_callPI mi_k82.1 (pc := 60) (ls := [(5, .int (((q 113).getD (x2 + 2).toNatClampNeg 0).toInt32)), (4, .int (((q 113).getD (x2 + 1).toNatClampNeg 0).toInt32)), (3, .int (((q 113).getD x2.toNatClampNeg 0).toInt32)), (0, .ref 0), (1, .ref 112), (2, .int x2)]) (st := [.int (((q 113).getD x2.toNatClampNeg 0).toInt32), .int 0]) (h := ks i a q r) (i := (.invokestatic 58, 3, 126, 0, 9, 0, 151)) (mi_k82.2 _ _ (by rfl)) (ft_invS mi_pq126 (by rfl)) (cy := mi_c126) mi_pq126 rfl (kc126 hG.I hG.R 0 (((q 113).getD x2.toNatClampNeg 0).toInt32)) (by decide) ?_
        intro vg8 hg8
        rcases hg8 with ⟨eg8, hg8⟩ | ⟨eg8, hg8⟩
        ·
          subst eg8
          have z9 : ((0 : Int) ≤ (0 : Int32).toInt) ∧ ((0 : Int32).toInt ≤ 6) := hg8
          refine ft_go mi_k82 3 69 [(5, .int (((q 113).getD (x2 + 2).toNatClampNeg 0).toInt32)), (4, .int (((q 113).getD (x2 + 1).toNatClampNeg 0).toInt32)), (3, .int (((q 113).getD x2.toNatClampNeg 0).toInt32)), (0, .ref 0), (1, .ref 112), (2, .int x2)] [.int (((q 113).getD (x2 + 1).toNatClampNeg 0).toInt32), .int 1] i a q r (by rfl) ?_
          refine ko_callPI mi_k82.1 (pc := 69) (ls := [(5, .int (((q 113).getD (x2 + 2).toNatClampNeg 0).toInt32)), (4, .int (((q 113).getD (x2 + 1).toNatClampNeg 0).toInt32)), (3, .int (((q 113).getD x2.toNatClampNeg 0).toInt32)), (0, .ref 0), (1, .ref 112), (2, .int x2)]) (st := [.int (((q 113).getD (x2 + 1).toNatClampNeg 0).toInt32), .int 1]) (h := ks i a q r) (i := (.invokestatic 58, 3, 126, 0, 9, 0, 151)) (mi_k82.2 _ _ (by rfl)) (ft_invS mi_pq126 (by rfl)) (cy := mi_c126) mi_pq126 rfl (kc126 hG.I hG.R 1 (((q 113).getD (x2 + 1).toNatClampNeg 0).toInt32)) (by decide) ?_
          intro vg10 hg10
          rcases hg10 with ⟨eg10, hg10⟩ | ⟨eg10, hg10⟩
          ·
            subst eg10
            have z11 : ((0 : Int) ≤ (1 : Int32).toInt) ∧ ((1 : Int32).toInt ≤ 6) := hg10
            refine ft_go mi_k82 3 78 [(5, .int (((q 113).getD (x2 + 2).toNatClampNeg 0).toInt32)), (4, .int (((q 113).getD (x2 + 1).toNatClampNeg 0).toInt32)), (3, .int (((q 113).getD x2.toNatClampNeg 0).toInt32)), (0, .ref 0), (1, .ref 112), (2, .int x2)] [.int (((q 113).getD (x2 + 2).toNatClampNeg 0).toInt32), .int 2] i a q r (by rfl) ?_
            refine ko_callPI mi_k82.1 (pc := 78) (ls := [(5, .int (((q 113).getD (x2 + 2).toNatClampNeg 0).toInt32)), (4, .int (((q 113).getD (x2 + 1).toNatClampNeg 0).toInt32)), (3, .int (((q 113).getD x2.toNatClampNeg 0).toInt32)), (0, .ref 0), (1, .ref 112), (2, .int x2)]) (st := [.int (((q 113).getD (x2 + 2).toNatClampNeg 0).toInt32), .int 2]) (h := ks i a q r) (i := (.invokestatic 58, 3, 126, 0, 9, 0, 151)) (mi_k82.2 _ _ (by rfl)) (ft_invS mi_pq126 (by rfl)) (cy := mi_c126) mi_pq126 rfl (kc126 hG.I hG.R 2 (((q 113).getD (x2 + 2).toNatClampNeg 0).toInt32)) (by decide) ?_
            intro vg12 hg12
            rcases hg12 with ⟨eg12, hg12⟩ | ⟨eg12, hg12⟩
            ·
              subst eg12
              have z13 : ((0 : Int) ≤ (2 : Int32).toInt) ∧ ((2 : Int32).toInt ≤ 6) := hg12
              refine ft_go mi_k82 6 95 [(5, .int (((q 113).getD (x2 + 2).toNatClampNeg 0).toInt32)), (4, .int (((q 113).getD (x2 + 1).toNatClampNeg 0).toInt32)), (3, .int (((q 113).getD x2.toNatClampNeg 0).toInt32)), (0, .ref 0), (1, .ref 112), (2, .int x2)] [.int (((q 113).getD (x2 + 2).toNatClampNeg 0).toInt32), .int (((q 113).getD (x2 + 1).toNatClampNeg 0).toInt32), .int (((q 113).getD x2.toNatClampNeg 0).toInt32), .ref 1] i a q r (by rfl) ?_
              refine ko_callI mi_k82.1 (pc := 95) (ls := [(5, .int (((q 113).getD (x2 + 2).toNatClampNeg 0).toInt32)), (4, .int (((q 113).getD (x2 + 1).toNatClampNeg 0).toInt32)), (3, .int (((q 113).getD x2.toNatClampNeg 0).toInt32)), (0, .ref 0), (1, .ref 112), (2, .int x2)]) (st := [.int (((q 113).getD (x2 + 2).toNatClampNeg 0).toInt32), .int (((q 113).getD (x2 + 1).toNatClampNeg 0).toInt32), .int (((q 113).getD x2.toNatClampNeg 0).toInt32), .ref 1]) (h := ks i a q r) (i := (.invokevirtual 66, 3, 25, 0, 9, 0, 155)) (mi_k82.2 _ _ (by rfl)) (ft_invS mi_pq25 (by rfl)) (cy := mi_c25) mi_pq25 rfl (kc25_1 hG.I hG.R (((q 113).getD x2.toNatClampNeg 0).toInt32) (((q 113).getD (x2 + 1).toNatClampNeg 0).toInt32) (((q 113).getD (x2 + 2).toNatClampNeg 0).toInt32)) (by decide) ?_
              intro vg14 ig14 ag14 qg14 rg14 kg14 hg14
              have hGg14 := kG_call hG kg14 (by decide +kernel)
              refine ft_go mi_k82 2 100 [(5, .int (((q 113).getD (x2 + 2).toNatClampNeg 0).toInt32)), (4, .int (((q 113).getD (x2 + 1).toNatClampNeg 0).toInt32)), (3, .int (((q 113).getD x2.toNatClampNeg 0).toInt32)), (0, .ref 0), (1, .ref 112), (2, .int x2)] [.int 1] ig14 ag14 qg14 rg14 (by rfl) ?_
              exact ft_ret mi_k82 (by rfl) (hP 1 _ _ _ _ hGg14 (Or.inl ⟨rfl, trivial⟩))
            ·
              subst eg12
              refine ft_go mi_k82 2 85 [(5, .int (((q 113).getD (x2 + 2).toNatClampNeg 0).toInt32)), (4, .int (((q 113).getD (x2 + 1).toNatClampNeg 0).toInt32)), (3, .int (((q 113).getD x2.toNatClampNeg 0).toInt32)), (0, .ref 0), (1, .ref 112), (2, .int x2)] [.int 0] i a q r (by rfl) ?_
              exact ft_ret mi_k82 (by rfl) (hP 0 _ _ _ _ hG (Or.inr ⟨rfl, trivial⟩))
          ·
            subst eg10
            refine ft_go mi_k82 2 85 [(5, .int (((q 113).getD (x2 + 2).toNatClampNeg 0).toInt32)), (4, .int (((q 113).getD (x2 + 1).toNatClampNeg 0).toInt32)), (3, .int (((q 113).getD x2.toNatClampNeg 0).toInt32)), (0, .ref 0), (1, .ref 112), (2, .int x2)] [.int 0] i a q r (by rfl) ?_
            exact ft_ret mi_k82 (by rfl) (hP 0 _ _ _ _ hG (Or.inr ⟨rfl, trivial⟩))
        ·
          subst eg8
          refine ft_go mi_k82 2 85 [(5, .int (((q 113).getD (x2 + 2).toNatClampNeg 0).toInt32)), (4, .int (((q 113).getD (x2 + 1).toNatClampNeg 0).toInt32)), (3, .int (((q 113).getD x2.toNatClampNeg 0).toInt32)), (0, .ref 0), (1, .ref 112), (2, .int x2)] [.int 0] i a q r (by rfl) ?_
          exact ft_ret mi_k82 (by rfl) (hP 0 _ _ _ _ hG (Or.inr ⟨rfl, trivial⟩))
      ·
        have c15 : (i 7171).toInt ≤ (x2 + 2).toInt := kd_ltF c; clear c
        refine ft_go mi_k82 1 27 [(0, .ref 0), (1, .ref 112), (2, .int x2)] [.int 0] i a q r (by rfl) ?_
        exact ft_ret mi_k82 (by rfl) (hP 0 _ _ _ _ hG (Or.inr ⟨rfl, trivial⟩))
set_option maxRecDepth 100000 in
theorem kc36_114 {i : Nat → Int32} {a : Nat → List Int32} {q : Nat → List Int64} {r : Nat → Nat} (hI : kI i a q) (hr : kr r) (x1 : Int32) : km 1 36 [.ref 114, .int x1] (ks i a q r) (kPI (ks i a q r) (fun v => (v = 1 ∧ (((i 7296).toInt = 2) ∧ ((i 7298).toInt = x1.toInt))) ∨ (v = 0 ∧ (¬ (((i 7296).toInt = 2) ∧ ((i 7298).toInt = x1.toInt)))))) := by
  have hG := kG_self kW0 hI hr
  refine km_ofPI (q := (mi_h36, mi_c36)) rfl (by decide) (Nat.le_of_ble_eq_true rfl) ?_
  intro P hP
  have fi_7296 : ((0 : Int) ≤ (i 7296).toInt) ∧ ((i 7296).toInt ≤ 2) := hG.I.1 7296
  refine ft_go mi_k36 3 5 [(0, .ref 114), (1, .int x1)] [.int 2, .int (i 7296)] i a q r (by rfl) ?_
  refine ft_if mi_k36 ((i 7296) != 2) 20 8 [(0, .ref 114), (1, .int x1)] [] (by rfl) (fun c => ?_) (fun c => ?_)
  ·
    have c1 : (i 7296).toInt ≠ (2 : Int32).toInt := kd_ne c; clear c
    refine ft_go mi_k36 1 21 [(0, .ref 114), (1, .int x1)] [.int 0] i a q r (by rfl) ?_
    have fi_7298 : ((0 : Int) ≤ (i 7298).toInt) ∧ ((i 7298).toInt ≤ 4) := hG.I.1 7298
    exact ft_ret mi_k36 (by rfl) (hP 0 (Or.inr ⟨rfl, (oz940 c1 fi_7296.2 kn2)⟩))
  ·
    have c2 : (i 7296).toInt = (2 : Int32).toInt := kd_neF c; clear c
    have fi_7298 : ((0 : Int) ≤ (i 7298).toInt) ∧ ((i 7298).toInt ≤ 4) := hG.I.1 7298
    refine ft_go mi_k36 3 13 [(0, .ref 114), (1, .int x1)] [.int x1, .int (i 7298)] i a q r (by rfl) ?_
    refine ft_if mi_k36 ((i 7298) != x1) 20 16 [(0, .ref 114), (1, .int x1)] [] (by rfl) (fun c => ?_) (fun c => ?_)
    ·
      have c3 : (i 7298).toInt ≠ x1.toInt := kd_ne c; clear c
      refine ft_go mi_k36 1 21 [(0, .ref 114), (1, .int x1)] [.int 0] i a q r (by rfl) ?_
      exact ft_ret mi_k36 (by rfl) (hP 0 (Or.inr ⟨rfl, (oz941 c3)⟩))
    ·
      have c4 : (i 7298).toInt = x1.toInt := kd_neF c; clear c
      refine ft_go mi_k36 2 21 [(0, .ref 114), (1, .int x1)] [.int 1] i a q r (by rfl) ?_
      exact ft_ret mi_k36 (by rfl) (hP 1 (Or.inl ⟨rfl, (oz942 c2 c4 fi_7296.2 kn2)⟩))
def w82_0_114 : kW := ([64], [2, 3, 4, 5, 6], [], [])
set_option maxRecDepth 100000 in
theorem kc82_0_114 {i : Nat → Int32} {a : Nat → List Int32} {q : Nat → List Int64} {r : Nat → Nat} (hI : kI i a q) (hr : kr r) (x2 : Int32) (hp0 : x2.toInt ≤ 1000) : km 5 82 [.ref 0, .ref 114, .int x2] (ks i a q r) (kVI w82_0_114 i a q r (fun v i1 a1 q1 r1 => (v = 1 ∧ (True)) ∨ (v = 0 ∧ (True)))) := by
  have hG := kG_self w82_0_114 hI hr
  refine km_ofI (q := (mi_h82, mi_c82)) rfl (by decide) (Nat.le_of_ble_eq_true rfl) ?_
  intro P hP
  have fi_64 : ((0 : Int) ≤ (i 64).toInt) ∧ ((i 64).toInt ≤ 8) := hG.I.1 64
  refine ft_go mi_k82 4 9 [(0, .ref 0), (1, .ref 114), (2, .int x2)] [.int 8, .int (i 64)] i a q r (by rfl) ?_
  refine ft_if mi_k82 (decide (8 ≤ (i 64))) 26 12 [(0, .ref 0), (1, .ref 114), (2, .int x2)] [] (by rfl) (fun c => ?_) (fun c => ?_)
  ·
    have c1 : (8 : Int32).toInt ≤ (i 64).toInt := kd_le c; clear c
    refine ft_go mi_k82 1 27 [(0, .ref 0), (1, .ref 114), (2, .int x2)] [.int 0] i a q r (by rfl) ?_
    exact ft_ret mi_k82 (by rfl) (hP 0 _ _ _ _ hG (Or.inr ⟨rfl, trivial⟩))
  ·
    have c2 : (i 64).toInt < (8 : Int32).toInt := kd_leF c; clear c
    refine ft_go mi_k82 1 13 [(0, .ref 0), (1, .ref 114), (2, .int x2)] [.int x2] i a q r (by rfl) ?_
    refine ft_if mi_k82 (decide (x2 < 0)) 26 16 [(0, .ref 0), (1, .ref 114), (2, .int x2)] [] (by rfl) (fun c => ?_) (fun c => ?_)
    ·
      have c3 : x2.toInt < (0 : Int32).toInt := kd_lt c; clear c
      refine ft_go mi_k82 1 27 [(0, .ref 0), (1, .ref 114), (2, .int x2)] [.int 0] i a q r (by rfl) ?_
      exact ft_ret mi_k82 (by rfl) (hP 0 _ _ _ _ hG (Or.inr ⟨rfl, trivial⟩))
    ·
      have c4 : (0 : Int32).toInt ≤ x2.toInt := kd_ltF c; clear c
      have s5 : (x2 + 2).toInt = x2.toInt + (2 : Int32).toInt := kd_add (oz947 c4 kn0 kn2) (oz948 hp0 kn2)
      have fi_7299 : ((0 : Int) ≤ (i 7299).toInt) ∧ ((i 7299).toInt ≤ 60) := hG.I.1 7299
      refine ft_go mi_k82 5 23 [(0, .ref 0), (1, .ref 114), (2, .int x2)] [.int (i 7299), .int (x2 + 2)] i a q r (by rfl) ?_
      refine ft_if mi_k82 (decide ((x2 + 2) < (i 7299))) 28 26 [(0, .ref 0), (1, .ref 114), (2, .int x2)] [] (by rfl) (fun c => ?_) (fun c => ?_)
      ·
        have c6 : (x2 + 2).toInt < (i 7299).toInt := kd_lt c; clear c
        refine ft_go mi_k82 3 33 [(0, .ref 0), (1, .ref 114), (2, .int x2)] [.int x2, .ref 115] i a q r (by rfl) ?_
        refine ko_lald2 mi_k82.1 (l := q 115) (n := 60) (c := 60) (ax := (0, 0, 0, 0, 0)) (mi_k82.2 _ _ (by rfl)) (by rfl) (by rfl) (hG.I.2.2.2 115) rfl (oz389 c4 kn0) (oz949 c6 fi_7299.2 s5 kn2) ?_
        have s7 : (x2 + 1).toInt = x2.toInt + (1 : Int32).toInt := kd_add (oz950 c4 kn0 kn1) (oz951 hp0 kn1)
        refine ft_go mi_k82 7 43 [(3, .int (((q 115).getD x2.toNatClampNeg 0).toInt32)), (0, .ref 0), (1, .ref 114), (2, .int x2)] [.int (x2 + 1), .ref 115] i a q r (by rfl) ?_
        refine ko_lald2 mi_k82.1 (l := q 115) (n := 60) (c := 60) (ax := (0, 0, 0, 0, 0)) (mi_k82.2 _ _ (by rfl)) (by rfl) (by rfl) (hG.I.2.2.2 115) rfl (oz952 c4 s7 kn0 kn1) (oz953 c6 fi_7299.2 s5 s7 kn2 kn1) ?_
        refine ft_go mi_k82 7 54 [(4, .int (((q 115).getD (x2 + 1).toNatClampNeg 0).toInt32)), (3, .int (((q 115).getD x2.toNatClampNeg 0).toInt32)), (0, .ref 0), (1, .ref 114), (2, .int x2)] [.int (x2 + 2), .ref 115] i a q r (by rfl) ?_
        refine ko_lald2 mi_k82.1 (l := q 115) (n := 60) (c := 60) (ax := (0, 0, 0, 0, 0)) (mi_k82.2 _ _ (by rfl)) (by rfl) (by rfl) (hG.I.2.2.2 115) rfl (oz954 c4 s5 kn0 kn2) (oz266 c6 fi_7299.2) ?_
        refine ft_go mi_k82 4 60 [(5, .int (((q 115).getD (x2 + 2).toNatClampNeg 0).toInt32)), (4, .int (((q 115).getD (x2 + 1).toNatClampNeg 0).toInt32)), (3, .int (((q 115).getD x2.toNatClampNeg 0).toInt32)), (0, .ref 0), (1, .ref 114), (2, .int x2)] [.int (((q 115).getD x2.toNatClampNeg 0).toInt32), .int 0] i a q r (by rfl) ?_
        refine ko_callPI mi_k82.1 (pc := 60) (ls := [(5, .int (((q 115).getD (x2 + 2).toNatClampNeg 0).toInt32)), (4, .int (((q 115).getD (x2 + 1).toNatClampNeg 0).toInt32)), (3, .int (((q 115).getD x2.toNatClampNeg 0).toInt32)), (0, .ref 0), (1, .ref 114), (2, .int x2)]) (st := [.int (((q 115).getD x2.toNatClampNeg 0).toInt32), .int 0]) (h := ks i a q r) (i := (.invokestatic 58, 3, 126, 0, 9, 0, 151)) (mi_k82.2 _ _ (by rfl)) (ft_invS mi_pq126 (by rfl)) (cy := mi_c126) mi_pq126 rfl (kc126 hG.I hG.R 0 (((q 115).getD x2.toNatClampNeg 0).toInt32)) (by decide) ?_
        intro vg8 hg8
        rcases hg8 with ⟨eg8, hg8⟩ | ⟨eg8, hg8⟩
        ·
          subst eg8
          have z9 : ((0 : Int) ≤ (0 : Int32).toInt) ∧ ((0 : Int32).toInt ≤ 6) := hg8
          refine ft_go mi_k82 3 69 [(5, .int (((q 115).getD (x2 + 2).toNatClampNeg 0).toInt32)), (4, .int (((q 115).getD (x2 + 1).toNatClampNeg 0).toInt32)), (3, .int (((q 115).getD x2.toNatClampNeg 0).toInt32)), (0, .ref 0), (1, .ref 114), (2, .int x2)] [.int (((q 115).getD (x2 + 1).toNatClampNeg 0).toInt32), .int 1] i a q r (by rfl) ?_
          refine ko_callPI mi_k82.1 (pc := 69) (ls := [(5, .int (((q 115).getD (x2 + 2).toNatClampNeg 0).toInt32)), (4, .int (((q 115).getD (x2 + 1).toNatClampNeg 0).toInt32)), (3, .int (((q 115).getD x2.toNatClampNeg 0).toInt32)), (0, .ref 0), (1, .ref 114), (2, .int x2)]) (st := [.int (((q 115).getD (x2 + 1).toNatClampNeg 0).toInt32), .int 1]) (h := ks i a q r) (i := (.invokestatic 58, 3, 126, 0, 9, 0, 151)) (mi_k82.2 _ _ (by rfl)) (ft_invS mi_pq126 (by rfl)) (cy := mi_c126) mi_pq126 rfl (kc126 hG.I hG.R 1 (((q 115).getD (x2 + 1).toNatClampNeg 0).toInt32)) (by decide) ?_
          intro vg10 hg10
          rcases hg10 with ⟨eg10, hg10⟩ | ⟨eg10, hg10⟩
          ·
            subst eg10
            have z11 : ((0 : Int) ≤ (1 : Int32).toInt) ∧ ((1 : Int32).toInt ≤ 6) := hg10
            refine ft_go mi_k82 3 78 [(5, .int (((q 115).getD (x2 + 2).toNatClampNeg 0).toInt32)), (4, .int (((q 115).getD (x2 + 1).toNatClampNeg 0).toInt32)), (3, .int (((q 115).getD x2.toNatClampNeg 0).toInt32)), (0, .ref 0), (1, .ref 114), (2, .int x2)] [.int (((q 115).getD (x2 + 2).toNatClampNeg 0).toInt32), .int 2] i a q r (by rfl) ?_
            refine ko_callPI mi_k82.1 (pc := 78) (ls := [(5, .int (((q 115).getD (x2 + 2).toNatClampNeg 0).toInt32)), (4, .int (((q 115).getD (x2 + 1).toNatClampNeg 0).toInt32)), (3, .int (((q 115).getD x2.toNatClampNeg 0).toInt32)), (0, .ref 0), (1, .ref 114), (2, .int x2)]) (st := [.int (((q 115).getD (x2 + 2).toNatClampNeg 0).toInt32), .int 2]) (h := ks i a q r) (i := (.invokestatic 58, 3, 126, 0, 9, 0, 151)) (mi_k82.2 _ _ (by rfl)) (ft_invS mi_pq126 (by rfl)) (cy := mi_c126) mi_pq126 rfl (kc126 hG.I hG.R 2 (((q 115).getD (x2 + 2).toNatClampNeg 0).toInt32)) (by decide) ?_
            intro vg12 hg12
            rcases hg12 with ⟨eg12, hg12⟩ | ⟨eg12, hg12⟩
            ·
              subst eg12
              have z13 : ((0 : Int) ≤ (2 : Int32).toInt) ∧ ((2 : Int32).toInt ≤ 6) := hg12
              refine ft_go mi_k82 6 95 [(5, .int (((q 115).getD (x2 + 2).toNatClampNeg 0).toInt32)), (4, .int (((q 115).getD (x2 + 1).toNatClampNeg 0).toInt32)), (3, .int (((q 115).getD x2.toNatClampNeg 0).toInt32)), (0, .ref 0), (1, .ref 114), (2, .int x2)] [.int (((q 115).getD (x2 + 2).toNatClampNeg 0).toInt32), .int (((q 115).getD (x2 + 1).toNatClampNeg 0).toInt32), .int (((q 115).getD x2.toNatClampNeg 0).toInt32), .ref 1] i a q r (by rfl) ?_
              refine ko_callI mi_k82.1 (pc := 95) (ls := [(5, .int (((q 115).getD (x2 + 2).toNatClampNeg 0).toInt32)), (4, .int (((q 115).getD (x2 + 1).toNatClampNeg 0).toInt32)), (3, .int (((q 115).getD x2.toNatClampNeg 0).toInt32)), (0, .ref 0), (1, .ref 114), (2, .int x2)]) (st := [.int (((q 115).getD (x2 + 2).toNatClampNeg 0).toInt32), .int (((q 115).getD (x2 + 1).toNatClampNeg 0).toInt32), .int (((q 115).getD x2.toNatClampNeg 0).toInt32), .ref 1]) (h := ks i a q r) (i := (.invokevirtual 66, 3, 25, 0, 9, 0, 155)) (mi_k82.2 _ _ (by rfl)) (ft_invS mi_pq25 (by rfl)) (cy := mi_c25) mi_pq25 rfl (kc25_1 hG.I hG.R (((q 115).getD x2.toNatClampNeg 0).toInt32) (((q 115).getD (x2 + 1).toNatClampNeg 0).toInt32) (((q 115).getD (x2 + 2).toNatClampNeg 0).toInt32)) (by decide) ?_
              intro vg14 ig14 ag14 qg14 rg14 kg14 hg14
              have hGg14 := kG_call hG kg14 (by decide +kernel)
              refine ft_go mi_k82 2 100 [(5, .int (((q 115).getD (x2 + 2).toNatClampNeg 0).toInt32)), (4, .int (((q 115).getD (x2 + 1).toNatClampNeg 0).toInt32)), (3, .int (((q 115).getD x2.toNatClampNeg 0).toInt32)), (0, .ref 0), (1, .ref 114), (2, .int x2)] [.int 1] ig14 ag14 qg14 rg14 (by rfl) ?_
              exact ft_ret mi_k82 (by rfl) (hP 1 _ _ _ _ hGg14 (Or.inl ⟨rfl, trivial⟩))
            ·
              subst eg12
              refine ft_go mi_k82 2 85 [(5, .int (((q 115).getD (x2 + 2).toNatClampNeg 0).toInt32)), (4, .int (((q 115).getD (x2 + 1).toNatClampNeg 0).toInt32)), (3, .int (((q 115).getD x2.toNatClampNeg 0).toInt32)), (0, .ref 0), (1, .ref 114), (2, .int x2)] [.int 0] i a q r (by rfl) ?_
              exact ft_ret mi_k82 (by rfl) (hP 0 _ _ _ _ hG (Or.inr ⟨rfl, trivial⟩))
          ·
            subst eg10
            refine ft_go mi_k82 2 85 [(5, .int (((q 115).getD (x2 + 2).toNatClampNeg 0).toInt32)), (4, .int (((q 115).getD (x2 + 1).toNatClampNeg 0).toInt32)), (3, .int (((q 115).getD x2.toNatClampNeg 0).toInt32)), (0, .ref 0), (1, .ref 114), (2, .int x2)] [.int 0] i a q r (by rfl) ?_
            exact ft_ret mi_k82 (by rfl) (hP 0 _ _ _ _ hG (Or.inr ⟨rfl, trivial⟩))
        ·
          subst eg8
          refine ft_go mi_k82 2 85 [(5, .int (((q 115).getD (x2 + 2).toNatClampNeg 0).toInt32)), (4, .int (((q 115).getD (x2 + 1).toNatClampNeg 0).toInt32)), (3, .int (((q 115).getD x2.toNatClampNeg 0).toInt32)), (0, .ref 0), (1, .ref 114), (2, .int x2)] [.int 0] i a q r (by rfl) ?_
          exact ft_ret mi_k82 (by rfl) (hP 0 _ _ _ _ hG (Or.inr ⟨rfl, trivial⟩))
      ·
        have c15 : (i 7299).toInt ≤ (x2 + 2).toInt := kd_ltF c; clear c
        refine ft_go mi_k82 1 27 [(0, .ref 0), (1, .ref 114), (2, .int x2)] [.int 0] i a q r (by rfl) ?_
        exact ft_ret mi_k82 (by rfl) (hP 0 _ _ _ _ hG (Or.inr ⟨rfl, trivial⟩))
def w81_0 : kW := ([64], [2, 3, 4, 5, 6], [], [])
def w81_0_L67 : kW := ([64], [2, 3, 4, 5, 6], [], [])
set_option maxRecDepth 100000 in
theorem kc81_0 {i : Nat → Int32} {a : Nat → List Int32} {q : Nat → List Int64} {r : Nat → Nat} (hI : kI i a q) (hr : kr r) (x1 : Int32) (x2 : Int32) (x3 : Int32) : km 7 81 [.ref 0, .int x1, .int x2, .int x3] (ks i a q r) (kVI w81_0 i a q r (fun v i1 a1 q1 r1 => True)) := by
  have hG := kG_self w81_0 hI hr
  refine km_ofI (q := (mi_h81, mi_c81)) rfl (by decide) (Nat.le_of_ble_eq_true rfl) ?_
  intro P hP
  first | refine ft_go mi_k81 1 1 [(0, .ref 0), (1, .int x1), (2, .int x2), (3, .int x3)] [.int x1] i a q r (by rfl) ?_ | refine ko_steps mi_in81 1 _ (1, [(0, .ref 0), (1, .int x1), (2, .int x2), (3, .int x3)], [.int x1], (0, 0), ks i a q r) (by rfl) ?_
  refine ko_callPI mi_k81.1 (pc := 1) (ls := [(0, .ref 0), (1, .int x1), (2, .int x2), (3, .int x3)]) (st := [.int x1]) (h := ks i a q r) (i := (.invokestatic 70, 3, 121, 0, 9, 0, 157)) (mi_k81.2 _ _ (by rfl)) (ft_invS mi_pq121 (by rfl)) (cy := mi_c121) mi_pq121 rfl (kc121 hG.I hG.R x1) (by decide) ?_
  intro vg1 hg1
  rcases hg1 with ⟨eg1, hg1⟩ | ⟨eg1, hg1⟩
  ·
    subst eg1
    have z2 : ((0 : Int) ≤ x1.toInt) ∧ (x1.toInt ≤ 5) := hg1
    first | refine ft_go mi_k81 4 11 [(0, .ref 0), (1, .int x1), (2, .int x2), (3, .int x3)] [.int 8, .int 1, .int x3] i a q r (by rfl) ?_ | refine ko_steps mi_in81 4 _ (11, [(0, .ref 0), (1, .int x1), (2, .int x2), (3, .int x3)], [.int 8, .int 1, .int x3], (0, 0), ks i a q r) (by rfl) ?_
    refine ko_callPI mi_k81.1 (pc := 11) (ls := [(0, .ref 0), (1, .int x1), (2, .int x2), (3, .int x3)]) (st := [.int 8, .int 1, .int x3]) (h := ks i a q r) (i := (.invokestatic 74, 3, 120, 0, 9, 0, 152)) (mi_k81.2 _ _ (by rfl)) (ft_invS mi_pq120 (by rfl)) (cy := mi_c120) mi_pq120 rfl (kc120 hG.I hG.R x3 1 8) (by decide) ?_
    intro vg3 hg3
    rcases hg3 with ⟨eg3, hg3⟩ | ⟨eg3, hg3⟩
    ·
      subst eg3
      have z4 : ((1 : Int32).toInt ≤ x3.toInt) ∧ (x3.toInt ≤ (8 : Int32).toInt) := hg3
      first | refine ft_go mi_k81 4 24 [(0, .ref 0), (1, .int x1), (2, .int x2), (3, .int x3)] [.int x1, .ref 97] i a q r (by rfl) ?_ | refine ko_steps mi_in81 4 _ (24, [(0, .ref 0), (1, .int x1), (2, .int x2), (3, .int x3)], [.int x1, .ref 97], (0, 0), ks i a q r) (by rfl) ?_
      by_cases w5 : x1.toInt = 0
      ·
        refine ko_eq (x1 := (24, [(0, .ref 0), (1, .int x1), (2, .int x2), (3, .int x3)], [.int 0, .ref 97], (0, 0), ks i a q r)) (by rw [(kj_eq w5 (by decide) : x1 = 0)]) ?_
        have fi_6656 : ((0 : Int) ≤ (i 6656).toInt) ∧ ((i 6656).toInt ≤ 2) := hG.I.1 6656
        first | refine ft_go mi_k81 4 32 [(4, .ref 104), (0, .ref 0), (1, .int x1), (2, .int x2), (3, .int x3)] [.int (i 6656)] i a q r (by rfl) ?_ | refine ko_steps mi_in81 4 _ (32, [(4, .ref 104), (0, .ref 0), (1, .int x1), (2, .int x2), (3, .int x3)], [.int (i 6656)], (0, 0), ks i a q r) (by rfl) ?_
        refine ft_if mi_k81 ((i 6656) != 0) 37 35 [(4, .ref 104), (0, .ref 0), (1, .int x1), (2, .int x2), (3, .int x3)] [] (by rfl) (fun c => ?_) (fun c => ?_)
        ·
          have c6 : (i 6656).toInt ≠ (0 : Int32).toInt := kd_ne c; clear c
          first | refine ft_go mi_k81 2 40 [(4, .ref 104), (0, .ref 0), (1, .int x1), (2, .int x2), (3, .int x3)] [.int 1, .ref 104] i a q r (by rfl) ?_ | refine ko_steps mi_in81 2 _ (40, [(4, .ref 104), (0, .ref 0), (1, .int x1), (2, .int x2), (3, .int x3)], [.int 1, .ref 104], (0, 0), ks i a q r) (by rfl) ?_
          refine ko_callPI mi_k81.1 (pc := 40) (ls := [(4, .ref 104), (0, .ref 0), (1, .int x1), (2, .int x2), (3, .int x3)]) (st := [.int 1, .ref 104]) (h := ks i a q r) (i := (.invokevirtual 81, 3, 36, 0, 9, 0, 158)) (mi_k81.2 _ _ (by rfl)) (ft_invS mi_pq36 (by rfl)) (cy := mi_c36) mi_pq36 rfl (kc36_104 hG.I hG.R 1) (by decide) ?_
          intro vg7 hg7
          rcases hg7 with ⟨eg7, hg7⟩ | ⟨eg7, hg7⟩
          ·
            subst eg7
            have fi_6658 : ((0 : Int) ≤ (i 6658).toInt) ∧ ((i 6658).toInt ≤ 4) := hG.I.1 6658
            have z8 : ((i 6656).toInt = 2) ∧ ((i 6658).toInt = (1 : Int32).toInt) := hg7
            first | refine ft_go mi_k81 4 53 [(4, .ref 104), (0, .ref 0), (1, .int x1), (2, .int x2), (3, .int x3)] [.int 60, .int 0, .int x2] i a q r (by rfl) ?_ | refine ko_steps mi_in81 4 _ (53, [(4, .ref 104), (0, .ref 0), (1, .int x1), (2, .int x2), (3, .int x3)], [.int 60, .int 0, .int x2], (0, 0), ks i a q r) (by rfl) ?_
            refine ko_callPI mi_k81.1 (pc := 53) (ls := [(4, .ref 104), (0, .ref 0), (1, .int x1), (2, .int x2), (3, .int x3)]) (st := [.int 60, .int 0, .int x2]) (h := ks i a q r) (i := (.invokestatic 74, 3, 120, 0, 9, 0, 152)) (mi_k81.2 _ _ (by rfl)) (ft_invS mi_pq120 (by rfl)) (cy := mi_c120) mi_pq120 rfl (kc120 hG.I hG.R x2 0 60) (by decide) ?_
            intro vg9 hg9
            rcases hg9 with ⟨eg9, hg9⟩ | ⟨eg9, hg9⟩
            ·
              subst eg9
              have z10 : ((0 : Int32).toInt ≤ x2.toInt) ∧ (x2.toInt ≤ (60 : Int32).toInt) := hg9
              first | refine ft_go mi_k81 5 67 [(6, .int 0), (5, .int 0), (4, .ref 104), (0, .ref 0), (1, .int x1), (2, .int x2), (3, .int x3)] [] i a q r (by rfl) ?_ | refine ko_steps mi_in81 5 _ (67, [(6, .int 0), (5, .int 0), (4, .ref 104), (0, .ref 0), (1, .int x1), (2, .int x2), (3, .int x3)], [], (0, 0), ks i a q r) (by rfl) ?_
              have lp11 : ∀ (nz : Nat) (i11 : Nat → Int32) (a11 : Nat → List Int32) (q11 : Nat → List Int64) (r11 : Nat → Nat) (l6_11 : Int32) (l5_11 : Int32), kG w81_0_L67 i a q r i11 a11 q11 r11 → (0 : Int) ≤ l6_11.toInt → ((x3.toInt - l6_11.toInt)).toNat < nz → ko 7 (mi_h81, mi_c81) P (67, [(6, .int l6_11), (5, .int l5_11), (4, .ref 104), (0, .ref 0), (1, .int x1), (2, .int x2), (3, .int x3)], [], (0, 0), ks i11 a11 q11 r11) := by
                intro nz
                induction nz with
                | zero =>
                  intro _ _ _ _ _ _ _ _ hm
                  exact absurd hm (Nat.not_lt_zero _)
                | succ nz ih11 =>
                  intro i11 a11 q11 r11 l6_11 l5_11 hL11 p11_0 hm11
                  first | refine ft_go mi_k81 2 70 [(6, .int l6_11), (5, .int l5_11), (4, .ref 104), (0, .ref 0), (1, .int x1), (2, .int x2), (3, .int x3)] [.int x3, .int l6_11] i11 a11 q11 r11 (by rfl) ?_ | refine ko_steps mi_in81 2 _ (70, [(6, .int l6_11), (5, .int l5_11), (4, .ref 104), (0, .ref 0), (1, .int x1), (2, .int x2), (3, .int x3)], [.int x3, .int l6_11], (0, 0), ks i11 a11 q11 r11) (by rfl) ?_
                  refine ft_if mi_k81 (decide (x3 ≤ l6_11)) 97 73 [(6, .int l6_11), (5, .int l5_11), (4, .ref 104), (0, .ref 0), (1, .int x1), (2, .int x2), (3, .int x3)] [] (by rfl) (fun c => ?_) (fun c => ?_)
                  ·
                    have c12 : x3.toInt ≤ l6_11.toInt := kd_le c; clear c
                    have hG13 := kG_call hG hL11 (by decide +kernel)
                    first | refine ft_go mi_k81 1 99 [(6, .int l6_11), (5, .int l5_11), (4, .ref 104), (0, .ref 0), (1, .int x1), (2, .int x2), (3, .int x3)] [.int l5_11] i11 a11 q11 r11 (by rfl) ?_ | refine ko_steps mi_in81 1 _ (99, [(6, .int l6_11), (5, .int l5_11), (4, .ref 104), (0, .ref 0), (1, .int x1), (2, .int x2), (3, .int x3)], [.int l5_11], (0, 0), ks i11 a11 q11 r11) (by rfl) ?_
                    exact ft_ret mi_k81 (by rfl) (hP l5_11 _ _ _ _ hG13 trivial)
                  ·
                    have c14 : l6_11.toInt < x3.toInt := kd_leF c; clear c
                    have s15 : (3 * l6_11).toInt = 3 * l6_11.toInt := kd_cmul 3 kn3 (oz943 p11_0) (oz944 c14 z4.2 kn8)
                    have s16 : (x2 + (3 * l6_11)).toInt = x2.toInt + (3 * l6_11).toInt := kd_add (oz945 p11_0 s15 z10.1 kn0) (oz946 c14 s15 z10.2 z4.2 kn60 kn8)
                    first | refine ft_go mi_k81 7 82 [(6, .int l6_11), (5, .int l5_11), (4, .ref 104), (0, .ref 0), (1, .int x1), (2, .int x2), (3, .int x3)] [.int (x2 + (3 * l6_11)), .ref 104, .ref 0] i11 a11 q11 r11 (by rfl) ?_ | refine ko_steps mi_in81 7 _ (82, [(6, .int l6_11), (5, .int l5_11), (4, .ref 104), (0, .ref 0), (1, .int x1), (2, .int x2), (3, .int x3)], [.int (x2 + (3 * l6_11)), .ref 104, .ref 0], (0, 0), ks i11 a11 q11 r11) (by rfl) ?_
                    refine ko_callI mi_k81.1 (pc := 82) (ls := [(6, .int l6_11), (5, .int l5_11), (4, .ref 104), (0, .ref 0), (1, .int x1), (2, .int x2), (3, .int x3)]) (st := [.int (x2 + (3 * l6_11)), .ref 104, .ref 0]) (h := ks i11 a11 q11 r11) (i := (.invokevirtual 84, 3, 82, 0, 9, 0, 159)) (mi_k81.2 _ _ (by rfl)) (ft_invS mi_pq82 (by rfl)) (cy := mi_c82) mi_pq82 rfl (kc82_0_104 hL11.I hL11.R (x2 + (3 * l6_11)) (oz955 c14 s15 s16 z10.2 z4.2 kn60 kn8)) (by decide) ?_
                    intro vg17 ig17 ag17 qg17 rg17 kg17 hg17
                    have hGg17 := kG_call hL11 kg17 (by decide +kernel)
                    rcases hg17 with ⟨eg17, hg17⟩ | ⟨eg17, hg17⟩
                    ·
                      subst eg17
                      have b18 : ((-2147483648 : Int) ≤ l5_11.toInt) ∧ (l5_11.toInt ≤ 2147483647) := kd_bd l5_11
                      have s19 : (l6_11 + 1).toInt = l6_11.toInt + (1 : Int32).toInt := kd_add (oz12 p11_0 kn1) (oz43 c14 z4.2 kn8 kn1)
                      first | refine ft_go mi_k81 4 67 [(6, .int (l6_11 + 1)), (5, .int (l5_11 + 1)), (4, .ref 104), (0, .ref 0), (1, .int x1), (2, .int x2), (3, .int x3)] [] ig17 ag17 qg17 rg17 (by rfl) ?_ | refine ko_steps mi_in81 4 _ (67, [(6, .int (l6_11 + 1)), (5, .int (l5_11 + 1)), (4, .ref 104), (0, .ref 0), (1, .int x1), (2, .int x2), (3, .int x3)], [], (0, 0), ks ig17 ag17 qg17 rg17) (by rfl) ?_
                      exact ih11 _ _ _ _ _ _ hGg17 (oz14 p11_0 s19 kn1) (kj_meas (oz44 s19 kn1) (oz45 c14) hm11)
                    ·
                      subst eg17
                      first | refine ft_go mi_k81 1 97 [(6, .int l6_11), (5, .int l5_11), (4, .ref 104), (0, .ref 0), (1, .int x1), (2, .int x2), (3, .int x3)] [] ig17 ag17 qg17 rg17 (by rfl) ?_ | refine ko_steps mi_in81 1 _ (97, [(6, .int l6_11), (5, .int l5_11), (4, .ref 104), (0, .ref 0), (1, .int x1), (2, .int x2), (3, .int x3)], [], (0, 0), ks ig17 ag17 qg17 rg17) (by rfl) ?_
                      have hG20 := kG_call hG hGg17 (by decide +kernel)
                      first | refine ft_go mi_k81 1 99 [(6, .int l6_11), (5, .int l5_11), (4, .ref 104), (0, .ref 0), (1, .int x1), (2, .int x2), (3, .int x3)] [.int l5_11] ig17 ag17 qg17 rg17 (by rfl) ?_ | refine ko_steps mi_in81 1 _ (99, [(6, .int l6_11), (5, .int l5_11), (4, .ref 104), (0, .ref 0), (1, .int x1), (2, .int x2), (3, .int x3)], [.int l5_11], (0, 0), ks ig17 ag17 qg17 rg17) (by rfl) ?_
                      exact ft_ret mi_k81 (by rfl) (hP l5_11 _ _ _ _ hG20 trivial)
              exact lp11 _ _ _ _ _ _ _ (kG_self _ hG.I hG.R) (oz46 kn0) (Nat.lt_succ_self _)
            ·
              subst eg9
              have z21 : ¬ (((0 : Int32).toInt ≤ x2.toInt) ∧ (x2.toInt ≤ (60 : Int32).toInt)) := hg9
              first | refine ft_go mi_k81 2 60 [(4, .ref 104), (0, .ref 0), (1, .int x1), (2, .int x2), (3, .int x3)] [.int 0] i a q r (by rfl) ?_ | refine ko_steps mi_in81 2 _ (60, [(4, .ref 104), (0, .ref 0), (1, .int x1), (2, .int x2), (3, .int x3)], [.int 0], (0, 0), ks i a q r) (by rfl) ?_
              exact ft_ret mi_k81 (by rfl) (hP 0 _ _ _ _ hG trivial)
          ·
            subst eg7
            have fi_6658 : ((0 : Int) ≤ (i 6658).toInt) ∧ ((i 6658).toInt ≤ 4) := hG.I.1 6658
            have z22 : ¬ (((i 6656).toInt = 2) ∧ ((i 6658).toInt = (1 : Int32).toInt)) := hg7
            first | refine ft_go mi_k81 2 48 [(4, .ref 104), (0, .ref 0), (1, .int x1), (2, .int x2), (3, .int x3)] [.int (-12)] i a q r (by rfl) ?_ | refine ko_steps mi_in81 2 _ (48, [(4, .ref 104), (0, .ref 0), (1, .int x1), (2, .int x2), (3, .int x3)], [.int (-12)], (0, 0), ks i a q r) (by rfl) ?_
            exact ft_ret mi_k81 (by rfl) (hP (-12) _ _ _ _ hG trivial)
        ·
          have c23 : (i 6656).toInt = (0 : Int32).toInt := kd_neF c; clear c
          first | refine ft_go mi_k81 1 36 [(4, .ref 104), (0, .ref 0), (1, .int x1), (2, .int x2), (3, .int x3)] [.int 0] i a q r (by rfl) ?_ | refine ko_steps mi_in81 1 _ (36, [(4, .ref 104), (0, .ref 0), (1, .int x1), (2, .int x2), (3, .int x3)], [.int 0], (0, 0), ks i a q r) (by rfl) ?_
          exact ft_ret mi_k81 (by rfl) (hP 0 _ _ _ _ hG trivial)
      by_cases w24 : x1.toInt = 1
      ·
        refine ko_eq (x1 := (24, [(0, .ref 0), (1, .int x1), (2, .int x2), (3, .int x3)], [.int 1, .ref 97], (0, 0), ks i a q r)) (by rw [(kj_eq w24 (by decide) : x1 = 1)]) ?_
        have fi_6784 : ((0 : Int) ≤ (i 6784).toInt) ∧ ((i 6784).toInt ≤ 2) := hG.I.1 6784
        first | refine ft_go mi_k81 4 32 [(4, .ref 106), (0, .ref 0), (1, .int x1), (2, .int x2), (3, .int x3)] [.int (i 6784)] i a q r (by rfl) ?_ | refine ko_steps mi_in81 4 _ (32, [(4, .ref 106), (0, .ref 0), (1, .int x1), (2, .int x2), (3, .int x3)], [.int (i 6784)], (0, 0), ks i a q r) (by rfl) ?_
        refine ft_if mi_k81 ((i 6784) != 0) 37 35 [(4, .ref 106), (0, .ref 0), (1, .int x1), (2, .int x2), (3, .int x3)] [] (by rfl) (fun c => ?_) (fun c => ?_)
        ·
          have c25 : (i 6784).toInt ≠ (0 : Int32).toInt := kd_ne c; clear c
          first | refine ft_go mi_k81 2 40 [(4, .ref 106), (0, .ref 0), (1, .int x1), (2, .int x2), (3, .int x3)] [.int 1, .ref 106] i a q r (by rfl) ?_ | refine ko_steps mi_in81 2 _ (40, [(4, .ref 106), (0, .ref 0), (1, .int x1), (2, .int x2), (3, .int x3)], [.int 1, .ref 106], (0, 0), ks i a q r) (by rfl) ?_
          refine ko_callPI mi_k81.1 (pc := 40) (ls := [(4, .ref 106), (0, .ref 0), (1, .int x1), (2, .int x2), (3, .int x3)]) (st := [.int 1, .ref 106]) (h := ks i a q r) (i := (.invokevirtual 81, 3, 36, 0, 9, 0, 158)) (mi_k81.2 _ _ (by rfl)) (ft_invS mi_pq36 (by rfl)) (cy := mi_c36) mi_pq36 rfl (kc36_106 hG.I hG.R 1) (by decide) ?_
          intro vg26 hg26
          rcases hg26 with ⟨eg26, hg26⟩ | ⟨eg26, hg26⟩
          ·
            subst eg26
            have fi_6786 : ((0 : Int) ≤ (i 6786).toInt) ∧ ((i 6786).toInt ≤ 4) := hG.I.1 6786
            have z27 : ((i 6784).toInt = 2) ∧ ((i 6786).toInt = (1 : Int32).toInt) := hg26
            first | refine ft_go mi_k81 4 53 [(4, .ref 106), (0, .ref 0), (1, .int x1), (2, .int x2), (3, .int x3)] [.int 60, .int 0, .int x2] i a q r (by rfl) ?_ | refine ko_steps mi_in81 4 _ (53, [(4, .ref 106), (0, .ref 0), (1, .int x1), (2, .int x2), (3, .int x3)], [.int 60, .int 0, .int x2], (0, 0), ks i a q r) (by rfl) ?_
            refine ko_callPI mi_k81.1 (pc := 53) (ls := [(4, .ref 106), (0, .ref 0), (1, .int x1), (2, .int x2), (3, .int x3)]) (st := [.int 60, .int 0, .int x2]) (h := ks i a q r) (i := (.invokestatic 74, 3, 120, 0, 9, 0, 152)) (mi_k81.2 _ _ (by rfl)) (ft_invS mi_pq120 (by rfl)) (cy := mi_c120) mi_pq120 rfl (kc120 hG.I hG.R x2 0 60) (by decide) ?_
            intro vg28 hg28
            rcases hg28 with ⟨eg28, hg28⟩ | ⟨eg28, hg28⟩
            ·
              subst eg28
              have z29 : ((0 : Int32).toInt ≤ x2.toInt) ∧ (x2.toInt ≤ (60 : Int32).toInt) := hg28
              first | refine ft_go mi_k81 5 67 [(6, .int 0), (5, .int 0), (4, .ref 106), (0, .ref 0), (1, .int x1), (2, .int x2), (3, .int x3)] [] i a q r (by rfl) ?_ | refine ko_steps mi_in81 5 _ (67, [(6, .int 0), (5, .int 0), (4, .ref 106), (0, .ref 0), (1, .int x1), (2, .int x2), (3, .int x3)], [], (0, 0), ks i a q r) (by rfl) ?_
              have lp30 : ∀ (nz : Nat) (i30 : Nat → Int32) (a30 : Nat → List Int32) (q30 : Nat → List Int64) (r30 : Nat → Nat) (l6_30 : Int32) (l5_30 : Int32), kG w81_0_L67 i a q r i30 a30 q30 r30 → (0 : Int) ≤ l6_30.toInt → ((x3.toInt - l6_30.toInt)).toNat < nz → ko 7 (mi_h81, mi_c81) P (67, [(6, .int l6_30), (5, .int l5_30), (4, .ref 106), (0, .ref 0), (1, .int x1), (2, .int x2), (3, .int x3)], [], (0, 0), ks i30 a30 q30 r30) := by
                intro nz
                induction nz with
                | zero =>
                  intro _ _ _ _ _ _ _ _ hm
                  exact absurd hm (Nat.not_lt_zero _)
                | succ nz ih30 =>
                  intro i30 a30 q30 r30 l6_30 l5_30 hL30 p30_0 hm30
                  first | refine ft_go mi_k81 2 70 [(6, .int l6_30), (5, .int l5_30), (4, .ref 106), (0, .ref 0), (1, .int x1), (2, .int x2), (3, .int x3)] [.int x3, .int l6_30] i30 a30 q30 r30 (by rfl) ?_ | refine ko_steps mi_in81 2 _ (70, [(6, .int l6_30), (5, .int l5_30), (4, .ref 106), (0, .ref 0), (1, .int x1), (2, .int x2), (3, .int x3)], [.int x3, .int l6_30], (0, 0), ks i30 a30 q30 r30) (by rfl) ?_
                  refine ft_if mi_k81 (decide (x3 ≤ l6_30)) 97 73 [(6, .int l6_30), (5, .int l5_30), (4, .ref 106), (0, .ref 0), (1, .int x1), (2, .int x2), (3, .int x3)] [] (by rfl) (fun c => ?_) (fun c => ?_)
                  ·
                    have c31 : x3.toInt ≤ l6_30.toInt := kd_le c; clear c
                    have hG32 := kG_call hG hL30 (by decide +kernel)
                    first | refine ft_go mi_k81 1 99 [(6, .int l6_30), (5, .int l5_30), (4, .ref 106), (0, .ref 0), (1, .int x1), (2, .int x2), (3, .int x3)] [.int l5_30] i30 a30 q30 r30 (by rfl) ?_ | refine ko_steps mi_in81 1 _ (99, [(6, .int l6_30), (5, .int l5_30), (4, .ref 106), (0, .ref 0), (1, .int x1), (2, .int x2), (3, .int x3)], [.int l5_30], (0, 0), ks i30 a30 q30 r30) (by rfl) ?_
                    exact ft_ret mi_k81 (by rfl) (hP l5_30 _ _ _ _ hG32 trivial)
                  ·
                    have c33 : l6_30.toInt < x3.toInt := kd_leF c; clear c
                    have s34 : (3 * l6_30).toInt = 3 * l6_30.toInt := kd_cmul 3 kn3 (oz943 p30_0) (oz944 c33 z4.2 kn8)
                    have s35 : (x2 + (3 * l6_30)).toInt = x2.toInt + (3 * l6_30).toInt := kd_add (oz945 p30_0 s34 z29.1 kn0) (oz946 c33 s34 z29.2 z4.2 kn60 kn8)
                    first | refine ft_go mi_k81 7 82 [(6, .int l6_30), (5, .int l5_30), (4, .ref 106), (0, .ref 0), (1, .int x1), (2, .int x2), (3, .int x3)] [.int (x2 + (3 * l6_30)), .ref 106, .ref 0] i30 a30 q30 r30 (by rfl) ?_ | refine ko_steps mi_in81 7 _ (82, [(6, .int l6_30), (5, .int l5_30), (4, .ref 106), (0, .ref 0), (1, .int x1), (2, .int x2), (3, .int x3)], [.int (x2 + (3 * l6_30)), .ref 106, .ref 0], (0, 0), ks i30 a30 q30 r30) (by rfl) ?_
                    refine ko_callI mi_k81.1 (pc := 82) (ls := [(6, .int l6_30), (5, .int l5_30), (4, .ref 106), (0, .ref 0), (1, .int x1), (2, .int x2), (3, .int x3)]) (st := [.int (x2 + (3 * l6_30)), .ref 106, .ref 0]) (h := ks i30 a30 q30 r30) (i := (.invokevirtual 84, 3, 82, 0, 9, 0, 159)) (mi_k81.2 _ _ (by rfl)) (ft_invS mi_pq82 (by rfl)) (cy := mi_c82) mi_pq82 rfl (kc82_0_106 hL30.I hL30.R (x2 + (3 * l6_30)) (oz955 c33 s34 s35 z29.2 z4.2 kn60 kn8)) (by decide) ?_
                    intro vg36 ig36 ag36 qg36 rg36 kg36 hg36
                    have hGg36 := kG_call hL30 kg36 (by decide +kernel)
                    rcases hg36 with ⟨eg36, hg36⟩ | ⟨eg36, hg36⟩
                    ·
                      subst eg36
                      have b37 : ((-2147483648 : Int) ≤ l5_30.toInt) ∧ (l5_30.toInt ≤ 2147483647) := kd_bd l5_30
                      have s38 : (l6_30 + 1).toInt = l6_30.toInt + (1 : Int32).toInt := kd_add (oz12 p30_0 kn1) (oz43 c33 z4.2 kn8 kn1)
                      first | refine ft_go mi_k81 4 67 [(6, .int (l6_30 + 1)), (5, .int (l5_30 + 1)), (4, .ref 106), (0, .ref 0), (1, .int x1), (2, .int x2), (3, .int x3)] [] ig36 ag36 qg36 rg36 (by rfl) ?_ | refine ko_steps mi_in81 4 _ (67, [(6, .int (l6_30 + 1)), (5, .int (l5_30 + 1)), (4, .ref 106), (0, .ref 0), (1, .int x1), (2, .int x2), (3, .int x3)], [], (0, 0), ks ig36 ag36 qg36 rg36) (by rfl) ?_
                      exact ih30 _ _ _ _ _ _ hGg36 (oz14 p30_0 s38 kn1) (kj_meas (oz44 s38 kn1) (oz45 c33) hm30)
                    ·
                      subst eg36
                      first | refine ft_go mi_k81 1 97 [(6, .int l6_30), (5, .int l5_30), (4, .ref 106), (0, .ref 0), (1, .int x1), (2, .int x2), (3, .int x3)] [] ig36 ag36 qg36 rg36 (by rfl) ?_ | refine ko_steps mi_in81 1 _ (97, [(6, .int l6_30), (5, .int l5_30), (4, .ref 106), (0, .ref 0), (1, .int x1), (2, .int x2), (3, .int x3)], [], (0, 0), ks ig36 ag36 qg36 rg36) (by rfl) ?_
                      have hG39 := kG_call hG hGg36 (by decide +kernel)
                      first | refine ft_go mi_k81 1 99 [(6, .int l6_30), (5, .int l5_30), (4, .ref 106), (0, .ref 0), (1, .int x1), (2, .int x2), (3, .int x3)] [.int l5_30] ig36 ag36 qg36 rg36 (by rfl) ?_ | refine ko_steps mi_in81 1 _ (99, [(6, .int l6_30), (5, .int l5_30), (4, .ref 106), (0, .ref 0), (1, .int x1), (2, .int x2), (3, .int x3)], [.int l5_30], (0, 0), ks ig36 ag36 qg36 rg36) (by rfl) ?_
                      exact ft_ret mi_k81 (by rfl) (hP l5_30 _ _ _ _ hG39 trivial)
              exact lp30 _ _ _ _ _ _ _ (kG_self _ hG.I hG.R) (oz46 kn0) (Nat.lt_succ_self _)
            ·
              subst eg28
              have z40 : ¬ (((0 : Int32).toInt ≤ x2.toInt) ∧ (x2.toInt ≤ (60 : Int32).toInt)) := hg28
              first | refine ft_go mi_k81 2 60 [(4, .ref 106), (0, .ref 0), (1, .int x1), (2, .int x2), (3, .int x3)] [.int 0] i a q r (by rfl) ?_ | refine ko_steps mi_in81 2 _ (60, [(4, .ref 106), (0, .ref 0), (1, .int x1), (2, .int x2), (3, .int x3)], [.int 0], (0, 0), ks i a q r) (by rfl) ?_
              exact ft_ret mi_k81 (by rfl) (hP 0 _ _ _ _ hG trivial)
          ·
            subst eg26
            have fi_6786 : ((0 : Int) ≤ (i 6786).toInt) ∧ ((i 6786).toInt ≤ 4) := hG.I.1 6786
            have z41 : ¬ (((i 6784).toInt = 2) ∧ ((i 6786).toInt = (1 : Int32).toInt)) := hg26
            first | refine ft_go mi_k81 2 48 [(4, .ref 106), (0, .ref 0), (1, .int x1), (2, .int x2), (3, .int x3)] [.int (-12)] i a q r (by rfl) ?_ | refine ko_steps mi_in81 2 _ (48, [(4, .ref 106), (0, .ref 0), (1, .int x1), (2, .int x2), (3, .int x3)], [.int (-12)], (0, 0), ks i a q r) (by rfl) ?_
            exact ft_ret mi_k81 (by rfl) (hP (-12) _ _ _ _ hG trivial)
        ·
          have c42 : (i 6784).toInt = (0 : Int32).toInt := kd_neF c; clear c
          first | refine ft_go mi_k81 1 36 [(4, .ref 106), (0, .ref 0), (1, .int x1), (2, .int x2), (3, .int x3)] [.int 0] i a q r (by rfl) ?_ | refine ko_steps mi_in81 1 _ (36, [(4, .ref 106), (0, .ref 0), (1, .int x1), (2, .int x2), (3, .int x3)], [.int 0], (0, 0), ks i a q r) (by rfl) ?_
          exact ft_ret mi_k81 (by rfl) (hP 0 _ _ _ _ hG trivial)
      by_cases w43 : x1.toInt = 2
      ·
        refine ko_eq (x1 := (24, [(0, .ref 0), (1, .int x1), (2, .int x2), (3, .int x3)], [.int 2, .ref 97], (0, 0), ks i a q r)) (by rw [(kj_eq w43 (by decide) : x1 = 2)]) ?_
        have fi_6912 : ((0 : Int) ≤ (i 6912).toInt) ∧ ((i 6912).toInt ≤ 2) := hG.I.1 6912
        first | refine ft_go mi_k81 4 32 [(4, .ref 108), (0, .ref 0), (1, .int x1), (2, .int x2), (3, .int x3)] [.int (i 6912)] i a q r (by rfl) ?_ | refine ko_steps mi_in81 4 _ (32, [(4, .ref 108), (0, .ref 0), (1, .int x1), (2, .int x2), (3, .int x3)], [.int (i 6912)], (0, 0), ks i a q r) (by rfl) ?_
        refine ft_if mi_k81 ((i 6912) != 0) 37 35 [(4, .ref 108), (0, .ref 0), (1, .int x1), (2, .int x2), (3, .int x3)] [] (by rfl) (fun c => ?_) (fun c => ?_)
        ·
          have c44 : (i 6912).toInt ≠ (0 : Int32).toInt := kd_ne c; clear c
          first | refine ft_go mi_k81 2 40 [(4, .ref 108), (0, .ref 0), (1, .int x1), (2, .int x2), (3, .int x3)] [.int 1, .ref 108] i a q r (by rfl) ?_ | refine ko_steps mi_in81 2 _ (40, [(4, .ref 108), (0, .ref 0), (1, .int x1), (2, .int x2), (3, .int x3)], [.int 1, .ref 108], (0, 0), ks i a q r) (by rfl) ?_
          refine ko_callPI mi_k81.1 (pc := 40) (ls := [(4, .ref 108), (0, .ref 0), (1, .int x1), (2, .int x2), (3, .int x3)]) (st := [.int 1, .ref 108]) (h := ks i a q r) (i := (.invokevirtual 81, 3, 36, 0, 9, 0, 158)) (mi_k81.2 _ _ (by rfl)) (ft_invS mi_pq36 (by rfl)) (cy := mi_c36) mi_pq36 rfl (kc36_108 hG.I hG.R 1) (by decide) ?_
          intro vg45 hg45
          rcases hg45 with ⟨eg45, hg45⟩ | ⟨eg45, hg45⟩
          ·
            subst eg45
            have fi_6914 : ((0 : Int) ≤ (i 6914).toInt) ∧ ((i 6914).toInt ≤ 4) := hG.I.1 6914
            have z46 : ((i 6912).toInt = 2) ∧ ((i 6914).toInt = (1 : Int32).toInt) := hg45
            first | refine ft_go mi_k81 4 53 [(4, .ref 108), (0, .ref 0), (1, .int x1), (2, .int x2), (3, .int x3)] [.int 60, .int 0, .int x2] i a q r (by rfl) ?_ | refine ko_steps mi_in81 4 _ (53, [(4, .ref 108), (0, .ref 0), (1, .int x1), (2, .int x2), (3, .int x3)], [.int 60, .int 0, .int x2], (0, 0), ks i a q r) (by rfl) ?_
            refine ko_callPI mi_k81.1 (pc := 53) (ls := [(4, .ref 108), (0, .ref 0), (1, .int x1), (2, .int x2), (3, .int x3)]) (st := [.int 60, .int 0, .int x2]) (h := ks i a q r) (i := (.invokestatic 74, 3, 120, 0, 9, 0, 152)) (mi_k81.2 _ _ (by rfl)) (ft_invS mi_pq120 (by rfl)) (cy := mi_c120) mi_pq120 rfl (kc120 hG.I hG.R x2 0 60) (by decide) ?_
            intro vg47 hg47
            rcases hg47 with ⟨eg47, hg47⟩ | ⟨eg47, hg47⟩
            ·
              subst eg47
              have z48 : ((0 : Int32).toInt ≤ x2.toInt) ∧ (x2.toInt ≤ (60 : Int32).toInt) := hg47
              first | refine ft_go mi_k81 5 67 [(6, .int 0), (5, .int 0), (4, .ref 108), (0, .ref 0), (1, .int x1), (2, .int x2), (3, .int x3)] [] i a q r (by rfl) ?_ | refine ko_steps mi_in81 5 _ (67, [(6, .int 0), (5, .int 0), (4, .ref 108), (0, .ref 0), (1, .int x1), (2, .int x2), (3, .int x3)], [], (0, 0), ks i a q r) (by rfl) ?_
              have lp49 : ∀ (nz : Nat) (i49 : Nat → Int32) (a49 : Nat → List Int32) (q49 : Nat → List Int64) (r49 : Nat → Nat) (l6_49 : Int32) (l5_49 : Int32), kG w81_0_L67 i a q r i49 a49 q49 r49 → (0 : Int) ≤ l6_49.toInt → ((x3.toInt - l6_49.toInt)).toNat < nz → ko 7 (mi_h81, mi_c81) P (67, [(6, .int l6_49), (5, .int l5_49), (4, .ref 108), (0, .ref 0), (1, .int x1), (2, .int x2), (3, .int x3)], [], (0, 0), ks i49 a49 q49 r49) := by
                intro nz
                induction nz with
                | zero =>
                  intro _ _ _ _ _ _ _ _ hm
                  exact absurd hm (Nat.not_lt_zero _)
                | succ nz ih49 =>
                  intro i49 a49 q49 r49 l6_49 l5_49 hL49 p49_0 hm49
                  first | refine ft_go mi_k81 2 70 [(6, .int l6_49), (5, .int l5_49), (4, .ref 108), (0, .ref 0), (1, .int x1), (2, .int x2), (3, .int x3)] [.int x3, .int l6_49] i49 a49 q49 r49 (by rfl) ?_ | refine ko_steps mi_in81 2 _ (70, [(6, .int l6_49), (5, .int l5_49), (4, .ref 108), (0, .ref 0), (1, .int x1), (2, .int x2), (3, .int x3)], [.int x3, .int l6_49], (0, 0), ks i49 a49 q49 r49) (by rfl) ?_
                  refine ft_if mi_k81 (decide (x3 ≤ l6_49)) 97 73 [(6, .int l6_49), (5, .int l5_49), (4, .ref 108), (0, .ref 0), (1, .int x1), (2, .int x2), (3, .int x3)] [] (by rfl) (fun c => ?_) (fun c => ?_)
                  ·
                    have c50 : x3.toInt ≤ l6_49.toInt := kd_le c; clear c
                    have hG51 := kG_call hG hL49 (by decide +kernel)
                    first | refine ft_go mi_k81 1 99 [(6, .int l6_49), (5, .int l5_49), (4, .ref 108), (0, .ref 0), (1, .int x1), (2, .int x2), (3, .int x3)] [.int l5_49] i49 a49 q49 r49 (by rfl) ?_ | refine ko_steps mi_in81 1 _ (99, [(6, .int l6_49), (5, .int l5_49), (4, .ref 108), (0, .ref 0), (1, .int x1), (2, .int x2), (3, .int x3)], [.int l5_49], (0, 0), ks i49 a49 q49 r49) (by rfl) ?_
                    exact ft_ret mi_k81 (by rfl) (hP l5_49 _ _ _ _ hG51 trivial)
                  ·
                    have c52 : l6_49.toInt < x3.toInt := kd_leF c; clear c
                    have s53 : (3 * l6_49).toInt = 3 * l6_49.toInt := kd_cmul 3 kn3 (oz943 p49_0) (oz944 c52 z4.2 kn8)
                    have s54 : (x2 + (3 * l6_49)).toInt = x2.toInt + (3 * l6_49).toInt := kd_add (oz945 p49_0 s53 z48.1 kn0) (oz956 c52 s53 z4.2 z48.2 kn8 kn60)
                    first | refine ft_go mi_k81 7 82 [(6, .int l6_49), (5, .int l5_49), (4, .ref 108), (0, .ref 0), (1, .int x1), (2, .int x2), (3, .int x3)] [.int (x2 + (3 * l6_49)), .ref 108, .ref 0] i49 a49 q49 r49 (by rfl) ?_ | refine ko_steps mi_in81 7 _ (82, [(6, .int l6_49), (5, .int l5_49), (4, .ref 108), (0, .ref 0), (1, .int x1), (2, .int x2), (3, .int x3)], [.int (x2 + (3 * l6_49)), .ref 108, .ref 0], (0, 0), ks i49 a49 q49 r49) (by rfl) ?_
                    refine ko_callI mi_k81.1 (pc := 82) (ls := [(6, .int l6_49), (5, .int l5_49), (4, .ref 108), (0, .ref 0), (1, .int x1), (2, .int x2), (3, .int x3)]) (st := [.int (x2 + (3 * l6_49)), .ref 108, .ref 0]) (h := ks i49 a49 q49 r49) (i := (.invokevirtual 84, 3, 82, 0, 9, 0, 159)) (mi_k81.2 _ _ (by rfl)) (ft_invS mi_pq82 (by rfl)) (cy := mi_c82) mi_pq82 rfl (kc82_0_108 hL49.I hL49.R (x2 + (3 * l6_49)) (oz957 c52 s53 s54 z4.2 z48.2 kn8 kn60)) (by decide) ?_
                    intro vg55 ig55 ag55 qg55 rg55 kg55 hg55
                    have hGg55 := kG_call hL49 kg55 (by decide +kernel)
                    rcases hg55 with ⟨eg55, hg55⟩ | ⟨eg55, hg55⟩
                    ·
                      subst eg55
                      have b56 : ((-2147483648 : Int) ≤ l5_49.toInt) ∧ (l5_49.toInt ≤ 2147483647) := kd_bd l5_49
                      have s57 : (l6_49 + 1).toInt = l6_49.toInt + (1 : Int32).toInt := kd_add (oz12 p49_0 kn1) (oz43 c52 z4.2 kn8 kn1)
                      first | refine ft_go mi_k81 4 67 [(6, .int (l6_49 + 1)), (5, .int (l5_49 + 1)), (4, .ref 108), (0, .ref 0), (1, .int x1), (2, .int x2), (3, .int x3)] [] ig55 ag55 qg55 rg55 (by rfl) ?_ | refine ko_steps mi_in81 4 _ (67, [(6, .int (l6_49 + 1)), (5, .int (l5_49 + 1)), (4, .ref 108), (0, .ref 0), (1, .int x1), (2, .int x2), (3, .int x3)], [], (0, 0), ks ig55 ag55 qg55 rg55) (by rfl) ?_
                      exact ih49 _ _ _ _ _ _ hGg55 (oz14 p49_0 s57 kn1) (kj_meas (oz44 s57 kn1) (oz45 c52) hm49)
                    ·
                      subst eg55
                      first | refine ft_go mi_k81 1 97 [(6, .int l6_49), (5, .int l5_49), (4, .ref 108), (0, .ref 0), (1, .int x1), (2, .int x2), (3, .int x3)] [] ig55 ag55 qg55 rg55 (by rfl) ?_ | refine ko_steps mi_in81 1 _ (97, [(6, .int l6_49), (5, .int l5_49), (4, .ref 108), (0, .ref 0), (1, .int x1), (2, .int x2), (3, .int x3)], [], (0, 0), ks ig55 ag55 qg55 rg55) (by rfl) ?_
                      have hG58 := kG_call hG hGg55 (by decide +kernel)
                      first | refine ft_go mi_k81 1 99 [(6, .int l6_49), (5, .int l5_49), (4, .ref 108), (0, .ref 0), (1, .int x1), (2, .int x2), (3, .int x3)] [.int l5_49] ig55 ag55 qg55 rg55 (by rfl) ?_ | refine ko_steps mi_in81 1 _ (99, [(6, .int l6_49), (5, .int l5_49), (4, .ref 108), (0, .ref 0), (1, .int x1), (2, .int x2), (3, .int x3)], [.int l5_49], (0, 0), ks ig55 ag55 qg55 rg55) (by rfl) ?_
                      exact ft_ret mi_k81 (by rfl) (hP l5_49 _ _ _ _ hG58 trivial)
              exact lp49 _ _ _ _ _ _ _ (kG_self _ hG.I hG.R) (oz46 kn0) (Nat.lt_succ_self _)
            ·
              subst eg47
              have z59 : ¬ (((0 : Int32).toInt ≤ x2.toInt) ∧ (x2.toInt ≤ (60 : Int32).toInt)) := hg47
              first | refine ft_go mi_k81 2 60 [(4, .ref 108), (0, .ref 0), (1, .int x1), (2, .int x2), (3, .int x3)] [.int 0] i a q r (by rfl) ?_ | refine ko_steps mi_in81 2 _ (60, [(4, .ref 108), (0, .ref 0), (1, .int x1), (2, .int x2), (3, .int x3)], [.int 0], (0, 0), ks i a q r) (by rfl) ?_
              exact ft_ret mi_k81 (by rfl) (hP 0 _ _ _ _ hG trivial)
          ·
            subst eg45
            have fi_6914 : ((0 : Int) ≤ (i 6914).toInt) ∧ ((i 6914).toInt ≤ 4) := hG.I.1 6914
            have z60 : ¬ (((i 6912).toInt = 2) ∧ ((i 6914).toInt = (1 : Int32).toInt)) := hg45
            first | refine ft_go mi_k81 2 48 [(4, .ref 108), (0, .ref 0), (1, .int x1), (2, .int x2), (3, .int x3)] [.int (-12)] i a q r (by rfl) ?_ | refine ko_steps mi_in81 2 _ (48, [(4, .ref 108), (0, .ref 0), (1, .int x1), (2, .int x2), (3, .int x3)], [.int (-12)], (0, 0), ks i a q r) (by rfl) ?_
            exact ft_ret mi_k81 (by rfl) (hP (-12) _ _ _ _ hG trivial)
        ·
          have c61 : (i 6912).toInt = (0 : Int32).toInt := kd_neF c; clear c
          first | refine ft_go mi_k81 1 36 [(4, .ref 108), (0, .ref 0), (1, .int x1), (2, .int x2), (3, .int x3)] [.int 0] i a q r (by rfl) ?_ | refine ko_steps mi_in81 1 _ (36, [(4, .ref 108), (0, .ref 0), (1, .int x1), (2, .int x2), (3, .int x3)], [.int 0], (0, 0), ks i a q r) (by rfl) ?_
          exact ft_ret mi_k81 (by rfl) (hP 0 _ _ _ _ hG trivial)
      by_cases w62 : x1.toInt = 3
      ·
        refine ko_eq (x1 := (24, [(0, .ref 0), (1, .int x1), (2, .int x2), (3, .int x3)], [.int 3, .ref 97], (0, 0), ks i a q r)) (by rw [(kj_eq w62 (by decide) : x1 = 3)]) ?_
        have fi_7040 : ((0 : Int) ≤ (i 7040).toInt) ∧ ((i 7040).toInt ≤ 2) := hG.I.1 7040
        first | refine ft_go mi_k81 4 32 [(4, .ref 110), (0, .ref 0), (1, .int x1), (2, .int x2), (3, .int x3)] [.int (i 7040)] i a q r (by rfl) ?_ | refine ko_steps mi_in81 4 _ (32, [(4, .ref 110), (0, .ref 0), (1, .int x1), (2, .int x2), (3, .int x3)], [.int (i 7040)], (0, 0), ks i a q r) (by rfl) ?_
        refine ft_if mi_k81 ((i 7040) != 0) 37 35 [(4, .ref 110), (0, .ref 0), (1, .int x1), (2, .int x2), (3, .int x3)] [] (by rfl) (fun c => ?_) (fun c => ?_)
        ·
          have c63 : (i 7040).toInt ≠ (0 : Int32).toInt := kd_ne c; clear c
          first | refine ft_go mi_k81 2 40 [(4, .ref 110), (0, .ref 0), (1, .int x1), (2, .int x2), (3, .int x3)] [.int 1, .ref 110] i a q r (by rfl) ?_ | refine ko_steps mi_in81 2 _ (40, [(4, .ref 110), (0, .ref 0), (1, .int x1), (2, .int x2), (3, .int x3)], [.int 1, .ref 110], (0, 0), ks i a q r) (by rfl) ?_
          refine ko_callPI mi_k81.1 (pc := 40) (ls := [(4, .ref 110), (0, .ref 0), (1, .int x1), (2, .int x2), (3, .int x3)]) (st := [.int 1, .ref 110]) (h := ks i a q r) (i := (.invokevirtual 81, 3, 36, 0, 9, 0, 158)) (mi_k81.2 _ _ (by rfl)) (ft_invS mi_pq36 (by rfl)) (cy := mi_c36) mi_pq36 rfl (kc36_110 hG.I hG.R 1) (by decide) ?_
          intro vg64 hg64
          rcases hg64 with ⟨eg64, hg64⟩ | ⟨eg64, hg64⟩
          ·
            subst eg64
            have fi_7042 : ((0 : Int) ≤ (i 7042).toInt) ∧ ((i 7042).toInt ≤ 4) := hG.I.1 7042
            have z65 : ((i 7040).toInt = 2) ∧ ((i 7042).toInt = (1 : Int32).toInt) := hg64
            first | refine ft_go mi_k81 4 53 [(4, .ref 110), (0, .ref 0), (1, .int x1), (2, .int x2), (3, .int x3)] [.int 60, .int 0, .int x2] i a q r (by rfl) ?_ | refine ko_steps mi_in81 4 _ (53, [(4, .ref 110), (0, .ref 0), (1, .int x1), (2, .int x2), (3, .int x3)], [.int 60, .int 0, .int x2], (0, 0), ks i a q r) (by rfl) ?_
            refine ko_callPI mi_k81.1 (pc := 53) (ls := [(4, .ref 110), (0, .ref 0), (1, .int x1), (2, .int x2), (3, .int x3)]) (st := [.int 60, .int 0, .int x2]) (h := ks i a q r) (i := (.invokestatic 74, 3, 120, 0, 9, 0, 152)) (mi_k81.2 _ _ (by rfl)) (ft_invS mi_pq120 (by rfl)) (cy := mi_c120) mi_pq120 rfl (kc120 hG.I hG.R x2 0 60) (by decide) ?_
            intro vg66 hg66
            rcases hg66 with ⟨eg66, hg66⟩ | ⟨eg66, hg66⟩
            ·
              subst eg66
              have z67 : ((0 : Int32).toInt ≤ x2.toInt) ∧ (x2.toInt ≤ (60 : Int32).toInt) := hg66
              first | refine ft_go mi_k81 5 67 [(6, .int 0), (5, .int 0), (4, .ref 110), (0, .ref 0), (1, .int x1), (2, .int x2), (3, .int x3)] [] i a q r (by rfl) ?_ | refine ko_steps mi_in81 5 _ (67, [(6, .int 0), (5, .int 0), (4, .ref 110), (0, .ref 0), (1, .int x1), (2, .int x2), (3, .int x3)], [], (0, 0), ks i a q r) (by rfl) ?_
              have lp68 : ∀ (nz : Nat) (i68 : Nat → Int32) (a68 : Nat → List Int32) (q68 : Nat → List Int64) (r68 : Nat → Nat) (l6_68 : Int32) (l5_68 : Int32), kG w81_0_L67 i a q r i68 a68 q68 r68 → (0 : Int) ≤ l6_68.toInt → ((x3.toInt - l6_68.toInt)).toNat < nz → ko 7 (mi_h81, mi_c81) P (67, [(6, .int l6_68), (5, .int l5_68), (4, .ref 110), (0, .ref 0), (1, .int x1), (2, .int x2), (3, .int x3)], [], (0, 0), ks i68 a68 q68 r68) := by
                intro nz
                induction nz with
                | zero =>
                  intro _ _ _ _ _ _ _ _ hm
                  exact absurd hm (Nat.not_lt_zero _)
                | succ nz ih68 =>
                  intro i68 a68 q68 r68 l6_68 l5_68 hL68 p68_0 hm68
                  first | refine ft_go mi_k81 2 70 [(6, .int l6_68), (5, .int l5_68), (4, .ref 110), (0, .ref 0), (1, .int x1), (2, .int x2), (3, .int x3)] [.int x3, .int l6_68] i68 a68 q68 r68 (by rfl) ?_ | refine ko_steps mi_in81 2 _ (70, [(6, .int l6_68), (5, .int l5_68), (4, .ref 110), (0, .ref 0), (1, .int x1), (2, .int x2), (3, .int x3)], [.int x3, .int l6_68], (0, 0), ks i68 a68 q68 r68) (by rfl) ?_
                  refine ft_if mi_k81 (decide (x3 ≤ l6_68)) 97 73 [(6, .int l6_68), (5, .int l5_68), (4, .ref 110), (0, .ref 0), (1, .int x1), (2, .int x2), (3, .int x3)] [] (by rfl) (fun c => ?_) (fun c => ?_)
                  ·
                    have c69 : x3.toInt ≤ l6_68.toInt := kd_le c; clear c
                    have hG70 := kG_call hG hL68 (by decide +kernel)
                    first | refine ft_go mi_k81 1 99 [(6, .int l6_68), (5, .int l5_68), (4, .ref 110), (0, .ref 0), (1, .int x1), (2, .int x2), (3, .int x3)] [.int l5_68] i68 a68 q68 r68 (by rfl) ?_ | refine ko_steps mi_in81 1 _ (99, [(6, .int l6_68), (5, .int l5_68), (4, .ref 110), (0, .ref 0), (1, .int x1), (2, .int x2), (3, .int x3)], [.int l5_68], (0, 0), ks i68 a68 q68 r68) (by rfl) ?_
                    exact ft_ret mi_k81 (by rfl) (hP l5_68 _ _ _ _ hG70 trivial)
                  ·
                    have c71 : l6_68.toInt < x3.toInt := kd_leF c; clear c
                    have s72 : (3 * l6_68).toInt = 3 * l6_68.toInt := kd_cmul 3 kn3 (oz943 p68_0) (oz944 c71 z4.2 kn8)
                    have s73 : (x2 + (3 * l6_68)).toInt = x2.toInt + (3 * l6_68).toInt := kd_add (oz945 p68_0 s72 z67.1 kn0) (oz956 c71 s72 z4.2 z67.2 kn8 kn60)
                    first | refine ft_go mi_k81 7 82 [(6, .int l6_68), (5, .int l5_68), (4, .ref 110), (0, .ref 0), (1, .int x1), (2, .int x2), (3, .int x3)] [.int (x2 + (3 * l6_68)), .ref 110, .ref 0] i68 a68 q68 r68 (by rfl) ?_ | refine ko_steps mi_in81 7 _ (82, [(6, .int l6_68), (5, .int l5_68), (4, .ref 110), (0, .ref 0), (1, .int x1), (2, .int x2), (3, .int x3)], [.int (x2 + (3 * l6_68)), .ref 110, .ref 0], (0, 0), ks i68 a68 q68 r68) (by rfl) ?_
                    refine ko_callI mi_k81.1 (pc := 82) (ls := [(6, .int l6_68), (5, .int l5_68), (4, .ref 110), (0, .ref 0), (1, .int x1), (2, .int x2), (3, .int x3)]) (st := [.int (x2 + (3 * l6_68)), .ref 110, .ref 0]) (h := ks i68 a68 q68 r68) (i := (.invokevirtual 84, 3, 82, 0, 9, 0, 159)) (mi_k81.2 _ _ (by rfl)) (ft_invS mi_pq82 (by rfl)) (cy := mi_c82) mi_pq82 rfl (kc82_0_110 hL68.I hL68.R (x2 + (3 * l6_68)) (oz957 c71 s72 s73 z4.2 z67.2 kn8 kn60)) (by decide) ?_
                    intro vg74 ig74 ag74 qg74 rg74 kg74 hg74
                    have hGg74 := kG_call hL68 kg74 (by decide +kernel)
                    rcases hg74 with ⟨eg74, hg74⟩ | ⟨eg74, hg74⟩
                    ·
                      subst eg74
                      have b75 : ((-2147483648 : Int) ≤ l5_68.toInt) ∧ (l5_68.toInt ≤ 2147483647) := kd_bd l5_68
                      have s76 : (l6_68 + 1).toInt = l6_68.toInt + (1 : Int32).toInt := kd_add (oz12 p68_0 kn1) (oz43 c71 z4.2 kn8 kn1)
                      first | refine ft_go mi_k81 4 67 [(6, .int (l6_68 + 1)), (5, .int (l5_68 + 1)), (4, .ref 110), (0, .ref 0), (1, .int x1), (2, .int x2), (3, .int x3)] [] ig74 ag74 qg74 rg74 (by rfl) ?_ | refine ko_steps mi_in81 4 _ (67, [(6, .int (l6_68 + 1)), (5, .int (l5_68 + 1)), (4, .ref 110), (0, .ref 0), (1, .int x1), (2, .int x2), (3, .int x3)], [], (0, 0), ks ig74 ag74 qg74 rg74) (by rfl) ?_
                      exact ih68 _ _ _ _ _ _ hGg74 (oz14 p68_0 s76 kn1) (kj_meas (oz44 s76 kn1) (oz45 c71) hm68)
                    ·
                      subst eg74
                      first | refine ft_go mi_k81 1 97 [(6, .int l6_68), (5, .int l5_68), (4, .ref 110), (0, .ref 0), (1, .int x1), (2, .int x2), (3, .int x3)] [] ig74 ag74 qg74 rg74 (by rfl) ?_ | refine ko_steps mi_in81 1 _ (97, [(6, .int l6_68), (5, .int l5_68), (4, .ref 110), (0, .ref 0), (1, .int x1), (2, .int x2), (3, .int x3)], [], (0, 0), ks ig74 ag74 qg74 rg74) (by rfl) ?_
                      have hG77 := kG_call hG hGg74 (by decide +kernel)
                      first | refine ft_go mi_k81 1 99 [(6, .int l6_68), (5, .int l5_68), (4, .ref 110), (0, .ref 0), (1, .int x1), (2, .int x2), (3, .int x3)] [.int l5_68] ig74 ag74 qg74 rg74 (by rfl) ?_ | refine ko_steps mi_in81 1 _ (99, [(6, .int l6_68), (5, .int l5_68), (4, .ref 110), (0, .ref 0), (1, .int x1), (2, .int x2), (3, .int x3)], [.int l5_68], (0, 0), ks ig74 ag74 qg74 rg74) (by rfl) ?_
                      exact ft_ret mi_k81 (by rfl) (hP l5_68 _ _ _ _ hG77 trivial)
              exact lp68 _ _ _ _ _ _ _ (kG_self _ hG.I hG.R) (oz46 kn0) (Nat.lt_succ_self _)
            ·
              subst eg66
              have z78 : ¬ (((0 : Int32).toInt ≤ x2.toInt) ∧ (x2.toInt ≤ (60 : Int32).toInt)) := hg66
              first | refine ft_go mi_k81 2 60 [(4, .ref 110), (0, .ref 0), (1, .int x1), (2, .int x2), (3, .int x3)] [.int 0] i a q r (by rfl) ?_ | refine ko_steps mi_in81 2 _ (60, [(4, .ref 110), (0, .ref 0), (1, .int x1), (2, .int x2), (3, .int x3)], [.int 0], (0, 0), ks i a q r) (by rfl) ?_
              exact ft_ret mi_k81 (by rfl) (hP 0 _ _ _ _ hG trivial)
          ·
            subst eg64
            have fi_7042 : ((0 : Int) ≤ (i 7042).toInt) ∧ ((i 7042).toInt ≤ 4) := hG.I.1 7042
            have z79 : ¬ (((i 7040).toInt = 2) ∧ ((i 7042).toInt = (1 : Int32).toInt)) := hg64
            first | refine ft_go mi_k81 2 48 [(4, .ref 110), (0, .ref 0), (1, .int x1), (2, .int x2), (3, .int x3)] [.int (-12)] i a q r (by rfl) ?_ | refine ko_steps mi_in81 2 _ (48, [(4, .ref 110), (0, .ref 0), (1, .int x1), (2, .int x2), (3, .int x3)], [.int (-12)], (0, 0), ks i a q r) (by rfl) ?_
            exact ft_ret mi_k81 (by rfl) (hP (-12) _ _ _ _ hG trivial)
        ·
          have c80 : (i 7040).toInt = (0 : Int32).toInt := kd_neF c; clear c
          first | refine ft_go mi_k81 1 36 [(4, .ref 110), (0, .ref 0), (1, .int x1), (2, .int x2), (3, .int x3)] [.int 0] i a q r (by rfl) ?_ | refine ko_steps mi_in81 1 _ (36, [(4, .ref 110), (0, .ref 0), (1, .int x1), (2, .int x2), (3, .int x3)], [.int 0], (0, 0), ks i a q r) (by rfl) ?_
          exact ft_ret mi_k81 (by rfl) (hP 0 _ _ _ _ hG trivial)
      by_cases w81 : x1.toInt = 4
      ·
        refine ko_eq (x1 := (24, [(0, .ref 0), (1, .int x1), (2, .int x2), (3, .int x3)], [.int 4, .ref 97], (0, 0), ks i a q r)) (by rw [(kj_eq w81 (by decide) : x1 = 4)]) ?_
        have fi_7168 : ((0 : Int) ≤ (i 7168).toInt) ∧ ((i 7168).toInt ≤ 2) := hG.I.1 7168
        first | refine ft_go mi_k81 4 32 [(4, .ref 112), (0, .ref 0), (1, .int x1), (2, .int x2), (3, .int x3)] [.int (i 7168)] i a q r (by rfl) ?_ | refine ko_steps mi_in81 4 _ (32, [(4, .ref 112), (0, .ref 0), (1, .int x1), (2, .int x2), (3, .int x3)], [.int (i 7168)], (0, 0), ks i a q r) (by rfl) ?_
        refine ft_if mi_k81 ((i 7168) != 0) 37 35 [(4, .ref 112), (0, .ref 0), (1, .int x1), (2, .int x2), (3, .int x3)] [] (by rfl) (fun c => ?_) (fun c => ?_)
        ·
          have c82 : (i 7168).toInt ≠ (0 : Int32).toInt := kd_ne c; clear c
          first | refine ft_go mi_k81 2 40 [(4, .ref 112), (0, .ref 0), (1, .int x1), (2, .int x2), (3, .int x3)] [.int 1, .ref 112] i a q r (by rfl) ?_ | refine ko_steps mi_in81 2 _ (40, [(4, .ref 112), (0, .ref 0), (1, .int x1), (2, .int x2), (3, .int x3)], [.int 1, .ref 112], (0, 0), ks i a q r) (by rfl) ?_
          refine ko_callPI mi_k81.1 (pc := 40) (ls := [(4, .ref 112), (0, .ref 0), (1, .int x1), (2, .int x2), (3, .int x3)]) (st := [.int 1, .ref 112]) (h := ks i a q r) (i := (.invokevirtual 81, 3, 36, 0, 9, 0, 158)) (mi_k81.2 _ _ (by rfl)) (ft_invS mi_pq36 (by rfl)) (cy := mi_c36) mi_pq36 rfl (kc36_112 hG.I hG.R 1) (by decide) ?_
          intro vg83 hg83
          rcases hg83 with ⟨eg83, hg83⟩ | ⟨eg83, hg83⟩
          ·
            subst eg83
            have fi_7170 : ((0 : Int) ≤ (i 7170).toInt) ∧ ((i 7170).toInt ≤ 4) := hG.I.1 7170
            have z84 : ((i 7168).toInt = 2) ∧ ((i 7170).toInt = (1 : Int32).toInt) := hg83
            first | refine ft_go mi_k81 4 53 [(4, .ref 112), (0, .ref 0), (1, .int x1), (2, .int x2), (3, .int x3)] [.int 60, .int 0, .int x2] i a q r (by rfl) ?_ | refine ko_steps mi_in81 4 _ (53, [(4, .ref 112), (0, .ref 0), (1, .int x1), (2, .int x2), (3, .int x3)], [.int 60, .int 0, .int x2], (0, 0), ks i a q r) (by rfl) ?_
            refine ko_callPI mi_k81.1 (pc := 53) (ls := [(4, .ref 112), (0, .ref 0), (1, .int x1), (2, .int x2), (3, .int x3)]) (st := [.int 60, .int 0, .int x2]) (h := ks i a q r) (i := (.invokestatic 74, 3, 120, 0, 9, 0, 152)) (mi_k81.2 _ _ (by rfl)) (ft_invS mi_pq120 (by rfl)) (cy := mi_c120) mi_pq120 rfl (kc120 hG.I hG.R x2 0 60) (by decide) ?_
            intro vg85 hg85
            rcases hg85 with ⟨eg85, hg85⟩ | ⟨eg85, hg85⟩
            ·
              subst eg85
              have z86 : ((0 : Int32).toInt ≤ x2.toInt) ∧ (x2.toInt ≤ (60 : Int32).toInt) := hg85
              first | refine ft_go mi_k81 5 67 [(6, .int 0), (5, .int 0), (4, .ref 112), (0, .ref 0), (1, .int x1), (2, .int x2), (3, .int x3)] [] i a q r (by rfl) ?_ | refine ko_steps mi_in81 5 _ (67, [(6, .int 0), (5, .int 0), (4, .ref 112), (0, .ref 0), (1, .int x1), (2, .int x2), (3, .int x3)], [], (0, 0), ks i a q r) (by rfl) ?_
              have lp87 : ∀ (nz : Nat) (i87 : Nat → Int32) (a87 : Nat → List Int32) (q87 : Nat → List Int64) (r87 : Nat → Nat) (l6_87 : Int32) (l5_87 : Int32), kG w81_0_L67 i a q r i87 a87 q87 r87 → (0 : Int) ≤ l6_87.toInt → ((x3.toInt - l6_87.toInt)).toNat < nz → ko 7 (mi_h81, mi_c81) P (67, [(6, .int l6_87), (5, .int l5_87), (4, .ref 112), (0, .ref 0), (1, .int x1), (2, .int x2), (3, .int x3)], [], (0, 0), ks i87 a87 q87 r87) := by
                intro nz
                induction nz with
                | zero =>
                  intro _ _ _ _ _ _ _ _ hm
                  exact absurd hm (Nat.not_lt_zero _)
                | succ nz ih87 =>
                  intro i87 a87 q87 r87 l6_87 l5_87 hL87 p87_0 hm87
                  first | refine ft_go mi_k81 2 70 [(6, .int l6_87), (5, .int l5_87), (4, .ref 112), (0, .ref 0), (1, .int x1), (2, .int x2), (3, .int x3)] [.int x3, .int l6_87] i87 a87 q87 r87 (by rfl) ?_ | refine ko_steps mi_in81 2 _ (70, [(6, .int l6_87), (5, .int l5_87), (4, .ref 112), (0, .ref 0), (1, .int x1), (2, .int x2), (3, .int x3)], [.int x3, .int l6_87], (0, 0), ks i87 a87 q87 r87) (by rfl) ?_
                  refine ft_if mi_k81 (decide (x3 ≤ l6_87)) 97 73 [(6, .int l6_87), (5, .int l5_87), (4, .ref 112), (0, .ref 0), (1, .int x1), (2, .int x2), (3, .int x3)] [] (by rfl) (fun c => ?_) (fun c => ?_)
                  ·
                    have c88 : x3.toInt ≤ l6_87.toInt := kd_le c; clear c
                    have hG89 := kG_call hG hL87 (by decide +kernel)
                    first | refine ft_go mi_k81 1 99 [(6, .int l6_87), (5, .int l5_87), (4, .ref 112), (0, .ref 0), (1, .int x1), (2, .int x2), (3, .int x3)] [.int l5_87] i87 a87 q87 r87 (by rfl) ?_ | refine ko_steps mi_in81 1 _ (99, [(6, .int l6_87), (5, .int l5_87), (4, .ref 112), (0, .ref 0), (1, .int x1), (2, .int x2), (3, .int x3)], [.int l5_87], (0, 0), ks i87 a87 q87 r87) (by rfl) ?_
                    exact ft_ret mi_k81 (by rfl) (hP l5_87 _ _ _ _ hG89 trivial)
                  ·
                    have c90 : l6_87.toInt < x3.toInt := kd_leF c; clear c
                    have s91 : (3 * l6_87).toInt = 3 * l6_87.toInt := kd_cmul 3 kn3 (oz943 p87_0) (oz944 c90 z4.2 kn8)
                    have s92 : (x2 + (3 * l6_87)).toInt = x2.toInt + (3 * l6_87).toInt := kd_add (oz945 p87_0 s91 z86.1 kn0) (oz956 c90 s91 z4.2 z86.2 kn8 kn60)
                    first | refine ft_go mi_k81 7 82 [(6, .int l6_87), (5, .int l5_87), (4, .ref 112), (0, .ref 0), (1, .int x1), (2, .int x2), (3, .int x3)] [.int (x2 + (3 * l6_87)), .ref 112, .ref 0] i87 a87 q87 r87 (by rfl) ?_ | refine ko_steps mi_in81 7 _ (82, [(6, .int l6_87), (5, .int l5_87), (4, .ref 112), (0, .ref 0), (1, .int x1), (2, .int x2), (3, .int x3)], [.int (x2 + (3 * l6_87)), .ref 112, .ref 0], (0, 0), ks i87 a87 q87 r87) (by rfl) ?_
                    refine ko_callI mi_k81.1 (pc := 82) (ls := [(6, .int l6_87), (5, .int l5_87), (4, .ref 112), (0, .ref 0), (1, .int x1), (2, .int x2), (3, .int x3)]) (st := [.int (x2 + (3 * l6_87)), .ref 112, .ref 0]) (h := ks i87 a87 q87 r87) (i := (.invokevirtual 84, 3, 82, 0, 9, 0, 159)) (mi_k81.2 _ _ (by rfl)) (ft_invS mi_pq82 (by rfl)) (cy := mi_c82) mi_pq82 rfl (kc82_0_112 hL87.I hL87.R (x2 + (3 * l6_87)) (oz957 c90 s91 s92 z4.2 z86.2 kn8 kn60)) (by decide) ?_
                    intro vg93 ig93 ag93 qg93 rg93 kg93 hg93
                    have hGg93 := kG_call hL87 kg93 (by decide +kernel)
                    rcases hg93 with ⟨eg93, hg93⟩ | ⟨eg93, hg93⟩
                    ·
                      subst eg93
                      have b94 : ((-2147483648 : Int) ≤ l5_87.toInt) ∧ (l5_87.toInt ≤ 2147483647) := kd_bd l5_87
                      have s95 : (l6_87 + 1).toInt = l6_87.toInt + (1 : Int32).toInt := kd_add (oz12 p87_0 kn1) (oz43 c90 z4.2 kn8 kn1)
                      first | refine ft_go mi_k81 4 67 [(6, .int (l6_87 + 1)), (5, .int (l5_87 + 1)), (4, .ref 112), (0, .ref 0), (1, .int x1), (2, .int x2), (3, .int x3)] [] ig93 ag93 qg93 rg93 (by rfl) ?_ | refine ko_steps mi_in81 4 _ (67, [(6, .int (l6_87 + 1)), (5, .int (l5_87 + 1)), (4, .ref 112), (0, .ref 0), (1, .int x1), (2, .int x2), (3, .int x3)], [], (0, 0), ks ig93 ag93 qg93 rg93) (by rfl) ?_
                      exact ih87 _ _ _ _ _ _ hGg93 (oz14 p87_0 s95 kn1) (kj_meas (oz44 s95 kn1) (oz45 c90) hm87)
                    ·
                      subst eg93
                      first | refine ft_go mi_k81 1 97 [(6, .int l6_87), (5, .int l5_87), (4, .ref 112), (0, .ref 0), (1, .int x1), (2, .int x2), (3, .int x3)] [] ig93 ag93 qg93 rg93 (by rfl) ?_ | refine ko_steps mi_in81 1 _ (97, [(6, .int l6_87), (5, .int l5_87), (4, .ref 112), (0, .ref 0), (1, .int x1), (2, .int x2), (3, .int x3)], [], (0, 0), ks ig93 ag93 qg93 rg93) (by rfl) ?_
                      have hG96 := kG_call hG hGg93 (by decide +kernel)
                      first | refine ft_go mi_k81 1 99 [(6, .int l6_87), (5, .int l5_87), (4, .ref 112), (0, .ref 0), (1, .int x1), (2, .int x2), (3, .int x3)] [.int l5_87] ig93 ag93 qg93 rg93 (by rfl) ?_ | refine ko_steps mi_in81 1 _ (99, [(6, .int l6_87), (5, .int l5_87), (4, .ref 112), (0, .ref 0), (1, .int x1), (2, .int x2), (3, .int x3)], [.int l5_87], (0, 0), ks ig93 ag93 qg93 rg93) (by rfl) ?_
                      exact ft_ret mi_k81 (by rfl) (hP l5_87 _ _ _ _ hG96 trivial)
              exact lp87 _ _ _ _ _ _ _ (kG_self _ hG.I hG.R) (oz46 kn0) (Nat.lt_succ_self _)
            ·
              subst eg85
              have z97 : ¬ (((0 : Int32).toInt ≤ x2.toInt) ∧ (x2.toInt ≤ (60 : Int32).toInt)) := hg85
              first | refine ft_go mi_k81 2 60 [(4, .ref 112), (0, .ref 0), (1, .int x1), (2, .int x2), (3, .int x3)] [.int 0] i a q r (by rfl) ?_ | refine ko_steps mi_in81 2 _ (60, [(4, .ref 112), (0, .ref 0), (1, .int x1), (2, .int x2), (3, .int x3)], [.int 0], (0, 0), ks i a q r) (by rfl) ?_
              exact ft_ret mi_k81 (by rfl) (hP 0 _ _ _ _ hG trivial)
          ·
            subst eg83
            have fi_7170 : ((0 : Int) ≤ (i 7170).toInt) ∧ ((i 7170).toInt ≤ 4) := hG.I.1 7170
            have z98 : ¬ (((i 7168).toInt = 2) ∧ ((i 7170).toInt = (1 : Int32).toInt)) := hg83
            first | refine ft_go mi_k81 2 48 [(4, .ref 112), (0, .ref 0), (1, .int x1), (2, .int x2), (3, .int x3)] [.int (-12)] i a q r (by rfl) ?_ | refine ko_steps mi_in81 2 _ (48, [(4, .ref 112), (0, .ref 0), (1, .int x1), (2, .int x2), (3, .int x3)], [.int (-12)], (0, 0), ks i a q r) (by rfl) ?_
            exact ft_ret mi_k81 (by rfl) (hP (-12) _ _ _ _ hG trivial)
        ·
          have c99 : (i 7168).toInt = (0 : Int32).toInt := kd_neF c; clear c
          first | refine ft_go mi_k81 1 36 [(4, .ref 112), (0, .ref 0), (1, .int x1), (2, .int x2), (3, .int x3)] [.int 0] i a q r (by rfl) ?_ | refine ko_steps mi_in81 1 _ (36, [(4, .ref 112), (0, .ref 0), (1, .int x1), (2, .int x2), (3, .int x3)], [.int 0], (0, 0), ks i a q r) (by rfl) ?_
          exact ft_ret mi_k81 (by rfl) (hP 0 _ _ _ _ hG trivial)
      by_cases w100 : x1.toInt = 5
      ·
        refine ko_eq (x1 := (24, [(0, .ref 0), (1, .int x1), (2, .int x2), (3, .int x3)], [.int 5, .ref 97], (0, 0), ks i a q r)) (by rw [(kj_eq w100 (by decide) : x1 = 5)]) ?_
        have fi_7296 : ((0 : Int) ≤ (i 7296).toInt) ∧ ((i 7296).toInt ≤ 2) := hG.I.1 7296
        first | refine ft_go mi_k81 4 32 [(4, .ref 114), (0, .ref 0), (1, .int x1), (2, .int x2), (3, .int x3)] [.int (i 7296)] i a q r (by rfl) ?_ | refine ko_steps mi_in81 4 _ (32, [(4, .ref 114), (0, .ref 0), (1, .int x1), (2, .int x2), (3, .int x3)], [.int (i 7296)], (0, 0), ks i a q r) (by rfl) ?_
        refine ft_if mi_k81 ((i 7296) != 0) 37 35 [(4, .ref 114), (0, .ref 0), (1, .int x1), (2, .int x2), (3, .int x3)] [] (by rfl) (fun c => ?_) (fun c => ?_)
        ·
          have c101 : (i 7296).toInt ≠ (0 : Int32).toInt := kd_ne c; clear c
          first | refine ft_go mi_k81 2 40 [(4, .ref 114), (0, .ref 0), (1, .int x1), (2, .int x2), (3, .int x3)] [.int 1, .ref 114] i a q r (by rfl) ?_ | refine ko_steps mi_in81 2 _ (40, [(4, .ref 114), (0, .ref 0), (1, .int x1), (2, .int x2), (3, .int x3)], [.int 1, .ref 114], (0, 0), ks i a q r) (by rfl) ?_
          refine ko_callPI mi_k81.1 (pc := 40) (ls := [(4, .ref 114), (0, .ref 0), (1, .int x1), (2, .int x2), (3, .int x3)]) (st := [.int 1, .ref 114]) (h := ks i a q r) (i := (.invokevirtual 81, 3, 36, 0, 9, 0, 158)) (mi_k81.2 _ _ (by rfl)) (ft_invS mi_pq36 (by rfl)) (cy := mi_c36) mi_pq36 rfl (kc36_114 hG.I hG.R 1) (by decide) ?_
          intro vg102 hg102
          rcases hg102 with ⟨eg102, hg102⟩ | ⟨eg102, hg102⟩
          ·
            subst eg102
            have fi_7298 : ((0 : Int) ≤ (i 7298).toInt) ∧ ((i 7298).toInt ≤ 4) := hG.I.1 7298
            have z103 : ((i 7296).toInt = 2) ∧ ((i 7298).toInt = (1 : Int32).toInt) := hg102
            first | refine ft_go mi_k81 4 53 [(4, .ref 114), (0, .ref 0), (1, .int x1), (2, .int x2), (3, .int x3)] [.int 60, .int 0, .int x2] i a q r (by rfl) ?_ | refine ko_steps mi_in81 4 _ (53, [(4, .ref 114), (0, .ref 0), (1, .int x1), (2, .int x2), (3, .int x3)], [.int 60, .int 0, .int x2], (0, 0), ks i a q r) (by rfl) ?_
            refine ko_callPI mi_k81.1 (pc := 53) (ls := [(4, .ref 114), (0, .ref 0), (1, .int x1), (2, .int x2), (3, .int x3)]) (st := [.int 60, .int 0, .int x2]) (h := ks i a q r) (i := (.invokestatic 74, 3, 120, 0, 9, 0, 152)) (mi_k81.2 _ _ (by rfl)) (ft_invS mi_pq120 (by rfl)) (cy := mi_c120) mi_pq120 rfl (kc120 hG.I hG.R x2 0 60) (by decide) ?_
            intro vg104 hg104
            rcases hg104 with ⟨eg104, hg104⟩ | ⟨eg104, hg104⟩
            ·
              subst eg104
              have z105 : ((0 : Int32).toInt ≤ x2.toInt) ∧ (x2.toInt ≤ (60 : Int32).toInt) := hg104
              first | refine ft_go mi_k81 5 67 [(6, .int 0), (5, .int 0), (4, .ref 114), (0, .ref 0), (1, .int x1), (2, .int x2), (3, .int x3)] [] i a q r (by rfl) ?_ | refine ko_steps mi_in81 5 _ (67, [(6, .int 0), (5, .int 0), (4, .ref 114), (0, .ref 0), (1, .int x1), (2, .int x2), (3, .int x3)], [], (0, 0), ks i a q r) (by rfl) ?_
              have lp106 : ∀ (nz : Nat) (i106 : Nat → Int32) (a106 : Nat → List Int32) (q106 : Nat → List Int64) (r106 : Nat → Nat) (l6_106 : Int32) (l5_106 : Int32), kG w81_0_L67 i a q r i106 a106 q106 r106 → (0 : Int) ≤ l6_106.toInt → ((x3.toInt - l6_106.toInt)).toNat < nz → ko 7 (mi_h81, mi_c81) P (67, [(6, .int l6_106), (5, .int l5_106), (4, .ref 114), (0, .ref 0), (1, .int x1), (2, .int x2), (3, .int x3)], [], (0, 0), ks i106 a106 q106 r106) := by
                intro nz
                induction nz with
                | zero =>
                  intro _ _ _ _ _ _ _ _ hm
                  exact absurd hm (Nat.not_lt_zero _)
                | succ nz ih106 =>
                  intro i106 a106 q106 r106 l6_106 l5_106 hL106 p106_0 hm106
                  first | refine ft_go mi_k81 2 70 [(6, .int l6_106), (5, .int l5_106), (4, .ref 114), (0, .ref 0), (1, .int x1), (2, .int x2), (3, .int x3)] [.int x3, .int l6_106] i106 a106 q106 r106 (by rfl) ?_ | refine ko_steps mi_in81 2 _ (70, [(6, .int l6_106), (5, .int l5_106), (4, .ref 114), (0, .ref 0), (1, .int x1), (2, .int x2), (3, .int x3)], [.int x3, .int l6_106], (0, 0), ks i106 a106 q106 r106) (by rfl) ?_
                  refine ft_if mi_k81 (decide (x3 ≤ l6_106)) 97 73 [(6, .int l6_106), (5, .int l5_106), (4, .ref 114), (0, .ref 0), (1, .int x1), (2, .int x2), (3, .int x3)] [] (by rfl) (fun c => ?_) (fun c => ?_)
                  ·
                    have c107 : x3.toInt ≤ l6_106.toInt := kd_le c; clear c
                    have hG108 := kG_call hG hL106 (by decide +kernel)
                    first | refine ft_go mi_k81 1 99 [(6, .int l6_106), (5, .int l5_106), (4, .ref 114), (0, .ref 0), (1, .int x1), (2, .int x2), (3, .int x3)] [.int l5_106] i106 a106 q106 r106 (by rfl) ?_ | refine ko_steps mi_in81 1 _ (99, [(6, .int l6_106), (5, .int l5_106), (4, .ref 114), (0, .ref 0), (1, .int x1), (2, .int x2), (3, .int x3)], [.int l5_106], (0, 0), ks i106 a106 q106 r106) (by rfl) ?_
                    exact ft_ret mi_k81 (by rfl) (hP l5_106 _ _ _ _ hG108 trivial)
                  ·
                    have c109 : l6_106.toInt < x3.toInt := kd_leF c; clear c
                    have s110 : (3 * l6_106).toInt = 3 * l6_106.toInt := kd_cmul 3 kn3 (oz943 p106_0) (oz944 c109 z4.2 kn8)
                    have s111 : (x2 + (3 * l6_106)).toInt = x2.toInt + (3 * l6_106).toInt := kd_add (oz945 p106_0 s110 z105.1 kn0) (oz946 c109 s110 z105.2 z4.2 kn60 kn8)
                    first | refine ft_go mi_k81 7 82 [(6, .int l6_106), (5, .int l5_106), (4, .ref 114), (0, .ref 0), (1, .int x1), (2, .int x2), (3, .int x3)] [.int (x2 + (3 * l6_106)), .ref 114, .ref 0] i106 a106 q106 r106 (by rfl) ?_ | refine ko_steps mi_in81 7 _ (82, [(6, .int l6_106), (5, .int l5_106), (4, .ref 114), (0, .ref 0), (1, .int x1), (2, .int x2), (3, .int x3)], [.int (x2 + (3 * l6_106)), .ref 114, .ref 0], (0, 0), ks i106 a106 q106 r106) (by rfl) ?_
                    refine ko_callI mi_k81.1 (pc := 82) (ls := [(6, .int l6_106), (5, .int l5_106), (4, .ref 114), (0, .ref 0), (1, .int x1), (2, .int x2), (3, .int x3)]) (st := [.int (x2 + (3 * l6_106)), .ref 114, .ref 0]) (h := ks i106 a106 q106 r106) (i := (.invokevirtual 84, 3, 82, 0, 9, 0, 159)) (mi_k81.2 _ _ (by rfl)) (ft_invS mi_pq82 (by rfl)) (cy := mi_c82) mi_pq82 rfl (kc82_0_114 hL106.I hL106.R (x2 + (3 * l6_106)) (oz955 c109 s110 s111 z105.2 z4.2 kn60 kn8)) (by decide) ?_
                    intro vg112 ig112 ag112 qg112 rg112 kg112 hg112
                    have hGg112 := kG_call hL106 kg112 (by decide +kernel)
                    rcases hg112 with ⟨eg112, hg112⟩ | ⟨eg112, hg112⟩
                    ·
                      subst eg112
                      have b113 : ((-2147483648 : Int) ≤ l5_106.toInt) ∧ (l5_106.toInt ≤ 2147483647) := kd_bd l5_106
                      have s114 : (l6_106 + 1).toInt = l6_106.toInt + (1 : Int32).toInt := kd_add (oz12 p106_0 kn1) (oz43 c109 z4.2 kn8 kn1)
                      first | refine ft_go mi_k81 4 67 [(6, .int (l6_106 + 1)), (5, .int (l5_106 + 1)), (4, .ref 114), (0, .ref 0), (1, .int x1), (2, .int x2), (3, .int x3)] [] ig112 ag112 qg112 rg112 (by rfl) ?_ | refine ko_steps mi_in81 4 _ (67, [(6, .int (l6_106 + 1)), (5, .int (l5_106 + 1)), (4, .ref 114), (0, .ref 0), (1, .int x1), (2, .int x2), (3, .int x3)], [], (0, 0), ks ig112 ag112 qg112 rg112) (by rfl) ?_
                      exact ih106 _ _ _ _ _ _ hGg112 (oz14 p106_0 s114 kn1) (kj_meas (oz44 s114 kn1) (oz45 c109) hm106)
                    ·
                      subst eg112
                      first | refine ft_go mi_k81 1 97 [(6, .int l6_106), (5, .int l5_106), (4, .ref 114), (0, .ref 0), (1, .int x1), (2, .int x2), (3, .int x3)] [] ig112 ag112 qg112 rg112 (by rfl) ?_ | refine ko_steps mi_in81 1 _ (97, [(6, .int l6_106), (5, .int l5_106), (4, .ref 114), (0, .ref 0), (1, .int x1), (2, .int x2), (3, .int x3)], [], (0, 0), ks ig112 ag112 qg112 rg112) (by rfl) ?_
                      have hG115 := kG_call hG hGg112 (by decide +kernel)
                      first | refine ft_go mi_k81 1 99 [(6, .int l6_106), (5, .int l5_106), (4, .ref 114), (0, .ref 0), (1, .int x1), (2, .int x2), (3, .int x3)] [.int l5_106] ig112 ag112 qg112 rg112 (by rfl) ?_ | refine ko_steps mi_in81 1 _ (99, [(6, .int l6_106), (5, .int l5_106), (4, .ref 114), (0, .ref 0), (1, .int x1), (2, .int x2), (3, .int x3)], [.int l5_106], (0, 0), ks ig112 ag112 qg112 rg112) (by rfl) ?_
                      exact ft_ret mi_k81 (by rfl) (hP l5_106 _ _ _ _ hG115 trivial)
              exact lp106 _ _ _ _ _ _ _ (kG_self _ hG.I hG.R) (oz46 kn0) (Nat.lt_succ_self _)
            ·
              subst eg104
              have z116 : ¬ (((0 : Int32).toInt ≤ x2.toInt) ∧ (x2.toInt ≤ (60 : Int32).toInt)) := hg104
              first | refine ft_go mi_k81 2 60 [(4, .ref 114), (0, .ref 0), (1, .int x1), (2, .int x2), (3, .int x3)] [.int 0] i a q r (by rfl) ?_ | refine ko_steps mi_in81 2 _ (60, [(4, .ref 114), (0, .ref 0), (1, .int x1), (2, .int x2), (3, .int x3)], [.int 0], (0, 0), ks i a q r) (by rfl) ?_
              exact ft_ret mi_k81 (by rfl) (hP 0 _ _ _ _ hG trivial)
          ·
            subst eg102
            have fi_7298 : ((0 : Int) ≤ (i 7298).toInt) ∧ ((i 7298).toInt ≤ 4) := hG.I.1 7298
            have z117 : ¬ (((i 7296).toInt = 2) ∧ ((i 7298).toInt = (1 : Int32).toInt)) := hg102
            first | refine ft_go mi_k81 2 48 [(4, .ref 114), (0, .ref 0), (1, .int x1), (2, .int x2), (3, .int x3)] [.int (-12)] i a q r (by rfl) ?_ | refine ko_steps mi_in81 2 _ (48, [(4, .ref 114), (0, .ref 0), (1, .int x1), (2, .int x2), (3, .int x3)], [.int (-12)], (0, 0), ks i a q r) (by rfl) ?_
            exact ft_ret mi_k81 (by rfl) (hP (-12) _ _ _ _ hG trivial)
        ·
          have c118 : (i 7296).toInt = (0 : Int32).toInt := kd_neF c; clear c
          first | refine ft_go mi_k81 1 36 [(4, .ref 114), (0, .ref 0), (1, .int x1), (2, .int x2), (3, .int x3)] [.int 0] i a q r (by rfl) ?_ | refine ko_steps mi_in81 1 _ (36, [(4, .ref 114), (0, .ref 0), (1, .int x1), (2, .int x2), (3, .int x3)], [.int 0], (0, 0), ks i a q r) (by rfl) ?_
          exact ft_ret mi_k81 (by rfl) (hP 0 _ _ _ _ hG trivial)
      exact (oz958 w100 w24 w43 w5 w62 w81 z2.1 z2.2).elim
    ·
      subst eg3
      have z119 : ¬ (((1 : Int32).toInt ≤ x3.toInt) ∧ (x3.toInt ≤ (8 : Int32).toInt)) := hg3
      first | refine ft_go mi_k81 2 18 [(0, .ref 0), (1, .int x1), (2, .int x2), (3, .int x3)] [.int (-1)] i a q r (by rfl) ?_ | refine ko_steps mi_in81 2 _ (18, [(0, .ref 0), (1, .int x1), (2, .int x2), (3, .int x3)], [.int (-1)], (0, 0), ks i a q r) (by rfl) ?_
      exact ft_ret mi_k81 (by rfl) (hP (-1) _ _ _ _ hG trivial)
  ·
    subst eg1
    have z120 : ¬ (((0 : Int) ≤ x1.toInt) ∧ (x1.toInt ≤ 5)) := hg1
    first | refine ft_go mi_k81 2 18 [(0, .ref 0), (1, .int x1), (2, .int x2), (3, .int x3)] [.int (-1)] i a q r (by rfl) ?_ | refine ko_steps mi_in81 2 _ (18, [(0, .ref 0), (1, .int x1), (2, .int x2), (3, .int x3)], [.int (-1)], (0, 0), ks i a q r) (by rfl) ?_
    exact ft_ret mi_k81 (by rfl) (hP (-1) _ _ _ _ hG trivial)

