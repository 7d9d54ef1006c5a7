theorem kn121 : (121 : Int32).toInt = 121 := by decide
theorem oz905 {a0 a1 : Int} (h0 : a0 < a1) (h1 : (0 : Int) ≤ a0) (h2 : a1 = 0) : False := by omega
theorem oz907 {a0 a1 : Int} (h0 : a0 < a1) (h1 : a1 = 48) : ¬ (((48 : Int) ≤ a0) ∧ (a0 ≤ 57)) := by omega
theorem oz908 {a0 a1 : Int} (h0 : a0 < a1) (h1 : a0 = 57) : ¬ (((48 : Int) ≤ a1) ∧ (a1 ≤ 57)) := by omega
theorem oz909 {a0 a1 a2 : Int} (h0 : a0 ≤ a1) (h1 : a1 ≤ a2) (h2 : a0 = 48) (h3 : a2 = 57) : ((48 : Int) ≤ a1) ∧ (a1 ≤ 57) := by omega
theorem oz910 {a0 a1 a2 : Int} (h0 : a0 ≤ a1) (h1 : a0 = 121) (h2 : a2 = 1) : (-2147483648 : Int) ≤ a1 - a2 := by omega
theorem oz911 {a0 a1 : Int} (h0 : a0 ≤ 121) (h1 : a1 = 1) : a0 - a1 ≤ 2147483647 := by omega
theorem oz912 {a0 a1 : Int} (h0 : a0 < a1) (h1 : a1 = 121) : a0 < 121 := by omega
theorem oz913 {a0 a1 : Int} (h0 : a0 ≤ 121) (h1 : a1 = 1) : a0 + a1 ≤ 2147483647 := by omega
theorem oz914 {a0 a1 a2 a3 : Int} (h0 : a0 < a1) (h1 : a2 = a0 + a3) (h2 : a1 = 121) (h3 : a3 = 1) : a2 ≤ 121 := by omega
theorem oz915 {a0 a1 a2 : Int} (h0 : (0 : Int) ≤ a0) (h1 : a1 = a0 + a2) (h2 : a2 = 1) : (-2147483648 : Int) ≤ a1 - a2 := by omega
theorem oz916 {a0 a1 a2 : Int} (h0 : a0 ≤ 121) (h1 : a1 = a0 + a2) (h2 : a2 = 1) : a1 - a2 ≤ 2147483647 := by omega
theorem oz925 {a0 a1 a2 : Int} (h0 : a0 < a1) (h1 : (a0 + a2) = 6) (h2 : a1 = 6) : (1 : Int) ≤ a2 := by omega
theorem oz926 {a0 a1 a2 a3 a4 : Int} (h0 : a0 = a1 + 1) (h1 : (0 : Int) ≤ a2) (h2 : (a2 + a0) = 6) (h3 : a3 = a2 + a4) (h4 : a4 = 1) : ((0 : Int) ≤ a3) ∧ ((a3 + a1) = 6) := by omega
theorem oz927 {a0 a1 a2 a3 a4 a5 : Int} (h0 : a0 = a1) (h1 : a2 ≤ 120) (h2 : (0 : Int) ≤ a1) (h3 : a3 = a4 + a5) (h4 : (a0 = (-1)) ∨ (a4 < a2)) (h5 : a5 = 1) : a3 ≤ 120 := by omega
theorem oz928 {a0 a1 : Int} (h0 : (0 : Int) ≤ a0) (h1 : (a0 + a1) = 6) : ((0 : Int) ≤ a0) ∧ ((a0 + a1) = 6) := by omega
theorem oz929 {a0 a1 a2 : Int} (h0 : a0 < a1) (h1 : a1 ≤ 120) (h2 : a2 = 1) : a0 + a2 ≤ 2147483647 := by omega
theorem oz933 {a0 a1 a2 a3 a4 a5 a6 : Int} (h0 : a0 = a1) (h1 : a2 = a3) (h2 : a1 = a2) (h3 : a4 = a5 + a6) (h4 : a6 = 1) : (a0 - a4) < (a3 - a5) := by omega
theorem oz934 {a0 a1 : Int} (h0 : a0 ≤ a1) (h1 : a1 = 6) : a0 < 7 := by omega
theorem oz935 {a0 a1 a2 : Int} (h0 : a0 ≤ a1) (h1 : a1 ≤ a2) (h2 : a0 = 0) (h3 : a2 = 6) : ((0 : Int) ≤ a1) ∧ (a1 ≤ 6) := by omega
theorem oz936 {a0 a1 : Int} (h0 : a0 < a1) (h1 : a1 = 8) : a0 < 8 := by omega
theorem oz937 {a0 a1 a2 a3 : Int} (h0 : a0 < a1) (h1 : a2 = a0 + a3) (h2 : a1 = 8) (h3 : a3 = 1) : a2 ≤ 8 := by omega
theorem oz938 {a0 a1 a2 : Int} (h0 : a0 ≤ 8) (h1 : a1 = a0 + a2) (h2 : a2 = 1) : a1 - a2 ≤ 2147483647 := by omega
theorem oz940 {a0 a1 a2 a3 : Int} (h0 : a0 ≠ a1) (h1 : a0 ≤ 2) (h2 : a1 = 2) : ¬ ((a0 = 2) ∧ (a2 = a3)) := by omega
theorem oz941 {a0 a1 a2 : Int} (h0 : a0 ≠ a1) : ¬ ((a2 = 2) ∧ (a0 = a1)) := by omega
theorem oz942 {a0 a1 a2 a3 : Int} (h0 : a0 = a1) (h1 : a2 = a3) (h2 : a0 ≤ 2) (h3 : a1 = 2) : (a0 = 2) ∧ (a2 = a3) := by omega
theorem oz943 {a0 : Int} (h0 : (0 : Int) ≤ a0) : (-2147483648 : Int) ≤ 3 * a0 := by omega
theorem oz944 {a0 a1 a2 : Int} (h0 : a0 < a1) (h1 : a1 ≤ a2) (h2 : a2 = 8) : 3 * a0 ≤ 2147483647 := by omega
theorem oz945 {a0 a1 a2 a3 : Int} (h0 : (0 : Int) ≤ a0) (h1 : a1 = 3 * a0) (h2 : a2 ≤ a3) (h3 : a2 = 0) : (-2147483648 : Int) ≤ a3 + a1 := by omega
theorem oz946 {a0 a1 a2 a3 a4 a5 : Int} (h0 : a0 < a1) (h1 : a2 = 3 * a0) (h2 : a3 ≤ a4) (h3 : a1 ≤ a5) (h4 : a4 = 60) (h5 : a5 = 8) : a3 + a2 ≤ 2147483647 := by omega
theorem oz947 {a0 a1 a2 : Int} (h0 : a0 ≤ a1) (h1 : a0 = 0) (h2 : a2 = 2) : (-2147483648 : Int) ≤ a1 + a2 := by omega
theorem oz948 {a0 a1 : Int} (h0 : a0 ≤ 1000) (h1 : a1 = 2) : a0 + a1 ≤ 2147483647 := by omega
theorem oz949 {a0 a1 a2 a3 : Int} (h0 : a0 < a1) (h1 : a1 ≤ 60) (h2 : a0 = a2 + a3) (h3 : a3 = 2) : a2 < 60 := by omega
theorem oz950 {a0 a1 a2 : Int} (h0 : a0 ≤ a1) (h1 : a0 = 0) (h2 : a2 = 1) : (-2147483648 : Int) ≤ a1 + a2 := by omega
theorem oz951 {a0 a1 : Int} (h0 : a0 ≤ 1000) (h1 : a1 = 1) : a0 + a1 ≤ 2147483647 := by omega
theorem oz952 {a0 a1 a2 a3 : Int} (h0 : a0 ≤ a1) (h1 : a2 = a1 + a3) (h2 : a0 = 0) (h3 : a3 = 1) : (0 : Int) ≤ a2 := by omega
theorem oz953 {a0 a1 a2 a3 a4 a5 : Int} (h0 : a0 < a1) (h1 : a1 ≤ 60) (h2 : a0 = a2 + a3) (h3 : a4 = a2 + a5) (h4 : a3 = 2) (h5 : a5 = 1) : a4 < 60 := by omega
theorem oz954 {a0 a1 a2 a3 : Int} (h0 : a0 ≤ a1) (h1 : a2 = a1 + a3) (h2 : a0 = 0) (h3 : a3 = 2) : (0 : Int) ≤ a2 := by omega
theorem oz955 {a0 a1 a2 a3 a4 a5 a6 : Int} (h0 : a0 < a1) (h1 : a2 = 3 * a0) (h2 : a3 = a4 + a2) (h3 : a4 ≤ a5) (h4 : a1 ≤ a6) (h5 : a5 = 60) (h6 : a6 = 8) : a3 ≤ 1000 := by omega
theorem oz956 {a0 a1 a2 a3 a4 a5 : Int} (h0 : a0 < a1) (h1 : a2 = 3 * a0) (h2 : a1 ≤ a3) (h3 : a4 ≤ a5) (h4 : a3 = 8) (h5 : a5 = 60) : a4 + a2 ≤ 2147483647 := by omega
theorem oz957 {a0 a1 a2 a3 a4 a5 a6 : Int} (h0 : a0 < a1) (h1 : a2 = 3 * a0) (h2 : a3 = a4 + a2) (h3 : a1 ≤ a5) (h4 : a4 ≤ a6) (h5 : a5 = 8) (h6 : a6 = 60) : a3 ≤ 1000 := by omega
theorem oz958 {a0 : Int} (h0 : ¬ (a0 = 5)) (h1 : ¬ (a0 = 1)) (h2 : ¬ (a0 = 2)) (h3 : ¬ (a0 = 0)) (h4 : ¬ (a0 = 3)) (h5 : ¬ (a0 = 4)) (h6 : (0 : Int) ≤ a0) (h7 : a0 ≤ 5) : False := by omega
set_option maxRecDepth 100000 in
theorem kc56 {i : Nat → Int32} {a : Nat → List Int32} {q : Nat → List Int64} {r : Nat → Nat} (hI : kI i a q) (hr : kr r) (x1 : Int32) : km 1 56 [.int x1] (ks i a q r) (kPI (ks i a q r) (fun v => (v = 1 ∧ (((48 : Int) ≤ x1.toInt) ∧ (x1.toInt ≤ 57))) ∨ (v = 0 ∧ (¬ (((48 : Int) ≤ x1.toInt) ∧ (x1.toInt ≤ 57)))))) := by
  have hG := kG_self kW0 hI hr
  refine km_ofPI (q := (mi_h56, mi_c56)) rfl (by decide) (Nat.le_of_ble_eq_true rfl) ?_
  intro P hP
  refine ft_go mi_k56 2 3 [(0, .int x1)] [.int 48, .int x1] i a q r (by rfl) ?_
  refine ft_if mi_k56 (decide (x1 < 48)) 16 6 [(0, .int x1)] [] (by rfl) (fun c => ?_) (fun c => ?_)
  ·
    have c1 : x1.toInt < (48 : Int32).toInt := kd_lt c; clear c
    refine ft_go mi_k56 1 17 [(0, .int x1)] [.int 0] i a q r (by rfl) ?_
    exact ft_ret mi_k56 (by rfl) (hP 0 (Or.inr ⟨rfl, (oz907 c1 kn48)⟩))
  ·
    have c2 : (48 : Int32).toInt ≤ x1.toInt := kd_ltF c; clear c
    refine ft_go mi_k56 2 9 [(0, .int x1)] [.int 57, .int x1] i a q r (by rfl) ?_
    refine ft_if mi_k56 (decide (57 < x1)) 16 12 [(0, .int x1)] [] (by rfl) (fun c => ?_) (fun c => ?_)
    ·
      have c3 : (57 : Int32).toInt < x1.toInt := kd_lt c; clear c
      refine ft_go mi_k56 1 17 [(0, .int x1)] [.int 0] i a q r (by rfl) ?_
      exact ft_ret mi_k56 (by rfl) (hP 0 (Or.inr ⟨rfl, (oz908 c3 kn57)⟩))
    ·
      have c4 : x1.toInt ≤ (57 : Int32).toInt := kd_ltF c; clear c
      refine ft_go mi_k56 2 17 [(0, .int x1)] [.int 1] i a q r (by rfl) ?_
      exact ft_ret mi_k56 (by rfl) (hP 1 (Or.inl ⟨rfl, (oz909 c2 c4 kn48 kn57)⟩))
set_option maxRecDepth 100000 in
theorem kc231_S10 {i : Nat → Int32} {a : Nat → List Int32} {q : Nat → List Int64} {r : Nat → Nat} (hI : kI i a q) (hr : kr r)  : km 1 231 [.ref (mi_RO + 10)] (ks i a q r) (kPI (ks i a q r) (fun v => (v = 1 ∧ (True)) ∨ (v = 0 ∧ ((2 : Int) ≤ 1)))) := by
  have hG := kG_self kW0 hI hr
  refine km_ofPI (q := (mi_h231, mi_c231)) rfl (by decide) (Nat.le_of_ble_eq_true rfl) ?_
  intro P hP
  refine ft_go mi_k231 7 18 [(0, .ref (mi_RO + 10))] [.int 1] i a q r (by rfl) ?_
  exact ft_ret mi_k231 (by rfl) (hP 1 (Or.inl ⟨rfl, trivial⟩))
set_option maxRecDepth 100000 in
theorem kc231_S11 {i : Nat → Int32} {a : Nat → List Int32} {q : Nat → List Int64} {r : Nat → Nat} (hI : kI i a q) (hr : kr r)  : km 1 231 [.ref (mi_RO + 11)] (ks i a q r) (kPI (ks i a q r) (fun v => (v = 1 ∧ (True)) ∨ (v = 0 ∧ ((2 : Int) ≤ 1)))) := by
  have hG := kG_self kW0 hI hr
  refine km_ofPI (q := (mi_h231, mi_c231)) rfl (by decide) (Nat.le_of_ble_eq_true rfl) ?_
  intro P hP
  refine ft_go mi_k231 7 18 [(0, .ref (mi_RO + 11))] [.int 1] i a q r (by rfl) ?_
  exact ft_ret mi_k231 (by rfl) (hP 1 (Or.inl ⟨rfl, trivial⟩))
set_option maxRecDepth 100000 in
theorem kc231_S12 {i : Nat → Int32} {a : Nat → List Int32} {q : Nat → List Int64} {r : Nat → Nat} (hI : kI i a q) (hr : kr r)  : km 1 231 [.ref (mi_RO + 12)] (ks i a q r) (kPI (ks i a q r) (fun v => (v = 1 ∧ (True)) ∨ (v = 0 ∧ ((2 : Int) ≤ 1)))) := by
  have hG := kG_self kW0 hI hr
  refine km_ofPI (q := (mi_h231, mi_c231)) rfl (by decide) (Nat.le_of_ble_eq_true rfl) ?_
  intro P hP
  refine ft_go mi_k231 7 18 [(0, .ref (mi_RO + 12))] [.int 1] i a q r (by rfl) ?_
  exact ft_ret mi_k231 (by rfl) (hP 1 (Or.inl ⟨rfl, trivial⟩))
set_option maxRecDepth 100000 in
theorem kc231_S13 {i : Nat → Int32} {a : Nat → List Int32} {q : Nat → List Int64} {r : Nat → Nat} (hI : kI i a q) (hr : kr r)  : km 1 231 [.ref (mi_RO + 13)] (ks i a q r) (kPI (ks i a q r) (fun v => (v = 1 ∧ (True)) ∨ (v = 0 ∧ ((2 : Int) ≤ 1)))) := by
  have hG := kG_self kW0 hI hr
  refine km_ofPI (q := (mi_h231, mi_c231)) rfl (by decide) (Nat.le_of_ble_eq_true rfl) ?_
  intro P hP
  refine ft_go mi_k231 7 18 [(0, .ref (mi_RO + 13))] [.int 1] i a q r (by rfl) ?_
  exact ft_ret mi_k231 (by rfl) (hP 1 (Or.inl ⟨rfl, trivial⟩))
set_option maxRecDepth 100000 in
theorem kc231_S14 {i : Nat → Int32} {a : Nat → List Int32} {q : Nat → List Int64} {r : Nat → Nat} (hI : kI i a q) (hr : kr r)  : km 1 231 [.ref (mi_RO + 14)] (ks i a q r) (kPI (ks i a q r) (fun v => (v = 1 ∧ (True)) ∨ (v = 0 ∧ ((2 : Int) ≤ 1)))) := by
  have hG := kG_self kW0 hI hr
  refine km_ofPI (q := (mi_h231, mi_c231)) rfl (by decide) (Nat.le_of_ble_eq_true rfl) ?_
  intro P hP
  refine ft_go mi_k231 7 18 [(0, .ref (mi_RO + 14))] [.int 1] i a q r (by rfl) ?_
  exact ft_ret mi_k231 (by rfl) (hP 1 (Or.inl ⟨rfl, trivial⟩))
set_option maxRecDepth 100000 in
theorem kc120 {i : Nat → Int32} {a : Nat → List Int32} {q : Nat → List Int64} {r : Nat → Nat} (hI : kI i a q) (hr : kr r) (x1 : Int32) (x2 : Int32) (x3 : Int32) : km 1 120 [.int x1, .int x2, .int x3] (ks i a q r) (kPI (ks i a q r) (fun v => (v = 1 ∧ ((x2.toInt ≤ x1.toInt) ∧ (x1.toInt ≤ x3.toInt))) ∨ (v = 0 ∧ (¬ ((x2.toInt ≤ x1.toInt) ∧ (x1.toInt ≤ x3.toInt)))))) := by
  have hG := kG_self kW0 hI hr
  refine km_ofPI (q := (mi_h120, mi_c120)) rfl (by decide) (Nat.le_of_ble_eq_true rfl) ?_
  intro P hP
  refine ft_go mi_k120 2 2 [(0, .int x1), (1, .int x2), (2, .int x3)] [.int x2, .int x1] i a q r (by rfl) ?_
  refine ft_if mi_k120 (decide (x1 < x2)) 14 5 [(0, .int x1), (1, .int x2), (2, .int x3)] [] (by rfl) (fun c => ?_) (fun c => ?_)
  ·
    have c1 : x1.toInt < x2.toInt := kd_lt c; clear c
    refine ft_go mi_k120 1 15 [(0, .int x1), (1, .int x2), (2, .int x3)] [.int 0] i a q r (by rfl) ?_
    exact ft_ret mi_k120 (by rfl) (hP 0 (Or.inr ⟨rfl, (oz0 c1)⟩))
  ·
    have c2 : x2.toInt ≤ x1.toInt := kd_ltF c; clear c
    refine ft_go mi_k120 2 7 [(0, .int x1), (1, .int x2), (2, .int x3)] [.int x3, .int x1] i a q r (by rfl) ?_
    refine ft_if mi_k120 (decide (x3 < x1)) 14 10 [(0, .int x1), (1, .int x2), (2, .int x3)] [] (by rfl) (fun c => ?_) (fun c => ?_)
    ·
      have c3 : x3.toInt < x1.toInt := kd_lt c; clear c
      refine ft_go mi_k120 1 15 [(0, .int x1), (1, .int x2), (2, .int x3)] [.int 0] i a q r (by rfl) ?_
      exact ft_ret mi_k120 (by rfl) (hP 0 (Or.inr ⟨rfl, (oz1 c3)⟩))
    ·
      have c4 : x1.toInt ≤ x3.toInt := kd_ltF c; clear c
      refine ft_go mi_k120 2 15 [(0, .int x1), (1, .int x2), (2, .int x3)] [.int 1] i a q r (by rfl) ?_
      exact ft_ret mi_k120 (by rfl) (hP 1 (Or.inl ⟨rfl, (oz2 c2 c4)⟩))
set_option maxRecDepth 100000 in
theorem kc126 {i : Nat → Int32} {a : Nat → List Int32} {q : Nat → List Int64} {r : Nat → Nat} (hI : kI i a q) (hr : kr r) (x1 : Int32) (x2 : Int32) : km 3 126 [.int x1, .int x2] (ks i a q r) (kPI (ks i a q r) (fun v => (v = 1 ∧ (((0 : Int) ≤ x1.toInt) ∧ (x1.toInt ≤ 6))) ∨ (v = 0 ∧ (True)))) := by
  have hG := kG_self kW0 hI hr
  refine km_ofPI (q := (mi_h126, mi_c126)) rfl (by decide) (Nat.le_of_ble_eq_true rfl) ?_
  intro P hP
  refine ft_go mi_k126 3 4 [(0, .int x1), (1, .int x2)] [.int 6, .int 0, .int x1] i a q r (by rfl) ?_
  refine ko_callPI mi_k126.1 (pc := 4) (ls := [(0, .int x1), (1, .int x2)]) (st := [.int 6, .int 0, .int x1]) (h := ks i a q r) (i := (.invokestatic 74, 3, 120, 0, 9, 0, 152)) (mi_k126.2 _ _ (by rfl)) (ft_invS mi_pq120 (by rfl)) (cy := mi_c120) mi_pq120 rfl (kc120 hG.I hG.R x1 0 6) (by decide) ?_
  intro vg1 hg1
  rcases hg1 with ⟨eg1, hg1⟩ | ⟨eg1, hg1⟩
  ·
    subst eg1
    have z2 : ((0 : Int32).toInt ≤ x1.toInt) ∧ (x1.toInt ≤ (6 : Int32).toInt) := hg1
    refine ft_go mi_k126 4 15 [(0, .int x1), (1, .int x2)] [.int x1, .ref (mi_RO + 1), .int x2] i a q r (by rfl) ?_
    refine ko_iaro2 mi_k126.1 (l := [0, 0, 0, 0, 1, 0, 0]) (n := 7) (c := 7) (ax := (0, 0, 0, 0, 0)) (mi_k126.2 _ _ (by rfl)) (by rfl) (by rfl) rfl rfl (oz389 z2.1 kn0) (oz934 z2.2 kn6) ?_
    have r3 : ((0 : Int) ≤ (([0, 0, 0, 0, 1, 0, 0] : List Int32).getD x1.toNatClampNeg 0).toInt) ∧ ((([0, 0, 0, 0, 1, 0, 0] : List Int32).getD x1.toNatClampNeg 0).toInt ≤ 1) := kro_rng (lo := 0) (hi := 1) (by decide) (x1.toNatClampNeg)
    refine ft_go mi_k126 2 20 [(0, .int x1), (1, .int x2)] [.int x1, .ref (mi_RO + 2), .int (([0, 0, 0, 0, 1, 0, 0] : List Int32).getD x1.toNatClampNeg 0), .int x2] i a q r (by rfl) ?_
    refine ko_iaro2 mi_k126.1 (l := [999, 9, 9, 1, 5, 1, 99]) (n := 7) (c := 7) (ax := (0, 0, 0, 0, 0)) (mi_k126.2 _ _ (by rfl)) (by rfl) (by rfl) rfl rfl (oz389 z2.1 kn0) (oz934 z2.2 kn6) ?_
    have r4 : ((0 : Int) ≤ (([999, 9, 9, 1, 5, 1, 99] : List Int32).getD x1.toNatClampNeg 0).toInt) ∧ ((([999, 9, 9, 1, 5, 1, 99] : List Int32).getD x1.toNatClampNeg 0).toInt ≤ 999) := kro_rng (lo := 0) (hi := 999) (by decide) (x1.toNatClampNeg)
    refine ko_callPI mi_k126.1 (pc := 21) (ls := [(0, .int x1), (1, .int x2)]) (st := [.int (([999, 9, 9, 1, 5, 1, 99] : List Int32).getD x1.toNatClampNeg 0), .int (([0, 0, 0, 0, 1, 0, 0] : List Int32).getD x1.toNatClampNeg 0), .int x2]) (h := ks i a q r) (i := (.invokestatic 74, 3, 120, 0, 9, 0, 152)) (mi_k126.2 _ _ (by rfl)) (ft_invS mi_pq120 (by rfl)) (cy := mi_c120) mi_pq120 rfl (kc120 hG.I hG.R x2 (([0, 0, 0, 0, 1, 0, 0] : List Int32).getD x1.toNatClampNeg 0) (([999, 9, 9, 1, 5, 1, 99] : List Int32).getD x1.toNatClampNeg 0)) (by decide) ?_
    intro vg5 hg5
    rcases hg5 with ⟨eg5, hg5⟩ | ⟨eg5, hg5⟩
    ·
      subst eg5
      have z6 : ((([0, 0, 0, 0, 1, 0, 0] : List Int32).getD x1.toNatClampNeg 0).toInt ≤ x2.toInt) ∧ (x2.toInt ≤ (([999, 9, 9, 1, 5, 1, 99] : List Int32).getD x1.toNatClampNeg 0).toInt) := hg5
      refine ft_go mi_k126 3 32 [(0, .int x1), (1, .int x2)] [.int 1] i a q r (by rfl) ?_
      exact ft_ret mi_k126 (by rfl) (hP 1 (Or.inl ⟨rfl, (oz935 z2.1 z2.2 kn0 kn6)⟩))
    ·
      subst eg5
      have z7 : ¬ (((([0, 0, 0, 0, 1, 0, 0] : List Int32).getD x1.toNatClampNeg 0).toInt ≤ x2.toInt) ∧ (x2.toInt ≤ (([999, 9, 9, 1, 5, 1, 99] : List Int32).getD x1.toNatClampNeg 0).toInt)) := hg5
      refine ft_go mi_k126 2 32 [(0, .int x1), (1, .int x2)] [.int 0] i a q r (by rfl) ?_
      exact ft_ret mi_k126 (by rfl) (hP 0 (Or.inr ⟨rfl, trivial⟩))
  ·
    subst eg1
    have z8 : ¬ (((0 : Int32).toInt ≤ x1.toInt) ∧ (x1.toInt ≤ (6 : Int32).toInt)) := hg1
    refine ft_go mi_k126 2 32 [(0, .int x1), (1, .int x2)] [.int 0] i a q r (by rfl) ?_
    exact ft_ret mi_k126 (by rfl) (hP 0 (Or.inr ⟨rfl, trivial⟩))
def w25_1 : kW := ([64], [2, 3, 4, 5, 6], [], [])
set_option maxRecDepth 100000 in
theorem kc25_1 {i : Nat → Int32} {a : Nat → List Int32} {q : Nat → List Int64} {r : Nat → Nat} (hI : kI i a q) (hr : kr r) (x1 : Int32) (x2 : Int32) (x3 : Int32) : km 1 25 [.ref 1, .int x1, .int x2, .int x3] (ks i a q r) (kVI w25_1 i a q r (fun v i1 a1 q1 r1 => True)) := by
  have hG := kG_self w25_1 hI hr
  refine km_ofI (q := (mi_h25, mi_c25)) rfl (by decide) (Nat.le_of_ble_eq_true rfl) ?_
  intro P hP
  have fi_64 : ((0 : Int) ≤ (i 64).toInt) ∧ ((i 64).toInt ≤ 8) := hG.I.1 64
  refine ft_go mi_k25 3 6 [(0, .ref 1), (1, .int x1), (2, .int x2), (3, .int x3)] [.int 8, .int (i 64)] i a q r (by rfl) ?_
  refine ft_if mi_k25 (decide ((i 64) < 8)) 12 9 [(0, .ref 1), (1, .int x1), (2, .int x2), (3, .int x3)] [] (by rfl) (fun c => ?_) (fun c => ?_)
  ·
    have c1 : (i 64).toInt < (8 : Int32).toInt := kd_lt c; clear c
    refine ft_go mi_k25 5 21 [(0, .ref 1), (1, .int x1), (2, .int x2), (3, .int x3)] [.int x1, .int (i 64), .ref 2] i a q r (by rfl) ?_
    refine ko_iast3 mi_k25.1 (n := 8) (c := 8) (ax := (0, 0, 0, 0, 0)) (mi_k25.2 _ _ (by rfl)) (by rfl) (ksG2 _ _ _ _) (ksA2 _ _ _ _) (hG.I.2.1 2) rfl (oz3 fi_64.1) (oz936 c1 kn8) ?_
    intro a2 ea2 fa2
    have hJ2 := kG_a3 hG 2 rfl ea2 fa2 (kd_bd _)
    refine ft_go mi_k25 5 31 [(0, .ref 1), (1, .int x1), (2, .int x2), (3, .int x3)] [.int x2, .int (i 64), .ref 3] i a2 q r (by rfl) ?_
    refine ko_iast3 mi_k25.1 (n := 8) (c := 8) (ax := (0, 0, 0, 0, 0)) (mi_k25.2 _ _ (by rfl)) (by rfl) (ksG3 _ _ _ _) (ksA3 _ _ _ _) (hJ2.I.2.1 3) rfl (oz3 fi_64.1) (oz936 c1 kn8) ?_
    intro a3 ea3 fa3
    have hJ3 := kG_a3 hJ2 3 rfl ea3 fa3 (kd_bd _)
    refine ft_go mi_k25 5 41 [(0, .ref 1), (1, .int x1), (2, .int x2), (3, .int x3)] [.int x3, .int (i 64), .ref 4] i a3 q r (by rfl) ?_
    refine ko_iast3 mi_k25.1 (n := 8) (c := 8) (ax := (0, 0, 0, 0, 0)) (mi_k25.2 _ _ (by rfl)) (by rfl) (ksG4 _ _ _ _) (ksA4 _ _ _ _) (hJ3.I.2.1 4) rfl (oz3 fi_64.1) (oz936 c1 kn8) ?_
    intro a4 ea4 fa4
    have hJ4 := kG_a3 hJ3 4 rfl ea4 fa4 (kd_bd _)
    refine ft_go mi_k25 5 51 [(0, .ref 1), (1, .int x1), (2, .int x2), (3, .int x3)] [.int 0, .int (i 64), .ref 5] i a4 q r (by rfl) ?_
    refine ko_iast3 mi_k25.1 (n := 8) (c := 8) (ax := (0, 0, 0, 0, 0)) (mi_k25.2 _ _ (by rfl)) (by rfl) (ksG5 _ _ _ _) (ksA5 _ _ _ _) (hJ4.I.2.1 5) rfl (oz3 fi_64.1) (oz936 c1 kn8) ?_
    intro a5 ea5 fa5
    have hJ5 := kG_a3 hJ4 5 rfl ea5 fa5 (kd_bd _)
    refine ft_go mi_k25 5 61 [(0, .ref 1), (1, .int x1), (2, .int x2), (3, .int x3)] [.int 0, .int (i 64), .ref 6] i a5 q r (by rfl) ?_
    refine ko_iast3 mi_k25.1 (n := 8) (c := 8) (ax := (0, 0, 0, 0, 0)) (mi_k25.2 _ _ (by rfl)) (by rfl) (ksG6 _ _ _ _) (ksA6 _ _ _ _) (hJ5.I.2.1 6) rfl (oz3 fi_64.1) (oz936 c1 kn8) ?_
    intro a6 ea6 fa6
    have hJ6 := kG_a3 hJ5 6 rfl ea6 fa6 (kd_bd _)
    have s7 : ((i 64) + 1).toInt = (i 64).toInt + (1 : Int32).toInt := kd_add (oz12 fi_64.1 kn1) (oz13 fi_64.2 kn1)
    have hJ8 := kG_i hJ6 64 rfl (v := ((i 64) + 1)) ⟨(oz14 fi_64.1 s7 kn1), (oz937 c1 s7 kn8 kn1)⟩
    have s9 : (((i 64) + 1) - 1).toInt = ((i 64) + 1).toInt - (1 : Int32).toInt := kd_sub (oz915 fi_64.1 s7 kn1) (oz938 fi_64.2 s7 kn1)
    refine ft_go mi_k25 10 78 [(0, .ref 1), (1, .int x1), (2, .int x2), (3, .int x3)] [.int (((i 64) + 1) - 1)] (ku i 64 ((i 64) + 1)) a6 q r (by rfl) ?_
    exact ft_ret mi_k25 (by rfl) (hP (((i 64) + 1) - 1) _ _ _ _ hJ8 trivial)
  ·
    have c10 : (8 : Int32).toInt ≤ (i 64).toInt := kd_ltF c; clear c
    refine ft_go mi_k25 1 11 [(0, .ref 1), (1, .int x1), (2, .int x2), (3, .int x3)] [.int (-3)] i a q r (by rfl) ?_
    exact ft_ret mi_k25 (by rfl) (hP (-3) _ _ _ _ hG trivial)
def w80_0 : kW := ([64], [2, 3, 4, 5, 6], [], [])
set_option maxRecDepth 100000 in
theorem kc80_0 {i : Nat → Int32} {a : Nat → List Int32} {q : Nat → List Int64} {r : Nat → Nat} (hI : kI i a q) (hr : kr r) (x1 : Int32) (x2 : Int32) : km 5 80 [.ref 0, .int x1, .int x2] (ks i a q r) (kVI w80_0 i a q r (fun v i1 a1 q1 r1 => True)) := by
  have hG := kG_self w80_0 hI hr
  refine km_ofI (q := (mi_h80, mi_c80)) rfl (by decide) (Nat.le_of_ble_eq_true rfl) ?_
  intro P hP
  refine ft_go mi_k80 2 2 [(0, .ref 0), (1, .int x1), (2, .int x2)] [.int x1, .int 1] i a q r (by rfl) ?_
  refine ko_callPI mi_k80.1 (pc := 2) (ls := [(0, .ref 0), (1, .int x1), (2, .int x2)]) (st := [.int x1, .int 1]) (h := ks i a q r) (i := (.invokestatic 58, 3, 126, 0, 9, 0, 151)) (mi_k80.2 _ _ (by rfl)) (ft_invS mi_pq126 (by rfl)) (cy := mi_c126) mi_pq126 rfl (kc126 hG.I hG.R 1 x1) (by decide) ?_
  intro vg1 hg1
  rcases hg1 with ⟨eg1, hg1⟩ | ⟨eg1, hg1⟩
  ·
    subst eg1
    have z2 : ((0 : Int) ≤ (1 : Int32).toInt) ∧ ((1 : Int32).toInt ≤ 6) := hg1
    refine ft_go mi_k80 3 10 [(0, .ref 0), (1, .int x1), (2, .int x2)] [.int x2, .int 2] i a q r (by rfl) ?_
    refine ko_callPI mi_k80.1 (pc := 10) (ls := [(0, .ref 0), (1, .int x1), (2, .int x2)]) (st := [.int x2, .int 2]) (h := ks i a q r) (i := (.invokestatic 58, 3, 126, 0, 9, 0, 151)) (mi_k80.2 _ _ (by rfl)) (ft_invS mi_pq126 (by rfl)) (cy := mi_c126) mi_pq126 rfl (kc126 hG.I hG.R 2 x2) (by decide) ?_
    intro vg3 hg3
    rcases hg3 with ⟨eg3, hg3⟩ | ⟨eg3, hg3⟩
    ·
      subst eg3
      have z4 : ((0 : Int) ≤ (2 : Int32).toInt) ∧ ((2 : Int32).toInt ≤ 6) := hg3
      have fi_64 : ((0 : Int) ≤ (i 64).toInt) ∧ ((i 64).toInt ≤ 8) := hG.I.1 64
      refine ft_go mi_k80 5 27 [(0, .ref 0), (1, .int x1), (2, .int x2)] [.int 8, .int (i 64)] i a q r (by rfl) ?_
      refine ft_if mi_k80 (decide ((i 64) < 8)) 35 30 [(0, .ref 0), (1, .int x1), (2, .int x2)] [] (by rfl) (fun c => ?_) (fun c => ?_)
      ·
        have c5 : (i 64).toInt < (8 : Int32).toInt := kd_lt c; clear c
        refine ft_go mi_k80 5 43 [(0, .ref 0), (1, .int x1), (2, .int x2)] [.int x2, .int x1, .int 100, .ref 1] i a q r (by rfl) ?_
        refine ko_callI mi_k80.1 (pc := 43) (ls := [(0, .ref 0), (1, .int x1), (2, .int x2)]) (st := [.int x2, .int x1, .int 100, .ref 1]) (h := ks i a q r) (i := (.invokevirtual 66, 3, 25, 0, 9, 0, 155)) (mi_k80.2 _ _ (by rfl)) (ft_invS mi_pq25 (by rfl)) (cy := mi_c25) mi_pq25 rfl (kc25_1 hG.I hG.R 100 x1 x2) (by decide) ?_
        intro vg6 ig6 ag6 qg6 rg6 kg6 hg6
        have hGg6 := kG_call hG kg6 (by decide +kernel)
        exact ft_ret mi_k80 (by rfl) (hP vg6 _ _ _ _ hGg6 trivial)
      ·
        have c7 : (8 : Int32).toInt ≤ (i 64).toInt := kd_ltF c; clear c
        refine ft_go mi_k80 2 46 [(0, .ref 0), (1, .int x1), (2, .int x2)] [.int (-3)] i a q r (by rfl) ?_
        exact ft_ret mi_k80 (by rfl) (hP (-3) _ _ _ _ hG trivial)
    ·
      subst eg3
      refine ft_go mi_k80 2 17 [(0, .ref 0), (1, .int x1), (2, .int x2)] [.int (-1)] i a q r (by rfl) ?_
      exact ft_ret mi_k80 (by rfl) (hP (-1) _ _ _ _ hG trivial)
  ·
    subst eg1
    refine ft_go mi_k80 2 17 [(0, .ref 0), (1, .int x1), (2, .int x2)] [.int (-1)] i a q r (by rfl) ?_
    exact ft_ret mi_k80 (by rfl) (hP (-1) _ _ _ _ hG trivial)
set_option maxRecDepth 100000 in
theorem kc121 {i : Nat → Int32} {a : Nat → List Int32} {q : Nat → List Int64} {r : Nat → Nat} (hI : kI i a q) (hr : kr r) (x1 : Int32) : km 3 121 [.int x1] (ks i a q r) (kPI (ks i a q r) (fun v => (v = 1 ∧ (((0 : Int) ≤ x1.toInt) ∧ (x1.toInt ≤ 5))) ∨ (v = 0 ∧ (¬ (((0 : Int) ≤ x1.toInt) ∧ (x1.toInt ≤ 5)))))) := by
  have hG := kG_self kW0 hI hr
  refine km_ofPI (q := (mi_h121, mi_c121)) rfl (by decide) (Nat.le_of_ble_eq_true rfl) ?_
  intro P hP
  refine ft_go mi_k121 3 3 [(0, .int x1)] [.int 5, .int 0, .int x1] i a q r (by rfl) ?_
  refine ko_callPI mi_k121.1 (pc := 3) (ls := [(0, .int x1)]) (st := [.int 5, .int 0, .int x1]) (h := ks i a q r) (i := (.invokestatic 74, 3, 120, 0, 9, 0, 152)) (mi_k121.2 _ _ (by rfl)) (ft_invS mi_pq120 (by rfl)) (cy := mi_c120) mi_pq120 rfl (kc120 hG.I hG.R x1 0 5) (by decide) ?_
  intro vg1 hg1
  rcases hg1 with ⟨eg1, hg1⟩ | ⟨eg1, hg1⟩
  ·
    subst eg1
    have z2 : ((0 : Int32).toInt ≤ x1.toInt) ∧ (x1.toInt ≤ (5 : Int32).toInt) := hg1
    exact ft_ret mi_k121 (by rfl) (hP 1 (Or.inl ⟨rfl, (oz17 z2.1 z2.2 kn0 kn5)⟩))
  ·
    subst eg1
    have z3 : ¬ (((0 : Int32).toInt ≤ x1.toInt) ∧ (x1.toInt ≤ (5 : Int32).toInt)) := hg1
    exact ft_ret mi_k121 (by rfl) (hP 0 (Or.inr ⟨rfl, (oz18 z3 kn0 kn5)⟩))
set_option maxRecDepth 100000 in
theorem kc36_104 {i : Nat → Int32} {a : Nat → List Int32} {q : Nat → List Int64} {r : Nat → Nat} (hI : kI i a q) (hr : kr r) (x1 : Int32) : km 1 36 [.ref 104, .int x1] (ks i a q r) (kPI (ks i a q r) (fun v => (v = 1 ∧ (((i 6656).toInt = 2) ∧ ((i 6658).toInt = x1.toInt))) ∨ (v = 0 ∧ (¬ (((i 6656).toInt = 2) ∧ ((i 6658).toInt = x1.toInt)))))) := by
  have hG := kG_self kW0 hI hr
  refine km_ofPI (q := (mi_h36, mi_c36)) rfl (by decide) (Nat.le_of_ble_eq_true rfl) ?_
  intro P hP
  have fi_6656 : ((0 : Int) ≤ (i 6656).toInt) ∧ ((i 6656).toInt ≤ 2) := hG.I.1 6656
  refine ft_go mi_k36 3 5 [(0, .ref 104), (1, .int x1)] [.int 2, .int (i 6656)] i a q r (by rfl) ?_
  refine ft_if mi_k36 ((i 6656) != 2) 20 8 [(0, .ref 104), (1, .int x1)] [] (by rfl) (fun c => ?_) (fun c => ?_)
  ·
    have c1 : (i 6656).toInt ≠ (2 : Int32).toInt := kd_ne c; clear c
    refine ft_go mi_k36 1 21 [(0, .ref 104), (1, .int x1)] [.int 0] i a q r (by rfl) ?_
    have fi_6658 : ((0 : Int) ≤ (i 6658).toInt) ∧ ((i 6658).toInt ≤ 4) := hG.I.1 6658
    exact ft_ret mi_k36 (by rfl) (hP 0 (Or.inr ⟨rfl, (oz940 c1 fi_6656.2 kn2)⟩))
  ·
    have c2 : (i 6656).toInt = (2 : Int32).toInt := kd_neF c; clear c
    have fi_6658 : ((0 : Int) ≤ (i 6658).toInt) ∧ ((i 6658).toInt ≤ 4) := hG.I.1 6658
    refine ft_go mi_k36 3 13 [(0, .ref 104), (1, .int x1)] [.int x1, .int (i 6658)] i a q r (by rfl) ?_
    refine ft_if mi_k36 ((i 6658) != x1) 20 16 [(0, .ref 104), (1, .int x1)] [] (by rfl) (fun c => ?_) (fun c => ?_)
    ·
      have c3 : (i 6658).toInt ≠ x1.toInt := kd_ne c; clear c
      refine ft_go mi_k36 1 21 [(0, .ref 104), (1, .int x1)] [.int 0] i a q r (by rfl) ?_
      exact ft_ret mi_k36 (by rfl) (hP 0 (Or.inr ⟨rfl, (oz941 c3)⟩))
    ·
      have c4 : (i 6658).toInt = x1.toInt := kd_neF c; clear c
      refine ft_go mi_k36 2 21 [(0, .ref 104), (1, .int x1)] [.int 1] i a q r (by rfl) ?_
      exact ft_ret mi_k36 (by rfl) (hP 1 (Or.inl ⟨rfl, (oz942 c2 c4 fi_6656.2 kn2)⟩))
def w82_0_104 : kW := ([64], [2, 3, 4, 5, 6], [], [])
set_option maxRecDepth 100000 in
theorem kc82_0_104 {i : Nat → Int32} {a : Nat → List Int32} {q : Nat → List Int64} {r : Nat → Nat} (hI : kI i a q) (hr : kr r) (x2 : Int32) (hp0 : x2.toInt ≤ 1000) : km 5 82 [.ref 0, .ref 104, .int x2] (ks i a q r) (kVI w82_0_104 i a q r (fun v i1 a1 q1 r1 => (v = 1 ∧ (True)) ∨ (v = 0 ∧ (True)))) := by
  have hG := kG_self w82_0_104 hI hr
  refine km_ofI (q := (mi_h82, mi_c82)) rfl (by decide) (Nat.le_of_ble_eq_true rfl) ?_
  intro P hP
  have fi_64 : ((0 : Int) ≤ (i 64).toInt) ∧ ((i 64).toInt ≤ 8) := hG.I.1 64
  refine ft_go mi_k82 4 9 [(0, .ref 0), (1, .ref 104), (2, .int x2)] [.int 8, .int (i 64)] i a q r (by rfl) ?_
  refine ft_if mi_k82 (decide (8 ≤ (i 64))) 26 12 [(0, .ref 0), (1, .ref 104), (2, .int x2)] [] (by rfl) (fun c => ?_) (fun c => ?_)
  ·
    have c1 : (8 : Int32).toInt ≤ (i 64).toInt := kd_le c; clear c
    refine ft_go mi_k82 1 27 [(0, .ref 0), (1, .ref 104), (2, .int x2)] [.int 0] i a q r (by rfl) ?_
    exact ft_ret mi_k82 (by rfl) (hP 0 _ _ _ _ hG (Or.inr ⟨rfl, trivial⟩))
  ·
    have c2 : (i 64).toInt < (8 : Int32).toInt := kd_leF c; clear c
    refine ft_go mi_k82 1 13 [(0, .ref 0), (1, .ref 104), (2, .int x2)] [.int x2] i a q r (by rfl) ?_
    refine ft_if mi_k82 (decide (x2 < 0)) 26 16 [(0, .ref 0), (1, .ref 104), (2, .int x2)] [] (by rfl) (fun c => ?_) (fun c => ?_)
    ·
      have c3 : x2.toInt < (0 : Int32).toInt := kd_lt c; clear c
      refine ft_go mi_k82 1 27 [(0, .ref 0), (1, .ref 104), (2, .int x2)] [.int 0] i a q r (by rfl) ?_
      exact ft_ret mi_k82 (by rfl) (hP 0 _ _ _ _ hG (Or.inr ⟨rfl, trivial⟩))
    ·
      have c4 : (0 : Int32).toInt ≤ x2.toInt := kd_ltF c; clear c
      have s5 : (x2 + 2).toInt = x2.toInt + (2 : Int32).toInt := kd_add (oz947 c4 kn0 kn2) (oz948 hp0 kn2)
      have fi_6659 : ((0 : Int) ≤ (i 6659).toInt) ∧ ((i 6659).toInt ≤ 60) := hG.I.1 6659
      refine ft_go mi_k82 5 23 [(0, .ref 0), (1, .ref 104), (2, .int x2)] [.int (i 6659), .int (x2 + 2)] i a q r (by rfl) ?_
      refine ft_if mi_k82 (decide ((x2 + 2) < (i 6659))) 28 26 [(0, .ref 0), (1, .ref 104), (2, .int x2)] [] (by rfl) (fun c => ?_) (fun c => ?_)
      ·
        have c6 : (x2 + 2).toInt < (i 6659).toInt := kd_lt c; clear c
        refine ft_go mi_k82 3 33 [(0, .ref 0), (1, .ref 104), (2, .int x2)] [.int x2, .ref 105] i a q r (by rfl) ?_
        refine ko_lald2 mi_k82.1 (l := q 105) (n := 60) (c := 60) (ax := (0, 0, 0, 0, 0)) (mi_k82.2 _ _ (by rfl)) (by rfl) (by rfl) (hG.I.2.2.2 105) rfl (oz389 c4 kn0) (oz949 c6 fi_6659.2 s5 kn2) ?_
        have s7 : (x2 + 1).toInt = x2.toInt + (1 : Int32).toInt := kd_add (oz950 c4 kn0 kn1) (oz951 hp0 kn1)
        refine ft_go mi_k82 7 43 [(3, .int (((q 105).getD x2.toNatClampNeg 0).toInt32)), (0, .ref 0), (1, .ref 104), (2, .int x2)] [.int (x2 + 1), .ref 105] i a q r (by rfl) ?_
        refine ko_lald2 mi_k82.1 (l := q 105) (n := 60) (c := 60) (ax := (0, 0, 0, 0, 0)) (mi_k82.2 _ _ (by rfl)) (by rfl) (by rfl) (hG.I.2.2.2 105) rfl (oz952 c4 s7 kn0 kn1) (oz953 c6 fi_6659.2 s5 s7 kn2 kn1) ?_
        refine ft_go mi_k82 7 54 [(4, .int (((q 105).getD (x2 + 1).toNatClampNeg 0).toInt32)), (3, .int (((q 105).getD x2.toNatClampNeg 0).toInt32)), (0, .ref 0), (1, .ref 104), (2, .int x2)] [.int (x2 + 2), .ref 105] i a q r (by rfl) ?_
        refine ko_lald2 mi_k82.1 (l := q 105) (n := 60) (c := 60) (ax := (0, 0, 0, 0, 0)) (mi_k82.2 _ _ (by rfl)) (by rfl) (by rfl) (hG.I.2.2.2 105) rfl (oz954 c4 s5 kn0 kn2) (oz266 c6 fi_6659.2) ?_
        refine ft_go mi_k82 4 60 [(5, .int (((q 105).getD (x2 + 2).toNatClampNeg 0).toInt32)), (4, .int (((q 105).getD (x2 + 1).toNatClampNeg 0).toInt32)), (3, .int (((q 105).getD x2.toNatClampNeg 0).toInt32)), (0, .ref 0), (1, .ref 104), (2, .int x2)] [.int (((q 105).getD x2.toNatClampNeg 0).toInt32), .int 0] i a q r (by rfl) ?_
        refine ko_callPI mi_k82.1 (pc := 60) (ls := [(5, .int (((q 105).getD (x2 + 2).toNatClampNeg 0).toInt32)), (4, .int (((q 105).getD (x2 + 1).toNatClampNeg 0).toInt32)), (3, .int (((q 105).getD x2.toNatClampNeg 0).toInt32)), (0, .ref 0), (1, .ref 104), (2, .int x2)]) (st := [.int (((q 105).getD x2.toNatClampNeg 0).toInt32), .int 0]) (h := ks i a q r) (i := (.invokestatic 58, 3, 126, 0, 9, 0, 151)) (mi_k82.2 _ _ (by rfl)) (ft_invS mi_pq126 (by rfl)) (cy := mi_c126) mi_pq126 rfl (kc126 hG.I hG.R 0 (((q 105).getD x2.toNatClampNeg 0).toInt32)) (by decide) ?_
        intro vg8 hg8
        rcases hg8 with ⟨eg8, hg8⟩ | ⟨eg8, hg8⟩
        ·
          subst eg8
          have z9 : ((0 : Int) ≤ (0 : Int32).toInt) ∧ ((0 : Int32).toInt ≤ 6) := hg8
          refine ft_go mi_k82 3 69 [(5, .int (((q 105).getD (x2 + 2).toNatClampNeg 0).toInt32)), (4, .int (((q 105).getD (x2 + 1).toNatClampNeg 0).toInt32)), (3, .int (((q 105).getD x2.toNatClampNeg 0).toInt32)), (0, .ref 0), (1, .ref 104), (2, .int x2)] [.int (((q 105).getD (x2 + 1).toNatClampNeg 0).toInt32), .int 1] i a q r (by rfl) ?_
          refine ko_callPI mi_k82.1 (pc := 69) (ls := [(5, .int (((q 105).getD (x2 + 2).toNatClampNeg 0).toInt32)), (4, .int (((q 105).getD (x2 + 1).toNatClampNeg 0).toInt32)), (3, .int (((q 105).getD x2.toNatClampNeg 0).toInt32)), (0, .ref 0), (1, .ref 104), (2, .int x2)]) (st := [.int (((q 105).getD (x2 + 1).toNatClampNeg 0).toInt32), .int 1]) (h := ks i a q r) (i := (.invokestatic 58, 3, 126, 0, 9, 0, 151)) (mi_k82.2 _ _ (by rfl)) (ft_invS mi_pq126 (by rfl)) (cy := mi_c126) mi_pq126 rfl (kc126 hG.I hG.R 1 (((q 105).getD (x2 + 1).toNatClampNeg 0).toInt32)) (by decide) ?_
          intro vg10 hg10
          rcases hg10 with ⟨eg10, hg10⟩ | ⟨eg10, hg10⟩
          ·
            subst eg10
            have z11 : ((0 : Int) ≤ (1 : Int32).toInt) ∧ ((1 : Int32).toInt ≤ 6) := hg10
            refine ft_go mi_k82 3 78 [(5, .int (((q 105).getD (x2 + 2).toNatClampNeg 0).toInt32)), (4, .int (((q 105).getD (x2 + 1).toNatClampNeg 0).toInt32)), (3, .int (((q 105).getD x2.toNatClampNeg 0).toInt32)), (0, .ref 0), (1, .ref 104), (2, .int x2)] [.int (((q 105).getD (x2 + 2).toNatClampNeg 0).toInt32), .int 2] i a q r (by rfl) ?_
            refine ko_callPI mi_k82.1 (pc := 78) (ls := [(5, .int (((q 105).getD (x2 + 2).toNatClampNeg 0).toInt32)), (4, .int (((q 105).getD (x2 + 1).toNatClampNeg 0).toInt32)), (3, .int (((q 105).getD x2.toNatClampNeg 0).toInt32)), (0, .ref 0), (1, .ref 104), (2, .int x2)]) (st := [.int (((q 105).getD (x2 + 2).toNatClampNeg 0).toInt32), .int 2]) (h := ks i a q r) (i := (.invokestatic 58, 3, 126, 0, 9, 0, 151)) (mi_k82.2 _ _ (by rfl)) (ft_invS mi_pq126 (by rfl)) (cy := mi_c126) mi_pq126 rfl (kc126 hG.I hG.R 2 (((q 105).getD (x2 + 2).toNatClampNeg 0).toInt32)) (by decide) ?_
            intro vg12 hg12
            rcases hg12 with ⟨eg12, hg12⟩ | ⟨eg12, hg12⟩
            ·
              subst eg12
              have z13 : ((0 : Int) ≤ (2 : Int32).toInt) ∧ ((2 : Int32).toInt ≤ 6) := hg12
              refine ft_go mi_k82 6 95 [(5, .int (((q 105).getD (x2 + 2).toNatClampNeg 0).toInt32)), (4, .int (((q 105).getD (x2 + 1).toNatClampNeg 0).toInt32)), (3, .int (((q 105).getD x2.toNatClampNeg 0).toInt32)), (0, .ref 0), (1, .ref 104), (2, .int x2)] [.int (((q 105).getD (x2 + 2).toNatClampNeg 0).toInt32), .int (((q 105).getD (x2 + 1).toNatClampNeg 0).toInt32), .int (((q 105).getD x2.toNatClampNeg 0).toInt32), .ref 1] i a q r (by rfl) ?_
              refine ko_callI mi_k82.1 (pc := 95) (ls := [(5, .int (((q 105).getD (x2 + 2).toNatClampNeg 0).toInt32)), (4, .int (((q 105).getD (x2 + 1).toNatClampNeg 0).toInt32)), (3, .int (((q 105).getD x2.toNatClampNeg 0).toInt32)), (0, .ref 0), (1, .ref 104), (2, .int x2)]) (st := [.int (((q 105).getD (x2 + 2).toNatClampNeg 0).toInt32), .int (((q 105).getD (x2 + 1).toNatClampNeg 0).toInt32), .int (((q 105).getD x2.toNatClampNeg 0).toInt32), .ref 1]) (h := ks i a q r) (i := (.invokevirtual 66, 3, 25, 0, 9, 0, 155)) (mi_k82.2 _ _ (by rfl)) (ft_invS mi_pq25 (by rfl)) (cy := mi_c25) mi_pq25 rfl (kc25_1 hG.I hG.R (((q 105).getD x2.toNatClampNeg 0).toInt32) (((q 105).getD (x2 + 1).toNatClampNeg 0).toInt32) (((q 105).getD (x2 + 2).toNatClampNeg 0).toInt32)) (by decide) ?_
              intro vg14 ig14 ag14 qg14 rg14 kg14 hg14
              have hGg14 := kG_call hG kg14 (by decide +kernel)
              refine ft_go mi_k82 2 100 [(5, .int (((q 105).getD (x2 + 2).toNatClampNeg 0).toInt32)), (4, .int (((q 105).getD (x2 + 1).toNatClampNeg 0).toInt32)), (3, .int (((q 105).getD x2.toNatClampNeg 0).toInt32)), (0, .ref 0), (1, .ref 104), (2, .int x2)] [.int 1] ig14 ag14 qg14 rg14 (by rfl) ?_
              exact ft_ret mi_k82 (by rfl) (hP 1 _ _ _ _ hGg14 (Or.inl ⟨rfl, trivial⟩))
            ·
              subst eg12
              refine ft_go mi_k82 2 85 [(5, .int (((q 105).getD (x2 + 2).toNatClampNeg 0).toInt32)), (4, .int (((q 105).getD (x2 + 1).toNatClampNeg 0).toInt32)), (3, .int (((q 105).getD x2.toNatClampNeg 0).toInt32)), (0, .ref 0), (1, .ref 104), (2, .int x2)] [.int 0] i a q r (by rfl) ?_
              exact ft_ret mi_k82 (by rfl) (hP 0 _ _ _ _ hG (Or.inr ⟨rfl, trivial⟩))
          ·
            subst eg10
            refine ft_go mi_k82 2 85 [(5, .int (((q 105).getD (x2 + 2).toNatClampNeg 0).toInt32)), (4, .int (((q 105).getD (x2 + 1).toNatClampNeg 0).toInt32)), (3, .int (((q 105).getD x2.toNatClampNeg 0).toInt32)), (0, .ref 0), (1, .ref 104), (2, .int x2)] [.int 0] i a q r (by rfl) ?_
            exact ft_ret mi_k82 (by rfl) (hP 0 _ _ _ _ hG (Or.inr ⟨rfl, trivial⟩))
        ·
          subst eg8
          refine ft_go mi_k82 2 85 [(5, .int (((q 105).getD (x2 + 2).toNatClampNeg 0).toInt32)), (4, .int (((q 105).getD (x2 + 1).toNatClampNeg 0).toInt32)), (3, .int (((q 105).getD x2.toNatClampNeg 0).toInt32)), (0, .ref 0), (1, .ref 104), (2, .int x2)] [.int 0] i a q r (by rfl) ?_
          exact ft_ret mi_k82 (by rfl) (hP 0 _ _ _ _ hG (Or.inr ⟨rfl, trivial⟩))
      ·
        have c15 : (i 6659).toInt ≤ (x2 + 2).toInt := kd_ltF c; clear c
        refine ft_go mi_k82 1 27 [(0, .ref 0), (1, .ref 104), (2, .int x2)] [.int 0] i a q r (by rfl) ?_
        exact ft_ret mi_k82 (by rfl) (hP 0 _ _ _ _ hG (Or.inr ⟨rfl, trivial⟩))
set_option maxRecDepth 100000 in
theorem kc36_106 {i : Nat → Int32} {a : Nat → List Int32} {q : Nat → List Int64} {r : Nat → Nat} (hI : kI i a q) (hr : kr r) (x1 : Int32) : km 1 36 [.ref 106, .int x1] (ks i a q r) (kPI (ks i a q r) (fun v => (v = 1 ∧ (((i 6784).toInt = 2) ∧ ((i 6786).toInt = x1.toInt))) ∨ (v = 0 ∧ (¬ (((i 6784).toInt = 2) ∧ ((i 6786).toInt = x1.toInt)))))) := by
  have hG := kG_self kW0 hI hr
  refine km_ofPI (q := (mi_h36, mi_c36)) rfl (by decide) (Nat.le_of_ble_eq_true rfl) ?_
  intro P hP
  have fi_6784 : ((0 : Int) ≤ (i 6784).toInt) ∧ ((i 6784).toInt ≤ 2) := hG.I.1 6784
  refine ft_go mi_k36 3 5 [(0, .ref 106), (1, .int x1)] [.int 2, .int (i 6784)] i a q r (by rfl) ?_
  refine ft_if mi_k36 ((i 6784) != 2) 20 8 [(0, .ref 106), (1, .int x1)] [] (by rfl) (fun c => ?_) (fun c => ?_)
  ·
    have c1 : (i 6784).toInt ≠ (2 : Int32).toInt := kd_ne c; clear c
    refine ft_go mi_k36 1 21 [(0, .ref 106), (1, .int x1)] [.int 0] i a q r (by rfl) ?_
    have fi_6786 : ((0 : Int) ≤ (i 6786).toInt) ∧ ((i 6786).toInt ≤ 4) := hG.I.1 6786
    exact ft_ret mi_k36 (by rfl) (hP 0 (Or.inr ⟨rfl, (oz940 c1 fi_6784.2 kn2)⟩))
  ·
    have c2 : (i 6784).toInt = (2 : Int32).toInt := kd_neF c; clear c
    have fi_6786 : ((0 : Int) ≤ (i 6786).toInt) ∧ ((i 6786).toInt ≤ 4) := hG.I.1 6786
    refine ft_go mi_k36 3 13 [(0, .ref 106), (1, .int x1)] [.int x1, .int (i 6786)] i a q r (by rfl) ?_
    refine ft_if mi_k36 ((i 6786) != x1) 20 16 [(0, .ref 106), (1, .int x1)] [] (by rfl) (fun c => ?_) (fun c => ?_)
    ·
      have c3 : (i 6786).toInt ≠ x1.toInt := kd_ne c; clear c
      refine ft_go mi_k36 1 21 [(0, .ref 106), (1, .int x1)] [.int 0] i a q r (by rfl) ?_
      exact ft_ret mi_k36 (by rfl) (hP 0 (Or.inr ⟨rfl, (oz941 c3)⟩))
    ·
      have c4 : (i 6786).toInt = x1.toInt := kd_neF c; clear c
      refine ft_go mi_k36 2 21 [(0, .ref 106), (1, .int x1)] [.int 1] i a q r (by rfl) ?_
      exact ft_ret mi_k36 (by rfl) (hP 1 (Or.inl ⟨rfl, (oz942 c2 c4 fi_6784.2 kn2)⟩))
def w82_0_106 : kW := ([64], [2, 3, 4, 5, 6], [], [])
set_option maxRecDepth 100000 in
theorem kc82_0_106 {i : Nat → Int32} {a : Nat → List Int32} {q : Nat → List Int64} {r : Nat → Nat} (hI : kI i a q) (hr : kr r) (x2 : Int32) (hp0 : x2.toInt ≤ 1000) : km 5 82 [.ref 0, .ref 106, .int x2] (ks i a q r) (kVI w82_0_106 i a q r (fun v i1 a1 q1 r1 => (v = 1 ∧ (True)) ∨ (v = 0 ∧ (True)))) := by
  have hG := kG_self w82_0_106 hI hr
  refine km_ofI (q := (mi_h82, mi_c82)) rfl (by decide) (Nat.le_of_ble_eq_true rfl) ?_
  intro P hP
  have fi_64 : ((0 : Int) ≤ (i 64).toInt) ∧ ((i 64).toInt ≤ 8) := hG.I.1 64
  refine ft_go mi_k82 4 9 [(0, .ref 0), (1, .ref 106), (2, .int x2)] [.int 8, .int (i 64)] i a q r (by rfl) ?_
  refine ft_if mi_k82 (decide (8 ≤ (i 64))) 26 12 [(0, .ref 0), (1, .ref 106), (2, .int x2)] [] (by rfl) (fun c => ?_) (fun c => ?_)
  ·
    have c1 : (8 : Int32).toInt ≤ (i 64).toInt := kd_le c; clear c
    refine ft_go mi_k82 1 27 [(0, .ref 0), (1, .ref 106), (2, .int x2)] [.int 0] i a q r (by rfl) ?_
    exact ft_ret mi_k82 (by rfl) (hP 0 _ _ _ _ hG (Or.inr ⟨rfl, trivial⟩))
  ·
    have c2 : (i 64).toInt < (8 : Int32).toInt := kd_leF c; clear c
    refine ft_go mi_k82 1 13 [(0, .ref 0), (1, .ref 106), (2, .int x2)] [.int x2] i a q r (by rfl) ?_
    refine ft_if mi_k82 (decide (x2 < 0)) 26 16 [(0, .ref 0), (1, .ref 106), (2, .int x2)] [] (by rfl) (fun c => ?_) (fun c => ?_)
    ·
      have c3 : x2.toInt < (0 : Int32).toInt := kd_lt c; clear c
      refine ft_go mi_k82 1 27 [(0, .ref 0), (1, .ref 106), (2, .int x2)] [.int 0] i a q r (by rfl) ?_
      exact ft_ret mi_k82 (by rfl) (hP 0 _ _ _ _ hG (Or.inr ⟨rfl, trivial⟩))
    ·
      have c4 : (0 : Int32).toInt ≤ x2.toInt := kd_ltF c; clear c
      have s5 : (x2 + 2).toInt = x2.toInt + (2 : Int32).toInt := kd_add (oz947 c4 kn0 kn2) (oz948 hp0 kn2)
      have fi_6787 : ((0 : Int) ≤ (i 6787).toInt) ∧ ((i 6787).toInt ≤ 60) := hG.I.1 6787
      refine ft_go mi_k82 5 23 [(0, .ref 0), (1, .ref 106), (2, .int x2)] [.int (i 6787), .int (x2 + 2)] i a q r (by rfl) ?_
      refine ft_if mi_k82 (decide ((x2 + 2) < (i 6787))) 28 26 [(0, .ref 0), (1, .ref 106), (2, .int x2)] [] (by rfl) (fun c => ?_) (fun c => ?_)
      ·
        have c6 : (x2 + 2).toInt < (i 6787).toInt := kd_lt c; clear c
        refine ft_go mi_k82 3 33 [(0, .ref 0), (1, .ref 106), (2, .int x2)] [.int x2, .ref 107] i a q r (by rfl) ?_
        refine ko_lald2 mi_k82.1 (l := q 107) (n := 60) (c := 60) (ax := (0, 0, 0, 0, 0)) (mi_k82.2 _ _ (by rfl)) (by rfl) (by rfl) (hG.I.2.2.2 107) rfl (oz389 c4 kn0) (oz949 c6 fi_6787.2 s5 kn2) ?_
        have s7 : (x2 + 1).toInt = x2.toInt + (1 : Int32).toInt := kd_add (oz950 c4 kn0 kn1) (oz951 hp0 kn1)
        refine ft_go mi_k82 7 43 [(3, .int (((q 107).getD x2.toNatClampNeg 0).toInt32)), (0, .ref 0), (1, .ref 106), (2, .int x2)] [.int (x2 + 1), .ref 107] i a q r (by rfl) ?_
        refine ko_lald2 mi_k82.1 (l := q 107) (n := 60) (c := 60) (ax := (0, 0, 0, 0, 0)) (mi_k82.2 _ _ (by rfl)) (by rfl) (by rfl) (hG.I.2.2.2 107) rfl (oz952 c4 s7 kn0 kn1) (oz953 c6 fi_6787.2 s5 s7 kn2 kn1) ?_
        refine ft_go mi_k82 7 54 [(4, .int (((q 107).getD (x2 + 1).toNatClampNeg 0).toInt32)), (3, .int (((q 107).getD x2.toNatClampNeg 0).toInt32)), (0, .ref 0), (1, .ref 106), (2, .int x2)] [.int (x2 + 2), .ref 107] i a q r (by rfl) ?_
        refine ko_lald2 mi_k82.1 (l := q 107) (n := 60) (c := 60) (ax := (0, 0, 0, 0, 0)) (mi_k82.2 _ _ (by rfl)) (by rfl) (by rfl) (hG.I.2.2.2 107) rfl (oz954 c4 s5 kn0 kn2) (oz266 c6 fi_6787.2) ?_
        refine ft_go mi_k82 4 60 [(5, .int (((q 107).getD (x2 + 2).toNatClampNeg 0).toInt32)), (4, .int (((q 107).getD (x2 + 1).toNatClampNeg 0).toInt32)), (3, .int (((q 107).getD x2.toNatClampNeg 0).toInt32)), (0, .ref 0), (1, .ref 106), (2, .int x2)] [.int (((q 107).getD x2.toNatClampNeg 0).toInt32), .int 0] i a q r (by rfl) ?_
        refine ko_callPI mi_k82.1 (pc := 60) (ls := [(5, .int (((q 107).getD (x2 + 2).toNatClampNeg 0).toInt32)), (4, .int (((q 107).getD (x2 + 1).toNatClampNeg 0).toInt32)), (3, .int (((q 107).getD x2.toNatClampNeg 0).toInt32)), (0, .ref 0), (1, .ref 106), (2, .int x2)]) (st := [.int (((q 107).getD x2.toNatClampNeg 0).toInt32), .int 0]) (h := ks i a q r) (i := (.invokestatic 58, 3, 126, 0, 9, 0, 151)) (mi_k82.2 _ _ (by rfl)) (ft_invS mi_pq126 (by rfl)) (cy := mi_c126) mi_pq126 rfl (kc126 hG.I hG.R 0 (((q 107).getD x2.toNatClampNeg 0).toInt32)) (by decide) ?_
        intro vg8 hg8
        rcases hg8 with ⟨eg8, hg8⟩ | ⟨eg8, hg8⟩
        ·
          subst eg8
          have z9 : ((0 : Int) ≤ (0 : Int32).toInt) ∧ ((0 : Int32).toInt ≤ 6) := hg8
          refine ft_go mi_k82 3 69 [(5, .int (((q 107).getD (x2 + 2).toNatClampNeg 0).toInt32)), (4, .int (((q 107).getD (x2 + 1).toNatClampNeg 0).toInt32)), (3, .int (((q 107).getD x2.toNatClampNeg 0).toInt32)), (0, .ref 0), (1, .ref 106), (2, .int x2)] [.int (((q 107).getD (x2 + 1).toNatClampNeg 0).toInt32), .int 1] i a q r (by rfl) ?_
          refine ko_callPI mi_k82.1 (pc := 69) (ls := [(5, .int (((q 107).getD (x2 + 2).toNatClampNeg 0).toInt32)), (4, .int (((q 107).getD (x2 + 1).toNatClampNeg 0).toInt32)), (3, .int (((q 107).getD x2.toNatClampNeg 0).toInt32)), (0, .ref 0), (1, .ref 106), (2, .int x2)]) (st := [.int (((q 107).getD (x2 + 1).toNatClampNeg 0).toInt32), .int 1]) (h := ks i a q r) (i := (.invokestatic 58, 3, 126, 0, 9, 0, 151)) (mi_k82.2 _ _ (by rfl)) (ft_invS mi_pq126 (by rfl)) (cy := mi_c126) mi_pq126 rfl (kc126 hG.I hG.R 1 (((q 107).getD (x2 + 1).toNatClampNeg 0).toInt32)) (by decide) ?_
          intro vg10 hg10
          rcases hg10 with ⟨eg10, hg10⟩ | ⟨eg10, hg10⟩
          ·
            subst eg10
            have z11 : ((0 : Int) ≤ (1 : Int32).toInt) ∧ ((1 : Int32).toInt ≤ 6) := hg10
            refine ft_go mi_k82 3 78 [(5, .int (((q 107).getD (x2 + 2).toNatClampNeg 0).toInt32)), (4, .int (((q 107).getD (x2 + 1).toNatClampNeg 0).toInt32)), (3, .int (((q 107).getD x2.toNatClampNeg 0).toInt32)), (0, .ref 0), (1, .ref 106), (2, .int x2)] [.int (((q 107).getD (x2 + 2).toNatClampNeg 0).toInt32), .int 2] i a q r (by rfl) ?_
            refine ko_callPI mi_k82.1 (pc := 78) (ls := [(5, .int (((q 107).getD (x2 + 2).toNatClampNeg 0).toInt32)), (4, .int (((q 107).getD (x2 + 1).toNatClampNeg 0).toInt32)), (3, .int (((q 107).getD x2.toNatClampNeg 0).toInt32)), (0, .ref 0), (1, .ref 106), (2, .int x2)]) (st := [.int (((q 107).getD (x2 + 2).toNatClampNeg 0).toInt32), .int 2]) (h := ks i a q r) (i := (.invokestatic 58, 3, 126, 0, 9, 0, 151)) (mi_k82.2 _ _ (by rfl)) (ft_invS mi_pq126 (by rfl)) (cy := mi_c126) mi_pq126 rfl (kc126 hG.I hG.R 2 (((q 107).getD (x2 + 2).toNatClampNeg 0).toInt32)) (by decide) ?_
            intro vg12 hg12
            rcases hg12 with ⟨eg12, hg12⟩ | ⟨eg12, hg12⟩
            ·
              subst eg12
              have z13 : ((0 : Int) ≤ (2 : Int32).toInt) ∧ ((2 : Int32).toInt ≤ 6) := hg12
              refine ft_go mi_k82 6 95 [(5, .int (((q 107).getD (x2 + 2).toNatClampNeg 0).toInt32)), (4, .int (((q 107).getD (x2 + 1).toNatClampNeg 0).toInt32)), (3, .int (((q 107).getD x2.toNatClampNeg 0).toInt32)), (0, .ref 0), (1, .ref 106), (2, .int x2)] [.int (((q 107).getD (x2 + 2).toNatClampNeg 0).toInt32), .int (((q 107).getD (x2 + 1).toNatClampNeg 0).toInt32), .int (((q 107).getD x2.toNatClampNeg 0).toInt32), .ref 1] i a q r (by rfl) ?_
              refine ko_callI mi_k82.1 (pc := 95) (ls := [(5, .int (((q 107).getD (x2 + 2).toNatClampNeg 0).toInt32)), (4, .int (((q 107).getD (x2 + 1).toNatClampNeg 0).toInt32)), (3, .int (((q 107).getD x2.toNatClampNeg 0).toInt32)), (0, .ref 0), (1, .ref 106), (2, .int x2)]) (st := [.int (((q 107).getD (x2 + 2).toNatClampNeg 0).toInt32), .int (((q 107).getD (x2 + 1).toNatClampNeg 0).toInt32), .int (((q 107).getD x2.toNatClampNeg 0).toInt32), .ref 1]) (h := ks i a q r) (i := (.invokevirtual 66, 3, 25, 0, 9, 0, 155)) (mi_k82.2 _ _ (by rfl)) (ft_invS mi_pq25 (by rfl)) (cy := mi_c25) mi_pq25 rfl (kc25_1 hG.I hG.R (((q 107).getD x2.toNatClampNeg 0).toInt32) (((q 107).getD (x2 + 1).toNatClampNeg 0).toInt32) (((q 107).getD (x2 + 2).toNatClampNeg 0).toInt32)) (by decide) ?_
              intro vg14 ig14 ag14 qg14 rg14 kg14 hg14
              have hGg14 := kG_call hG kg14 (by decide +kernel)
              refine ft_go mi_k82 2 100 [(5, .int (((q 107).getD (x2 + 2).toNatClampNeg 0).toInt32)), (4, .int (((q 107).getD (x2 + 1).toNatClampNeg 0).toInt32)), (3, .int (((q 107).getD x2.toNatClampNeg 0).toInt32)), (0, .ref 0), (1, .ref 106), (2, .int x2)] [.int 1] ig14 ag14 qg14 rg14 (by rfl) ?_
              exact ft_ret mi_k82 (by rfl) (hP 1 _ _ _ _ hGg14 (Or.inl ⟨rfl, trivial⟩))
            ·
              subst eg12
              refine ft_go mi_k82 2 85 [(5, .int (((q 107).getD (x2 + 2).toNatClampNeg 0).toInt32)), (4, .int (((q 107).getD (x2 + 1).toNatClampNeg 0).toInt32)), (3, .int (((q 107).getD x2.toNatClampNeg 0).toInt32)), (0, .ref 0), (1, .ref 106), (2, .int x2)] [.int 0] i a q r (by rfl) ?_
              exact ft_ret mi_k82 (by rfl) (hP 0 _ _ _ _ hG (Or.inr ⟨rfl, trivial⟩))
          ·
            subst eg10
            refine ft_go mi_k82 2 85 [(5, .int (((q 107).getD (x2 + 2).toNatClampNeg 0).toInt32)), (4, .int (((q 107).getD (x2 + 1).toNatClampNeg 0).toInt32)), (3, .int (((q 107).getD x2.toNatClampNeg 0).toInt32)), (0, .ref 0), (1, .ref 106), (2, .int x2)] [.int 0] i a q r (by rfl) ?_
            exact ft_ret mi_k82 (by rfl) (hP 0 _ _ _ _ hG (Or.inr ⟨rfl, trivial⟩))
        ·
          subst eg8
          refine ft_go mi_k82 2 85 [(5, .int (((q 107).getD (x2 + 2).toNatClampNeg 0).toInt32)), (4, .int (((q 107).getD (x2 + 1).toNatClampNeg 0).toInt32)), (3, .int (((q 107).getD x2.toNatClampNeg 0).toInt32)), (0, .ref 0), (1, .ref 106), (2, .int x2)] [.int 0] i a q r (by rfl) ?_
          exact ft_ret mi_k82 (by rfl) (hP 0 _ _ _ _ hG (Or.inr ⟨rfl, trivial⟩))
      ·
        have c15 : (i 6787).toInt ≤ (x2 + 2).toInt := kd_ltF c; clear c
        refine ft_go mi_k82 1 27 [(0, .ref 0), (1, .ref 106), (2, .int x2)] [.int 0] i a q r (by rfl) ?_
        exact ft_ret mi_k82 (by rfl) (hP 0 _ _ _ _ hG (Or.inr ⟨rfl, trivial⟩))
set_option maxRecDepth 100000 in
theorem kc36_108 {i : Nat → Int32} {a : Nat → List Int32} {q : Nat → List Int64} {r : Nat → Nat} (hI : kI i a q) (hr : kr r) (x1 : Int32) : km 1 36 [.ref 108, .int x1] (ks i a q r) (kPI (ks i a q r) (fun v => (v = 1 ∧ (((i 6912).toInt = 2) ∧ ((i 6914).toInt = x1.toInt))) ∨ (v = 0 ∧ (¬ (((i 6912).toInt = 2) ∧ ((i 6914).toInt = x1.toInt)))))) := by
  have hG := kG_self kW0 hI hr
  refine km_ofPI (q := (mi_h36, mi_c36)) rfl (by decide) (Nat.le_of_ble_eq_true rfl) ?_
  intro P hP
  have fi_6912 : ((0 : Int) ≤ (i 6912).toInt) ∧ ((i 6912).toInt ≤ 2) := hG.I.1 6912
  refine ft_go mi_k36 3 5 [(0, .ref 108), (1, .int x1)] [.int 2, .int (i 6912)] i a q r (by rfl) ?_
  refine ft_if mi_k36 ((i 6912) != 2) 20 8 [(0, .ref 108), (1, .int x1)] [] (by rfl) (fun c => ?_) (fun c => ?_)
  ·
    have c1 : (i 6912).toInt ≠ (2 : Int32).toInt := kd_ne c; clear c
    refine ft_go mi_k36 1 21 [(0, .ref 108), (1, .int x1)] [.int 0] i a q r (by rfl) ?_
    have fi_6914 : ((0 : Int) ≤ (i 6914).toInt) ∧ ((i 6914).toInt ≤ 4) := hG.I.1 6914
    exact ft_ret mi_k36 (by rfl) (hP 0 (Or.inr ⟨rfl, (oz940 c1 fi_6912.2 kn2)⟩))
  ·
    have c2 : (i 6912).toInt = (2 : Int32).toInt := kd_neF c; clear c
    have fi_6914 : ((0 : Int) ≤ (i 6914).toInt) ∧ ((i 6914).toInt ≤ 4) := hG.I.1 6914
    refine ft_go mi_k36 3 13 [(0, .ref 108), (1, .int x1)] [.int x1, .int (i 6914)] i a q r (by rfl) ?_
    refine ft_if mi_k36 ((i 6914) != x1) 20 16 [(0, .ref 108), (1, .int x1)] [] (by rfl) (fun c => ?_) (fun c => ?_)
    ·
      have c3 : (i 6914).toInt ≠ x1.toInt := kd_ne c; clear c
      refine ft_go mi_k36 1 21 [(0, .ref 108), (1, .int x1)] [.int 0] i a q r (by rfl) ?_
      exact ft_ret mi_k36 (by rfl) (hP 0 (Or.inr ⟨rfl, (oz941 c3)⟩))
    ·
      have c4 : (i 6914).toInt = x1.toInt := kd_neF c; clear c
      refine ft_go mi_k36 2 21 [(0, .ref 108), (1, .int x1)] [.int 1] i a q r (by rfl) ?_
      exact ft_ret mi_k36 (by rfl) (hP 1 (Or.inl ⟨rfl, (oz942 c2 c4 fi_6912.2 kn2)⟩))
def w82_0_108 : kW := ([64], [2, 3, 4, 5, 6], [], [])
set_option maxRecDepth 100000 in
theorem kc82_0_108 {i : Nat → Int32} {a : Nat → List Int32} {q : Nat → List Int64} {r : Nat → Nat} (hI : kI i a q) (hr : kr r) (x2 : Int32) (hp0 : x2.toInt ≤ 1000) : km 5 82 [.ref 0, .ref 108, .int x2] (ks i a q r) (kVI w82_0_108 i a q r (fun v i1 a1 q1 r1 => (v = 1 ∧ (True)) ∨ (v = 0 ∧ (True)))) := by
  have hG := kG_self w82_0_108 hI hr
  refine km_ofI (q := (mi_h82, mi_c82)) rfl (by decide) (Nat.le_of_ble_eq_true rfl) ?_
  intro P hP
  have fi_64 : ((0 : Int) ≤ (i 64).toInt) ∧ ((i 64).toInt ≤ 8) := hG.I.1 64
  refine ft_go mi_k82 4 9 [(0, .ref 0), (1, .ref 108), (2, .int x2)] [.int 8, .int (i 64)] i a q r (by rfl) ?_
  refine ft_if mi_k82 (decide (8 ≤ (i 64))) 26 12 [(0, .ref 0), (1, .ref 108), (2, .int x2)] [] (by rfl) (fun c => ?_) (fun c => ?_)
  ·
    have c1 : (8 : Int32).toInt ≤ (i 64).toInt := kd_le c; clear c
    refine ft_go mi_k82 1 27 [(0, .ref 0), (1, .ref 108), (2, .int x2)] [.int 0] i a q r (by rfl) ?_
    exact ft_ret mi_k82 (by rfl) (hP 0 _ _ _ _ hG (Or.inr ⟨rfl, trivial⟩))
  ·
    have c2 : (i 64).toInt < (8 : Int32).toInt := kd_leF c; clear c
    refine ft_go mi_k82 1 13 [(0, .ref 0), (1, .ref 108), (2, .int x2)] [.int x2] i a q r (by rfl) ?_
    refine ft_if mi_k82 (decide (x2 < 0)) 26 16 [(0, .ref 0), (1, .ref 108), (2, .int x2)] [] (by rfl) (fun c => ?_) (fun c => ?_)
    ·
      have c3 : x2.toInt < (0 : Int32).toInt := kd_lt c; clear c
      refine ft_go mi_k82 1 27 [(0, .ref 0), (1, .ref 108), (2, .int x2)] [.int 0] i a q r (by rfl) ?_
      exact ft_ret mi_k82 (by rfl) (hP 0 _ _ _ _ hG (Or.inr ⟨rfl, trivial⟩))
    ·
      have c4 : (0 : Int32).toInt ≤ x2.toInt := kd_ltF c; clear c
      have s5 : (x2 + 2).toInt = x2.toInt + (2 : Int32).toInt := kd_add (oz947 c4 kn0 kn2) (oz948 hp0 kn2)
      have fi_6915 : ((0 : Int) ≤ (i 6915).toInt) ∧ ((i 6915).toInt ≤ 60) := hG.I.1 6915
      refine ft_go mi_k82 5 23 [(0, .ref 0), (1, .ref 108), (2, .int x2)] [.int (i 6915), .int (x2 + 2)] i a q r (by rfl) ?_
      refine ft_if mi_k82 (decide ((x2 + 2) < (i 6915))) 28 26 [(0, .ref 0), (1, .ref 108), (2, .int x2)] [] (by rfl) (fun c => ?_) (fun c => ?_)
      ·
        have c6 : (x2 + 2).toInt < (i 6915).toInt := kd_lt c; clear c
        refine ft_go mi_k82 3 33 [(0, .ref 0), (1, .ref 108), (2, .int x2)] [.int x2, .ref 109] i a q r (by rfl) ?_
        refine ko_lald2 mi_k82.1 (l := q 109) (n := 60) (c := 60) (ax := (0, 0, 0, 0, 0)) (mi_k82.2 _ _ (by rfl)) (by rfl) (by rfl) (hG.I.2.2.2 109) rfl (oz389 c4 kn0) (oz949 c6 fi_6915.2 s5 kn2) ?_
        have s7 : (x2 + 1).toInt = x2.toInt + (1 : Int32).toInt := kd_add (oz950 c4 kn0 kn1) (oz951 hp0 kn1)
        refine ft_go mi_k82 7 43 [(3, .int (((q 109).getD x2.toNatClampNeg 0).toInt32)), (0, .ref 0), (1, .ref 108), (2, .int x2)] [.int (x2 + 1), .ref 109] i a q r (by rfl) ?_
        refine ko_lald2 mi_k82.1 (l := q 109) (n := 60) (c := 60) (ax := (0, 0, 0, 0, 0)) (mi_k82.2 _ _ (by rfl)) (by rfl) (by rfl) (hG.I.2.2.2 109) rfl (oz952 c4 s7 kn0 kn1) (oz953 c6 fi_6915.2 s5 s7 kn2 kn1) ?_
        refine ft_go mi_k82 7 54 [(4, .int (((q 109).getD (x2 + 1).toNatClampNeg 0).toInt32)), (3, .int (((q 109).getD x2.toNatClampNeg 0).toInt32)), (0, .ref 0), (1, .ref 108), (2, .int x2)] [.int (x2 + 2), .ref 109] i a q r (by rfl) ?_
        refine ko_lald2 mi_k82.1 (l := q 109) (n := 60) (c := 60) (ax := (0, 0, 0, 0, 0)) (mi_k82.2 _ _ (by rfl)) (by rfl) (by rfl) (hG.I.2.2.2 109) rfl (oz954 c4 s5 kn0 kn2) (oz266 c6 fi_6915.2) ?_
        refine ft_go mi_k82 4 60 [(5, .int (((q 109).getD (x2 + 2).toNatClampNeg 0).toInt32)), (4, .int (((q 109).getD (x2 + 1).toNatClampNeg 0).toInt32)), (3, .int (((q 109).getD x2.toNatClampNeg 0).toInt32)), (0, .ref 0), (1, .ref 108), (2, .int x2)] [.int (((q 109).getD x2.toNatClampNeg 0).toInt32), .int 0] i a q r (by rfl) ?_
        refine ko_callPI mi_k82.1 (pc := 60) (ls := [(5, .int (((q 109).getD (x2 + 2).toNatClampNeg 0).toInt32)), (4, .int (((q 109).getD (x2 + 1).toNatClampNeg 0).toInt32)), (3, .int (((q 109).getD x2.toNatClampNeg 0).toInt32)), (0, .ref 0), (1, .ref 108), (2, .int x2)]) (st := [.int (((q 109).getD x2.toNatClampNeg 0).toInt32), .int 0]) (h := ks i a q r) (i := (.invokestatic 58, 3, 126, 0, 9, 0, 151)) (mi_k82.2 _ _ (by rfl)) (ft_invS mi_pq126 (by rfl)) (cy := mi_c126) mi_pq126 rfl (kc126 hG.I hG.R 0 (((q 109).getD x2.toNatClampNeg 0).toInt32)) (by decide) ?_
        intro vg8 hg8
        rcases hg8 with ⟨eg8, hg8⟩ | ⟨eg8, hg8⟩
        ·
          subst eg8
          have z9 : ((0 : Int) ≤ (0 : Int32).toInt) ∧ ((0 : Int32).toInt ≤ 6) := hg8
          refine ft_go mi_k82 3 69 [(5, .int (((q 109).getD (x2 + 2).toNatClampNeg 0).toInt32)), (4, .int (((q 109).getD (x2 + 1).toNatClampNeg 0).toInt32)), (3, .int (((q 109).getD x2.toNatClampNeg 0).toInt32)), (0, .ref 0), (1, .ref 108), (2, .int x2)] [.int (((q 109).getD (x2 + 1).toNatClampNeg 0).toInt32), .int 1] i a q r (by rfl) ?_
          refine ko_callPI mi_k82.1 (pc := 69) (ls := [(5, .int (((q 109).getD (x2 + 2).toNatClampNeg 0).toInt32)), (4, .int (((q 109).getD (x2 + 1).toNatClampNeg 0).toInt32)), (3, .int (((q 109).getD x2.toNatClampNeg 0).toInt32)), (0, .ref 0), (1, .ref 108), (2, .int x2)]) (st := [.int (((q 109).getD (x2 + 1).toNatClampNeg 0).toInt32), .int 1]) (h := ks i a q r) (i := (.invokestatic 58, 3, 126, 0, 9, 0, 151)) (mi_k82.2 _ _ (by rfl)) (ft_invS mi_pq126 (by rfl)) (cy := mi_c126) mi_pq126 rfl (kc126 hG.I hG.R 1 (((q 109).getD (x2 + 1).toNatClampNeg 0).toInt32)) (by decide) ?_
          intro vg10 hg10
          rcases hg10 with ⟨eg10, hg10⟩ | ⟨eg10, hg10⟩
          ·
            subst eg10
            have z11 : ((0 : Int) ≤ (1 : Int32).toInt) ∧ ((1 : Int32).toInt ≤ 6) := hg10
            refine ft_go mi_k82 3 78 [(5, .int (((q 109).getD (x2 + 2).toNatClampNeg 0).toInt32)), (4, .int (((q 109).getD (x2 + 1).toNatClampNeg 0).toInt32)), (3, .int (((q 109).getD x2.toNatClampNeg 0).toInt32)), (0, .ref 0), (1, .ref 108), (2, .int x2)] [.int (((q 109).getD (x2 + 2).toNatClampNeg 0).toInt32), .int 2] i a q r (by rfl) ?_
            refine ko_callPI mi_k82.1 (pc := 78) (ls := [(5, .int (((q 109).getD (x2 + 2).toNatClampNeg 0).toInt32)), (4, .int (((q 109).getD (x2 + 1).toNatClampNeg 0).toInt32)), (3, .int (((q 109).getD x2.toNatClampNeg 0).toInt32)), (0, .ref 0), (1, .ref 108), (2, .int x2)]) (st := [.int (((q 109).getD (x2 + 2).toNatClampNeg 0).toInt32), .int 2]) (h := ks i a q r) (i := (.invokestatic 58, 3, 126, 0, 9, 0, 151)) (mi_k82.2 _ _ (by rfl)) (ft_invS mi_pq126 (by rfl)) (cy := mi_c126) mi_pq126 rfl (kc126 hG.I hG.R 2 (((q 109).getD (x2 + 2).toNatClampNeg 0).toInt32)) (by decide) ?_
            intro vg12 hg12
            rcases hg12 with ⟨eg12, hg12⟩ | ⟨eg12, hg12⟩
            ·
              subst eg12
              have z13 : ((0 : Int) ≤ (2 : Int32).toInt) ∧ ((2 : Int32).toInt ≤ 6) := hg12
              refine ft_go mi_k82 6 95 [(5, .int (((q 109).getD (x2 + 2).toNatClampNeg 0).toInt32)), (4, .int (((q 109).getD (x2 + 1).toNatClampNeg 0).toInt32)), (3, .int (((q 109).getD x2.toNatClampNeg 0).toInt32)), (0, .ref 0), (1, .ref 108), (2, .int x2)] [.int (((q 109).getD (x2 + 2).toNatClampNeg 0).toInt32), .int (((q 109).getD (x2 + 1).toNatClampNeg 0).toInt32), .int (((q 109).getD x2.toNatClampNeg 0).toInt32), .ref 1] i a q r (by rfl) ?_
              refine ko_callI mi_k82.1 (pc := 95) (ls := [(5, .int (((q 109).getD (x2 + 2).toNatClampNeg 0).toInt32)), (4, .int (((q 109).getD (x2 + 1).toNatClampNeg 0).toInt32)), (3, .int (((q 109).getD x2.toNatClampNeg 0).toInt32)), (0, .ref 0), (1, .ref 108), (2, .int x2)]) (st := [.int (((q 109).getD (x2 + 2).toNatClampNeg 0).toInt32), .int (((q 109).getD (x2 + 1).toNatClampNeg 0).toInt32), .int (((q 109).getD x2.toNatClampNeg 0).toInt32), .ref 1]) (h := ks i a q r) (i := (.invokevirtual 66, 3, 25, 0, 9, 0, 155)) (mi_k82.2 _ _ (by rfl)) (ft_invS mi_pq25 (by rfl)) (cy := mi_c25) mi_pq25 rfl (kc25_1 hG.I hG.R (((q 109).getD x2.toNatClampNeg 0).toInt32) (((q 109).getD (x2 + 1).toNatClampNeg 0).toInt32) (((q 109).getD (x2 + 2).toNatClampNeg 0).toInt32)) (by decide) ?_
              intro vg14 ig14 ag14 qg14 rg14 kg14 hg14
              have hGg14 := kG_call hG kg14 (by decide +kernel)
              refine ft_go mi_k82 2 100 [(5, .int (((q 109).getD (x2 + 2).toNatClampNeg 0).toInt32)), (4, .int (((q 109).getD (x2 + 1).toNatClampNeg 0).toInt32)), (3, .int (((q 109).getD x2.toNatClampNeg 0).toInt32)), (0, .ref 0), (1, .ref 108), (2, .int x2)] [.int 1] ig14 ag14 qg14 rg14 (by rfl) ?_
              exact ft_ret mi_k82 (by rfl) (hP 1 _ _ _ _ hGg14 (Or.inl ⟨rfl, trivial⟩))
            ·
              subst eg12
              refine ft_go mi_k82 2 85 [(5, .int (((q 109).getD (x2 + 2).toNatClampNeg 0).toInt32)), (4, .int (((q 109).getD (x2 + 1).toNatClampNeg 0).toInt32)), (3, .int (((q 109).getD x2.toNatClampNeg 0).toInt32)), (0, .ref 0), (1, .ref 108), (2, .int x2)] [.int 0] i a q r (by rfl) ?_
              exact ft_ret mi_k82 (by rfl) (hP 0 _ _ _ _ hG (Or.inr ⟨rfl, trivial⟩))
          ·
            subst eg10
            refine ft_go mi_k82 2 85 [(5, .int (((q 109).getD (x2 + 2).toNatClampNeg 0).toInt32)), (4, .int (((q 109).getD (x2 + 1).toNatClampNeg 0).toInt32)), (3, .int (((q 109).getD x2.toNatClampNeg 0).toInt32)), (0, .ref 0), (1, .ref 108), (2, .int x2)] [.int 0] i a q r (by rfl) ?_
            exact ft_ret mi_k82 (by rfl) (hP 0 _ _ _ _ hG (Or.inr ⟨rfl, trivial⟩))
        ·
          subst eg8
          refine ft_go mi_k82 2 85 [(5, .int (((q 109).getD (x2 + 2).toNatClampNeg 0).toInt32)), (4, .int (((q 109).getD (x2 + 1).toNatClampNeg 0).toInt32)), (3, .int (((q 109).getD x2.toNatClampNeg 0).toInt32)), (0, .ref 0), (1, .ref 108), (2, .int x2)] [.int 0] i a q r (by rfl) ?_
          exact ft_ret mi_k82 (by rfl) (hP 0 _ _ _ _ hG (Or.inr ⟨rfl, trivial⟩))
      ·
        have c15 : (i 6915).toInt ≤ (x2 + 2).toInt := kd_ltF c; clear c
        refine ft_go mi_k82 1 27 [(0, .ref 0), (1, .ref 108), (2, .int x2)] [.int 0] i a q r (by rfl) ?_
        exact ft_ret mi_k82 (by rfl) (hP 0 _ _ _ _ hG (Or.inr ⟨rfl, trivial⟩))
set_option maxRecDepth 100000 in
theorem kc36_110 {i : Nat → Int32} {a : Nat → List Int32} {q : Nat → List Int64} {r : Nat → Nat} (hI : kI i a q) (hr : kr r) (x1 : Int32) : km 1 36 [.ref 110, .int x1] (ks i a q r) (kPI (ks i a q r) (fun v => (v = 1 ∧ (((i 7040).toInt = 2) ∧ ((i 7042).toInt = x1.toInt))) ∨ (v = 0 ∧ (¬ (((i 7040).toInt = 2) ∧ ((i 7042).toInt = x1.toInt)))))) := by
  have hG := kG_self kW0 hI hr
  refine km_ofPI (q := (mi_h36, mi_c36)) rfl (by decide) (Nat.le_of_ble_eq_true rfl) ?_
  intro P hP
  have fi_7040 : ((0 : Int) ≤ (i 7040).toInt) ∧ ((i 7040).toInt ≤ 2) := hG.I.1 7040
  refine ft_go mi_k36 3 5 [(0, .ref 110), (1, .int x1)] [.int 2, .int (i 7040)] i a q r (by rfl) ?_
  refine ft_if mi_k36 ((i 7040) != 2) 20 8 [(0, .ref 110), (1, .int x1)] [] (by rfl) (fun c => ?_) (fun c => ?_)
  ·
    have c1 : (i 7040).toInt ≠ (2 : Int32).toInt := kd_ne c; clear c
    refine ft_go mi_k36 1 21 [(0, .ref 110), (1, .int x1)] [.int 0] i a q r (by rfl) ?_
    have fi_7042 : ((0 : Int) ≤ (i 7042).toInt) ∧ ((i 7042).toInt ≤ 4) := hG.I.1 7042
    exact ft_ret mi_k36 (by rfl) (hP 0 (Or.inr ⟨rfl, (oz940 c1 fi_7040.2 kn2)⟩))
  ·
    have c2 : (i 7040).toInt = (2 : Int32).toInt := kd_neF c; clear c
    have fi_7042 : ((0 : Int) ≤ (i 7042).toInt) ∧ ((i 7042).toInt ≤ 4) := hG.I.1 7042
    refine ft_go mi_k36 3 13 [(0, .ref 110), (1, .int x1)] [.int x1, .int (i 7042)] i a q r (by rfl) ?_
    refine ft_if mi_k36 ((i 7042) != x1) 20 16 [(0, .ref 110), (1, .int x1)] [] (by rfl) (fun c => ?_) (fun c => ?_)
    ·
      have c3 : (i 7042).toInt ≠ x1.toInt := kd_ne c; clear c
      refine ft_go mi_k36 1 21 [(0, .ref 110), (1, .int x1)] [.int 0] i a q r (by rfl) ?_
      exact ft_ret mi_k36 (by rfl) (hP 0 (Or.inr ⟨rfl, (oz941 c3)⟩))
    ·
      have c4 : (i 7042).toInt = x1.toInt := kd_neF c; clear c
      refine ft_go mi_k36 2 21 [(0, .ref 110), (1, .int x1)] [.int 1] i a q r (by rfl) ?_
      exact ft_ret mi_k36 (by rfl) (hP 1 (Or.inl ⟨rfl, (oz942 c2 c4 fi_7040.2 kn2)⟩))
def w82_0_110 : kW := ([64], [2, 3, 4, 5, 6], [], [])
set_option maxRecDepth 100000 in
theorem kc82_0_110 {i : Nat → Int32} {a : Nat → List Int32} {q : Nat → List Int64} {r : Nat → Nat} (hI : kI i a q) (hr : kr r) (x2 : Int32) (hp0 : x2.toInt ≤ 1000) : km 5 82 [.ref 0, .ref 110, .int x2] (ks i a q r) (kVI w82_0_110 i a q r (fun v i1 a1 q1 r1 => (v = 1 ∧ (True)) ∨ (v = 0 ∧ (True)))) := by
  have hG := kG_self w82_0_110 hI hr
  refine km_ofI (q := (mi_h82, mi_c82)) rfl (by decide) (Nat.le_of_ble_eq_true rfl) ?_
  intro P hP
  have fi_64 : ((0 : Int) ≤ (i 64).toInt) ∧ ((i 64).toInt ≤ 8) := hG.I.1 64
  refine ft_go mi_k82 4 9 [(0, .ref 0), (1, .ref 110), (2, .int x2)] [.int 8, .int (i 64)] i a q r (by rfl) ?_
  refine ft_if mi_k82 (decide (8 ≤ (i 64))) 26 12 [(0, .ref 0), (1, .ref 110), (2, .int x2)] [] (by rfl) (fun c => ?_) (fun c => ?_)
  ·
    have c1 : (8 : Int32).toInt ≤ (i 64).toInt := kd_le c; clear c
    refine ft_go mi_k82 1 27 [(0, .ref 0), (1, .ref 110), (2, .int x2)] [.int 0] i a q r (by rfl) ?_
    exact ft_ret mi_k82 (by rfl) (hP 0 _ _ _ _ hG (Or.inr ⟨rfl, trivial⟩))
  ·
    have c2 : (i 64).toInt < (8 : Int32).toInt := kd_leF c; clear c
    refine ft_go mi_k82 1 13 [(0, .ref 0), (1, .ref 110), (2, .int x2)] [.int x2] i a q r (by rfl) ?_
    refine ft_if mi_k82 (decide (x2 < 0)) 26 16 [(0, .ref 0), (1, .ref 110), (2, .int x2)] [] (by rfl) (fun c => ?_) (fun c => ?_)
    ·
      have c3 : x2.toInt < (0 : Int32).toInt := kd_lt c; clear c
      refine ft_go mi_k82 1 27 [(0, .ref 0), (1, .ref 110), (2, .int x2)] [.int 0] i a q r (by rfl) ?_
      exact ft_ret mi_k82 (by rfl) (hP 0 _ _ _ _ hG (Or.inr ⟨rfl, trivial⟩))
    ·
      have c4 : (0 : Int32).toInt ≤ x2.toInt := kd_ltF c; clear c
      have s5 : (x2 + 2).toInt = x2.toInt + (2 : Int32).toInt := kd_add (oz947 c4 kn0 kn2) (oz948 hp0 kn2)
      have fi_7043 : ((0 : Int) ≤ (i 7043).toInt) ∧ ((i 7043).toInt ≤ 60) := hG.I.1 7043
      refine ft_go mi_k82 5 23 [(0, .ref 0), (1, .ref 110), (2, .int x2)] [.int (i 7043), .int (x2 + 2)] i a q r (by rfl) ?_
      refine ft_if mi_k82 (decide ((x2 + 2) < (i 7043))) 28 26 [(0, .ref 0), (1, .ref 110), (2, .int x2)] [] (by rfl) (fun c => ?_) (fun c => ?_)
      ·
        have c6 : (x2 + 2).toInt < (i 7043).toInt := kd_lt c; clear c
        refine ft_go mi_k82 3 33 [(0, .ref 0), (1, .ref 110), (2, .int x2)] [.int x2, .ref 111] i a q r (by rfl) ?_
        refine ko_lald2 mi_k82.1 (l := q 111) (n := 60) (c := 60) (ax := (0, 0, 0, 0, 0)) (mi_k82.2 _ _ (by rfl)) (by rfl) (by rfl) (hG.I.2.2.2 111) rfl (oz389 c4 kn0) (oz949 c6 fi_7043.2 s5 kn2) ?_
        have s7 : (x2 + 1).toInt = x2.toInt + (1 : Int32).toInt := kd_add (oz950 c4 kn0 kn1) (oz951 hp0 kn1)
        refine ft_go mi_k82 7 43 [(3, .int (((q 111).getD x2.toNatClampNeg 0).toInt32)), (0, .ref 0), (1, .ref 110), (2, .int x2)] [.int (x2 + 1), .ref 111] i a q r (by rfl) ?_
        refine ko_lald2 mi_k82.1 (l := q 111) (n := 60) (c := 60) (ax := (0, 0, 0, 0, 0)) (mi_k82.2 _ _ (by rfl)) (by rfl) (by rfl) (hG.I.2.2.2 111) rfl (oz952 c4 s7 kn0 kn1) (oz953 c6 fi_7043.2 s5 s7 kn2 kn1) ?_
        refine ft_go mi_k82 7 54 [(4, .int (((q 111).getD (x2 + 1).toNatClampNeg 0).toInt32)), (3, .int (((q 111).getD x2.toNatClampNeg 0).toInt32)), (0, .ref 0), (1, .ref 110), (2, .int x2)] [.int (x2 + 2), .ref 111] i a q r (by rfl) ?_
        refine ko_lald2 mi_k82.1 (l := q 111) (n := 60) (c := 60) (ax := (0, 0, 0, 0, 0)) (mi_k82.2 _ _ (by rfl)) (by rfl) (by rfl) (hG.I.2.2.2 111) rfl (oz954 c4 s5 kn0 kn2) (oz266 c6 fi_7043.2) ?_
        refine ft_go mi_k82 4 60 [(5, .int (((q 111).getD (x2 + 2).toNatClampNeg 0).toInt32)), (4, .int (((q 111).getD (x2 + 1).toNatClampNeg 0).toInt32)), (3, .int (((q 111).getD x2.toNatClampNeg 0).toInt32)), (0, .ref 0), (1, .ref 110), (2, .int x2)] [.int (((q 111).getD x2.toNatClampNeg 0).toInt32), .int 0] i a q r (by rfl) ?_
        refine ko_callPI mi_k82.1 (pc := 60) (ls := [(5, .int (((q 111).getD (x2 + 2).toNatClampNeg 0).toInt32)), (4, .int (((q 111).getD (x2 + 1).toNatClampNeg 0).toInt32)), (3, .int (((q 111).getD x2.toNatClampNeg 0).toInt32)), (0, .ref 0), (1, .ref 110), (2, .int x2)]) (st := [.int (((q 111).getD x2.toNatClampNeg 0).toInt32), .int 0]) (h := ks i a q r) (i := (.invokestatic 58, 3, 126, 0, 9, 0, 151)) (mi_k82.2 _ _ (by rfl)) (ft_invS mi_pq126 (by rfl)) (cy := mi_c126) mi_pq126 rfl (kc126 hG.I hG.R 0 (((q 111).getD x2.toNatClampNeg 0).toInt32)) (by decide) ?_
        intro vg8 hg8
        rcases hg8 with ⟨eg8, hg8⟩ | ⟨eg8, hg8⟩
        ·
          subst eg8
          have z9 : ((0 : Int) ≤ (0 : Int32).toInt) ∧ ((0 : Int32).toInt ≤ 6) := hg8
          refine ft_go mi_k82 3 69 [(5, .int (((q 111).getD (x2 + 2).toNatClampNeg 0).toInt32)), (4, .int (((q 111).getD (x2 + 1).toNatClampNeg 0).toInt32)), (3, .int (((q 111).getD x2.toNatClampNeg 0).toInt32)), (0, .ref 0), (1, .ref 110), (2, .int x2)] [.int (((q 111).getD (x2 + 1).toNatClampNeg 0).toInt32), .int 1] i a q r (by rfl) ?_
          refine ko_callPI mi_k82.1 (pc := 69) (ls := [(5, .int (((q 111).getD (x2 + 2).toNatClampNeg 0).toInt32)), (4, .int (((q 111).getD (x2 + 1).toNatClampNeg 0).toInt32)), (3, .int (((q 111).getD x2.toNatClampNeg 0).toInt32)), (0, .ref 0), (1, .ref 110), (2, .int x2)]) (st := [.int (((q 111).getD (x2 + 1).toNatClampNeg 0).toInt32), .int 1]) (h := ks i a q r) (i := (.invokestatic 58, 3, 126, 0, 9, 0, 151)) (mi_k82.2 _ _ (by rfl)) (ft_invS mi_pq126 (by rfl)) (cy := mi_c126) mi_pq126 rfl (kc126 hG.I hG.R 1 (((q 111).getD (x2 + 1).toNatClampNeg 0).toInt32)) (by decide) ?_
          intro vg10 hg10
          rcases hg10 with ⟨eg10, hg10⟩ | ⟨eg10, hg10⟩
          ·
            subst eg10
            have z11 : ((0 : Int) ≤ (1 : Int32).toInt) ∧ ((1 : Int32).toInt ≤ 6) := hg10
            refine ft_go mi_k82 3 78 [(5, .int (((q 111).getD (x2 + 2).toNatClampNeg 0).toInt32)), (4, .int (((q 111).getD (x2 + 1).toNatClampNeg 0).toInt32)), (3, .int (((q 111).getD x2.toNatClampNeg 0).toInt32)), (0, .ref 0), (1, .ref 110), (2, .int x2)] [.int (((q 111).getD (x2 + 2).toNatClampNeg 0).toInt32), .int 2] i a q r (by rfl) ?_
            refine ko_callPI mi_k82.1 (pc := 78) (ls := [(5, .int (((q 111).getD (x2 + 2).toNatClampNeg 0).toInt32)), (4, .int (((q 111).getD (x2 + 1).toNatClampNeg 0).toInt32)), (3, .int (((q 111).getD x2.toNatClampNeg 0).toInt32)), (0, .ref 0), (1, .ref 110), (2, .int x2)]) (st := [.int (((q 111).getD (x2 + 2).toNatClampNeg 0).toInt32), .int 2]) (h := ks i a q r) (i := (.invokestatic 58, 3, 126, 0, 9, 0, 151)) (mi_k82.2 _ _ (by rfl)) (ft_invS mi_pq126 (by rfl)) (cy := mi_c126) mi_pq126 rfl (kc126 hG.I hG.R 2 (((q 111).getD (x2 + 2).toNatClampNeg 0).toInt32)) (by decide) ?_
            intro vg12 hg12
            rcases hg12 with ⟨eg12, hg12⟩ | ⟨eg12, hg12⟩
            ·
              subst eg12
              have z13 : ((0 : Int) ≤ (2 : Int32).toInt) ∧ ((2 : Int32).toInt ≤ 6) := hg12
              refine ft_go mi_k82 6 95 [(5, .int (((q 111).getD (x2 + 2).toNatClampNeg 0).toInt32)), (4, .int (((q 111).getD (x2 + 1).toNatClampNeg 0).toInt32)), (3, .int (((q 111).getD x2.toNatClampNeg 0).toInt32)), (0, .ref 0), (1, .ref 110), (2, .int x2)] [.int (((q 111).getD (x2 + 2).toNatClampNeg 0).toInt32), .int (((q 111).getD (x2 + 1).toNatClampNeg 0).toInt32), .int (((q 111).getD x2.toNatClampNeg 0).toInt32), .ref 1] i a q r (by rfl) ?_
              refine ko_callI mi_k82.1 (pc := 95) (ls := [(5, .int (((q 111).getD (x2 + 2).toNatClampNeg 0).toInt32)), (4, .int (((q 111).getD (x2 + 1).toNatClampNeg 0).toInt32)), (3, .int (((q 111).getD x2.toNatClampNeg 0).toInt32)), (0, .ref 0), (1, .ref 110), (2, .int x2)]) (st := [.int (((q 111).getD (x2 + 2).toNatClampNeg 0).toInt32), .int (((q 111).getD (x2 + 1).toNatClampNeg 0).toInt32), .int (((q 111).getD x2.toNatClampNeg 0).toInt32), .ref 1]) (h := ks i a q r) (i := (.invokevirtual 66, 3, 25, 0, 9, 0, 155)) (mi_k82.2 _ _ (by rfl)) (ft_invS mi_pq25 (by rfl)) (cy := mi_c25) mi_pq25 rfl (kc25_1 hG.I hG.R (((q 111).getD x2.toNatClampNeg 0).toInt32) (((q 111).getD (x2 + 1).toNatClampNeg 0).toInt32) (((q 111).getD (x2 + 2).toNatClampNeg 0).toInt32)) (by decide) ?_
              intro vg14 ig14 ag14 qg14 rg14 kg14 hg14
              have hGg14 := kG_call hG kg14 (by decide +kernel)
              refine ft_go mi_k82 2 100 [(5, .int (((q 111).getD (x2 + 2).toNatClampNeg 0).toInt32)), (4, .int (((q 111).getD (x2 + 1).toNatClampNeg 0).toInt32)), (3, .int (((q 111).getD x2.toNatClampNeg 0).toInt32)), (0, .ref 0), (1, .ref 110), (2, .int x2)] [.int 1] ig14 ag14 qg14 rg14 (by rfl) ?_
              exact ft_ret mi_k82 (by rfl) (hP 1 _ _ _ _ hGg14 (Or.inl ⟨rfl, trivial⟩))
            ·
              subst eg12
              refine ft_go mi_k82 2 85 [(5, .int (((q 111).getD (x2 + 2).toNatClampNeg 0).toInt32)), (4, .int (((q 111).getD (x2 + 1).toNatClampNeg 0).toInt32)), (3, .int (((q 111).getD x2.toNatClampNeg 0).toInt32)), (0, .ref 0), (1, .ref 110), (2, .int x2)] [.int 0] i a q r (by rfl) ?_
              exact ft_ret mi_k82 (by rfl) (hP 0 _ _ _ _ hG (Or.inr ⟨rfl, trivial⟩))
          ·
            subst eg10
            refine ft_go mi_k82 2 85 [(5, .int (((q 111).getD (x2 + 2).toNatClampNeg 0).toInt32)), (4, .int (((q 111).getD (x2 + 1).toNatClampNeg 0).toInt32)), (3, .int (((q 111).getD x2.toNatClampNeg 0).toInt32)), (0, .ref 0), (1, .ref 110), (2, .int x2)] [.int 0] i a q r (by rfl) ?_
            exact ft_ret mi_k82 (by rfl) (hP 0 _ _ _ _ hG (Or.inr ⟨rfl, trivial⟩))
        ·
          subst eg8
          refine ft_go mi_k82 2 85 [(5, .int (((q 111).getD (x2 + 2).toNatClampNeg 0).toInt32)), (4, .int (((q 111).getD (x2 + 1).toNatClampNeg 0).toInt32)), (3, .int (((q 111).getD x2.toNatClampNeg 0).toInt32)), (0, .ref 0), (1, .ref 110), (2, .int x2)] [.int 0] i a q r (by rfl) ?_
          exact ft_ret mi_k82 (by rfl) (hP 0 _ _ _ _ hG (Or.inr ⟨rfl, trivial⟩))
      ·
        have c15 : (i 7043).toInt ≤ (x2 + 2).toInt := kd_ltF c; clear c
        refine ft_go mi_k82 1 27 [(0, .ref 0), (1, .ref 110), (2, .int x2)] [.int 0] i a q r (by rfl) ?_
        exact ft_ret mi_k82 (by rfl) (hP 0 _ _ _ _ hG (Or.inr ⟨rfl, trivial⟩))
set_option maxRecDepth 100000 in
theorem kc36_112 {i : Nat → Int32} {a : Nat → List Int32} {q : Nat → List Int64} {r : Nat → Nat} (hI : kI i a q) (hr : kr r) (x1 : Int32) : km 1 36 [.ref 112, .int x1] (ks i a q r) (kPI (ks i a q r) (fun v => (v = 1 ∧ (((i 7168).toInt = 2) ∧ ((i 7170).toInt = x1.toInt))) ∨ (v = 0 ∧ (¬ (((i 7168).toInt = 2) ∧ ((i 7170).toInt = x1.toInt)))))) := by
  have hG := kG_self kW0 hI hr
  refine km_ofPI (q := (mi_h36, mi_c36)) rfl (by decide) (Nat.le_of_ble_eq_true rfl) ?_
  intro P hP
  have fi_7168 : ((0 : Int) ≤ (i 7168).toInt) ∧ ((i 7168).toInt ≤ 2) := hG.I.1 7168
  refine ft_go mi_k36 3 5 [(0, .ref 112), (1, .int x1)] [.int 2, .int (i 7168)] i a q r (by rfl) ?_
  refine ft_if mi_k36 ((i 7168) != 2) 20 8 [(0, .ref 112), (1, .int x1)] [] (by rfl) (fun c => ?_) (fun c => ?_)
  ·
    have c1 : (i 7168).toInt ≠ (2 : Int32).toInt := kd_ne c; clear c
    refine ft_go mi_k36 1 21 [(0, .ref 112), (1, .int x1)] [.int 0] i a q r (by rfl) ?_
    have fi_7170 : ((0 : Int) ≤ (i 7170).toInt) ∧ ((i 7170).toInt ≤ 4) := hG.I.1 7170
    exact ft_ret mi_k36 (by rfl) (hP 0 (Or.inr ⟨rfl, (oz940 c1 fi_7168.2 kn2)⟩))
  ·
    have c2 : (i 7168).toInt = (2 : Int32).toInt := kd_neF c; clear c
    have fi_7170 : ((0 : Int) ≤ (i 7170).toInt) ∧ ((i 7170).toInt ≤ 4) := hG.I.1 7170
    refine ft_go mi_k36 3 13 [(0, .ref 112), (1, .int x1)] [.int x1, .int (i 7170)] i a q r (by rfl) ?_
    refine ft_if mi_k36 ((i 7170) != x1) 20 16 [(0, .ref 112), (1, .int x1)] [] (by rfl) (fun c => ?_) (fun c => ?_)
    ·
      have c3 : (i 7170).toInt ≠ x1.toInt := kd_ne c; clear c
      refine ft_go mi_k36 1 21 [(0, .ref 112), (1, .int x1)] [.int 0] i a q r (by rfl) ?_
      exact ft_ret mi_k36 (by rfl) (hP 0 (Or.inr ⟨rfl, (oz941 c3)⟩))
    ·
      have c4 : (i 7170).toInt = x1.toInt := kd_neF c; clear c
      refine ft_go mi_k36 2 21 [(0, .ref 112), (1, .int x1)] [.int 1] i a q r (by rfl) ?_
      exact ft_ret mi_k36 (by rfl) (hP 1 (Or.inl ⟨rfl, (oz942 c2 c4 fi_7168.2 kn2)⟩))
def w82_0_112 : kW := ([64], [2, 3, 4, 5, 6], [], [])
set_option maxRecDepth 100000 in
theorem kc82_0_112 {i : Nat → Int32} {a : Nat → List Int32} {q : Nat → List Int64} {r : Nat → Nat} (hI : kI i a q) (hr : kr r) (x2 : Int32) (hp0 : x2.toInt ≤ 1000) : km 5 82 [.ref 0, .ref 112, .int x2] (ks i a q r) (kVI w82_0_112 i a q r (fun v i1 a1 q1 r1 => (v = 1 ∧ (True)) ∨ (v = 0 ∧ (True)))) := by
  have hG := kG_self w82_0_112 hI hr
  refine km_ofI (q := (mi_h82, mi_c82)) rfl (by decide) (Nat.le_of_ble_eq_true rfl) ?_
  intro P hP
  have fi_64 : ((0 : Int) ≤ (i 64).toInt) ∧ ((i 64).toInt ≤ 8) := hG.I.1 64
  refine ft_go mi_k82 4 9 [(0, .ref 0), (1, .ref 112), (2, .int x2)] [.int 8, .int (i 64)] i a q r (by rfl) ?_
  refine ft_if mi_k82 (decide (8 ≤ (i 64))) 26 12 [(0, .ref 0), (1, .ref 112), (2, .int x2)] [] (by rfl) (fun c => ?_) (fun c => ?_)
  ·
    have c1 : (8 : Int32).toInt ≤ (i 64).toInt := kd_le c; clear c
    refine ft_go mi_k82 1 27 [(0, .ref 0), (1, .ref 112), (2, .int x2)] [.int 0] i a q r (by rfl) ?_
    exact ft_ret mi_k82 (by rfl) (hP 0 _ _ _ _ hG (Or.inr ⟨rfl, trivial⟩))
  ·
    have c2 : (i 64).toInt < (8 : Int32).toInt := kd_leF c; clear c
    refine ft_go mi_k82 1 13 [(0, .ref 0), (1, .ref 112), (2, .int x2)] [.int x2] i a q r (by rfl) ?_
    refine ft_if mi_k82 (decide (x2 < 0)) 26 16 [(0, .ref 0), (1, .ref 112), (2, .int x2)] [] (by rfl) (fun c => ?_) (fun c => ?_)
    ·
      have c3 : x2.toInt < (0 : Int32).toInt := kd_lt c; clear c
      refine ft_go mi_k82 1 27 [(0, .ref 0), (1, .ref 112), (2, .int x2)] [.int 0] i a q r (by rfl) ?_
      exact ft_ret mi_k82 (by rfl) (hP 0 _ _ _ _ hG (Or.inr ⟨rfl, trivial⟩))
    ·
      have c4 : (0 : Int32).toInt ≤ x2.toInt := kd_ltF c; clear c
      have s5 : (x2 + 2).toInt = x2.toInt + (2 : Int32).toInt := kd_add (oz947 c4 kn0 kn2) (oz948 hp0 kn2)
      have fi_7171 : ((0 : Int) ≤ (i 7171).toInt) ∧ ((i 7171).toInt ≤ 60) := hG.I.1 7171
      refine ft_go mi_k82 5 23 [(0, .ref 0), (1, .ref 112), (2, .int x2)] [.int (i 7171), .int (x2 + 2)] i a q r (by rfl) ?_
      refine ft_if mi_k82 (decide ((x2 + 2) < (i 7171))) 28 26 [(0, .ref 0), (1, .ref 112), (2, .int x2)] [] (by rfl) (fun c => ?_) (fun c => ?_)
      ·
        have c6 : (x2 + 2).toInt < (i 7171).toInt := kd_lt c; clear c
        refine ft_go mi_k82 3 33 [(0, .ref 0), (1, .ref 112), (2, .int x2)] [.int x2, .ref 113] i a q r (by rfl) ?_
        refine ko_lald2 mi_k82.1 (l := q 113) (n := 60) (c := 60) (ax := (0, 0, 0, 0, 0)) (mi_k82.2 _ _ (by rfl)) (by rfl) (by rfl) (hG.I.2.2.2 113) rfl (oz389 c4 kn0) (oz949 c6 fi_7171.2 s5 kn2) ?_
        have s7 : (x2 + 1).toInt = x2.toInt + (1 : Int32).toInt := kd_add (oz950 c4 kn0 kn1) (oz951 hp0 kn1)
        refine ft_go mi_k82 7 43 [(3, .int (((q 113).getD x2.toNatClampNeg 0).toInt32)), (0, .ref 0), (1, .ref 112), (2, .int x2)] [.int (x2 + 1), .ref 113] i a q r (by rfl) ?_
        refine ko_lald2 mi_k82.1 (l := q 113) (n := 60) (c := 60) (ax := (0, 0, 0, 0, 0)) (mi_k82.2 _ _ (by rfl)) (by rfl) (by rfl) (hG.I.2.2.2 113) rfl (oz952 c4 s7 kn0 kn1) (oz953 c6 fi_7171.2 s5 s7 kn2 kn1) ?_
        refine ft_go mi_k82 7 54 [(4, .int (((q 113).getD (x2 + 1).toNatClampNeg 0).toInt32)), (3, .int (((q 113).getD x2.toNatClampNeg 0).toInt32)), (0, .ref 0), (1, .ref 112), (2, .int x2)] [.int (x2 + 2), .ref 113] i a q r (by rfl) ?_
        refine ko_lald2 mi_k82.1 (l := q 113) (n := 60) (c := 60) (ax := (0, 0, 0, 0, 0)) (mi_k82.2 _ _ (by rfl)) (by rfl) (by rfl) (hG.I.2.2.2 113) rfl (oz954 c4 s5 kn0 kn2) (oz266 c6 fi_7171.2) ?_
        refine ft_go mi_k82 4 60 [(5, .int (((q 113).getD (x2 + 2).toNatClampNeg 0).toInt32)), (4, .int (((q 113).getD (x2 + 1).toNatClampNeg 0).toInt32)), (3, .int (((q 113).getD x2.toNatClampNeg 0).toInt32)), (0, .ref 0), (1, .ref 112), (2, .int x2)] [.int (((q 113).getD x2.toNatClampNeg 0).toInt32), .int 0] i a q r (by rfl) ?_
        refine ko_callPI mi_k82.1 (pc := 60) (ls := [(5, .int (((q 113).getD (x2 + 2).toNatClampNeg 0).toInt32)), (4, .int (((q 113).getD (x2 + 1).toNatClampNeg 0).toInt32)), (3, .int (((q 113).getD x2.toNatClampNeg 0).toInt32)), (0, .ref 0), (1, .ref 112), (2, .int x2)]) (st := [.int (((q 113).getD x2.toNatClampNeg 0).toInt32), .int 0]) (h := ks i a q r) (i := (.invokestatic 58, 3, 126, 0, 9, 0, 151)) (mi_k82.2 _ _ (by rfl)) (ft_invS mi_pq126 (by rfl)) (cy := mi_c126) mi_pq126 rfl (kc126 hG.I hG.R 0 (((q 113).getD x2.toNatClampNeg 0).toInt32)) (by decide) ?_
        intro vg8 hg8
        rcases hg8 with ⟨eg8, hg8⟩ | ⟨eg8, hg8⟩
        ·
          subst eg8
          have z9 : ((0 : Int) ≤ (0 : Int32).toInt) ∧ ((0 : Int32).toInt ≤ 6) := hg8
          refine ft_go mi_k82 3 69 [(5, .int (((q 113).getD (x2 + 2).toNatClampNeg 0).toInt32)), (4, .int (((q 113).getD (x2 + 1).toNatClampNeg 0).toInt32)), (3, .int (((q 113).getD x2.toNatClampNeg 0).toInt32)), (0, .ref 0), (1, .ref 112), (2, .int x2)] [.int (((q 113).getD (x2 + 1).toNatClampNeg 0).toInt32), .int 1] i a q r (by rfl) ?_
          refine ko_callPI mi_k82.1 (pc := 69) (ls := [(5, .int (((q 113).getD (x2 + 2).toNatClampNeg 0).toInt32)), (4, .int (((q 113).getD (x2 + 1).toNatClampNeg 0).toInt32)), (3, .int (((q 113).getD x2.toNatClampNeg 0).toInt32)), (0, .ref 0), (1, .ref 112), (2, .int x2)]) (st := [.int (((q 113).getD (x2 + 1).toNatClampNeg 0).toInt32), .int 1]) (h := ks i a q r) (i := (.invokestatic 58, 3, 126, 0, 9, 0, 151)) (mi_k82.2 _ _ (by rfl)) (ft_invS mi_pq126 (by rfl)) (cy := mi_c126) mi_pq126 rfl (kc126 hG.I hG.R 1 (((q 113).getD (x2 + 1).toNatClampNeg 0).toInt32)) (by decide) ?_
          intro vg10 hg10
          rcases hg10 with ⟨eg10, hg10⟩ | ⟨eg10, hg10⟩
          ·
            subst eg10
            have z11 : ((0 : Int) ≤ (1 : Int32).toInt) ∧ ((1 : Int32).toInt ≤ 6) := hg10
            refine ft_go mi_k82 3 78 [(5, .int (((q 113).getD (x2 + 2).toNatClampNeg 0).toInt32)), (4, .int (((q 113).getD (x2 + 1).toNatClampNeg 0).toInt32)), (3, .int (((q 113).getD x2.toNatClampNeg 0).toInt32)), (0, .ref 0), (1, .ref 112), (2, .int x2)] [.int (((q 113).getD (x2 + 2).toNatClampNeg 0).toInt32), .int 2] i a q r (by rfl) ?_
            refine ko_callPI mi_k82.1 (pc := 78) (ls := [(5, .int (((q 113).getD (x2 + 2).toNatClampNeg 0).toInt32)), (4, .int (((q 113).getD (x2 + 1).toNatClampNeg 0).toInt32)), (3, .int (((q 113).getD x2.toNatClampNeg 0).toInt32)), (0, .ref 0), (1, .ref 112), (2, .int x2)]) (st := [.int (((q 113).getD (x2 + 2).toNatClampNeg 0).toInt32), .int 2]) (h := ks i a q r) (i := (.invokestatic 58, 3, 126, 0, 9, 0, 151)) (mi_k82.2 _ _ (by rfl)) (ft_invS mi_pq126 (by rfl)) (cy := mi_c126) mi_pq126 rfl (kc126 hG.I hG.R 2 (((q 113).getD (x2 + 2).toNatClampNeg 0).toInt32)) (by decide) ?_
            intro vg12 hg12
            rcases hg12 with ⟨eg12, hg12⟩ | ⟨eg12, hg12⟩
            ·
              subst eg12
              have z13 : ((0 : Int) ≤ (2 : Int32).toInt) ∧ ((2 : Int32).toInt ≤ 6) := hg12
              refine ft_go mi_k82 6 95 [(5, .int (((q 113).getD (x2 + 2).toNatClampNeg 0).toInt32)), (4, .int (((q 113).getD (x2 + 1).toNatClampNeg 0).toInt32)), (3, .int (((q 113).getD x2.toNatClampNeg 0).toInt32)), (0, .ref 0), (1, .ref 112), (2, .int x2)] [.int (((q 113).getD (x2 + 2).toNatClampNeg 0).toInt32), .int (((q 113).getD (x2 + 1).toNatClampNeg 0).toInt32), .int (((q 113).getD x2.toNatClampNeg 0).toInt32), .ref 1] i a q r (by rfl) ?_
              refine ko_callI mi_k82.1 (pc := 95) (ls := [(5, .int (((q 113).getD (x2 + 2).toNatClampNeg 0).toInt32)), (4, .int (((q 113).getD (x2 + 1).toNatClampNeg 0).toInt32)), (3, .int (((q 113).getD x2.toNatClampNeg 0).toInt32)), (0, .ref 0), (1, .ref 112), (2, .int x2)]) (st := [.int (((q 113).getD (x2 + 2).toNatClampNeg 0).toInt32), .int (((q 113).getD (x2 + 1).toNatClampNeg 0).toInt32), .int (((q 113).getD x2.toNatClampNeg 0).toInt32), .ref 1]) (h := ks i a q r) (i := (.invokevirtual 66, 3, 25, 0, 9, 0, 155)) (mi_k82.2 _ _ (by rfl)) (ft_invS mi_pq25 (by rfl)) (cy := mi_c25) mi_pq25 rfl (kc25_1 hG.I hG.R (((q 113).getD x2.toNatClampNeg 0).toInt32) (((q 113).getD (x2 + 1).toNatClampNeg 0).toInt32) (((q 113).getD (x2 + 2).toNatClampNeg 0).toInt32)) (by decide) ?_
              intro vg14 ig14 ag14 qg14 rg14 kg14 hg14
              have hGg14 := kG_call hG kg14 (by decide +kernel)
              refine ft_go mi_k82 2 100 [(5, .int (((q 113).getD (x2 + 2).toNatClampNeg 0).toInt32)), (4, .int (((q 113).getD (x2 + 1).toNatClampNeg 0).toInt32)), (3, .int (((q 113).getD x2.toNatClampNeg 0).toInt32)), (0, .ref 0), (1, .ref 112), (2, .int x2)] [.int 1] ig14 ag14 qg14 rg14 (by rfl) ?_
              exact ft_ret mi_k82 (by rfl) (hP 1 _ _ _ _ hGg14 (Or.inl ⟨rfl, trivial⟩))
            ·
              subst eg12
              refine ft_go mi_k82 2 85 [(5, .int (((q 113).getD (x2 + 2).toNatClampNeg 0).toInt32)), (4, .int (((q 113).getD (x2 + 1).toNatClampNeg 0).toInt32)), (3, .int (((q 113).getD x2.toNatClampNeg 0).toInt32)), (0, .ref 0), (1, .ref 112), (2, .int x2)] [.int 0] i a q r (by rfl) ?_
              exact ft_ret mi_k82 (by rfl) (hP 0 _ _ _ _ hG (Or.inr ⟨rfl, trivial⟩))
          ·
            subst eg10
            refine ft_go mi_k82 2 85 [(5, .int (((q 113).getD (x2 + 2).toNatClampNeg 0).toInt32)), (4, .int (((q 113).getD (x2 + 1).toNatClampNeg 0).toInt32)), (3, .int (((q 113).getD x2.toNatClampNeg 0).toInt32)), (0, .ref 0), (1, .ref 112), (2, .int x2)] [.int 0] i a q r (by rfl) ?_
            exact ft_ret mi_k82 (by rfl) (hP 0 _ _ _ _ hG (Or.inr ⟨rfl, trivial⟩))
        ·
          subst eg8
          refine ft_go mi_k82 2 85 [(5, .int (((q 113).getD (x2 + 2).toNatClampNeg 0).toInt32)), (4, .int (((q 113).getD (x2 + 1).toNatClampNeg 0).toInt32)), (3, .int (((q 113).getD x2.toNatClampNeg 0).toInt32)), (0, .ref 0), (1, .ref 112), (2, .int x2)] [.int 0] i a q r (by rfl) ?_
          exact ft_ret mi_k82 (by rfl) (hP 0 _ _ _ _ hG (Or.inr ⟨rfl, trivial⟩))
      ·
        have c15 : (i 7171).toInt ≤ (x2 + 2).toInt := kd_ltF c; clear c
        refine ft_go mi_k82 1 27 [(0, .ref 0), (1, .ref 112), (2, .int x2)] [.int 0] i a q r (by rfl) ?_
        exact ft_ret mi_k82 (by rfl) (hP 0 _ _ _ _ hG (Or.inr ⟨rfl, trivial⟩))
set_option maxRecDepth 100000 in
theorem kc36_114 {i : Nat → Int32} {a : Nat → List Int32} {q : Nat → List Int64} {r : Nat → Nat} (hI : kI i a q) (hr : kr r) (x1 : Int32) : km 1 36 [.ref 114, .int x1] (ks i a q r) (kPI (ks i a q r) (fun v => (v = 1 ∧ (((i 7296).toInt = 2) ∧ ((i 7298).toInt = x1.toInt))) ∨ (v = 0 ∧ (¬ (((i 7296).toInt = 2) ∧ ((i 7298).toInt = x1.toInt)))))) := by
  have hG := kG_self kW0 hI hr
  refine km_ofPI (q := (mi_h36, mi_c36)) rfl (by decide) (Nat.le_of_ble_eq_true rfl) ?_
  intro P hP
  have fi_7296 : ((0 : Int) ≤ (i 7296).toInt) ∧ ((i 7296).toInt ≤ 2) := hG.I.1 7296
  refine ft_go mi_k36 3 5 [(0, .ref 114), (1, .int x1)] [.int 2, .int (i 7296)] i a q r (by rfl) ?_
  refine ft_if mi_k36 ((i 7296) != 2) 20 8 [(0, .ref 114), (1, .int x1)] [] (by rfl) (fun c => ?_) (fun c => ?_)
  ·
    have c1 : (i 7296).toInt ≠ (2 : Int32).toInt := kd_ne c; clear c
    refine ft_go mi_k36 1 21 [(0, .ref 114), (1, .int x1)] [.int 0] i a q r (by rfl) ?_
    have fi_7298 : ((0 : Int) ≤ (i 7298).toInt) ∧ ((i 7298).toInt ≤ 4) := hG.I.1 7298
    exact ft_ret mi_k36 (by rfl) (hP 0 (Or.inr ⟨rfl, (oz940 c1 fi_7296.2 kn2)⟩))
  ·
    have c2 : (i 7296).toInt = (2 : Int32).toInt := kd_neF c; clear c
    have fi_7298 : ((0 : Int) ≤ (i 7298).toInt) ∧ ((i 7298).toInt ≤ 4) := hG.I.1 7298
    refine ft_go mi_k36 3 13 [(0, .ref 114), (1, .int x1)] [.int x1, .int (i 7298)] i a q r (by rfl) ?_
    refine ft_if mi_k36 ((i 7298) != x1) 20 16 [(0, .ref 114), (1, .int x1)] [] (by rfl) (fun c => ?_) (fun c => ?_)
    ·
      have c3 : (i 7298).toInt ≠ x1.toInt := kd_ne c; clear c
      refine ft_go mi_k36 1 21 [(0, .ref 114), (1, .int x1)] [.int 0] i a q r (by rfl) ?_
      exact ft_ret mi_k36 (by rfl) (hP 0 (Or.inr ⟨rfl, (oz941 c3)⟩))
    ·
      have c4 : (i 7298).toInt = x1.toInt := kd_neF c; clear c
      refine ft_go mi_k36 2 21 [(0, .ref 114), (1, .int x1)] [.int 1] i a q r (by rfl) ?_
      exact ft_ret mi_k36 (by rfl) (hP 1 (Or.inl ⟨rfl, (oz942 c2 c4 fi_7296.2 kn2)⟩))
def w82_0_114 : kW := ([64], [2, 3, 4, 5, 6], [], [])
set_option maxRecDepth 100000 in
theorem kc82_0_114 {i : Nat → Int32} {a : Nat → List Int32} {q : Nat → List Int64} {r : Nat → Nat} (hI : kI i a q) (hr : kr r) (x2 : Int32) (hp0 : x2.toInt ≤ 1000) : km 5 82 [.ref 0, .ref 114, .int x2] (ks i a q r) (kVI w82_0_114 i a q r (fun v i1 a1 q1 r1 => (v = 1 ∧ (True)) ∨ (v = 0 ∧ (True)))) := by
  have hG := kG_self w82_0_114 hI hr
  refine km_ofI (q := (mi_h82, mi_c82)) rfl (by decide) (Nat.le_of_ble_eq_true rfl) ?_
  intro P hP
  have fi_64 : ((0 : Int) ≤ (i 64).toInt) ∧ ((i 64).toInt ≤ 8) := hG.I.1 64
  refine ft_go mi_k82 4 9 [(0, .ref 0), (1, .ref 114), (2, .int x2)] [.int 8, .int (i 64)] i a q r (by rfl) ?_
  refine ft_if mi_k82 (decide (8 ≤ (i 64))) 26 12 [(0, .ref 0), (1, .ref 114), (2, .int x2)] [] (by rfl) (fun c => ?_) (fun c => ?_)
  ·
    have c1 : (8 : Int32).toInt ≤ (i 64).toInt := kd_le c; clear c
    refine ft_go mi_k82 1 27 [(0, .ref 0), (1, .ref 114), (2, .int x2)] [.int 0] i a q r (by rfl) ?_
    exact ft_ret mi_k82 (by rfl) (hP 0 _ _ _ _ hG (Or.inr ⟨rfl, trivial⟩))
  ·
    have c2 : (i 64).toInt < (8 : Int32).toInt := kd_leF c; clear c
    refine ft_go mi_k82 1 13 [(0, .ref 0), (1, .ref 114), (2, .int x2)] [.int x2] i a q r (by rfl) ?_
    refine ft_if mi_k82 (decide (x2 < 0)) 26 16 [(0, .ref 0), (1, .ref 114), (2, .int x2)] [] (by rfl) (fun c => ?_) (fun c => ?_)
    ·
      have c3 : x2.toInt < (0 : Int32).toInt := kd_lt c; clear c
      refine ft_go mi_k82 1 27 [(0, .ref 0), (1, .ref 114), (2, .int x2)] [.int 0] i a q r (by rfl) ?_
      exact ft_ret mi_k82 (by rfl) (hP 0 _ _ _ _ hG (Or.inr ⟨rfl, trivial⟩))
    ·
      have c4 : (0 : Int32).toInt ≤ x2.toInt := kd_ltF c; clear c
      have s5 : (x2 + 2).toInt = x2.toInt + (2 : Int32).toInt := kd_add (oz947 c4 kn0 kn2) (oz948 hp0 kn2)
      have fi_7299 : ((0 : Int) ≤ (i 7299).toInt) ∧ ((i 7299).toInt ≤ 60) := hG.I.1 7299
      refine ft_go mi_k82 5 23 [(0, .ref 0), (1, .ref 114), (2, .int x2)] [.int (i 7299), .int (x2 + 2)] i a q r (by rfl) ?_
      refine ft_if mi_k82 (decide ((x2 + 2) < (i 7299))) 28 26 [(0, .ref 0), (1, .ref 114), (2, .int x2)] [] (by rfl) (fun c => ?_) (fun c => ?_)
      ·
        have c6 : (x2 + 2).toInt < (i 7299).toInt := kd_lt c; clear c
        refine ft_go mi_k82 3 33 [(0, .ref 0), (1, .ref 114), (2, .int x2)] [.int x2, .ref 115] i a q r (by rfl) ?_
        refine ko_lald2 mi_k82.1 (l := q 115) (n := 60) (c := 60) (ax := (0, 0, 0, 0, 0)) (mi_k82.2 _ _ (by rfl)) (by rfl) (by rfl) (hG.I.2.2.2 115) rfl (oz389 c4 kn0) (oz949 c6 fi_7299.2 s5 kn2) ?_
        have s7 : (x2 + 1).toInt = x2.toInt + (1 : Int32).toInt := kd_add (oz950 c4 kn0 kn1) (oz951 hp0 kn1)
        refine ft_go mi_k82 7 43 [(3, .int (((q 115).getD x2.toNatClampNeg 0).toInt32)), (0, .ref 0), (1, .ref 114), (2, .int x2)] [.int (x2 + 1), .ref 115] i a q r (by rfl) ?_
        refine ko_lald2 mi_k82.1 (l := q 115) (n := 60) (c := 60) (ax := (0, 0, 0, 0, 0)) (mi_k82.2 _ _ (by rfl)) (by rfl) (by rfl) (hG.I.2.2.2 115) rfl (oz952 c4 s7 kn0 kn1) (oz953 c6 fi_7299.2 s5 s7 kn2 kn1) ?_
        refine ft_go mi_k82 7 54 [(4, .int (((q 115).getD (x2 + 1).toNatClampNeg 0).toInt32)), (3, .int (((q 115).getD x2.toNatClampNeg 0).toInt32)), (0, .ref 0), (1, .ref 114), (2, .int x2)] [.int (x2 + 2), .ref 115] i a q r (by rfl) ?_
        refine ko_lald2 mi_k82.1 (l := q 115) (n := 60) (c := 60) (ax := (0, 0, 0, 0, 0)) (mi_k82.2 _ _ (by rfl)) (by rfl) (by rfl) (hG.I.2.2.2 115) rfl (oz954 c4 s5 kn0 kn2) (oz266 c6 fi_7299.2) ?_
        refine ft_go mi_k82 4 60 [(5, .int (((q 115).getD (x2 + 2).toNatClampNeg 0).toInt32)), (4, .int (((q 115).getD (x2 + 1).toNatClampNeg 0).toInt32)), (3, .int (((q 115).getD x2.toNatClampNeg 0).toInt32)), (0, .ref 0), (1, .ref 114), (2, .int x2)] [.int (((q 115).getD x2.toNatClampNeg 0).toInt32), .int 0] i a q r (by rfl) ?_
        refine ko_callPI mi_k82.1 (pc := 60) (ls := [(5, .int (((q 115).getD (x2 + 2).toNatClampNeg 0).toInt32)), (4, .int (((q 115).getD (x2 + 1).toNatClampNeg 0).toInt32)), (3, .int (((q 115).getD x2.toNatClampNeg 0).toInt32)), (0, .ref 0), (1, .ref 114), (2, .int x2)]) (st := [.int (((q 115).getD x2.toNatClampNeg 0).toInt32), .int 0]) (h := ks i a q r) (i := (.invokestatic 58, 3, 126, 0, 9, 0, 151)) (mi_k82.2 _ _ (by rfl)) (ft_invS mi_pq126 (by rfl)) (cy := mi_c126) mi_pq126 rfl (kc126 hG.I hG.R 0 (((q 115).getD x2.toNatClampNeg 0).toInt32)) (by decide) ?_
        intro vg8 hg8
        rcases hg8 with ⟨eg8, hg8⟩ | ⟨eg8, hg8⟩
        ·
          subst eg8
          have z9 : ((0 : Int) ≤ (0 : Int32).toInt) ∧ ((0 : Int32).toInt ≤ 6) := hg8
          refine ft_go mi_k82 3 69 [(5, .int (((q 115).getD (x2 + 2).toNatClampNeg 0).toInt32)), (4, .int (((q 115).getD (x2 + 1).toNatClampNeg 0).toInt32)), (3, .int (((q 115).getD x2.toNatClampNeg 0).toInt32)), (0, .ref 0), (1, .ref 114), (2, .int x2)] [.int (((q 115).getD (x2 + 1).toNatClampNeg 0).toInt32), .int 1] i a q r (by rfl) ?_
          refine ko_callPI mi_k82.1 (pc := 69) (ls := [(5, .int (((q 115).getD (x2 + 2).toNatClampNeg 0).toInt32)), (4, .int (((q 115).getD (x2 + 1).toNatClampNeg 0).toInt32)), (3, .int (((q 115).getD x2.toNatClampNeg 0).toInt32)), (0, .ref 0), (1, .ref 114), (2, .int x2)]) (st := [.int (((q 115).getD (x2 + 1).toNatClampNeg 0).toInt32), .int 1]) (h := ks i a q r) (i := (.invokestatic 58, 3, 126, 0, 9, 0, 151)) (mi_k82.2 _ _ (by rfl)) (ft_invS mi_pq126 (by rfl)) (cy := mi_c126) mi_pq126 rfl (kc126 hG.I hG.R 1 (((q 115).getD (x2 + 1).toNatClampNeg 0).toInt32)) (by decide) ?_
          intro vg10 hg10
          rcases hg10 with ⟨eg10, hg10⟩ | ⟨eg10, hg10⟩
          ·
            subst eg10
            have z11 : ((0 : Int) ≤ (1 : Int32).toInt) ∧ ((1 : Int32).toInt ≤ 6) := hg10
            refine ft_go mi_k82 3 78 [(5, .int (((q 115).getD (x2 + 2).toNatClampNeg 0).toInt32)), (4, .int (((q 115).getD (x2 + 1).toNatClampNeg 0).toInt32)), (3, .int (((q 115).getD x2.toNatClampNeg 0).toInt32)), (0, .ref 0), (1, .ref 114), (2, .int x2)] [.int (((q 115).getD (x2 + 2).toNatClampNeg 0).toInt32), .int 2] i a q r (by rfl) ?_
            refine ko_callPI mi_k82.1 (pc := 78) (ls := [(5, .int (((q 115).getD (x2 + 2).toNatClampNeg 0).toInt32)), (4, .int (((q 115).getD (x2 + 1).toNatClampNeg 0).toInt32)), (3, .int (((q 115).getD x2.toNatClampNeg 0).toInt32)), (0, .ref 0), (1, .ref 114), (2, .int x2)]) (st := [.int (((q 115).getD (x2 + 2).toNatClampNeg 0).toInt32), .int 2]) (h := ks i a q r) (i := (.invokestatic 58, 3, 126, 0, 9, 0, 151)) (mi_k82.2 _ _ (by rfl)) (ft_invS mi_pq126 (by rfl)) (cy := mi_c126) mi_pq126 rfl (kc126 hG.I hG.R 2 (((q 115).getD (x2 + 2).toNatClampNeg 0).toInt32)) (by decide) ?_
            intro vg12 hg12
            rcases hg12 with ⟨eg12, hg12⟩ | ⟨eg12, hg12⟩
            ·
              subst eg12
              have z13 : ((0 : Int) ≤ (2 : Int32).toInt) ∧ ((2 : Int32).toInt ≤ 6) := hg12
              refine ft_go mi_k82 6 95 [(5, .int (((q 115).getD (x2 + 2).toNatClampNeg 0).toInt32)), (4, .int (((q 115).getD (x2 + 1).toNatClampNeg 0).toInt32)), (3, .int (((q 115).getD x2.toNatClampNeg 0).toInt32)), (0, .ref 0), (1, .ref 114), (2, .int x2)] [.int (((q 115).getD (x2 + 2).toNatClampNeg 0).toInt32), .int (((q 115).getD (x2 + 1).toNatClampNeg 0).toInt32), .int (((q 115).getD x2.toNatClampNeg 0).toInt32), .ref 1] i a q r (by rfl) ?_
              refine ko_callI mi_k82.1 (pc := 95) (ls := [(5, .int (((q 115).getD (x2 + 2).toNatClampNeg 0).toInt32)), (4, .int (((q 115).getD (x2 + 1).toNatClampNeg 0).toInt32)), (3, .int (((q 115).getD x2.toNatClampNeg 0).toInt32)), (0, .ref 0), (1, .ref 114), (2, .int x2)]) (st := [.int (((q 115).getD (x2 + 2).toNatClampNeg 0).toInt32), .int (((q 115).getD (x2 + 1).toNatClampNeg 0).toInt32), .int (((q 115).getD x2.toNatClampNeg 0).toInt32), .ref 1]) (h := ks i a q r) (i := (.invokevirtual 66, 3, 25, 0, 9, 0, 155)) (mi_k82.2 _ _ (by rfl)) (ft_invS mi_pq25 (by rfl)) (cy := mi_c25) mi_pq25 rfl (kc25_1 hG.I hG.R (((q 115).getD x2.toNatClampNeg 0).toInt32) (((q 115).getD (x2 + 1).toNatClampNeg 0).toInt32) (((q 115).getD (x2 + 2).toNatClampNeg 0).toInt32)) (by decide) ?_
              intro vg14 ig14 ag14 qg14 rg14 kg14 hg14
              have hGg14 := kG_call hG kg14 (by decide +kernel)
              refine ft_go mi_k82 2 100 [(5, .int (((q 115).getD (x2 + 2).toNatClampNeg 0).toInt32)), (4, .int (((q 115).getD (x2 + 1).toNatClampNeg 0).toInt32)), (3, .int (((q 115).getD x2.toNatClampNeg 0).toInt32)), (0, .ref 0), (1, .ref 114), (2, .int x2)] [.int 1] ig14 ag14 qg14 rg14 (by rfl) ?_
              exact ft_ret mi_k82 (by rfl) (hP 1 _ _ _ _ hGg14 (Or.inl ⟨rfl, trivial⟩))
            ·
              subst eg12
              refine ft_go mi_k82 2 85 [(5, .int (((q 115).getD (x2 + 2).toNatClampNeg 0).toInt32)), (4, .int (((q 115).getD (x2 + 1).toNatClampNeg 0).toInt32)), (3, .int (((q 115).getD x2.toNatClampNeg 0).toInt32)), (0, .ref 0), (1, .ref 114), (2, .int x2)] [.int 0] i a q r (by rfl) ?_
              exact ft_ret mi_k82 (by rfl) (hP 0 _ _ _ _ hG (Or.inr ⟨rfl, trivial⟩))
          ·
            subst eg10
            refine ft_go mi_k82 2 85 [(5, .int (((q 115).getD (x2 + 2).toNatClampNeg 0).toInt32)), (4, .int (((q 115).getD (x2 + 1).toNatClampNeg 0).toInt32)), (3, .int (((q 115).getD x2.toNatClampNeg 0).toInt32)), (0, .ref 0), (1, .ref 114), (2, .int x2)] [.int 0] i a q r (by rfl) ?_
            exact ft_ret mi_k82 (by rfl) (hP 0 _ _ _ _ hG (Or.inr ⟨rfl, trivial⟩))
        ·
          subst eg8
          refine ft_go mi_k82 2 85 [(5, .int (((q 115).getD (x2 + 2).toNatClampNeg 0).toInt32)), (4, .int (((q 115).getD (x2 + 1).toNatClampNeg 0).toInt32)), (3, .int (((q 115).getD x2.toNatClampNeg 0).toInt32)), (0, .ref 0), (1, .ref 114), (2, .int x2)] [.int 0] i a q r (by rfl) ?_
          exact ft_ret mi_k82 (by rfl) (hP 0 _ _ _ _ hG (Or.inr ⟨rfl, trivial⟩))
      ·
        have c15 : (i 7299).toInt ≤ (x2 + 2).toInt := kd_ltF c; clear c
        refine ft_go mi_k82 1 27 [(0, .ref 0), (1, .ref 114), (2, .int x2)] [.int 0] i a q r (by rfl) ?_
        exact ft_ret mi_k82 (by rfl) (hP 0 _ _ _ _ hG (Or.inr ⟨rfl, trivial⟩))
def w81_0 : kW := ([64], [2, 3, 4, 5, 6], [], [])
def w81_0_L67 : kW := ([64], [2, 3, 4, 5, 6], [], [])
set_option maxRecDepth 100000 in
theorem kc81_0 {i : Nat → Int32} {a : Nat → List Int32} {q : Nat → List Int64} {r : Nat → Nat} (hI : kI i a q) (hr : kr r) (x1 : Int32) (x2 : Int32) (x3 : Int32) : km 7 81 [.ref 0, .int x1, .int x2, .int x3] (ks i a q r) (kVI w81_0 i a q r (fun v i1 a1 q1 r1 => True)) := by
  have hG := kG_self w81_0 hI hr
  refine km_ofI (q := (mi_h81, mi_c81)) rfl (by decide) (Nat.le_of_ble_eq_true rfl) ?_
  intro P hP
  first | refine ft_go mi_k81 1 1 [(0, .ref 0), (1, .int x1), (2, .int x2), (3, .int x3)] [.int x1] i a q r (by rfl) ?_ | refine ko_steps mi_in81 1 _ (1, [(0, .ref 0), (1, .int x1), (2, .int x2), (3, .int x3)], [.int x1], (0, 0), ks i a q r) (by rfl) ?_
  refine ko_callPI mi_k81.1 (pc := 1) (ls := [(0, .ref 0), (1, .int x1), (2, .int x2), (3, .int x3)]) (st := [.int x1]) (h := ks i a q r) (i := (.invokestatic 70, 3, 121, 0, 9, 0, 157)) (mi_k81.2 _ _ (by rfl)) (ft_invS mi_pq121 (by rfl)) (cy := mi_c121) mi_pq121 rfl (kc121 hG.I hG.R x1) (by decide) ?_
  intro vg1 hg1
  rcases hg1 with ⟨eg1, hg1⟩ | ⟨eg1, hg1⟩
  ·
    subst eg1
    have z2 : ((0 : Int) ≤ x1.toInt) ∧ (x1.toInt ≤ 5) := hg1
    first | refine ft_go mi_k81 4 11 [(0, .ref 0), (1, .int x1), (2, .int x2), (3, .int x3)] [.int 8, .int 1, .int x3] i a q r (by rfl) ?_ | refine ko_steps mi_in81 4 _ (11, [(0, .ref 0), (1, .int x1), (2, .int x2), (3, .int x3)], [.int 8, .int 1, .int x3], (0, 0), ks i a q r) (by rfl) ?_
    refine ko_callPI mi_k81.1 (pc := 11) (ls := [(0, .ref 0), (1, .int x1), (2, .int x2), (3, .int x3)]) (st := [.int 8, .int 1, .int x3]) (h := ks i a q r) (i := (.invokestatic 74, 3, 120, 0, 9, 0, 152)) (mi_k81.2 _ _ (by rfl)) (ft_invS mi_pq120 (by rfl)) (cy := mi_c120) mi_pq120 rfl (kc120 hG.I hG.R x3 1 8) (by decide) ?_
    intro vg3 hg3
    rcases hg3 with ⟨eg3, hg3⟩ | ⟨eg3, hg3⟩
    ·
      subst eg3
      have z4 : ((1 : Int32).toInt ≤ x3.toInt) ∧ (x3.toInt ≤ (8 : Int32).toInt) := hg3
      first | refine ft_go mi_k81 4 24 [(0, .ref 0), (1, .int x1), (2, .int x2), (3, .int x3)] [.int x1, .ref 97] i a q r (by rfl) ?_ | refine ko_steps mi_in81 4 _ (24, [(0, .ref 0), (1, .int x1), (2, .int x2), (3, .int x3)], [.int x1, .ref 97], (0, 0), ks i a q r) (by rfl) ?_
      by_cases w5 : x1.toInt = 0
      ·
        refine ko_eq (x1 := (24, [(0, .ref 0), (1, .int x1), (2, .int x2), (3, .int x3)], [.int 0, .ref 97], (0, 0), ks i a q r)) (by rw [(kj_eq w5 (by decide) : x1 = 0)]) ?_
        have fi_6656 : ((0 : Int) ≤ (i 6656).toInt) ∧ ((i 6656).toInt ≤ 2) := hG.I.1 6656
        first | refine ft_go mi_k81 4 32 [(4, .ref 104), (0, .ref 0), (1, .int x1), (2, .int x2), (3, .int x3)] [.int (i 6656)] i a q r (by rfl) ?_ | refine ko_steps mi_in81 4 _ (32, [(4, .ref 104), (0, .ref 0), (1, .int x1), (2, .int x2), (3, .int x3)], [.int (i 6656)], (0, 0), ks i a q r) (by rfl) ?_
        refine ft_if mi_k81 ((i 6656) != 0) 37 35 [(4, .ref 104), (0, .ref 0), (1, .int x1), (2, .int x2), (3, .int x3)] [] (by rfl) (fun c => ?_) (fun c => ?_)
        ·
          have c6 : (i 6656).toInt ≠ (0 : Int32).toInt := kd_ne c; clear c
          first | refine ft_go mi_k81 2 40 [(4, .ref 104), (0, .ref 0), (1, .int x1), (2, .int x2), (3, .int x3)] [.int 1, .ref 104] i a q r (by rfl) ?_ | refine ko_steps mi_in81 2 _ (40, [(4, .ref 104), (0, .ref 0), (1, .int x1), (2, .int x2), (3, .int x3)], [.int 1, .ref 104], (0, 0), ks i a q r) (by rfl) ?_
          refine ko_callPI mi_k81.1 (pc := 40) (ls := [(4, .ref 104), (0, .ref 0), (1, .int x1), (2, .int x2), (3, .int x3)]) (st := [.int 1, .ref 104]) (h := ks i a q r) (i := (.invokevirtual 81, 3, 36, 0, 9, 0, 158)) (mi_k81.2 _ _ (by rfl)) (ft_invS mi_pq36 (by rfl)) (cy := mi_c36) mi_pq36 rfl (kc36_104 hG.I hG.R 1) (by decide) ?_
          intro vg7 hg7
          rcases hg7 with ⟨eg7, hg7⟩ | ⟨eg7, hg7⟩
          ·
            subst eg7
            have fi_6658 : ((0 : Int) ≤ (i 6658).toInt) ∧ ((i 6658).toInt ≤ 4) := hG.I.1 6658
            have z8 : ((i 6656).toInt = 2) ∧ ((i 6658).toInt = (1 : Int32).toInt) := hg7
            first | refine ft_go mi_k81 4 53 [(4, .ref 104), (0, .ref 0), (1, .int x1), (2, .int x2), (3, .int x3)] [.int 60, .int 0, .int x2] i a q r (by rfl) ?_ | refine ko_steps mi_in81 4 _ (53, [(4, .ref 104), (0, .ref 0), (1, .int x1), (2, .int x2), (3, .int x3)], [.int 60, .int 0, .int x2], (0, 0), ks i a q r) (by rfl) ?_
            refine ko_callPI mi_k81.1 (pc := 53) (ls := [(4, .ref 104), (0, .ref 0), (1, .int x1), (2, .int x2), (3, .int x3)]) (st := [.int 60, .int 0, .int x2]) (h := ks i a q r) (i := (.invokestatic 74, 3, 120, 0, 9, 0, 152)) (mi_k81.2 _ _ (by rfl)) (ft_invS mi_pq120 (by rfl)) (cy := mi_c120) mi_pq120 rfl (kc120 hG.I hG.R x2 0 60) (by decide) ?_
            intro vg9 hg9
            rcases hg9 with ⟨eg9, hg9⟩ | ⟨eg9, hg9⟩
            ·
              subst eg9
              have z10 : ((0 : Int32).toInt ≤ x2.toInt) ∧ (x2.toInt ≤ (60 : Int32).toInt) := hg9
              first | refine ft_go mi_k81 5 67 [(6, .int 0), (5, .int 0), (4, .ref 104), (0, .ref 0), (1, .int x1), (2, .int x2), (3, .int x3)] [] i a q r (by rfl) ?_ | refine ko_steps mi_in81 5 _ (67, [(6, .int 0), (5, .int 0), (4, .ref 104), (0, .ref 0), (1, .int x1), (2, .int x2), (3, .int x3)], [], (0, 0), ks i a q r) (by rfl) ?_
              have lp11 : ∀ (nz : Nat) (i11 : Nat → Int32) (a11 : Nat → List Int32) (q11 : Nat → List Int64) (r11 : Nat → Nat) (l6_11 : Int32) (l5_11 : Int32), kG w81_0_L67 i a q r i11 a11 q11 r11 → (0 : Int) ≤ l6_11.toInt → ((x3.toInt - l6_11.toInt)).toNat < nz → ko 7 (mi_h81, mi_c81) P (67, [(6, .int l6_11), (5, .int l5_11), (4, .ref 104), (0, .ref 0), (1, .int x1), (2, .int x2), (3, .int x3)], [], (0, 0), ks i11 a11 q11 r11) := by
                intro nz
                induction nz with
                | zero =>
                  intro _ _ _ _ _ _ _ _ hm
                  exact absurd hm (Nat.not_lt_zero _)
                | succ nz ih11 =>
                  intro i11 a11 q11 r11 l6_11 l5_11 hL11 p11_0 hm11
                  first | refine ft_go mi_k81 2 70 [(6, .int l6_11), (5, .int l5_11), (4, .ref 104), (0, .ref 0), (1, .int x1), (2, .int x2), (3, .int x3)] [.int x3, .int l6_11] i11 a11 q11 r11 (by rfl) ?_ | refine ko_steps mi_in81 2 _ (70, [(6, .int l6_11), (5, .int l5_11), (4, .ref 104), (0, .ref 0), (1, .int x1), (2, .int x2), (3, .int x3)], [.int x3, .int l6_11], (0, 0), ks i11 a11 q11 r11) (by rfl) ?_
                  refine ft_if mi_k81 (decide (x3 ≤ l6_11)) 97 73 [(6, .int l6_11), (5, .int l5_11), (4, .ref 104), (0, .ref 0), (1, .int x1), (2, .int x2), (3, .int x3)] [] (by rfl) (fun c => ?_) (fun c => ?_)
                  ·
                    have c12 : x3.toInt ≤ l6_11.toInt := kd_le c; clear c
                    have hG13 := kG_call hG hL11 (by decide +kernel)
                    first | refine ft_go mi_k81 1 99 [(6, .int l6_11), (5, .int l5_11), (4, .ref 104), (0, .ref 0), (1, .int x1), (2, .int x2), (3, .int x3)] [.int l5_11] i11 a11 q11 r11 (by rfl) ?_ | refine ko_steps mi_in81 1 _ (99, [(6, .int l6_11), (5, .int l5_11), (4, .ref 104), (0, .ref 0), (1, .int x1), (2, .int x2), (3, .int x3)], [.int l5_11], (0, 0), ks i11 a11 q11 r11) (by rfl) ?_
                    exact ft_ret mi_k81 (by rfl) (hP l5_11 _ _ _ _ hG13 trivial)
                  ·
                    have c14 : l6_11.toInt < x3.toInt := kd_leF c; clear c
                    have s15 : (3 * l6_11).toInt = 3 * l6_11.toInt := kd_cmul 3 kn3 (oz943 p11_0) (oz944 c14 z4.2 kn8)
                    have s16 : (x2 + (3 * l6_11)).toInt = x2.toInt + (3 * l6_11).toInt := kd_add (oz945 p11_0 s15 z10.1 kn0) (oz946 c14 s15 z10.2 z4.2 kn60 kn8)
                    first | refine ft_go mi_k81 7 82 [(6, .int l6_11), (5, .int l5_11), (4, .ref 104), (0, .ref 0), (1, .int x1), (2, .int x2), (3, .int x3)] [.int (x2 + (3 * l6_11)), .ref 104, .ref 0] i11 a11 q11 r11 (by rfl) ?_ | refine ko_steps mi_in81 7 _ (82, [(6, .int l6_11), (5, .int l5_11), (4, .ref 104), (0, .ref 0), (1, .int x1), (2, .int x2), (3, .int x3)], [.int (x2 + (3 * l6_11)), .ref 104, .ref 0], (0, 0), ks i11 a11 q11 r11) (by rfl) ?_
                    refine ko_callI mi_k81.1 (pc := 82) (ls := [(6, .int l6_11), (5, .int l5_11), (4, .ref 104), (0, .ref 0), (1, .int x1), (2, .int x2), (3, .int x3)]) (st := [.int (x2 + (3 * l6_11)), .ref 104, .ref 0]) (h := ks i11 a11 q11 r11) (i := (.invokevirtual 84, 3, 82, 0, 9, 0, 159)) (mi_k81.2 _ _ (by rfl)) (ft_invS mi_pq82 (by rfl)) (cy := mi_c82) mi_pq82 rfl (kc82_0_104 hL11.I hL11.R (x2 + (3 * l6_11)) (oz955 c14 s15 s16 z10.2 z4.2 kn60 kn8)) (by decide) ?_
                    intro vg17 ig17 ag17 qg17 rg17 kg17 hg17
                    have hGg17 := kG_call hL11 kg17 (by decide +kernel)
                    rcases hg17 with ⟨eg17, hg17⟩ | ⟨eg17, hg17⟩
                    ·
                      subst eg17
                      have b18 : ((-2147483648 : Int) ≤ l5_11.toInt) ∧ (l5_11.toInt ≤ 2147483647) := kd_bd l5_11
                      have s19 : (l6_11 + 1).toInt = l6_11.toInt + (1 : Int32).toInt := kd_add (oz12 p11_0 kn1) (oz43 c14 z4.2 kn8 kn1)
                      first | refine ft_go mi_k81 4 67 [(6, .int (l6_11 + 1)), (5, .int (l5_11 + 1)), (4, .ref 104), (0, .ref 0), (1, .int x1), (2, .int x2), (3, .int x3)] [] ig17 ag17 qg17 rg17 (by rfl) ?_ | refine ko_steps mi_in81 4 _ (67, [(6, .int (l6_11 + 1)), (5, .int (l5_11 + 1)), (4, .ref 104), (0, .ref 0), (1, .int x1), (2, .int x2), (3, .int x3)], [], (0, 0), ks ig17 ag17 qg17 rg17) (by rfl) ?_
                      exact ih11 _ _ _ _ _ _ hGg17 (oz14 p11_0 s19 kn1) (kj_meas (oz44 s19 kn1) (oz45 c14) hm11)
                    ·
                      subst eg17
                      first | refine ft_go mi_k81 1 97 [(6, .int l6_11), (5, .int l5_11), (4, .ref 104), (0, .ref 0), (1, .int x1), (2, .int x2), (3, .int x3)] [] ig17 ag17 qg17 rg17 (by rfl) ?_ | refine ko_steps mi_in81 1 _ (97, [(6, .int l6_11), (5, .int l5_11), (4, .ref 104), (0, .ref 0), (1, .int x1), (2, .int x2), (3, .int x3)], [], (0, 0), ks ig17 ag17 qg17 rg17) (by rfl) ?_
                      have hG20 := kG_call hG hGg17 (by decide +kernel)
                      first | refine ft_go mi_k81 1 99 [(6, .int l6_11), (5, .int l5_11), (4, .ref 104), (0, .ref 0), (1, .int x1), (2, .int x2), (3, .int x3)] [.int l5_11] ig17 ag17 qg17 rg17 (by rfl) ?_ | refine ko_steps mi_in81 1 _ (99, [(6, .int l6_11), (5, .int l5_11), (4, .ref 104), (0, .ref 0), (1, .int x1), (2, .int x2), (3, .int x3)], [.int l5_11], (0, 0), ks ig17 ag17 qg17 rg17) (by rfl) ?_
                      exact ft_ret mi_k81 (by rfl) (hP l5_11 _ _ _ _ hG20 trivial)
              exact lp11 _ _ _ _ _ _ _ (kG_self _ hG.I hG.R) (oz46 kn0) (Nat.lt_succ_self _)
            ·
              subst eg9
              have z21 : ¬ (((0 : Int32).toInt ≤ x2.toInt) ∧ (x2.toInt ≤ (60 : Int32).toInt)) := hg9
              first | refine ft_go mi_k81 2 60 [(4, .ref 104), (0, .ref 0), (1, .int x1), (2, .int x2), (3, .int x3)] [.int 0] i a q r (by rfl) ?_ | refine ko_steps mi_in81 2 _ (60, [(4, .ref 104), (0, .ref 0), (1, .int x1), (2, .int x2), (3, .int x3)], [.int 0], (0, 0), ks i a q r) (by rfl) ?_
              exact ft_ret mi_k81 (by rfl) (hP 0 _ _ _ _ hG trivial)
          ·
            subst eg7
            have fi_6658 : ((0 : Int) ≤ (i 6658).toInt) ∧ ((i 6658).toInt ≤ 4) := hG.I.1 6658
            have z22 : ¬ (((i 6656).toInt = 2) ∧ ((i 6658).toInt = (1 : Int32).toInt)) := hg7
            first | refine ft_go mi_k81 2 48 [(4, .ref 104), (0, .ref 0), (1, .int x1), (2, .int x2), (3, .int x3)] [.int (-12)] i a q r (by rfl) ?_ | refine ko_steps mi_in81 2 _ (48, [(4, .ref 104), (0, .ref 0), (1, .int x1), (2, .int x2), (3, .int x3)], [.int (-12)], (0, 0), ks i a q r) (by rfl) ?_
            exact ft_ret mi_k81 (by rfl) (hP (-12) _ _ _ _ hG trivial)
        ·
          have c23 : (i 6656).toInt = (0 : Int32).toInt := kd_neF c; clear c
          first | refine ft_go mi_k81 1 36 [(4, .ref 104), (0, .ref 0), (1, .int x1), (2, .int x2), (3, .int x3)] [.int 0] i a q r (by rfl) ?_ | refine ko_steps mi_in81 1 _ (36, [(4, .ref 104), (0, .ref 0), (1, .int x1), (2, .int x2), (3, .int x3)], [.int 0], (0, 0), ks i a q r) (by rfl) ?_
          exact ft_ret mi_k81 (by rfl) (hP 0 _ _ _ _ hG trivial)
      by_cases w24 : x1.toInt = 1
      ·
        refine ko_eq (x1 := (24, [(0, .ref 0), (1, .int x1), (2, .int x2), (3, .int x3)], [.int 1, .ref 97], (0, 0), ks i a q r)) (by rw [(kj_eq w24 (by decide) : x1 = 1)]) ?_
        have fi_6784 : ((0 : Int) ≤ (i 6784).toInt) ∧ ((i 6784).toInt ≤ 2) := hG.I.1 6784
        first | refine ft_go mi_k81 4 32 [(4, .ref 106), (0, .ref 0), (1, .int x1), (2, .int x2), (3, .int x3)] [.int (i 6784)] i a q r (by rfl) ?_ | refine ko_steps mi_in81 4 _ (32, [(4, .ref 106), (0, .ref 0), (1, .int x1), (2, .int x2), (3, .int x3)], [.int (i 6784)], (0, 0), ks i a q r) (by rfl) ?_
        refine ft_if mi_k81 ((i 6784) != 0) 37 35 [(4, .ref 106), (0, .ref 0), (1, .int x1), (2, .int x2), (3, .int x3)] [] (by rfl) (fun c => ?_) (fun c => ?_)
        ·
          have c25 : (i 6784).toInt ≠ (0 : Int32).toInt := kd_ne c; clear c
          first | refine ft_go mi_k81 2 40 [(4, .ref 106), (0, .ref 0), (1, .int x1), (2, .int x2), (3, .int x3)] [.int 1, .ref 106] i a q r (by rfl) ?_ | refine ko_steps mi_in81 2 _ (40, [(4, .ref 106), (0, .ref 0), (1, .int x1), (2, .int x2), (3, .int x3)], [.int 1, .ref 106], (0, 0), ks i a q r) (by rfl) ?_
          refine ko_callPI mi_k81.1 (pc := 40) (ls := [(4, .ref 106), (0, .ref 0), (1, .int x1), (2, .int x2), (3, .int x3)]) (st := [.int 1, .ref 106]) (h := ks i a q r) (i := (.invokevirtual 81, 3, 36, 0, 9, 0, 158)) (mi_k81.2 _ _ (by rfl)) (ft_invS mi_pq36 (by rfl)) (cy := mi_c36) mi_pq36 rfl (kc36_106 hG.I hG.R 1) (by decide) ?_
          intro vg26 hg26
          rcases hg26 with ⟨eg26, hg26⟩ | ⟨eg26, hg26⟩
          ·
            subst eg26
            have fi_6786 : ((0 : Int) ≤ (i 6786).toInt) ∧ ((i 6786).toInt ≤ 4) := hG.I.1 6786
            have z27 : ((i 6784).toInt = 2) ∧ ((i 6786).toInt = (1 : Int32).toInt) := hg26
            first | refine ft_go mi_k81 4 53 [(4, .ref 106), (0, .ref 0), (1, .int x1), (2, .int x2), (3, .int x3)] [.int 60, .int 0, .int x2] i a q r (by rfl) ?_ | refine ko_steps mi_in81 4 _ (53, [(4, .ref 106), (0, .ref 0), (1, .int x1), (2, .int x2), (3, .int x3)], [.int 60, .int 0, .int x2], (0, 0), ks i a q r) (by rfl) ?_
            refine ko_callPI mi_k81.1 (pc := 53) (ls := [(4, .ref 106), (0, .ref 0), (1, .int x1), (2, .int x2), (3, .int x3)]) (st := [.int 60, .int 0, .int x2]) (h := ks i a q r) (i := (.invokestatic 74, 3, 120, 0, 9, 0, 152)) (mi_k81.2 _ _ (by rfl)) (ft_invS mi_pq120 (by rfl)) (cy := mi_c120) mi_pq120 rfl (kc120 hG.I hG.R x2 0 60) (by decide) ?_
            intro vg28 hg28
            rcases hg28 with ⟨eg28, hg28⟩ | ⟨eg28, hg28⟩
            ·
              subst eg28
              have z29 : ((0 : Int32).toInt ≤ x2.toInt) ∧ (x2.toInt ≤ (60 : Int32).toInt) := hg28
              first | refine ft_go mi_k81 5 67 [(6, .int 0), (5, .int 0), (4, .ref 106), (0, .ref 0), (1, .int x1), (2, .int x2), (3, .int x3)] [] i a q r (by rfl) ?_ | refine ko_steps mi_in81 5 _ (67, [(6, .int 0), (5, .int 0), (4, .ref 106), (0, .ref 0), (1, .int x1), (2, .int x2), (3, .int x3)], [], (0, 0), ks i a q r) (by rfl) ?_
              have lp30 : ∀ (nz : Nat) (i30 : Nat → Int32) (a30 : Nat → List Int32) (q30 : Nat → List Int64) (r30 : Nat → Nat) (l6_30 : Int32) (l5_30 : Int32), kG w81_0_L67 i a q r i30 a30 q30 r30 → (0 : Int) ≤ l6_30.toInt → ((x3.toInt - l6_30.toInt)).toNat < nz → ko 7 (mi_h81, mi_c81) P (67, [(6, .int l6_30), (5, .int l5_30), (4, .ref 106), (0, .ref 0), (1, .int x1), (2, .int x2), (3, .int x3)], [], (0, 0), ks i30 a30 q30 r30) := by
                intro nz
                induction nz with
                | zero =>
                  intro _ _ _ _ _ _ _ _ hm
                  exact absurd hm (Nat.not_lt_zero _)
                | succ nz ih30 =>
                  intro i30 a30 q30 r30 l6_30 l5_30 hL30 p30_0 hm30
                  first | refine ft_go mi_k81 2 70 [(6, .int l6_30), (5, .int l5_30), (4, .ref 106), (0, .ref 0), (1, .int x1), (2, .int x2), (3, .int x3)] [.int x3, .int l6_30] i30 a30 q30 r30 (by rfl) ?_ | refine ko_steps mi_in81 2 _ (70, [(6, .int l6_30), (5, .int l5_30), (4, .ref 106), (0, .ref 0), (1, .int x1), (2, .int x2), (3, .int x3)], [.int x3, .int l6_30], (0, 0), ks i30 a30 q30 r30) (by rfl) ?_
                  refine ft_if mi_k81 (decide (x3 ≤ l6_30)) 97 73 [(6, .int l6_30), (5, .int l5_30), (4, .ref 106), (0, .ref 0), (1, .int x1), (2, .int x2), (3, .int x3)] [] (by rfl) (fun c => ?_) (fun c => ?_)
                  ·
                    have c31 : x3.toInt ≤ l6_30.toInt := kd_le c; clear c
                    have hG32 := kG_call hG hL30 (by decide +kernel)
                    first | refine ft_go mi_k81 1 99 [(6, .int l6_30), (5, .int l5_30), (4, .ref 106), (0, .ref 0), (1, .int x1), (2, .int x2), (3, .int x3)] [.int l5_30] i30 a30 q30 r30 (by rfl) ?_ | refine ko_steps mi_in81 1 _ (99, [(6, .int l6_30), (5, .int l5_30), (4, .ref 106), (0, .ref 0), (1, .int x1), (2, .int x2), (3, .int x3)], [.int l5_30], (0, 0), ks i30 a30 q30 r30) (by rfl) ?_
                    exact ft_ret mi_k81 (by rfl) (hP l5_30 _ _ _ _ hG32 trivial)
                  ·
                    have c33 : l6_30.toInt < x3.toInt := kd_leF c; clear c
                    have s34 : (3 * l6_30).toInt = 3 * l6_30.toInt := kd_cmul 3 kn3 (oz943 p30_0) (oz944 c33 z4.2 kn8)
                    have s35 : (x2 + (3 * l6_30)).toInt = x2.toInt + (3 * l6_30).toInt := kd_add (oz945 p30_0 s34 z29.1 kn0) (oz946 c33 s34 z29.2 z4.2 kn60 kn8)
                    first | refine ft_go mi_k81 7 82 [(6, .int l6_30), (5, .int l5_30), (4, .ref 106), (0, .ref 0), (1, .int x1), (2, .int x2), (3, .int x3)] [.int (x2 + (3 * l6_30)), .ref 106, .ref 0] i30 a30 q30 r30 (by rfl) ?_ | refine ko_steps mi_in81 7 _ (82, [(6, .int l6_30), (5, .int l5_30), (4, .ref 106), (0, .ref 0), (1, .int x1), (2, .int x2), (3, .int x3)], [.int (x2 + (3 * l6_30)), .ref 106, .ref 0], (0, 0), ks i30 a30 q30 r30) (by rfl) ?_
                    refine ko_callI mi_k81.1 (pc := 82) (ls := [(6, .int l6_30), (5, .int l5_30), (4, .ref 106), (0, .ref 0), (1, .int x1), (2, .int x2), (3, .int x3)]) (st := [.int (x2 + (3 * l6_30)), .ref 106, .ref 0]) (h := ks i30 a30 q30 r30) (i := (.invokevirtual 84, 3, 82, 0, 9, 0, 159)) (mi_k81.2 _ _ (by rfl)) (ft_invS mi_pq82 (by rfl)) (cy := mi_c82) mi_pq82 rfl (kc82_0_106 hL30.I hL30.R (x2 + (3 * l6_30)) (oz955 c33 s34 s35 z29.2 z4.2 kn60 kn8)) (by decide) ?_
                    intro vg36 ig36 ag36 qg36 rg36 kg36 hg36
                    have hGg36 := kG_call hL30 kg36 (by decide +kernel)
                    rcases hg36 with ⟨eg36, hg36⟩ | ⟨eg36, hg36⟩
                    ·
                      subst eg36
                      have b37 : ((-2147483648 : Int) ≤ l5_30.toInt) ∧ (l5_30.toInt ≤ 2147483647) := kd_bd l5_30
                      have s38 : (l6_30 + 1).toInt = l6_30.toInt + (1 : Int32).toInt := kd_add (oz12 p30_0 kn1) (oz43 c33 z4.2 kn8 kn1)
                      first | refine ft_go mi_k81 4 67 [(6, .int (l6_30 + 1)), (5, .int (l5_30 + 1)), (4, .ref 106), (0, .ref 0), (1, .int x1), (2, .int x2), (3, .int x3)] [] ig36 ag36 qg36 rg36 (by rfl) ?_ | refine ko_steps mi_in81 4 _ (67, [(6, .int (l6_30 + 1)), (5, .int (l5_30 + 1)), (4, .ref 106), (0, .ref 0), (1, .int x1), (2, .int x2), (3, .int x3)], [], (0, 0), ks ig36 ag36 qg36 rg36) (by rfl) ?_
                      exact ih30 _ _ _ _ _ _ hGg36 (oz14 p30_0 s38 kn1) (kj_meas (oz44 s38 kn1) (oz45 c33) hm30)
                    ·
                      subst eg36
                      first | refine ft_go mi_k81 1 97 [(6, .int l6_30), (5, .int l5_30), (4, .ref 106), (0, .ref 0), (1, .int x1), (2, .int x2), (3, .int x3)] [] ig36 ag36 qg36 rg36 (by rfl) ?_ | refine ko_steps mi_in81 1 _ (97, [(6, .int l6_30), (5, .int l5_30), (4, .ref 106), (0, .ref 0), (1, .int x1), (2, .int x2), (3, .int x3)], [], (0, 0), ks ig36 ag36 qg36 rg36) (by rfl) ?_
                      have hG39 := kG_call hG hGg36 (by decide +kernel)
                      first | refine ft_go mi_k81 1 99 [(6, .int l6_30), (5, .int l5_30), (4, .ref 106), (0, .ref 0), (1, .int x1), (2, .int x2), (3, .int x3)] [.int l5_30] ig36 ag36 qg36 rg36 (by rfl) ?_ | refine ko_steps mi_in81 1 _ (99, [(6, .int l6_30), (5, .int l5_30), (4, .ref 106), (0, .ref 0), (1, .int x1), (2, .int x2), (3, .int x3)], [.int l5_30], (0, 0), ks ig36 ag36 qg36 rg36) (by rfl) ?_
                      exact ft_ret mi_k81 (by rfl) (hP l5_30 _ _ _ _ hG39 trivial)
              exact lp30 _ _ _ _ _ _ _ (kG_self _ hG.I hG.R) (oz46 kn0) (Nat.lt_succ_self _)
            ·
              subst eg28
              have z40 : ¬ (((0 : Int32).toInt ≤ x2.toInt) ∧ (x2.toInt ≤ (60 : Int32).toInt)) := hg28
              first | refine ft_go mi_k81 2 60 [(4, .ref 106), (0, .ref 0), (1, .int x1), (2, .int x2), (3, .int x3)] [.int 0] i a q r (by rfl) ?_ | refine ko_steps mi_in81 2 _ (60, [(4, .ref 106), (0, .ref 0), (1, .int x1), (2, .int x2), (3, .int x3)], [.int 0], (0, 0), ks i a q r) (by rfl) ?_
              exact ft_ret mi_k81 (by rfl) (hP 0 _ _ _ _ hG trivial)
          ·
            subst eg26
            have fi_6786 : ((0 : Int) ≤ (i 6786).toInt) ∧ ((i 6786).toInt ≤ 4) := hG.I.1 6786
            have z41 : ¬ (((i 6784).toInt = 2) ∧ ((i 6786).toInt = (1 : Int32).toInt)) := hg26
            first | refine ft_go mi_k81 2 48 [(4, .ref 106), (0, .ref 0), (1, .int x1), (2, .int x2), (3, .int x3)] [.int (-12)] i a q r (by rfl) ?_ | refine ko_steps mi_in81 2 _ (48, [(4, .ref 106), (0, .ref 0), (1, .int x1), (2, .int x2), (3, .int x3)], [.int (-12)], (0, 0), ks i a q r) (by rfl) ?_
            exact ft_ret mi_k81 (by rfl) (hP (-12) _ _ _ _ hG trivial)
        ·
          have c42 : (i 6784).toInt = (0 : Int32).toInt := kd_neF c; clear c
          first | refine ft_go mi_k81 1 36 [(4, .ref 106), (0, .ref 0), (1, .int x1), (2, .int x2), (3, .int x3)] [.int 0] i a q r (by rfl) ?_ | refine ko_steps mi_in81 1 _ (36, [(4, .ref 106), (0, .ref 0), (1, .int x1), (2, .int x2), (3, .int x3)], [.int 0], (0, 0), ks i a q r) (by rfl) ?_
          exact ft_ret mi_k81 (by rfl) (hP 0 _ _ _ _ hG trivial)
      by_cases w43 : x1.toInt = 2
      ·
        refine ko_eq (x1 := (24, [(0, .ref 0), (1, .int x1), (2, .int x2), (3, .int x3)], [.int 2, .ref 97], (0, 0), ks i a q r)) (by rw [(kj_eq w43 (by decide) : x1 = 2)]) ?_
        have fi_6912 : ((0 : Int) ≤ (i 6912).toInt) ∧ ((i 6912).toInt ≤ 2) := hG.I.1 6912
        first | refine ft_go mi_k81 4 32 [(4, .ref 108), (0, .ref 0), (1, .int x1), (2, .int x2), (3, .int x3)] [.int (i 6912)] i a q r (by rfl) ?_ | refine ko_steps mi_in81 4 _ (32, [(4, .ref 108), (0, .ref 0), (1, .int x1), (2, .int x2), (3, .int x3)], [.int (i 6912)], (0, 0), ks i a q r) (by rfl) ?_
        refine ft_if mi_k81 ((i 6912) != 0) 37 35 [(4, .ref 108), (0, .ref 0), (1, .int x1), (2, .int x2), (3, .int x3)] [] (by rfl) (fun c => ?_) (fun c => ?_)
        ·
          have c44 : (i 6912).toInt ≠ (0 : Int32).toInt := kd_ne c; clear c
          first | refine ft_go mi_k81 2 40 [(4, .ref 108), (0, .ref 0), (1, .int x1), (2, .int x2), (3, .int x3)] [.int 1, .ref 108] i a q r (by rfl) ?_ | refine ko_steps mi_in81 2 _ (40, [(4, .ref 108), (0, .ref 0), (1, .int x1), (2, .int x2), (3, .int x3)], [.int 1, .ref 108], (0, 0), ks i a q r) (by rfl) ?_
          refine ko_callPI mi_k81.1 (pc := 40) (ls := [(4, .ref 108), (0, .ref 0), (1, .int x1), (2, .int x2), (3, .int x3)]) (st := [.int 1, .ref 108]) (h := ks i a q r) (i := (.invokevirtual 81, 3, 36, 0, 9, 0, 158)) (mi_k81.2 _ _ (by rfl)) (ft_invS mi_pq36 (by rfl)) (cy := mi_c36) mi_pq36 rfl (kc36_108 hG.I hG.R 1) (by decide) ?_
          intro vg45 hg45
          rcases hg45 with ⟨eg45, hg45⟩ | ⟨eg45, hg45⟩
          ·
            subst eg45
            have fi_6914 : ((0 : Int) ≤ (i 6914).toInt) ∧ ((i 6914).toInt ≤ 4) := hG.I.1 6914
            have z46 : ((i 6912).toInt = 2) ∧ ((i 6914).toInt = (1 : Int32).toInt) := hg45
            first | refine ft_go mi_k81 4 53 [(4, .ref 108), (0, .ref 0), (1, .int x1), (2, .int x2), (3, .int x3)] [.int 60, .int 0, .int x2] i a q r (by rfl) ?_ | refine ko_steps mi_in81 4 _ (53, [(4, .ref 108), (0, .ref 0), (1, .int x1), (2, .int x2), (3, .int x3)], [.int 60, .int 0, .int x2], (0, 0), ks i a q r) (by rfl) ?_
            refine ko_callPI mi_k81.1 (pc := 53) (ls := [(4, .ref 108), (0, .ref 0), (1, .int x1), (2, .int x2), (3, .int x3)]) (st := [.int 60, .int 0, .int x2]) (h := ks i a q r) (i := (.invokestatic 74, 3, 120, 0, 9, 0, 152)) (mi_k81.2 _ _ (by rfl)) (ft_invS mi_pq120 (by rfl)) (cy := mi_c120) mi_pq120 rfl (kc120 hG.I hG.R x2 0 60) (by decide) ?_
            intro vg47 hg47
            rcases hg47 with ⟨eg47, hg47⟩ | ⟨eg47, hg47⟩
            ·
              subst eg47
              have z48 : ((0 : Int32).toInt ≤ x2.toInt) ∧ (x2.toInt ≤ (60 : Int32).toInt) := hg47
              first | refine ft_go mi_k81 5 67 [(6, .int 0), (5, .int 0), (4, .ref 108), (0, .ref 0), (1, .int x1), (2, .int x2), (3, .int x3)] [] i a q r (by rfl) ?_ | refine ko_steps mi_in81 5 _ (67, [(6, .int 0), (5, .int 0), (4, .ref 108), (0, .ref 0), (1, .int x1), (2, .int x2), (3, .int x3)], [], (0, 0), ks i a q r) (by rfl) ?_
              have lp49 : ∀ (nz : Nat) (i49 : Nat → Int32) (a49 : Nat → List Int32) (q49 : Nat → List Int64) (r49 : Nat → Nat) (l6_49 : Int32) (l5_49 : Int32), kG w81_0_L67 i a q r i49 a49 q49 r49 → (0 : Int) ≤ l6_49.toInt → ((x3.toInt - l6_49.toInt)).toNat < nz → ko 7 (mi_h81, mi_c81) P (67, [(6, .int l6_49), (5, .int l5_49), (4, .ref 108), (0, .ref 0), (1, .int x1), (2, .int x2), (3, .int x3)], [], (0, 0), ks i49 a49 q49 r49) := by
                intro nz
                induction nz with
                | zero =>
                  intro _ _ _ _ _ _ _ _ hm
                  exact absurd hm (Nat.not_lt_zero _)
                | succ nz ih49 =>
                  intro i49 a49 q49 r49 l6_49 l5_49 hL49 p49_0 hm49
                  first | refine ft_go mi_k81 2 70 [(6, .int l6_49), (5, .int l5_49), (4, .ref 108), (0, .ref 0), (1, .int x1), (2, .int x2), (3, .int x3)] [.int x3, .int l6_49] i49 a49 q49 r49 (by rfl) ?_ | refine ko_steps mi_in81 2 _ (70, [(6, .int l6_49), (5, .int l5_49), (4, .ref 108), (0, .ref 0), (1, .int x1), (2, .int x2), (3, .int x3)], [.int x3, .int l6_49], (0, 0), ks i49 a49 q49 r49) (by rfl) ?_
                  refine ft_if mi_k81 (decide (x3 ≤ l6_49)) 97 73 [(6, .int l6_49), (5, .int l5_49), (4, .ref 108), (0, .ref 0), (1, .int x1), (2, .int x2), (3, .int x3)] [] (by rfl) (fun c => ?_) (fun c => ?_)
                  ·
                    have c50 : x3.toInt ≤ l6_49.toInt := kd_le c; clear c
                    have hG51 := kG_call hG hL49 (by decide +kernel)
                    first | refine ft_go mi_k81 1 99 [(6, .int l6_49), (5, .int l5_49), (4, .ref 108), (0, .ref 0), (1, .int x1), (2, .int x2), (3, .int x3)] [.int l5_49] i49 a49 q49 r49 (by rfl) ?_ | refine ko_steps mi_in81 1 _ (99, [(6, .int l6_49), (5, .int l5_49), (4, .ref 108), (0, .ref 0), (1, .int x1), (2, .int x2), (3, .int x3)], [.int l5_49], (0, 0), ks i49 a49 q49 r49) (by rfl) ?_
                    exact ft_ret mi_k81 (by rfl) (hP l5_49 _ _ _ _ hG51 trivial)
                  ·
                    have c52 : l6_49.toInt < x3.toInt := kd_leF c; clear c
                    have s53 : (3 * l6_49).toInt = 3 * l6_49.toInt := kd_cmul 3 kn3 (oz943 p49_0) (oz944 c52 z4.2 kn8)
                    have s54 : (x2 + (3 * l6_49)).toInt = x2.toInt + (3 * l6_49).toInt := kd_add (oz945 p49_0 s53 z48.1 kn0) (oz956 c52 s53 z4.2 z48.2 kn8 kn60)
                    first | refine ft_go mi_k81 7 82 [(6, .int l6_49), (5, .int l5_49), (4, .ref 108), (0, .ref 0), (1, .int x1), (2, .int x2), (3, .int x3)] [.int (x2 + (3 * l6_49)), .ref 108, .ref 0] i49 a49 q49 r49 (by rfl) ?_ | refine ko_steps mi_in81 7 _ (82, [(6, .int l6_49), (5, .int l5_49), (4, .ref 108), (0, .ref 0), (1, .int x1), (2, .int x2), (3, .int x3)], [.int (x2 + (3 * l6_49)), .ref 108, .ref 0], (0, 0), ks i49 a49 q49 r49) (by rfl) ?_
                    refine ko_callI mi_k81.1 (pc := 82) (ls := [(6, .int l6_49), (5, .int l5_49), (4, .ref 108), (0, .ref 0), (1, .int x1), (2, .int x2), (3, .int x3)]) (st := [.int (x2 + (3 * l6_49)), .ref 108, .ref 0]) (h := ks i49 a49 q49 r49) (i := (.invokevirtual 84, 3, 82, 0, 9, 0, 159)) (mi_k81.2 _ _ (by rfl)) (ft_invS mi_pq82 (by rfl)) (cy := mi_c82) mi_pq82 rfl (kc82_0_108 hL49.I hL49.R (x2 + (3 * l6_49)) (oz957 c52 s53 s54 z4.2 z48.2 kn8 kn60)) (by decide) ?_
                    intro vg55 ig55 ag55 qg55 rg55 kg55 hg55
                    have hGg55 := kG_call hL49 kg55 (by decide +kernel)
                    rcases hg55 with ⟨eg55, hg55⟩ | ⟨eg55, hg55⟩
                    ·
                      subst eg55
                      have b56 : ((-2147483648 : Int) ≤ l5_49.toInt) ∧ (l5_49.toInt ≤ 2147483647) := kd_bd l5_49
                      have s57 : (l6_49 + 1).toInt = l6_49.toInt + (1 : Int32).toInt := kd_add (oz12 p49_0 kn1) (oz43 c52 z4.2 kn8 kn1)
                      first | refine ft_go mi_k81 4 67 [(6, .int (l6_49 + 1)), (5, .int (l5_49 + 1)), (4, .ref 108), (0, .ref 0), (1, .int x1), (2, .int x2), (3, .int x3)] [] ig55 ag55 qg55 rg55 (by rfl) ?_ | refine ko_steps mi_in81 4 _ (67, [(6, .int (l6_49 + 1)), (5, .int (l5_49 + 1)), (4, .ref 108), (0, .ref 0), (1, .int x1), (2, .int x2), (3, .int x3)], [], (0, 0), ks ig55 ag55 qg55 rg55) (by rfl) ?_
                      exact ih49 _ _ _ _ _ _ hGg55 (oz14 p49_0 s57 kn1) (kj_meas (oz44 s57 kn1) (oz45 c52) hm49)
                    ·
                      subst eg55
                      first | refine ft_go mi_k81 1 97 [(6, .int l6_49), (5, .int l5_49), (4, .ref 108), (0, .ref 0), (1, .int x1), (2, .int x2), (3, .int x3)] [] ig55 ag55 qg55 rg55 (by rfl) ?_ | refine ko_steps mi_in81 1 _ (97, [(6, .int l6_49), (5, .int l5_49), (4, .ref 108), (0, .ref 0), (1, .int x1), (2, .int x2), (3, .int x3)], [], (0, 0), ks ig55 ag55 qg55 rg55) (by rfl) ?_
                      have hG58 := kG_call hG hGg55 (by decide +kernel)
                      first | refine ft_go mi_k81 1 99 [(6, .int l6_49), (5, .int l5_49), (4, .ref 108), (0, .ref 0), (1, .int x1), (2, .int x2), (3, .int x3)] [.int l5_49] ig55 ag55 qg55 rg55 (by rfl) ?_ | refine ko_steps mi_in81 1 _ (99, [(6, .int l6_49), (5, .int l5_49), (4, .ref 108), (0, .ref 0), (1, .int x1), (2, .int x2), (3, .int x3)], [.int l5_49], (0, 0), ks ig55 ag55 qg55 rg55) (by rfl) ?_
                      exact ft_ret mi_k81 (by rfl) (hP l5_49 _ _ _ _ hG58 trivial)
              exact lp49 _ _ _ _ _ _ _ (kG_self _ hG.I hG.R) (oz46 kn0) (Nat.lt_succ_self _)
            ·
              subst eg47
              have z59 : ¬ (((0 : Int32).toInt ≤ x2.toInt) ∧ (x2.toInt ≤ (60 : Int32).toInt)) := hg47
              first | refine ft_go mi_k81 2 60 [(4, .ref 108), (0, .ref 0), (1, .int x1), (2, .int x2), (3, .int x3)] [.int 0] i a q r (by rfl) ?_ | refine ko_steps mi_in81 2 _ (60, [(4, .ref 108), (0, .ref 0), (1, .int x1), (2, .int x2), (3, .int x3)], [.int 0], (0, 0), ks i a q r) (by rfl) ?_
              exact ft_ret mi_k81 (by rfl) (hP 0 _ _ _ _ hG trivial)
          ·
            subst eg45
            have fi_6914 : ((0 : Int) ≤ (i 6914).toInt) ∧ ((i 6914).toInt ≤ 4) := hG.I.1 6914
            have z60 : ¬ (((i 6912).toInt = 2) ∧ ((i 6914).toInt = (1 : Int32).toInt)) := hg45
            first | refine ft_go mi_k81 2 48 [(4, .ref 108), (0, .ref 0), (1, .int x1), (2, .int x2), (3, .int x3)] [.int (-12)] i a q r (by rfl) ?_ | refine ko_steps mi_in81 2 _ (48, [(4, .ref 108), (0, .ref 0), (1, .int x1), (2, .int x2), (3, .int x3)], [.int (-12)], (0, 0), ks i a q r) (by rfl) ?_
            exact ft_ret mi_k81 (by rfl) (hP (-12) _ _ _ _ hG trivial)
        ·
          have c61 : (i 6912).toInt = (0 : Int32).toInt := kd_neF c; clear c
          first | refine ft_go mi_k81 1 36 [(4, .ref 108), (0, .ref 0), (1, .int x1), (2, .int x2), (3, .int x3)] [.int 0] i a q r (by rfl) ?_ | refine ko_steps mi_in81 1 _ (36, [(4, .ref 108), (0, .ref 0), (1, .int x1), (2, .int x2), (3, .int x3)], [.int 0], (0, 0), ks i a q r) (by rfl) ?_
          exact ft_ret mi_k81 (by rfl) (hP 0 _ _ _ _ hG trivial)
      by_cases w62 : x1.toInt = 3
      ·
        refine ko_eq (x1 := (24, [(0, .ref 0), (1, .int x1), (2, .int x2), (3, .int x3)], [.int 3, .ref 97], (0, 0), ks i a q r)) (by rw [(kj_eq w62 (by decide) : x1 = 3)]) ?_
        have fi_7040 : ((0 : Int) ≤ (i 7040).toInt) ∧ ((i 7040).toInt ≤ 2) := hG.I.1 7040
        first | refine ft_go mi_k81 4 32 [(4, .ref 110), (0, .ref 0), (1, .int x1), (2, .int x2), (3, .int x3)] [.int (i 7040)] i a q r (by rfl) ?_ | refine ko_steps mi_in81 4 _ (32, [(4, .ref 110), (0, .ref 0), (1, .int x1), (2, .int x2), (3, .int x3)], [.int (i 7040)], (0, 0), ks i a q r) (by rfl) ?_
        refine ft_if mi_k81 ((i 7040) != 0) 37 35 [(4, .ref 110), (0, .ref 0), (1, .int x1), (2, .int x2), (3, .int x3)] [] (by rfl) (fun c => ?_) (fun c => ?_)
        ·
          have c63 : (i 7040).toInt ≠ (0 : Int32).toInt := kd_ne c; clear c
          first | refine ft_go mi_k81 2 40 [(4, .ref 110), (0, .ref 0), (1, .int x1), (2, .int x2), (3, .int x3)] [.int 1, .ref 110] i a q r (by rfl) ?_ | refine ko_steps mi_in81 2 _ (40, [(4, .ref 110), (0, .ref 0), (1, .int x1), (2, .int x2), (3, .int x3)], [.int 1, .ref 110], (0, 0), ks i a q r) (by rfl) ?_
          refine ko_callPI mi_k81.1 (pc := 40) (ls := [(4, .ref 110), (0, .ref 0), (1, .int x1), (2, .int x2), (3, .int x3)]) (st := [.int 1, .ref 110]) (h := ks i a q r) (i := (.invokevirtual 81, 3, 36, 0, 9, 0, 158)) (mi_k81.2 _ _ (by rfl)) (ft_invS mi_pq36 (by rfl)) (cy := mi_c36) mi_pq36 rfl (kc36_110 hG.I hG.R 1) (by decide) ?_
          intro vg64 hg64
          rcases hg64 with ⟨eg64, hg64⟩ | ⟨eg64, hg64⟩
          ·
            subst eg64
            have fi_7042 : ((0 : Int) ≤ (i 7042).toInt) ∧ ((i 7042).toInt ≤ 4) := hG.I.1 7042
            have z65 : ((i 7040).toInt = 2) ∧ ((i 7042).toInt = (1 : Int32).toInt) := hg64
            first | refine ft_go mi_k81 4 53 [(4, .ref 110), (0, .ref 0), (1, .int x1), (2, .int x2), (3, .int x3)] [.int 60, .int 0, .int x2] i a q r (by rfl) ?_ | refine ko_steps mi_in81 4 _ (53, [(4, .ref 110), (0, .ref 0), (1, .int x1), (2, .int x2), (3, .int x3)], [.int 60, .int 0, .int x2], (0, 0), ks i a q r) (by rfl) ?_
            refine ko_callPI mi_k81.1 (pc := 53) (ls := [(4, .ref 110), (0, .ref 0), (1, .int x1), (2, .int x2), (3, .int x3)]) (st := [.int 60, .int 0, .int x2]) (h := ks i a q r) (i := (.invokestatic 74, 3, 120, 0, 9, 0, 152)) (mi_k81.2 _ _ (by rfl)) (ft_invS mi_pq120 (by rfl)) (cy := mi_c120) mi_pq120 rfl (kc120 hG.I hG.R x2 0 60) (by decide) ?_
            intro vg66 hg66
            rcases hg66 with ⟨eg66, hg66⟩ | ⟨eg66, hg66⟩
            ·
              subst eg66
              have z67 : ((0 : Int32).toInt ≤ x2.toInt) ∧ (x2.toInt ≤ (60 : Int32).toInt) := hg66
              first | refine ft_go mi_k81 5 67 [(6, .int 0), (5, .int 0), (4, .ref 110), (0, .ref 0), (1, .int x1), (2, .int x2), (3, .int x3)] [] i a q r (by rfl) ?_ | refine ko_steps mi_in81 5 _ (67, [(6, .int 0), (5, .int 0), (4, .ref 110), (0, .ref 0), (1, .int x1), (2, .int x2), (3, .int x3)], [], (0, 0), ks i a q r) (by rfl) ?_
              have lp68 : ∀ (nz : Nat) (i68 : Nat → Int32) (a68 : Nat → List Int32) (q68 : Nat → List Int64) (r68 : Nat → Nat) (l6_68 : Int32) (l5_68 : Int32), kG w81_0_L67 i a q r i68 a68 q68 r68 → (0 : Int) ≤ l6_68.toInt → ((x3.toInt - l6_68.toInt)).toNat < nz → ko 7 (mi_h81, mi_c81) P (67, [(6, .int l6_68), (5, .int l5_68), (4, .ref 110), (0, .ref 0), (1, .int x1), (2, .int x2), (3, .int x3)], [], (0, 0), ks i68 a68 q68 r68) := by
                intro nz
                induction nz with
                | zero =>
                  intro _ _ _ _ _ _ _ _ hm
                  exact absurd hm (Nat.not_lt_zero _)
                | succ nz ih68 =>
                  intro i68 a68 q68 r68 l6_68 l5_68 hL68 p68_0 hm68
                  first | refine ft_go mi_k81 2 70 [(6, .int l6_68), (5, .int l5_68), (4, .ref 110), (0, .ref 0), (1, .int x1), (2, .int x2), (3, .int x3)] [.int x3, .int l6_68] i68 a68 q68 r68 (by rfl) ?_ | refine ko_steps mi_in81 2 _ (70, [(6, .int l6_68), (5, .int l5_68), (4, .ref 110), (0, .ref 0), (1, .int x1), (2, .int x2), (3, .int x3)], [.int x3, .int l6_68], (0, 0), ks i68 a68 q68 r68) (by rfl) ?_
                  refine ft_if mi_k81 (decide (x3 ≤ l6_68)) 97 73 [(6, .int l6_68), (5, .int l5_68), (4, .ref 110), (0, .ref 0), (1, .int x1), (2, .int x2), (3, .int x3)] [] (by rfl) (fun c => ?_) (fun c => ?_)
                  ·
                    have c69 : x3.toInt ≤ l6_68.toInt := kd_le c; clear c
                    have hG70 := kG_call hG hL68 (by decide +kernel)
                    first | refine ft_go mi_k81 1 99 [(6, .int l6_68), (5, .int l5_68), (4, .ref 110), (0, .ref 0), (1, .int x1), (2, .int x2), (3, .int x3)] [.int l5_68] i68 a68 q68 r68 (by rfl) ?_ | refine ko_steps mi_in81 1 _ (99, [(6, .int l6_68), (5, .int l5_68), (4, .ref 110), (0, .ref 0), (1, .int x1), (2, .int x2), (3, .int x3)], [.int l5_68], (0, 0), ks i68 a68 q68 r68) (by rfl) ?_
                    exact ft_ret mi_k81 (by rfl) (hP l5_68 _ _ _ _ hG70 trivial)
                  ·
                    have c71 : l6_68.toInt < x3.toInt := kd_leF c; clear c
                    have s72 : (3 * l6_68).toInt = 3 * l6_68.toInt := kd_cmul 3 kn3 (oz943 p68_0) (oz944 c71 z4.2 kn8)
                    have s73 : (x2 + (3 * l6_68)).toInt = x2.toInt + (3 * l6_68).toInt := kd_add (oz945 p68_0 s72 z67.1 kn0) (oz956 c71 s72 z4.2 z67.2 kn8 kn60)
                    first | refine ft_go mi_k81 7 82 [(6, .int l6_68), (5, .int l5_68), (4, .ref 110), (0, .ref 0), (1, .int x1), (2, .int x2), (3, .int x3)] [.int (x2 + (3 * l6_68)), .ref 110, .ref 0] i68 a68 q68 r68 (by rfl) ?_ | refine ko_steps mi_in81 7 _ (82, [(6, .int l6_68), (5, .int l5_68), (4, .ref 110), (0, .ref 0), (1, .int x1), (2, .int x2), (3, .int x3)], [.int (x2 + (3 * l6_68)), .ref 110, .ref 0], (0, 0), ks i68 a68 q68 r68) (by rfl) ?_
                    refine ko_callI mi_k81.1 (pc := 82) (ls := [(6, .int l6_68), (5, .int l5_68), (4, .ref 110), (0, .ref 0), (1, .int x1), (2, .int x2), (3, .int x3)]) (st := [.int (x2 + (3 * l6_68)), .ref 110, .ref 0]) (h := ks i68 a68 q68 r68) (i := (.invokevirtual 84, 3, 82, 0, 9, 0, 159)) (mi_k81.2 _ _ (by rfl)) (ft_invS mi_pq82 (by rfl)) (cy := mi_c82) mi_pq82 rfl (kc82_0_110 hL68.I hL68.R (x2 + (3 * l6_68)) (oz957 c71 s72 s73 z4.2 z67.2 kn8 kn60)) (by decide) ?_
                    intro vg74 ig74 ag74 qg74 rg74 kg74 hg74
                    have hGg74 := kG_call hL68 kg74 (by decide +kernel)
                    rcases hg74 with ⟨eg74, hg74⟩ | ⟨eg74, hg74⟩
                    ·
                      subst eg74
                      have b75 : ((-2147483648 : Int) ≤ l5_68.toInt) ∧ (l5_68.toInt ≤ 2147483647) := kd_bd l5_68
                      have s76 : (l6_68 + 1).toInt = l6_68.toInt + (1 : Int32).toInt := kd_add (oz12 p68_0 kn1) (oz43 c71 z4.2 kn8 kn1)
                      first | refine ft_go mi_k81 4 67 [(6, .int (l6_68 + 1)), (5, .int (l5_68 + 1)), (4, .ref 110), (0, .ref 0), (1, .int x1), (2, .int x2), (3, .int x3)] [] ig74 ag74 qg74 rg74 (by rfl) ?_ | refine ko_steps mi_in81 4 _ (67, [(6, .int (l6_68 + 1)), (5, .int (l5_68 + 1)), (4, .ref 110), (0, .ref 0), (1, .int x1), (2, .int x2), (3, .int x3)], [], (0, 0), ks ig74 ag74 qg74 rg74) (by rfl) ?_
                      exact ih68 _ _ _ _ _ _ hGg74 (oz14 p68_0 s76 kn1) (kj_meas (oz44 s76 kn1) (oz45 c71) hm68)
                    ·
                      subst eg74
                      first | refine ft_go mi_k81 1 97 [(6, .int l6_68), (5, .int l5_68), (4, .ref 110), (0, .ref 0), (1, .int x1), (2, .int x2), (3, .int x3)] [] ig74 ag74 qg74 rg74 (by rfl) ?_ | refine ko_steps mi_in81 1 _ (97, [(6, .int l6_68), (5, .int l5_68), (4, .ref 110), (0, .ref 0), (1, .int x1), (2, .int x2), (3, .int x3)], [], (0, 0), ks ig74 ag74 qg74 rg74) (by rfl) ?_
                      have hG77 := kG_call hG hGg74 (by decide +kernel)
                      first | refine ft_go mi_k81 1 99 [(6, .int l6_68), (5, .int l5_68), (4, .ref 110), (0, .ref 0), (1, .int x1), (2, .int x2), (3, .int x3)] [.int l5_68] ig74 ag74 qg74 rg74 (by rfl) ?_ | refine ko_steps mi_in81 1 _ (99, [(6, .int l6_68), (5, .int l5_68), (4, .ref 110), (0, .ref 0), (1, .int x1), (2, .int x2), (3, .int x3)], [.int l5_68], (0, 0), ks ig74 ag74 qg74 rg74) (by rfl) ?_
                      exact ft_ret mi_k81 (by rfl) (hP l5_68 _ _ _ _ hG77 trivial)
              exact lp68 _ _ _ _ _ _ _ (kG_self _ hG.I hG.R) (oz46 kn0) (Nat.lt_succ_self _)
            ·
              subst eg66
              have z78 : ¬ (((0 : Int32).toInt ≤ x2.toInt) ∧ (x2.toInt ≤ (60 : Int32).toInt)) := hg66
              first | refine ft_go mi_k81 2 60 [(4, .ref 110), (0, .ref 0), (1, .int x1), (2, .int x2), (3, .int x3)] [.int 0] i a q r (by rfl) ?_ | refine ko_steps mi_in81 2 _ (60, [(4, .ref 110), (0, .ref 0), (1, .int x1), (2, .int x2), (3, .int x3)], [.int 0], (0, 0), ks i a q r) (by rfl) ?_
              exact ft_ret mi_k81 (by rfl) (hP 0 _ _ _ _ hG trivial)
          ·
            subst eg64
            have fi_7042 : ((0 : Int) ≤ (i 7042).toInt) ∧ ((i 7042).toInt ≤ 4) := hG.I.1 7042
            have z79 : ¬ (((i 7040).toInt = 2) ∧ ((i 7042).toInt = (1 : Int32).toInt)) := hg64
            first | refine ft_go mi_k81 2 48 [(4, .ref 110), (0, .ref 0), (1, .int x1), (2, .int x2), (3, .int x3)] [.int (-12)] i a q r (by rfl) ?_ | refine ko_steps mi_in81 2 _ (48, [(4, .ref 110), (0, .ref 0), (1, .int x1), (2, .int x2), (3, .int x3)], [.int (-12)], (0, 0), ks i a q r) (by rfl) ?_
            exact ft_ret mi_k81 (by rfl) (hP (-12) _ _ _ _ hG trivial)
        ·
          have c80 : (i 7040).toInt = (0 : Int32).toInt := kd_neF c; clear c
          first | refine ft_go mi_k81 1 36 [(4, .ref 110), (0, .ref 0), (1, .int x1), (2, .int x2), (3, .int x3)] [.int 0] i a q r (by rfl) ?_ | refine ko_steps mi_in81 1 _ (36, [(4, .ref 110), (0, .ref 0), (1, .int x1), (2, .int x2), (3, .int x3)], [.int 0], (0, 0), ks i a q r) (by rfl) ?_
          exact ft_ret mi_k81 (by rfl) (hP 0 _ _ _ _ hG trivial)
      by_cases w81 : x1.toInt = 4
      ·
        refine ko_eq (x1 := (24, [(0, .ref 0), (1, .int x1), (2, .int x2), (3, .int x3)], [.int 4, .ref 97], (0, 0), ks i a q r)) (by rw [(kj_eq w81 (by decide) : x1 = 4)]) ?_
        have fi_7168 : ((0 : Int) ≤ (i 7168).toInt) ∧ ((i 7168).toInt ≤ 2) := hG.I.1 7168
        first | refine ft_go mi_k81 4 32 [(4, .ref 112), (0, .ref 0), (1, .int x1), (2, .int x2), (3, .int x3)] [.int (i 7168)] i a q r (by rfl) ?_ | refine ko_steps mi_in81 4 _ (32, [(4, .ref 112), (0, .ref 0), (1, .int x1), (2, .int x2), (3, .int x3)], [.int (i 7168)], (0, 0), ks i a q r) (by rfl) ?_
        refine ft_if mi_k81 ((i 7168) != 0) 37 35 [(4, .ref 112), (0, .ref 0), (1, .int x1), (2, .int x2), (3, .int x3)] [] (by rfl) (fun c => ?_) (fun c => ?_)
        ·
          have c82 : (i 7168).toInt ≠ (0 : Int32).toInt := kd_ne c; clear c
          first | refine ft_go mi_k81 2 40 [(4, .ref 112), (0, .ref 0), (1, .int x1), (2, .int x2), (3, .int x3)] [.int 1, .ref 112] i a q r (by rfl) ?_ | refine ko_steps mi_in81 2 _ (40, [(4, .ref 112), (0, .ref 0), (1, .int x1), (2, .int x2), (3, .int x3)], [.int 1, .ref 112], (0, 0), ks i a q r) (by rfl) ?_
          refine ko_callPI mi_k81.1 (pc := 40) (ls := [(4, .ref 112), (0, .ref 0), (1, .int x1), (2, .int x2), (3, .int x3)]) (st := [.int 1, .ref 112]) (h := ks i a q r) (i := (.invokevirtual 81, 3, 36, 0, 9, 0, 158)) (mi_k81.2 _ _ (by rfl)) (ft_invS mi_pq36 (by rfl)) (cy := mi_c36) mi_pq36 rfl (kc36_112 hG.I hG.R 1) (by decide) ?_
          intro vg83 hg83
          rcases hg83 with ⟨eg83, hg83⟩ | ⟨eg83, hg83⟩
          ·
            subst eg83
            have fi_7170 : ((0 : Int) ≤ (i 7170).toInt) ∧ ((i 7170).toInt ≤ 4) := hG.I.1 7170
            have z84 : ((i 7168).toInt = 2) ∧ ((i 7170).toInt = (1 : Int32).toInt) := hg83
            first | refine ft_go mi_k81 4 53 [(4, .ref 112), (0, .ref 0), (1, .int x1), (2, .int x2), (3, .int x3)] [.int 60, .int 0, .int x2] i a q r (by rfl) ?_ | refine ko_steps mi_in81 4 _ (53, [(4, .ref 112), (0, .ref 0), (1, .int x1), (2, .int x2), (3, .int x3)], [.int 60, .int 0, .int x2], (0, 0), ks i a q r) (by rfl) ?_
            refine ko_callPI mi_k81.1 (pc := 53) (ls := [(4, .ref 112), (0, .ref 0), (1, .int x1), (2, .int x2), (3, .int x3)]) (st := [.int 60, .int 0, .int x2]) (h := ks i a q r) (i := (.invokestatic 74, 3, 120, 0, 9, 0, 152)) (mi_k81.2 _ _ (by rfl)) (ft_invS mi_pq120 (by rfl)) (cy := mi_c120) mi_pq120 rfl (kc120 hG.I hG.R x2 0 60) (by decide) ?_
            intro vg85 hg85
            rcases hg85 with ⟨eg85, hg85⟩ | ⟨eg85, hg85⟩
            ·
              subst eg85
              have z86 : ((0 : Int32).toInt ≤ x2.toInt) ∧ (x2.toInt ≤ (60 : Int32).toInt) := hg85
              first | refine ft_go mi_k81 5 67 [(6, .int 0), (5, .int 0), (4, .ref 112), (0, .ref 0), (1, .int x1), (2, .int x2), (3, .int x3)] [] i a q r (by rfl) ?_ | refine ko_steps mi_in81 5 _ (67, [(6, .int 0), (5, .int 0), (4, .ref 112), (0, .ref 0), (1, .int x1), (2, .int x2), (3, .int x3)], [], (0, 0), ks i a q r) (by rfl) ?_
              have lp87 : ∀ (nz : Nat) (i87 : Nat → Int32) (a87 : Nat → List Int32) (q87 : Nat → List Int64) (r87 : Nat → Nat) (l6_87 : Int32) (l5_87 : Int32), kG w81_0_L67 i a q r i87 a87 q87 r87 → (0 : Int) ≤ l6_87.toInt → ((x3.toInt - l6_87.toInt)).toNat < nz → ko 7 (mi_h81, mi_c81) P (67, [(6, .int l6_87), (5, .int l5_87), (4, .ref 112), (0, .ref 0), (1, .int x1), (2, .int x2), (3, .int x3)], [], (0, 0), ks i87 a87 q87 r87) := by
                intro nz
                induction nz with
                | zero =>
                  intro _ _ _ _ _ _ _ _ hm
                  exact absurd hm (Nat.not_lt_zero _)
                | succ nz ih87 =>
                  intro i87 a87 q87 r87 l6_87 l5_87 hL87 p87_0 hm87
                  first | refine ft_go mi_k81 2 70 [(6, .int l6_87), (5, .int l5_87), (4, .ref 112), (0, .ref 0), (1, .int x1), (2, .int x2), (3, .int x3)] [.int x3, .int l6_87] i87 a87 q87 r87 (by rfl) ?_ | refine ko_steps mi_in81 2 _ (70, [(6, .int l6_87), (5, .int l5_87), (4, .ref 112), (0, .ref 0), (1, .int x1), (2, .int x2), (3, .int x3)], [.int x3, .int l6_87], (0, 0), ks i87 a87 q87 r87) (by rfl) ?_
                  refine ft_if mi_k81 (decide (x3 ≤ l6_87)) 97 73 [(6, .int l6_87), (5, .int l5_87), (4, .ref 112), (0, .ref 0), (1, .int x1), (2, .int x2), (3, .int x3)] [] (by rfl) (fun c => ?_) (fun c => ?_)
                  ·
                    have c88 : x3.toInt ≤ l6_87.toInt := kd_le c; clear c
                    have hG89 := kG_call hG hL87 (by decide +kernel)
                    first | refine ft_go mi_k81 1 99 [(6, .int l6_87), (5, .int l5_87), (4, .ref 112), (0, .ref 0), (1, .int x1), (2, .int x2), (3, .int x3)] [.int l5_87] i87 a87 q87 r87 (by rfl) ?_ | refine ko_steps mi_in81 1 _ (99, [(6, .int l6_87), (5, .int l5_87), (4, .ref 112), (0, .ref 0), (1, .int x1), (2, .int x2), (3, .int x3)], [.int l5_87], (0, 0), ks i87 a87 q87 r87) (by rfl) ?_
                    exact ft_ret mi_k81 (by rfl) (hP l5_87 _ _ _ _ hG89 trivial)
                  ·
                    have c90 : l6_87.toInt < x3.toInt := kd_leF c; clear c
                    have s91 : (3 * l6_87).toInt = 3 * l6_87.toInt := kd_cmul 3 kn3 (oz943 p87_0) (oz944 c90 z4.2 kn8)
                    have s92 : (x2 + (3 * l6_87)).toInt = x2.toInt + (3 * l6_87).toInt := kd_add (oz945 p87_0 s91 z86.1 kn0) (oz956 c90 s91 z4.2 z86.2 kn8 kn60)
                    first | refine ft_go mi_k81 7 82 [(6, .int l6_87), (5, .int l5_87), (4, .ref 112), (0, .ref 0), (1, .int x1), (2, .int x2), (3, .int x3)] [.int (x2 + (3 * l6_87)), .ref 112, .ref 0] i87 a87 q87 r87 (by rfl) ?_ | refine ko_steps mi_in81 7 _ (82, [(6, .int l6_87), (5, .int l5_87), (4, .ref 112), (0, .ref 0), (1, .int x1), (2, .int x2), (3, .int x3)], [.int (x2 + (3 * l6_87)), .ref 112, .ref 0], (0, 0), ks i87 a87 q87 r87) (by rfl) ?_
                    refine ko_callI mi_k81.1 (pc := 82) (ls := [(6, .int l6_87), (5, .int l5_87), (4, .ref 112), (0, .ref 0), (1, .int x1), (2, .int x2), (3, .int x3)]) (st := [.int (x2 + (3 * l6_87)), .ref 112, .ref 0]) (h := ks i87 a87 q87 r87) (i := (.invokevirtual 84, 3, 82, 0, 9, 0, 159)) (mi_k81.2 _ _ (by rfl)) (ft_invS mi_pq82 (by rfl)) (cy := mi_c82) mi_pq82 rfl (kc82_0_112 hL87.I hL87.R (x2 + (3 * l6_87)) (oz957 c90 s91 s92 z4.2 z86.2 kn8 kn60)) (by decide) ?_
                    intro vg93 ig93 ag93 qg93 rg93 kg93 hg93
                    have hGg93 := kG_call hL87 kg93 (by decide +kernel)
                    rcases hg93 with ⟨eg93, hg93⟩ | ⟨eg93, hg93⟩
                    ·
                      subst eg93
                      have b94 : ((-2147483648 : Int) ≤ l5_87.toInt) ∧ (l5_87.toInt ≤ 2147483647) := kd_bd l5_87
                      have s95 : (l6_87 + 1).toInt = l6_87.toInt + (1 : Int32).toInt := kd_add (oz12 p87_0 kn1) (oz43 c90 z4.2 kn8 kn1)
                      first | refine ft_go mi_k81 4 67 [(6, .int (l6_87 + 1)), (5, .int (l5_87 + 1)), (4, .ref 112), (0, .ref 0), (1, .int x1), (2, .int x2), (3, .int x3)] [] ig93 ag93 qg93 rg93 (by rfl) ?_ | refine ko_steps mi_in81 4 _ (67, [(6, .int (l6_87 + 1)), (5, .int (l5_87 + 1)), (4, .ref 112), (0, .ref 0), (1, .int x1), (2, .int x2), (3, .int x3)], [], (0, 0), ks ig93 ag93 qg93 rg93) (by rfl) ?_
                      exact ih87 _ _ _ _ _ _ hGg93 (oz14 p87_0 s95 kn1) (kj_meas (oz44 s95 kn1) (oz45 c90) hm87)
                    ·
                      subst eg93
                      first | refine ft_go mi_k81 1 97 [(6, .int l6_87), (5, .int l5_87), (4, .ref 112), (0, .ref 0), (1, .int x1), (2, .int x2), (3, .int x3)] [] ig93 ag93 qg93 rg93 (by rfl) ?_ | refine ko_steps mi_in81 1 _ (97, [(6, .int l6_87), (5, .int l5_87), (4, .ref 112), (0, .ref 0), (1, .int x1), (2, .int x2), (3, .int x3)], [], (0, 0), ks ig93 ag93 qg93 rg93) (by rfl) ?_
                      have hG96 := kG_call hG hGg93 (by decide +kernel)
                      first | refine ft_go mi_k81 1 99 [(6, .int l6_87), (5, .int l5_87), (4, .ref 112), (0, .ref 0), (1, .int x1), (2, .int x2), (3, .int x3)] [.int l5_87] ig93 ag93 qg93 rg93 (by rfl) ?_ | refine ko_steps mi_in81 1 _ (99, [(6, .int l6_87), (5, .int l5_87), (4, .ref 112), (0, .ref 0), (1, .int x1), (2, .int x2), (3, .int x3)], [.int l5_87], (0, 0), ks ig93 ag93 qg93 rg93) (by rfl) ?_
                      exact ft_ret mi_k81 (by rfl) (hP l5_87 _ _ _ _ hG96 trivial)
              exact lp87 _ _ _ _ _ _ _ (kG_self _ hG.I hG.R) (oz46 kn0) (Nat.lt_succ_self _)
            ·
              subst eg85
              have z97 : ¬ (((0 : Int32).toInt ≤ x2.toInt) ∧ (x2.toInt ≤ (60 : Int32).toInt)) := hg85
              first | refine ft_go mi_k81 2 60 [(4, .ref 112), (0, .ref 0), (1, .int x1), (2, .int x2), (3, .int x3)] [.int 0] i a q r (by rfl) ?_ | refine ko_steps mi_in81 2 _ (60, [(4, .ref 112), (0, .ref 0), (1, .int x1), (2, .int x2), (3, .int x3)], [.int 0], (0, 0), ks i a q r) (by rfl) ?_
              exact ft_ret mi_k81 (by rfl) (hP 0 _ _ _ _ hG trivial)
          ·
            subst eg83
            have fi_7170 : ((0 : Int) ≤ (i 7170).toInt) ∧ ((i 7170).toInt ≤ 4) := hG.I.1 7170
            have z98 : ¬ (((i 7168).toInt = 2) ∧ ((i 7170).toInt = (1 : Int32).toInt)) := hg83
            first | refine ft_go mi_k81 2 48 [(4, .ref 112), (0, .ref 0), (1, .int x1), (2, .int x2), (3, .int x3)] [.int (-12)] i a q r (by rfl) ?_ | refine ko_steps mi_in81 2 _ (48, [(4, .ref 112), (0, .ref 0), (1, .int x1), (2, .int x2), (3, .int x3)], [.int (-12)], (0, 0), ks i a q r) (by rfl) ?_
            exact ft_ret mi_k81 (by rfl) (hP (-12) _ _ _ _ hG trivial)
        ·
          have c99 : (i 7168).toInt = (0 : Int32).toInt := kd_neF c; clear c
          first | refine ft_go mi_k81 1 36 [(4, .ref 112), (0, .ref 0), (1, .int x1), (2, .int x2), (3, .int x3)] [.int 0] i a q r (by rfl) ?_ | refine ko_steps mi_in81 1 _ (36, [(4, .ref 112), (0, .ref 0), (1, .int x1), (2, .int x2), (3, .int x3)], [.int 0], (0, 0), ks i a q r) (by rfl) ?_
          exact ft_ret mi_k81 (by rfl) (hP 0 _ _ _ _ hG trivial)
      by_cases w100 : x1.toInt = 5
      ·
        refine ko_eq (x1 := (24, [(0, .ref 0), (1, .int x1), (2, .int x2), (3, .int x3)], [.int 5, .ref 97], (0, 0), ks i a q r)) (by rw [(kj_eq w100 (by decide) : x1 = 5)]) ?_
        have fi_7296 : ((0 : Int) ≤ (i 7296).toInt) ∧ ((i 7296).toInt ≤ 2) := hG.I.1 7296
        first | refine ft_go mi_k81 4 32 [(4, .ref 114), (0, .ref 0), (1, .int x1), (2, .int x2), (3, .int x3)] [.int (i 7296)] i a q r (by rfl) ?_ | refine ko_steps mi_in81 4 _ (32, [(4, .ref 114), (0, .ref 0), (1, .int x1), (2, .int x2), (3, .int x3)], [.int (i 7296)], (0, 0), ks i a q r) (by rfl) ?_
        refine ft_if mi_k81 ((i 7296) != 0) 37 35 [(4, .ref 114), (0, .ref 0), (1, .int x1), (2, .int x2), (3, .int x3)] [] (by rfl) (fun c => ?_) (fun c => ?_)
        ·
          have c101 : (i 7296).toInt ≠ (0 : Int32).toInt := kd_ne c; clear c
          first | refine ft_go mi_k81 2 40 [(4, .ref 114), (0, .ref 0), (1, .int x1), (2, .int x2), (3, .int x3)] [.int 1, .ref 114] i a q r (by rfl) ?_ | refine ko_steps mi_in81 2 _ (40, [(4, .ref 114), (0, .ref 0), (1, .int x1), (2, .int x2), (3, .int x3)], [.int 1, .ref 114], (0, 0), ks i a q r) (by rfl) ?_
          refine ko_callPI mi_k81.1 (pc := 40) (ls := [(4, .ref 114), (0, .ref 0), (1, .int x1), (2, .int x2), (3, .int x3)]) (st := [.int 1, .ref 114]) (h := ks i a q r) (i := (.invokevirtual 81, 3, 36, 0, 9, 0, 158)) (mi_k81.2 _ _ (by rfl)) (ft_invS mi_pq36 (by rfl)) (cy := mi_c36) mi_pq36 rfl (kc36_114 hG.I hG.R 1) (by decide) ?_
          intro vg102 hg102
          rcases hg102 with ⟨eg102, hg102⟩ | ⟨eg102, hg102⟩
          ·
            subst eg102
            have fi_7298 : ((0 : Int) ≤ (i 7298).toInt) ∧ ((i 7298).toInt ≤ 4) := hG.I.1 7298
            have z103 : ((i 7296).toInt = 2) ∧ ((i 7298).toInt = (1 : Int32).toInt) := hg102
            first | refine ft_go mi_k81 4 53 [(4, .ref 114), (0, .ref 0), (1, .int x1), (2, .int x2), (3, .int x3)] [.int 60, .int 0, .int x2] i a q r (by rfl) ?_ | refine ko_steps mi_in81 4 _ (53, [(4, .ref 114), (0, .ref 0), (1, .int x1), (2, .int x2), (3, .int x3)], [.int 60, .int 0, .int x2], (0, 0), ks i a q r) (by rfl) ?_
            refine ko_callPI mi_k81.1 (pc := 53) (ls := [(4, .ref 114), (0, .ref 0), (1, .int x1), (2, .int x2), (3, .int x3)]) (st := [.int 60, .int 0, .int x2]) (h := ks i a q r) (i := (.invokestatic 74, 3, 120, 0, 9, 0, 152)) (mi_k81.2 _ _ (by rfl)) (ft_invS mi_pq120 (by rfl)) (cy := mi_c120) mi_pq120 rfl (kc120 hG.I hG.R x2 0 60) (by decide) ?_
            intro vg104 hg104
            rcases hg104 with ⟨eg104, hg104⟩ | ⟨eg104, hg104⟩
            ·
              subst eg104
              have z105 : ((0 : Int32).toInt ≤ x2.toInt) ∧ (x2.toInt ≤ (60 : Int32).toInt) := hg104
              first | refine ft_go mi_k81 5 67 [(6, .int 0), (5, .int 0), (4, .ref 114), (0, .ref 0), (1, .int x1), (2, .int x2), (3, .int x3)] [] i a q r (by rfl) ?_ | refine ko_steps mi_in81 5 _ (67, [(6, .int 0), (5, .int 0), (4, .ref 114), (0, .ref 0), (1, .int x1), (2, .int x2), (3, .int x3)], [], (0, 0), ks i a q r) (by rfl) ?_
              have lp106 : ∀ (nz : Nat) (i106 : Nat → Int32) (a106 : Nat → List Int32) (q106 : Nat → List Int64) (r106 : Nat → Nat) (l6_106 : Int32) (l5_106 : Int32), kG w81_0_L67 i a q r i106 a106 q106 r106 → (0 : Int) ≤ l6_106.toInt → ((x3.toInt - l6_106.toInt)).toNat < nz → ko 7 (mi_h81, mi_c81) P (67, [(6, .int l6_106), (5, .int l5_106), (4, .ref 114), (0, .ref 0), (1, .int x1), (2, .int x2), (3, .int x3)], [], (0, 0), ks i106 a106 q106 r106) := by
                intro nz
                induction nz with
                | zero =>
                  intro _ _ _ _ _ _ _ _ hm
                  exact absurd hm (Nat.not_lt_zero _)
                | succ nz ih106 =>
                  intro i106 a106 q106 r106 l6_106 l5_106 hL106 p106_0 hm106
                  first | refine ft_go mi_k81 2 70 [(6, .int l6_106), (5, .int l5_106), (4, .ref 114), (0, .ref 0), (1, .int x1), (2, .int x2), (3, .int x3)] [.int x3, .int l6_106] i106 a106 q106 r106 (by rfl) ?_ | refine ko_steps mi_in81 2 _ (70, [(6, .int l6_106), (5, .int l5_106), (4, .ref 114), (0, .ref 0), (1, .int x1), (2, .int x2), (3, .int x3)], [.int x3, .int l6_106], (0, 0), ks i106 a106 q106 r106) (by rfl) ?_
                  refine ft_if mi_k81 (decide (x3 ≤ l6_106)) 97 73 [(6, .int l6_106), (5, .int l5_106), (4, .ref 114), (0, .ref 0), (1, .int x1), (2, .int x2), (3, .int x3)] [] (by rfl) (fun c => ?_) (fun c => ?_)
                  ·
                    have c107 : x3.toInt ≤ l6_106.toInt := kd_le c; clear c
                    have hG108 := kG_call hG hL106 (by decide +kernel)
                    first | refine ft_go mi_k81 1 99 [(6, .int l6_106), (5, .int l5_106), (4, .ref 114), (0, .ref 0), (1, .int x1), (2, .int x2), (3, .int x3)] [.int l5_106] i106 a106 q106 r106 (by rfl) ?_ | refine ko_steps mi_in81 1 _ (99, [(6, .int l6_106), (5, .int l5_106), (4, .ref 114), (0, .ref 0), (1, .int x1), (2, .int x2), (3, .int x3)], [.int l5_106], (0, 0), ks i106 a106 q106 r106) (by rfl) ?_
                    exact ft_ret mi_k81 (by rfl) (hP l5_106 _ _ _ _ hG108 trivial)
                  ·
                    have c109 : l6_106.toInt < x3.toInt := kd_leF c; clear c
                    have s110 : (3 * l6_106).toInt = 3 * l6_106.toInt := kd_cmul 3 kn3 (oz943 p106_0) (oz944 c109 z4.2 kn8)
                    have s111 : (x2 + (3 * l6_106)).toInt = x2.toInt + (3 * l6_106).toInt := kd_add (oz945 p106_0 s110 z105.1 kn0) (oz946 c109 s110 z105.2 z4.2 kn60 kn8)
                    first | refine ft_go mi_k81 7 82 [(6, .int l6_106), (5, .int l5_106), (4, .ref 114), (0, .ref 0), (1, .int x1), (2, .int x2), (3, .int x3)] [.int (x2 + (3 * l6_106)), .ref 114, .ref 0] i106 a106 q106 r106 (by rfl) ?_ | refine ko_steps mi_in81 7 _ (82, [(6, .int l6_106), (5, .int l5_106), (4, .ref 114), (0, .ref 0), (1, .int x1), (2, .int x2), (3, .int x3)], [.int (x2 + (3 * l6_106)), .ref 114, .ref 0], (0, 0), ks i106 a106 q106 r106) (by rfl) ?_
                    refine ko_callI mi_k81.1 (pc := 82) (ls := [(6, .int l6_106), (5, .int l5_106), (4, .ref 114), (0, .ref 0), (1, .int x1), (2, .int x2), (3, .int x3)]) (st := [.int (x2 + (3 * l6_106)), .ref 114, .ref 0]) (h := ks i106 a106 q106 r106) (i := (.invokevirtual 84, 3, 82, 0, 9, 0, 159)) (mi_k81.2 _ _ (by rfl)) (ft_invS mi_pq82 (by rfl)) (cy := mi_c82) mi_pq82 rfl (kc82_0_114 hL106.I hL106.R (x2 + (3 * l6_106)) (oz955 c109 s110 s111 z105.2 z4.2 kn60 kn8)) (by decide) ?_
                    intro vg112 ig112 ag112 qg112 rg112 kg112 hg112
                    have hGg112 := kG_call hL106 kg112 (by decide +kernel)
                    rcases hg112 with ⟨eg112, hg112⟩ | ⟨eg112, hg112⟩
                    ·
                      subst eg112
                      have b113 : ((-2147483648 : Int) ≤ l5_106.toInt) ∧ (l5_106.toInt ≤ 2147483647) := kd_bd l5_106
                      have s114 : (l6_106 + 1).toInt = l6_106.toInt + (1 : Int32).toInt := kd_add (oz12 p106_0 kn1) (oz43 c109 z4.2 kn8 kn1)
                      first | refine ft_go mi_k81 4 67 [(6, .int (l6_106 + 1)), (5, .int (l5_106 + 1)), (4, .ref 114), (0, .ref 0), (1, .int x1), (2, .int x2), (3, .int x3)] [] ig112 ag112 qg112 rg112 (by rfl) ?_ | refine ko_steps mi_in81 4 _ (67, [(6, .int (l6_106 + 1)), (5, .int (l5_106 + 1)), (4, .ref 114), (0, .ref 0), (1, .int x1), (2, .int x2), (3, .int x3)], [], (0, 0), ks ig112 ag112 qg112 rg112) (by rfl) ?_
                      exact ih106 _ _ _ _ _ _ hGg112 (oz14 p106_0 s114 kn1) (kj_meas (oz44 s114 kn1) (oz45 c109) hm106)
                    ·
                      subst eg112
                      first | refine ft_go mi_k81 1 97 [(6, .int l6_106), (5, .int l5_106), (4, .ref 114), (0, .ref 0), (1, .int x1), (2, .int x2), (3, .int x3)] [] ig112 ag112 qg112 rg112 (by rfl) ?_ | refine ko_steps mi_in81 1 _ (97, [(6, .int l6_106), (5, .int l5_106), (4, .ref 114), (0, .ref 0), (1, .int x1), (2, .int x2), (3, .int x3)], [], (0, 0), ks ig112 ag112 qg112 rg112) (by rfl) ?_
                      have hG115 := kG_call hG hGg112 (by decide +kernel)
                      first | refine ft_go mi_k81 1 99 [(6, .int l6_106), (5, .int l5_106), (4, .ref 114), (0, .ref 0), (1, .int x1), (2, .int x2), (3, .int x3)] [.int l5_106] ig112 ag112 qg112 rg112 (by rfl) ?_ | refine ko_steps mi_in81 1 _ (99, [(6, .int l6_106), (5, .int l5_106), (4, .ref 114), (0, .ref 0), (1, .int x1), (2, .int x2), (3, .int x3)], [.int l5_106], (0, 0), ks ig112 ag112 qg112 rg112) (by rfl) ?_
                      exact ft_ret mi_k81 (by rfl) (hP l5_106 _ _ _ _ hG115 trivial)
              exact lp106 _ _ _ _ _ _ _ (kG_self _ hG.I hG.R) (oz46 kn0) (Nat.lt_succ_self _)
            ·
              subst eg104
              have z116 : ¬ (((0 : Int32).toInt ≤ x2.toInt) ∧ (x2.toInt ≤ (60 : Int32).toInt)) := hg104
              first | refine ft_go mi_k81 2 60 [(4, .ref 114), (0, .ref 0), (1, .int x1), (2, .int x2), (3, .int x3)] [.int 0] i a q r (by rfl) ?_ | refine ko_steps mi_in81 2 _ (60, [(4, .ref 114), (0, .ref 0), (1, .int x1), (2, .int x2), (3, .int x3)], [.int 0], (0, 0), ks i a q r) (by rfl) ?_
              exact ft_ret mi_k81 (by rfl) (hP 0 _ _ _ _ hG trivial)
          ·
            subst eg102
            have fi_7298 : ((0 : Int) ≤ (i 7298).toInt) ∧ ((i 7298).toInt ≤ 4) := hG.I.1 7298
            have z117 : ¬ (((i 7296).toInt = 2) ∧ ((i 7298).toInt = (1 : Int32).toInt)) := hg102
            first | refine ft_go mi_k81 2 48 [(4, .ref 114), (0, .ref 0), (1, .int x1), (2, .int x2), (3, .int x3)] [.int (-12)] i a q r (by rfl) ?_ | refine ko_steps mi_in81 2 _ (48, [(4, .ref 114), (0, .ref 0), (1, .int x1), (2, .int x2), (3, .int x3)], [.int (-12)], (0, 0), ks i a q r) (by rfl) ?_
            exact ft_ret mi_k81 (by rfl) (hP (-12) _ _ _ _ hG trivial)
        ·
          have c118 : (i 7296).toInt = (0 : Int32).toInt := kd_neF c; clear c
          first | refine ft_go mi_k81 1 36 [(4, .ref 114), (0, .ref 0), (1, .int x1), (2, .int x2), (3, .int x3)] [.int 0] i a q r (by rfl) ?_ | refine ko_steps mi_in81 1 _ (36, [(4, .ref 114), (0, .ref 0), (1, .int x1), (2, .int x2), (3, .int x3)], [.int 0], (0, 0), ks i a q r) (by rfl) ?_
          exact ft_ret mi_k81 (by rfl) (hP 0 _ _ _ _ hG trivial)
      exact (oz958 w100 w24 w43 w5 w62 w81 z2.1 z2.2).elim
    ·
      subst eg3
      have z119 : ¬ (((1 : Int32).toInt ≤ x3.toInt) ∧ (x3.toInt ≤ (8 : Int32).toInt)) := hg3
      first | refine ft_go mi_k81 2 18 [(0, .ref 0), (1, .int x1), (2, .int x2), (3, .int x3)] [.int (-1)] i a q r (by rfl) ?_ | refine ko_steps mi_in81 2 _ (18, [(0, .ref 0), (1, .int x1), (2, .int x2), (3, .int x3)], [.int (-1)], (0, 0), ks i a q r) (by rfl) ?_
      exact ft_ret mi_k81 (by rfl) (hP (-1) _ _ _ _ hG trivial)
  ·
    subst eg1
    have z120 : ¬ (((0 : Int) ≤ x1.toInt) ∧ (x1.toInt ≤ 5)) := hg1
    first | refine ft_go mi_k81 2 18 [(0, .ref 0), (1, .int x1), (2, .int x2), (3, .int x3)] [.int (-1)] i a q r (by rfl) ?_ | refine ko_steps mi_in81 2 _ (18, [(0, .ref 0), (1, .int x1), (2, .int x2), (3, .int x3)], [.int (-1)], (0, 0), ks i a q r) (by rfl) ?_
    exact ft_ret mi_k81 (by rfl) (hP (-1) _ _ _ _ hG trivial)

