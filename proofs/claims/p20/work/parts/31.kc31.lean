theorem kn121 : (121 : Int32).toInt = 121 := by decide
theorem oz905 {a0 a1 : Int} (h0 : a0 < a1) (h1 : (0 : Int) ≤ a0) (h2 : a1 = 0) : False := by omega
theorem oz907 {a0 a1 : Int} (h0 : a0 < a1) (h1 : a1 = 48) : ¬ (((48 : Int) ≤ a0) ∧ (a0 ≤ 57)) := by omega
theorem oz908 {a0 a1 : Int} (h0 : a0 < a1) (h1 : a0 = 57) : ¬ (((48 : Int) ≤ a1) ∧ (a1 ≤ 57)) := by omega
theorem oz909 {a0 a1 a2 : Int} (h0 : a0 ≤ a1) (h1 : a1 ≤ a2) (h2 : a0 = 48) (h3 : a2 = 57) : ((48 : Int) ≤ a1) ∧ (a1 ≤ 57) := by omega
theorem oz910 {a0 a1 a2 : Int} (h0 : a0 ≤ a1) (h1 : a0 = 121) (h2 : a2 = 1) : (-2147483648 : Int) ≤ a1 - a2 := by omega
theorem oz911 {a0 a1 : Int} (h0 : a0 ≤ 121) (h1 : a1 = 1) : a0 - a1 ≤ 2147483647 := by omega
theorem oz912 {a0 a1 : Int} (h0 : a0 < a1) (h1 : a1 = 121) : a0 < 121 := by omega
theorem oz913 {a0 a1 : Int} (h0 : a0 ≤ 121) (h1 : a1 = 1) : a0 + a1 ≤ 2147483647 := by omega
theorem oz914 {a0 a1 a2 a3 : Int} (h0 : a0 < a1) (h1 : a2 = a0 + a3) (h2 : a1 = 121) (h3 : a3 = 1) : a2 ≤ 121 := by omega
theorem oz915 {a0 a1 a2 : Int} (h0 : (0 : Int) ≤ a0) (h1 : a1 = a0 + a2) (h2 : a2 = 1) : (-2147483648 : Int) ≤ a1 - a2 := by omega
theorem oz916 {a0 a1 a2 : Int} (h0 : a0 ≤ 121) (h1 : a1 = a0 + a2) (h2 : a2 = 1) : a1 - a2 ≤ 2147483647 := by omega
theorem oz925 {a0 a1 a2 : Int} (h0 : a0 < a1) (h1 : (a0 + a2) = 6) (h2 : a1 = 6) : (1 : Int) ≤ a2 := by omega
theorem oz926 {a0 a1 a2 a3 a4 : Int} (h0 : a0 = a1 + 1) (h1 : (0 : Int) ≤ a2) (h2 : (a2 + a0) = 6) (h3 : a3 = a2 + a4) (h4 : a4 = 1) : ((0 : Int) ≤ a3) ∧ ((a3 + a1) = 6) := by omega
theorem oz927 {a0 a1 a2 a3 a4 a5 : Int} (h0 : a0 = a1) (h1 : a2 ≤ 120) (h2 : (0 : Int) ≤ a1) (h3 : a3 = a4 + a5) (h4 : (a0 = (-1)) ∨ (a4 < a2)) (h5 : a5 = 1) : a3 ≤ 120 := by omega
theorem oz928 {a0 a1 : Int} (h0 : (0 : Int) ≤ a0) (h1 : (a0 + a1) = 6) : ((0 : Int) ≤ a0) ∧ ((a0 + a1) = 6) := by omega
theorem oz929 {a0 a1 a2 : Int} (h0 : a0 < a1) (h1 : a1 ≤ 120) (h2 : a2 = 1) : a0 + a2 ≤ 2147483647 := by omega
theorem oz933 {a0 a1 a2 a3 a4 a5 a6 : Int} (h0 : a0 = a1) (h1 : a2 = a3) (h2 : a1 = a2) (h3 : a4 = a5 + a6) (h4 : a6 = 1) : (a0 - a4) < (a3 - a5) := by omega
theorem oz936 {a0 a1 : Int} (h0 : a0 < a1) (h1 : a1 = 8) : a0 < 8 := by omega
theorem oz937 {a0 a1 a2 a3 : Int} (h0 : a0 < a1) (h1 : a2 = a0 + a3) (h2 : a1 = 8) (h3 : a3 = 1) : a2 ≤ 8 := by omega
theorem oz938 {a0 a1 a2 : Int} (h0 : a0 ≤ 8) (h1 : a1 = a0 + a2) (h2 : a2 = 1) : a1 - a2 ≤ 2147483647 := by omega
theorem oz940 {a0 a1 a2 a3 : Int} (h0 : a0 ≠ a1) (h1 : a0 ≤ 2) (h2 : a1 = 2) : ¬ ((a0 = 2) ∧ (a2 = a3)) := by omega
theorem oz941 {a0 a1 a2 : Int} (h0 : a0 ≠ a1) : ¬ ((a2 = 2) ∧ (a0 = a1)) := by omega
theorem oz942 {a0 a1 a2 a3 : Int} (h0 : a0 = a1) (h1 : a2 = a3) (h2 : a0 ≤ 2) (h3 : a1 = 2) : (a0 = 2) ∧ (a2 = a3) := by omega
theorem oz943 {a0 : Int} (h0 : (0 : Int) ≤ a0) : (-2147483648 : Int) ≤ 3 * a0 := by omega
theorem oz944 {a0 a1 a2 : Int} (h0 : a0 < a1) (h1 : a1 ≤ a2) (h2 : a2 = 8) : 3 * a0 ≤ 2147483647 := by omega
theorem oz945 {a0 a1 a2 a3 : Int} (h0 : (0 : Int) ≤ a0) (h1 : a1 = 3 * a0) (h2 : a2 ≤ a3) (h3 : a2 = 0) : (-2147483648 : Int) ≤ a3 + a1 := by omega
theorem oz946 {a0 a1 a2 a3 a4 a5 : Int} (h0 : a0 < a1) (h1 : a2 = 3 * a0) (h2 : a3 ≤ a4) (h3 : a1 ≤ a5) (h4 : a4 = 60) (h5 : a5 = 8) : a3 + a2 ≤ 2147483647 := by omega
theorem oz947 {a0 a1 a2 : Int} (h0 : a0 ≤ a1) (h1 : a0 = 0) (h2 : a2 = 2) : (-2147483648 : Int) ≤ a1 + a2 := by omega
theorem oz948 {a0 a1 : Int} (h0 : a0 ≤ 1000) (h1 : a1 = 2) : a0 + a1 ≤ 2147483647 := by omega
theorem oz949 {a0 a1 a2 a3 : Int} (h0 : a0 < a1) (h1 : a1 ≤ 60) (h2 : a0 = a2 + a3) (h3 : a3 = 2) : a2 < 60 := by omega
theorem oz950 {a0 a1 a2 : Int} (h0 : a0 ≤ a1) (h1 : a0 = 0) (h2 : a2 = 1) : (-2147483648 : Int) ≤ a1 + a2 := by omega
theorem oz951 {a0 a1 : Int} (h0 : a0 ≤ 1000) (h1 : a1 = 1) : a0 + a1 ≤ 2147483647 := by omega
theorem oz952 {a0 a1 a2 a3 : Int} (h0 : a0 ≤ a1) (h1 : a2 = a1 + a3) (h2 : a0 = 0) (h3 : a3 = 1) : (0 : Int) ≤ a2 := by omega
theorem oz953 {a0 a1 a2 a3 a4 a5 : Int} (h0 : a0 < a1) (h1 : a1 ≤ 60) (h2 : a0 = a2 + a3) (h3 : a4 = a2 + a5) (h4 : a3 = 2) (h5 : a5 = 1) : a4 < 60 := by omega
theorem oz954 {a0 a1 a2 a3 : Int} (h0 : a0 ≤ a1) (h1 : a2 = a1 + a3) (h2 : a0 = 0) (h3 : a3 = 2) : (0 : Int) ≤ a2 := by omega
theorem oz955 {a0 a1 a2 a3 a4 a5 a6 : Int} (h0 : a0 < a1) (h1 : a2 = 3 * a0) (h2 : a3 = a4 + a2) (h3 : a4 ≤ a5) (h4 : a1 ≤ a6) (h5 : a5 = 60) (h6 : a6 = 8) : a3 ≤ 1000 := by omega
theorem oz956 {a0 a1 a2 a3 a4 a5 : Int} (h0 : a0 < a1) (h1 : a2 = 3 * a0) (h2 : a1 ≤ a3) (h3 : a4 ≤ a5) (h4 : a3 = 8) (h5 : a5 = 60) : a4 + a2 ≤ 2147483647 := by omega
theorem oz957 {a0 a1 a2 a3 a4 a5 a6 : Int} (h0 : a0 < a1) (h1 : a2 = 3 * a0) (h2 : a3 = a4 + a2) (h3 : a1 ≤ a5) (h4 : a4 ≤ a6) (h5 : a5 = 8) (h6 : a6 = 60) : a3 ≤ 1000 := by omega
set_option maxRecDepth 100000 in
theorem kc56 {i : Nat → Int32} {a : Nat → List Int32} {q : Nat → List Int64} {r : Nat → Nat} (hI : kI i a q) (hr : kr r) (x1 : Int32) : km 1 56 [.int x1] (ks i a q r) (kPI (ks i a q r) (fun v => (v = 1 ∧ (((48 : Int) ≤ x1.toInt) ∧ (x1.toInt ≤ 57))) ∨ (v = 0 ∧ (¬ (((48 : Int) ≤ x1.toInt) ∧ (x1.toInt ≤ 57)))))) := by
  have hG := kG_self kW0 hI hr
  refine km_ofPI (q := (mi_h56, mi_c56)) rfl (by decide) (Nat.le_of_ble_eq_true rfl) ?_
  intro P hP
  refine ft_go mi_k56 2 3 [(0, .int x1)] [.int 48, .int x1] i a q r (by rfl) ?_
  refine ft_if mi_k56 (decide (x1 < 48)) 16 6 [(0, .int x1)] [] (by rfl) (fun c => ?_) (fun c => ?_)
  ·
    have c1 : x1.toInt < (48 : Int32).toInt := kd_lt c; clear c
    refine ft_go mi_k56 1 17 [(0, .int x1)] [.int 0] i a q r (by rfl) ?_
    exact ft_ret mi_k56 (by rfl) (hP 0 (Or.inr ⟨rfl, (oz907 c1 kn48)⟩))
  ·
    have c2 : (48 : Int32).toInt ≤ x1.toInt := kd_ltF c; clear c
    refine ft_go mi_k56 2 9 [(0, .int x1)] [.int 57, .int x1] i a q r (by rfl) ?_
    refine ft_if mi_k56 (decide (57 < x1)) 16 12 [(0, .int x1)] [] (by rfl) (fun c => ?_) (fun c => ?_)
    ·
      have c3 : (57 : Int32).toInt < x1.toInt := kd_lt c; clear c
      refine ft_go mi_k56 1 17 [(0, .int x1)] [.int 0] i a q r (by rfl) ?_
      exact ft_ret mi_k56 (by rfl) (hP 0 (Or.inr ⟨rfl, (oz908 c3 kn57)⟩))
    ·
      have c4 : x1.toInt ≤ (57 : Int32).toInt := kd_ltF c; clear c
      refine ft_go mi_k56 2 17 [(0, .int x1)] [.int 1] i a q r (by rfl) ?_
      exact ft_ret mi_k56 (by rfl) (hP 1 (Or.inl ⟨rfl, (oz909 c2 c4 kn48 kn57)⟩))
set_option maxRecDepth 100000 in
theorem kc231_S10 {i : Nat → Int32} {a : Nat → List Int32} {q : Nat → List Int64} {r : Nat → Nat} (hI : kI i a q) (hr : kr r)  : km 1 231 [.ref (mi_RO + 10)] (ks i a q r) (kPI (ks i a q r) (fun v => (v = 1 ∧ (True)) ∨ (v = 0 ∧ ((2 : Int) ≤ 1)))) := by
  have hG := kG_self kW0 hI hr
  refine km_ofPI (q := (mi_h231, mi_c231)) rfl (by decide) (Nat.le_of_ble_eq_true rfl) ?_
  intro P hP
  refine ft_go mi_k231 7 18 [(0, .ref (mi_RO + 10))] [.int 1] i a q r (by rfl) ?_
  exact ft_ret mi_k231 (by rfl) (hP 1 (Or.inl ⟨rfl, trivial⟩))
set_option maxRecDepth 100000 in
theorem kc231_S11 {i : Nat → Int32} {a : Nat → List Int32} {q : Nat → List Int64} {r : Nat → Nat} (hI : kI i a q) (hr : kr r)  : km 1 231 [.ref (mi_RO + 11)] (ks i a q r) (kPI (ks i a q r) (fun v => (v = 1 ∧ (True)) ∨ (v = 0 ∧ ((2 : Int) ≤ 1)))) := by
  have hG := kG_self kW0 hI hr
  refine km_ofPI (q := (mi_h231, mi_c231)) rfl (by decide) (Nat.le_of_ble_eq_true rfl) ?_
  intro P hP
  refine ft_go mi_k231 7 18 [(0, .ref (mi_RO + 11))] [.int 1] i a q r (by rfl) ?_
  exact ft_ret mi_k231 (by rfl) (hP 1 (Or.inl ⟨rfl, trivial⟩))
set_option maxRecDepth 100000 in
theorem kc231_S12 {i : Nat → Int32} {a : Nat → List Int32} {q : Nat → List Int64} {r : Nat → Nat} (hI : kI i a q) (hr : kr r)  : km 1 231 [.ref (mi_RO + 12)] (ks i a q r) (kPI (ks i a q r) (fun v => (v = 1 ∧ (True)) ∨ (v = 0 ∧ ((2 : Int) ≤ 1)))) := by
  have hG := kG_self kW0 hI hr
  refine km_ofPI (q := (mi_h231, mi_c231)) rfl (by decide) (Nat.le_of_ble_eq_true rfl) ?_
  intro P hP
  refine ft_go mi_k231 7 18 [(0, .ref (mi_RO + 12))] [.int 1] i a q r (by rfl) ?_
  exact ft_ret mi_k231 (by rfl) (hP 1 (Or.inl ⟨rfl, trivial⟩))
set_option maxRecDepth 100000 in
theorem kc231_S13 {i : Nat → Int32} {a : Nat → List Int32} {q : Nat → List Int64} {r : Nat → Nat} (hI : kI i a q) (hr : kr r)  : km 1 231 [.ref (mi_RO + 13)] (ks i a q r) (kPI (ks i a q r) (fun v => (v = 1 ∧ (True)) ∨ (v = 0 ∧ ((2 : Int) ≤ 1)))) := by
  have hG := kG_self kW0 hI hr
  refine km_ofPI (q := (mi_h231, mi_c231)) rfl (by decide) (Nat.le_of_ble_eq_true rfl) ?_
  intro P hP
  refine ft_go mi_k231 7 18 [(0, .ref (mi_RO + 13))] [.int 1] i a q r (by rfl) ?_
  exact ft_ret mi_k231 (by rfl) (hP 1 (Or.inl ⟨rfl, trivial⟩))
set_option maxRecDepth 100000 in
theorem kc231_S14 {i : Nat → Int32} {a : Nat → List Int32} {q : Nat → List Int64} {r : Nat → Nat} (hI : kI i a q) (hr : kr r)  : km 1 231 [.ref (mi_RO + 14)] (ks i a q r) (kPI (ks i a q r) (fun v => (v = 1 ∧ (True)) ∨ (v = 0 ∧ ((2 : Int) ≤ 1)))) := by
  have hG := kG_self kW0 hI hr
  refine km_ofPI (q := (mi_h231, mi_c231)) rfl (by decide) (Nat.le_of_ble_eq_true rfl) ?_
  intro P hP
  refine ft_go mi_k231 7 18 [(0, .ref (mi_RO + 14))] [.int 1] i a q r (by rfl) ?_
  exact ft_ret mi_k231 (by rfl) (hP 1 (Or.inl ⟨rfl, trivial⟩))
set_option maxRecDepth 100000 in
theorem kc120 {i : Nat → Int32} {a : Nat → List Int32} {q : Nat → List Int64} {r : Nat → Nat} (hI : kI i a q) (hr : kr r) (x1 : Int32) (x2 : Int32) (x3 : Int32) : km 1 120 [.int x1, .int x2, .int x3] (ks i a q r) (kPI (ks i a q r) (fun v => (v = 1 ∧ ((x2.toInt ≤ x1.toInt) ∧ (x1.toInt ≤ x3.toInt))) ∨ (v = 0 ∧ (¬ ((x2.toInt ≤ x1.toInt) ∧ (x1.toInt ≤ x3.toInt)))))) := by
  have hG := kG_self kW0 hI hr
  refine km_ofPI (q := (mi_h120, mi_c120)) rfl (by decide) (Nat.le_of_ble_eq_true rfl) ?_
  intro P hP
  refine ft_go mi_k120 2 2 [(0, .int x1), (1, .int x2), (2, .int x3)] [.int x2, .int x1] i a q r (by rfl) ?_
  refine ft_if mi_k120 (decide (x1 < x2)) 14 5 [(0, .int x1), (1, .int x2), (2, .int x3)] [] (by rfl) (fun c => ?_) (fun c => ?_)
  ·
    have c1 : x1.toInt < x2.toInt := kd_lt c; clear c
    refine ft_go mi_k120 1 15 [(0, .int x1), (1, .int x2), (2, .int x3)] [.int 0] i a q r (by rfl) ?_
    exact ft_ret mi_k120 (by rfl) (hP 0 (Or.inr ⟨rfl, (oz0 c1)⟩))
  ·
    have c2 : x2.toInt ≤ x1.toInt := kd_ltF c; clear c
    refine ft_go mi_k120 2 7 [(0, .int x1), (1, .int x2), (2, .int x3)] [.int x3, .int x1] i a q r (by rfl) ?_
    refine ft_if mi_k120 (decide (x3 < x1)) 14 10 [(0, .int x1), (1, .int x2), (2, .int x3)] [] (by rfl) (fun c => ?_) (fun c => ?_)
    ·
      have c3 : x3.toInt < x1.toInt := kd_lt c; clear c
      refine ft_go mi_k120 1 15 [(0, .int x1), (1, .int x2), (2, .int x3)] [.int 0] i a q r (by rfl) ?_
      exact ft_ret mi_k120 (by rfl) (hP 0 (Or.inr ⟨rfl, (oz1 c3)⟩))
    ·
      have c4 : x1.toInt ≤ x3.toInt := kd_ltF c; clear c
      refine ft_go mi_k120 2 15 [(0, .int x1), (1, .int x2), (2, .int x3)] [.int 1] i a q r (by rfl) ?_
      exact ft_ret mi_k120 (by rfl) (hP 1 (Or.inl ⟨rfl, (oz2 c2 c4)⟩))
set_option maxRecDepth 100000 in
theorem kc121 {i : Nat → Int32} {a : Nat → List Int32} {q : Nat → List Int64} {r : Nat → Nat} (hI : kI i a q) (hr : kr r) (x1 : Int32) : km 3 121 [.int x1] (ks i a q r) (kPI (ks i a q r) (fun v => (v = 1 ∧ (((0 : Int) ≤ x1.toInt) ∧ (x1.toInt ≤ 5))) ∨ (v = 0 ∧ (¬ (((0 : Int) ≤ x1.toInt) ∧ (x1.toInt ≤ 5)))))) := by
  have hG := kG_self kW0 hI hr
  refine km_ofPI (q := (mi_h121, mi_c121)) rfl (by decide) (Nat.le_of_ble_eq_true rfl) ?_
  intro P hP
  refine ft_go mi_k121 3 3 [(0, .int x1)] [.int 5, .int 0, .int x1] i a q r (by rfl) ?_
  refine ko_callPI mi_k121.1 (pc := 3) (ls := [(0, .int x1)]) (st := [.int 5, .int 0, .int x1]) (h := ks i a q r) (i := (.invokestatic 74, 3, 120, 0, 9, 0, 152)) (mi_k121.2 _ _ (by rfl)) (ft_invS mi_pq120 (by rfl)) (cy := mi_c120) mi_pq120 rfl (kc120 hG.I hG.R x1 0 5) (by decide) ?_
  intro vg1 hg1
  rcases hg1 with ⟨eg1, hg1⟩ | ⟨eg1, hg1⟩
  ·
    subst eg1
    have z2 : ((0 : Int32).toInt ≤ x1.toInt) ∧ (x1.toInt ≤ (5 : Int32).toInt) := hg1
    exact ft_ret mi_k121 (by rfl) (hP 1 (Or.inl ⟨rfl, (oz17 z2.1 z2.2 kn0 kn5)⟩))
  ·
    subst eg1
    have z3 : ¬ (((0 : Int32).toInt ≤ x1.toInt) ∧ (x1.toInt ≤ (5 : Int32).toInt)) := hg1
    exact ft_ret mi_k121 (by rfl) (hP 0 (Or.inr ⟨rfl, (oz18 z3 kn0 kn5)⟩))
set_option maxRecDepth 100000 in
theorem kc36_104 {i : Nat → Int32} {a : Nat → List Int32} {q : Nat → List Int64} {r : Nat → Nat} (hI : kI i a q) (hr : kr r) (x1 : Int32) : km 1 36 [.ref 104, .int x1] (ks i a q r) (kPI (ks i a q r) (fun v => (v = 1 ∧ (((i 6656).toInt = 2) ∧ ((i 6658).toInt = x1.toInt))) ∨ (v = 0 ∧ (¬ (((i 6656).toInt = 2) ∧ ((i 6658).toInt = x1.toInt)))))) := by
  have hG := kG_self kW0 hI hr
  refine km_ofPI (q := (mi_h36, mi_c36)) rfl (by decide) (Nat.le_of_ble_eq_true rfl) ?_
  intro P hP
  have fi_6656 : ((0 : Int) ≤ (i 6656).toInt) ∧ ((i 6656).toInt ≤ 2) := hG.I.1 6656
  refine ft_go mi_k36 3 5 [(0, .ref 104), (1, .int x1)] [.int 2, .int (i 6656)] i a q r (by rfl) ?_
  refine ft_if mi_k36 ((i 6656) != 2) 20 8 [(0, .ref 104), (1, .int x1)] [] (by rfl) (fun c => ?_) (fun c => ?_)
  ·
    have c1 : (i 6656).toInt ≠ (2 : Int32).toInt := kd_ne c; clear c
    refine ft_go mi_k36 1 21 [(0, .ref 104), (1, .int x1)] [.int 0] i a q r (by rfl) ?_
    exact ft_ret mi_k36 (by rfl) (hP 0 (Or.inr ⟨rfl, (oz940 c1 fi_6656.2 kn2)⟩))
  ·
    have c2 : (i 6656).toInt = (2 : Int32).toInt := kd_neF c; clear c
    refine ft_go mi_k36 3 13 [(0, .ref 104), (1, .int x1)] [.int x1, .int (i 6658)] i a q r (by rfl) ?_
    refine ft_if mi_k36 ((i 6658) != x1) 20 16 [(0, .ref 104), (1, .int x1)] [] (by rfl) (fun c => ?_) (fun c => ?_)
    ·
      have c3 : (i 6658).toInt ≠ x1.toInt := kd_ne c; clear c
      refine ft_go mi_k36 1 21 [(0, .ref 104), (1, .int x1)] [.int 0] i a q r (by rfl) ?_
      exact ft_ret mi_k36 (by rfl) (hP 0 (Or.inr ⟨rfl, (oz941 c3)⟩))
    ·
      have c4 : (i 6658).toInt = x1.toInt := kd_neF c; clear c
      refine ft_go mi_k36 2 21 [(0, .ref 104), (1, .int x1)] [.int 1] i a q r (by rfl) ?_
      exact ft_ret mi_k36 (by rfl) (hP 1 (Or.inl ⟨rfl, (oz942 c2 c4 fi_6656.2 kn2)⟩))
set_option maxRecDepth 100000 in
theorem kc36_106 {i : Nat → Int32} {a : Nat → List Int32} {q : Nat → List Int64} {r : Nat → Nat} (hI : kI i a q) (hr : kr r) (x1 : Int32) : km 1 36 [.ref 106, .int x1] (ks i a q r) (kPI (ks i a q r) (fun v => (v = 1 ∧ (((i 6784).toInt = 2) ∧ ((i 6786).toInt = x1.toInt))) ∨ (v = 0 ∧ (¬ (((i 6784).toInt = 2) ∧ ((i 6786).toInt = x1.toInt)))))) := by
  have hG := kG_self kW0 hI hr
  refine km_ofPI (q := (mi_h36, mi_c36)) rfl (by decide) (Nat.le_of_ble_eq_true rfl) ?_
  intro P hP
  have fi_6784 : ((0 : Int) ≤ (i 6784).toInt) ∧ ((i 6784).toInt ≤ 2) := hG.I.1 6784
  refine ft_go mi_k36 3 5 [(0, .ref 106), (1, .int x1)] [.int 2, .int (i 6784)] i a q r (by rfl) ?_
  refine ft_if mi_k36 ((i 6784) != 2) 20 8 [(0, .ref 106), (1, .int x1)] [] (by rfl) (fun c => ?_) (fun c => ?_)
  ·
    have c1 : (i 6784).toInt ≠ (2 : Int32).toInt := kd_ne c; clear c
    refine ft_go mi_k36 1 21 [(0, .ref 106), (1, .int x1)] [.int 0] i a q r (by rfl) ?_
    exact ft_ret mi_k36 (by rfl) (hP 0 (Or.inr ⟨rfl, (oz940 c1 fi_6784.2 kn2)⟩))
  ·
    have c2 : (i 6784).toInt = (2 : Int32).toInt := kd_neF c; clear c
    refine ft_go mi_k36 3 13 [(0, .ref 106), (1, .int x1)] [.int x1, .int (i 6786)] i a q r (by rfl) ?_
    refine ft_if mi_k36 ((i 6786) != x1) 20 16 [(0, .ref 106), (1, .int x1)] [] (by rfl) (fun c => ?_) (fun c => ?_)
    ·
      have c3 : (i 6786).toInt ≠ x1.toInt := kd_ne c; clear c
      refine ft_go mi_k36 1 21 [(0, .ref 106), (1, .int x1)] [.int 0] i a q r (by rfl) ?_
      exact ft_ret mi_k36 (by rfl) (hP 0 (Or.inr ⟨rfl, (oz941 c3)⟩))
    ·
      have c4 : (i 6786).toInt = x1.toInt := kd_neF c; clear c
      refine ft_go mi_k36 2 21 [(0, .ref 106), (1, .int x1)] [.int 1] i a q r (by rfl) ?_
      exact ft_ret mi_k36 (by rfl) (hP 1 (Or.inl ⟨rfl, (oz942 c2 c4 fi_6784.2 kn2)⟩))
set_option maxRecDepth 100000 in
theorem kc36_108 {i : Nat → Int32} {a : Nat → List Int32} {q : Nat → List Int64} {r : Nat → Nat} (hI : kI i a q) (hr : kr r) (x1 : Int32) : km 1 36 [.ref 108, .int x1] (ks i a q r) (kPI (ks i a q r) (fun v => (v = 1 ∧ (((i 6912).toInt = 2) ∧ ((i 6914).toInt = x1.toInt))) ∨ (v = 0 ∧ (¬ (((i 6912).toInt = 2) ∧ ((i 6914).toInt = x1.toInt)))))) := by
  have hG := kG_self kW0 hI hr
  refine km_ofPI (q := (mi_h36, mi_c36)) rfl (by decide) (Nat.le_of_ble_eq_true rfl) ?_
  intro P hP
  have fi_6912 : ((0 : Int) ≤ (i 6912).toInt) ∧ ((i 6912).toInt ≤ 2) := hG.I.1 6912
  refine ft_go mi_k36 3 5 [(0, .ref 108), (1, .int x1)] [.int 2, .int (i 6912)] i a q r (by rfl) ?_
  refine ft_if mi_k36 ((i 6912) != 2) 20 8 [(0, .ref 108), (1, .int x1)] [] (by rfl) (fun c => ?_) (fun c => ?_)
  ·
    have c1 : (i 6912).toInt ≠ (2 : Int32).toInt := kd_ne c; clear c
    refine ft_go mi_k36 1 21 [(0, .ref 108), (1, .int x1)] [.int 0] i a q r (by rfl) ?_
    exact ft_ret mi_k36 (by rfl) (hP 0 (Or.inr ⟨rfl, (oz940 c1 fi_6912.2 kn2)⟩))
  ·
    have c2 : (i 6912).toInt = (2 : Int32).toInt := kd_neF c; clear c
    refine ft_go mi_k36 3 13 [(0, .ref 108), (1, .int x1)] [.int x1, .int (i 6914)] i a q r (by rfl) ?_
    refine ft_if mi_k36 ((i 6914) != x1) 20 16 [(0, .ref 108), (1, .int x1)] [] (by rfl) (fun c => ?_) (fun c => ?_)
    ·
      have c3 : (i 6914).toInt ≠ x1.toInt := kd_ne c; clear c
      refine ft_go mi_k36 1 21 [(0, .ref 108), (1, .int x1)] [.int 0] i a q r (by rfl) ?_
      exact ft_ret mi_k36 (by rfl) (hP 0 (Or.inr ⟨rfl, (oz941 c3)⟩))
    ·
      have c4 : (i 6914).toInt = x1.toInt := kd_neF c; clear c
      refine ft_go mi_k36 2 21 [(0, .ref 108), (1, .int x1)] [.int 1] i a q r (by rfl) ?_
      exact ft_ret mi_k36 (by rfl) (hP 1 (Or.inl ⟨rfl, (oz942 c2 c4 fi_6912.2 kn2)⟩))
set_option maxRecDepth 100000 in
theorem kc36_110 {i : Nat → Int32} {a : Nat → List Int32} {q : Nat → List Int64} {r : Nat → Nat} (hI : kI i a q) (hr : kr r) (x1 : Int32) : km 1 36 [.ref 110, .int x1] (ks i a q r) (kPI (ks i a q r) (fun v => (v = 1 ∧ (((i 7040).toInt = 2) ∧ ((i 7042).toInt = x1.toInt))) ∨ (v = 0 ∧ (¬ (((i 7040).toInt = 2) ∧ ((i 7042).toInt = x1.toInt)))))) := by
  have hG := kG_self kW0 hI hr
  refine km_ofPI (q := (mi_h36, mi_c36)) rfl (by decide) (Nat.le_of_ble_eq_true rfl) ?_
  intro P hP
  have fi_7040 : ((0 : Int) ≤ (i 7040).toInt) ∧ ((i 7040).toInt ≤ 2) := hG.I.1 7040
  refine ft_go mi_k36 3 5 [(0, .ref 110), (1, .int x1)] [.int 2, .int (i 7040)] i a q r (by rfl) ?_
  refine ft_if mi_k36 ((i 7040) != 2) 20 8 [(0, .ref 110), (1, .int x1)] [] (by rfl) (fun c => ?_) (fun c => ?_)
  ·
    have c1 : (i 7040).toInt ≠ (2 : Int32).toInt := kd_ne c; clear c
    refine ft_go mi_k36 1 21 [(0, .ref 110), (1, .int x1)] [.int 0] i a q r (by rfl) ?_
    exact ft_ret mi_k36 (by rfl) (hP 0 (Or.inr ⟨rfl, (oz940 c1 fi_7040.2 kn2)⟩))
  ·
    have c2 : (i 7040).toInt = (2 : Int32).toInt := kd_neF c; clear c
    refine ft_go mi_k36 3 13 [(0, .ref 110), (1, .int x1)] [.int x1, .int (i 7042)] i a q r (by rfl) ?_
    refine ft_if mi_k36 ((i 7042) != x1) 20 16 [(0, .ref 110), (1, .int x1)] [] (by rfl) (fun c => ?_) (fun c => ?_)
    ·
      have c3 : (i 7042).toInt ≠ x1.toInt := kd_ne c; clear c
      refine ft_go mi_k36 1 21 [(0, .ref 110), (1, .int x1)] [.int 0] i a q r (by rfl) ?_
      exact ft_ret mi_k36 (by rfl) (hP 0 (Or.inr ⟨rfl, (oz941 c3)⟩))
    ·
      have c4 : (i 7042).toInt = x1.toInt := kd_neF c; clear c
      refine ft_go mi_k36 2 21 [(0, .ref 110), (1, .int x1)] [.int 1] i a q r (by rfl) ?_
      exact ft_ret mi_k36 (by rfl) (hP 1 (Or.inl ⟨rfl, (oz942 c2 c4 fi_7040.2 kn2)⟩))
set_option maxRecDepth 100000 in
theorem kc36_112 {i : Nat → Int32} {a : Nat → List Int32} {q : Nat → List Int64} {r : Nat → Nat} (hI : kI i a q) (hr : kr r) (x1 : Int32) : km 1 36 [.ref 112, .int x1] (ks i a q r) (kPI (ks i a q r) (fun v => (v = 1 ∧ (((i 7168).toInt = 2) ∧ ((i 7170).toInt = x1.toInt))) ∨ (v = 0 ∧ (¬ (((i 7168).toInt = 2) ∧ ((i 7170).toInt = x1.toInt)))))) := by
  have hG := kG_self kW0 hI hr
  refine km_ofPI (q := (mi_h36, mi_c36)) rfl (by decide) (Nat.le_of_ble_eq_true rfl) ?_
  intro P hP
  have fi_7168 : ((0 : Int) ≤ (i 7168).toInt) ∧ ((i 7168).toInt ≤ 2) := hG.I.1 7168
  refine ft_go mi_k36 3 5 [(0, .ref 112), (1, .int x1)] [.int 2, .int (i 7168)] i a q r (by rfl) ?_
  refine ft_if mi_k36 ((i 7168) != 2) 20 8 [(0, .ref 112), (1, .int x1)] [] (by rfl) (fun c => ?_) (fun c => ?_)
  ·
    have c1 : (i 7168).toInt ≠ (2 : Int32).toInt := kd_ne c; clear c
    refine ft_go mi_k36 1 21 [(0, .ref 112), (1, .int x1)] [.int 0] i a q r (by rfl) ?_
    exact ft_ret mi_k36 (by rfl) (hP 0 (Or.inr ⟨rfl, (oz940 c1 fi_7168.2 kn2)⟩))
  ·
    have c2 : (i 7168).toInt = (2 : Int32).toInt := kd_neF c; clear c
    refine ft_go mi_k36 3 13 [(0, .ref 112), (1, .int x1)] [.int x1, .int (i 7170)] i a q r (by rfl) ?_
    refine ft_if mi_k36 ((i 7170) != x1) 20 16 [(0, .ref 112), (1, .int x1)] [] (by rfl) (fun c => ?_) (fun c => ?_)
    ·
      have c3 : (i 7170).toInt ≠ x1.toInt := kd_ne c; clear c
      refine ft_go mi_k36 1 21 [(0, .ref 112), (1, .int x1)] [.int 0] i a q r (by rfl) ?_
      exact ft_ret mi_k36 (by rfl) (hP 0 (Or.inr ⟨rfl, (oz941 c3)⟩))
    ·
      have c4 : (i 7170).toInt = x1.toInt := kd_neF c; clear c
      refine ft_go mi_k36 2 21 [(0, .ref 112), (1, .int x1)] [.int 1] i a q r (by rfl) ?_
      exact ft_ret mi_k36 (by rfl) (hP 1 (Or.inl ⟨rfl, (oz942 c2 c4 fi_7168.2 kn2)⟩))
set_option maxRecDepth 100000 in
theorem kc36_114 {i : Nat → Int32} {a : Nat → List Int32} {q : Nat → List Int64} {r : Nat → Nat} (hI : kI i a q) (hr : kr r) (x1 : Int32) : km 1 36 [.ref 114, .int x1] (ks i a q r) (kPI (ks i a q r) (fun v => (v = 1 ∧ (((i 7296).toInt = 2) ∧ ((i 7298).toInt = x1.toInt))) ∨ (v = 0 ∧ (¬ (((i 7296).toInt = 2) ∧ ((i 7298).toInt = x1.toInt)))))) := by
  have hG := kG_self kW0 hI hr
  refine km_ofPI (q := (mi_h36, mi_c36)) rfl (by decide) (Nat.le_of_ble_eq_true rfl) ?_
  intro P hP
  have fi_7296 : ((0 : Int) ≤ (i 7296).toInt) ∧ ((i 7296).toInt ≤ 2) := hG.I.1 7296
  refine ft_go mi_k36 3 5 [(0, .ref 114), (1, .int x1)] [.int 2, .int (i 7296)] i a q r (by rfl) ?_
  refine ft_if mi_k36 ((i 7296) != 2) 20 8 [(0, .ref 114), (1, .int x1)] [] (by rfl) (fun c => ?_) (fun c => ?_)
  ·
    have c1 : (i 7296).toInt ≠ (2 : Int32).toInt := kd_ne c; clear c
    refine ft_go mi_k36 1 21 [(0, .ref 114), (1, .int x1)] [.int 0] i a q r (by rfl) ?_
    exact ft_ret mi_k36 (by rfl) (hP 0 (Or.inr ⟨rfl, (oz940 c1 fi_7296.2 kn2)⟩))
  ·
    have c2 : (i 7296).toInt = (2 : Int32).toInt := kd_neF c; clear c
    refine ft_go mi_k36 3 13 [(0, .ref 114), (1, .int x1)] [.int x1, .int (i 7298)] i a q r (by rfl) ?_
    refine ft_if mi_k36 ((i 7298) != x1) 20 16 [(0, .ref 114), (1, .int x1)] [] (by rfl) (fun c => ?_) (fun c => ?_)
    ·
      have c3 : (i 7298).toInt ≠ x1.toInt := kd_ne c; clear c
      refine ft_go mi_k36 1 21 [(0, .ref 114), (1, .int x1)] [.int 0] i a q r (by rfl) ?_
      exact ft_ret mi_k36 (by rfl) (hP 0 (Or.inr ⟨rfl, (oz941 c3)⟩))
    ·
      have c4 : (i 7298).toInt = x1.toInt := kd_neF c; clear c
      refine ft_go mi_k36 2 21 [(0, .ref 114), (1, .int x1)] [.int 1] i a q r (by rfl) ?_
      exact ft_ret mi_k36 (by rfl) (hP 1 (Or.inl ⟨rfl, (oz942 c2 c4 fi_7296.2 kn2)⟩))
