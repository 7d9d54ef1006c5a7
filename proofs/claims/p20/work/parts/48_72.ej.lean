theorem koj1 : (1 : Int32).toInt = 1 := by decide
theorem koj0 : (0 : Int32).toInt = 0 := by decide
theorem koj8 : (8 : Int32).toInt = 8 := by decide
theorem koj3 : (3 : Int32).toInt = 3 := by decide
theorem koj9 : (9 : Int32).toInt = 9 := by decide
theorem koj18 : (18 : Int32).toInt = 18 := by decide
theorem koj999 : (999 : Int32).toInt = 999 := by decide
theorem koj4 : (4 : Int32).toInt = 4 := by decide
theorem oj0 {a0 a1 : Int} (h0 : a0 ≤ a1) (h1 : a0 = 8) : ((8 : Nat) : Int) ≤ a1 := by omega
theorem oj1 {a0 : Int} (h0 : a0 = 3) : (0 : Int) ≤ a0 := oz260 h0
theorem oj2 {a0 : Int} (h0 : a0 = 3) : a0 < 5 := oz550 h0
theorem oj3 {a0 : Int} (h0 : (0 : Int) ≤ a0) : (0 : Int) ≤ a0 := oz3 h0
theorem oj4 {a0 a1 : Int} (h0 : a0 < a1) (h1 : a1 = 8) : a0 < 8 := oz936 h0 h1
theorem oj5 {a0 a1 : Int} (h0 : (0 : Int) ≤ a0) (h1 : a1 = 1) : (-2147483648 : Int) ≤ a0 + a1 := oz12 h0 h1
theorem oj6 {a0 a1 a2 : Int} (h0 : a0 < a1) (h1 : a1 = 8) (h2 : a2 = 1) : a0 + a2 ≤ 2147483647 := oz474 h0 h1 h2
theorem oj7 {a0 a1 a2 : Int} (h0 : (0 : Int) ≤ a0) (h1 : a1 = a0 + a2) (h2 : a2 = 1) : (0 : Int) ≤ a1 := oz14 h0 h1 h2
theorem oj8 {a0 a1 : Int} (h0 : a0 < a1) (h1 : a1 = 8) : a0 < ((8 : Nat) : Int) := by omega
theorem oj9 {a0 a1 a2 : Int} (h0 : a0 = a1 + a2) (h1 : a2 = 1) : a0 = a1 + 1 := oz169 h0 h1
theorem oj10 {a0 a1 a2 : Int} (h0 : a0 = a1 + a2) (h1 : a2 = 1) : (8 - a0) < (8 - a1) := oz475 h0 h1
theorem oj11 {a0 a1 : Int} (h0 : a0 < a1) (h1 : a1 = 8) : (1 : Int) ≤ (8 - a0) := oz476 h0 h1
theorem oj12 {a0 : Int} (h0 : a0 = 0) : (0 : Int) ≤ a0 := oz46 h0
theorem oj13 {a0 : Int} (h0 : a0 = 8) : (0 : Int) ≤ a0 := oz85 h0
theorem oj14 {a0 : Int} (h0 : a0 = 8) : a0 < 31 := oz86 h0
theorem oj15 {a0 a1 : Int} (h0 : a0 = 8) : a0 = 18 → (0 : Int) ≤ a1 ∧ a1 ≤ 5 := oz98 h0
theorem oj16 {a0 a1 : Int} (h0 : a0 = 8) : 19 ≤ a0 → a0 ≤ 24 → (0 : Int) ≤ a1 ∧ a1 ≤ 7 := oz99 h0
theorem oj17 {a0 a1 : Int} (h0 : a0 ≤ a1) (h1 : a1 ≤ 18) (h2 : a0 = 18) : a1 = 18 := by omega
theorem oj18 {a0 : Int} (h0 : (9 : Int) ≤ a0) : (0 : Int) ≤ a0 := oz392 h0
theorem oj19 {a0 : Int} (h0 : a0 ≤ 18) : a0 < 31 := by omega
theorem oj20 {a0 a1 a2 : Int} (h0 : a0 < a1) (h1 : a1 = 18) (h2 : a2 = 0) : a0 = 18 → (0 : Int) ≤ a2 ∧ a2 ≤ 5 := oz394 h0 h1 h2
theorem oj21 {a0 a1 : Int} (h0 : a0 ≤ 18) (h1 : a1 = 0) : 19 ≤ a0 → a0 ≤ 24 → (0 : Int) ≤ a1 ∧ a1 ≤ 7 := by omega
theorem oj22 {a0 a1 : Int} (h0 : (9 : Int) ≤ a0) (h1 : a1 = 1) : (-2147483648 : Int) ≤ a0 + a1 := oz396 h0 h1
theorem oj23 {a0 a1 : Int} (h0 : a0 ≤ 18) (h1 : a1 = 1) : a0 + a1 ≤ 2147483647 := by omega
theorem oj24 {a0 a1 a2 a3 : Int} (h0 : a0 < a1) (h1 : (9 : Int) ≤ a0) (h2 : a2 = a0 + a3) (h3 : a1 = 18) (h4 : a3 = 1) : ((9 : Int) ≤ a2) ∧ (a2 ≤ 18) := by omega
theorem oj25 {a0 : Int} (h0 : (9 : Int) ≤ a0) : (9 : Int) ≤ a0 := by omega
theorem oj26 {a0 a1 a2 : Int} (h0 : a0 = a1 + a2) (h1 : a2 = 1) : (18 - a0) < (18 - a1) := oz399 h0 h1
theorem oj27 {a0 a1 : Int} (h0 : a0 < a1) (h1 : a1 = 18) : (1 : Int) ≤ (18 - a0) := oz400 h0 h1
theorem oj28 {a0 : Int} (h0 : a0 = 9) : ((9 : Int) ≤ a0) ∧ (a0 ≤ 18) := by omega
theorem oj35 {a0 a1 a2 a3 a4 : Int} (h0 : a0 = a1) : ¬ (((0 : Int) ≤ a0) ∧ (a0 < a2) ∧ ((0 : Int) ≤ a1) ∧ (a1 < a2) ∧ (a0 ≠ a1) ∧ ((1 : Int) ≤ a3) ∧ (a3 ≤ 999) ∧ (a3 ≤ a4)) := by omega
theorem oj36 {a0 a1 a2 a3 a4 : Int} (h0 : a0 = a1) : ¬ (((0 : Int) ≤ a0) ∧ (a0 < a2) ∧ ((0 : Int) ≤ a1) ∧ (a1 < a2) ∧ (a0 ≠ a1) ∧ ((1 : Int) ≤ a3) ∧ (a3 ≤ 999) ∧ (a4 < a3)) := by omega
theorem oj40 {a0 a1 : Int} (h0 : a0 ≤ 8) (h1 : a1 < a0) : a1 < 8 := oz974 h0 h1
theorem oj41 {a0 a1 : Int} (h0 : a0 ≤ a1) : (-2147483648 : Int) ≤ a1 - a0 := oz551 h0
theorem oj42 {a0 a1 a2 : Int} (h0 : a0 ≤ 2147483647) (h1 : a1 ≤ a2) (h2 : a1 = 1) : a0 - a2 ≤ 2147483647 := oz552 h0 h1 h2
theorem oj43 {a0 : Int} (h0 : a0 = 4) : (0 : Int) ≤ a0 := oz262 h0
theorem oj44 {a0 : Int} (h0 : a0 = 4) : a0 < 5 := oz555 h0
theorem oj45 {a0 a1 a2 a3 a4 a5 a6 : Int} (h0 : a0 ≠ a1) (h1 : a2 ≤ a3) (h2 : (0 : Int) ≤ a0) (h3 : a0 < a4) (h4 : (0 : Int) ≤ a1) (h5 : a1 < a4) (h6 : a5 ≤ a2) (h7 : a2 ≤ a6) (h8 : a5 = 1) (h9 : a6 = 999) : ¬ (¬ (((0 : Int) ≤ a0) ∧ (a0 < a4) ∧ ((0 : Int) ≤ a1) ∧ (a1 < a4) ∧ (a0 ≠ a1) ∧ ((1 : Int) ≤ a2) ∧ (a2 ≤ 999) ∧ (a2 ≤ a3))) := by omega
theorem oj46 {a0 a1 a2 a3 a4 : Int} (h0 : a0 ≤ a1) : ¬ (((0 : Int) ≤ a2) ∧ (a2 < a3) ∧ ((0 : Int) ≤ a4) ∧ (a4 < a3) ∧ (a2 ≠ a4) ∧ ((1 : Int) ≤ a0) ∧ (a0 ≤ 999) ∧ (a1 < a0)) := by omega
theorem oj47 {a0 a1 a2 a3 a4 a5 : Int} (h0 : a0 ≠ a1) (h1 : (0 : Int) ≤ a0) (h2 : a0 < a2) (h3 : (0 : Int) ≤ a1) (h4 : a1 < a2) (h5 : a3 ≤ a4) (h6 : a4 ≤ a5) (h7 : a3 = 1) (h8 : a5 = 999) : ¬ (¬ (((0 : Int) ≤ a0) ∧ (a0 < a2) ∧ ((0 : Int) ≤ a1) ∧ (a1 < a2) ∧ (a0 ≠ a1) ∧ ((1 : Int) ≤ a4) ∧ (a4 ≤ 999))) := by omega
theorem oj48 {a0 a1 a2 a3 a4 : Int} (h0 : a0 < a1) : ¬ (((0 : Int) ≤ a2) ∧ (a2 < a3) ∧ ((0 : Int) ≤ a4) ∧ (a4 < a3) ∧ (a2 ≠ a4) ∧ ((1 : Int) ≤ a1) ∧ (a1 ≤ 999) ∧ (a1 ≤ a0)) := by omega
theorem oj49 {a0 a1 a2 a3 a4 a5 a6 : Int} (h0 : ¬ ((a0 ≤ a1) ∧ (a1 ≤ a2))) (h1 : a0 = 1) (h2 : a2 = 999) : ¬ (((0 : Int) ≤ a3) ∧ (a3 < a4) ∧ ((0 : Int) ≤ a5) ∧ (a5 < a4) ∧ (a3 ≠ a5) ∧ ((1 : Int) ≤ a1) ∧ (a1 ≤ 999) ∧ (a1 ≤ a6)) := by omega
theorem oj50 {a0 a1 a2 a3 a4 a5 a6 : Int} (h0 : ¬ ((a0 ≤ a1) ∧ (a1 ≤ a2))) (h1 : a0 = 1) (h2 : a2 = 999) : ¬ (((0 : Int) ≤ a3) ∧ (a3 < a4) ∧ ((0 : Int) ≤ a5) ∧ (a5 < a4) ∧ (a3 ≠ a5) ∧ ((1 : Int) ≤ a1) ∧ (a1 ≤ 999) ∧ (a6 < a1)) := by omega
theorem oj51 {a0 a1 a2 a3 a4 : Int} (h0 : ¬ (((0 : Int) ≤ a0) ∧ (a0 < a1))) : ¬ (((0 : Int) ≤ a2) ∧ (a2 < a1) ∧ ((0 : Int) ≤ a0) ∧ (a0 < a1) ∧ (a2 ≠ a0) ∧ ((1 : Int) ≤ a3) ∧ (a3 ≤ 999) ∧ (a3 ≤ a4)) := by omega
theorem oj52 {a0 a1 a2 a3 a4 : Int} (h0 : ¬ (((0 : Int) ≤ a0) ∧ (a0 < a1))) : ¬ (((0 : Int) ≤ a2) ∧ (a2 < a1) ∧ ((0 : Int) ≤ a0) ∧ (a0 < a1) ∧ (a2 ≠ a0) ∧ ((1 : Int) ≤ a3) ∧ (a3 ≤ 999) ∧ (a4 < a3)) := by omega
theorem oj53 {a0 a1 a2 a3 a4 : Int} (h0 : ¬ (((0 : Int) ≤ a0) ∧ (a0 < a1))) : ¬ (((0 : Int) ≤ a0) ∧ (a0 < a1) ∧ ((0 : Int) ≤ a2) ∧ (a2 < a1) ∧ (a0 ≠ a2) ∧ ((1 : Int) ≤ a3) ∧ (a3 ≤ 999) ∧ (a3 ≤ a4)) := by omega
theorem oj54 {a0 a1 a2 a3 a4 : Int} (h0 : ¬ (((0 : Int) ≤ a0) ∧ (a0 < a1))) : ¬ (((0 : Int) ≤ a0) ∧ (a0 < a1) ∧ ((0 : Int) ≤ a2) ∧ (a2 < a1) ∧ (a0 ≠ a2) ∧ ((1 : Int) ≤ a3) ∧ (a3 ≤ 999) ∧ (a4 < a3)) := by omega
def yw32_1 : kW := ([72, 73], [6, 14], [], [])
def yw32_1_L22 : kW := ([], [6], [], [])
set_option maxRecDepth 100000 in
theorem ke32_1 {i : Nat → Int32} {a : Nat → List Int32} {q : Nat → List Int64} {r : Nat → Nat} (hI : kI i a q) (hr : kr r)  : km 1 32 [.ref 1] (ks i a q r) (kVN yw32_1 i a q r (fun i1 a1 q1 r1 => (True) ∧ (i1 72 = sMn 99 (i 72 + 1) ∧ i1 73 = 0 ∧ a1 6 = List.replicate 8 0 ∧ a1 14 = (a 14).set (3 : Int32).toNatClampNeg ((a 14).getD (3 : Int32).toNatClampNeg 0 + 1)))) := by
  have hG := kG_self yw32_1 hI hr
  refine km_ofN (q := (mi_h32, mi_c32)) rfl (by decide) (Nat.le_of_ble_eq_true rfl) ?_
  intro P hP
  have b1 : ((-2147483648 : Int) ≤ (i 72).toInt) ∧ ((i 72).toInt ≤ 2147483647) := kd_bd (i 72)
  refine ft_go mi_k32 6 9 [(0, .ref 1)] [.int ((i 72) + 1), .int 99, .ref 1] i a q r (by rfl) ?_
  have m3 : (((bif decide (((i 72) + 1) < 99) then ((i 72) + 1) else 99).toInt ≤ (99 : Int32).toInt) ∧ ((bif decide (((i 72) + 1) < 99) then ((i 72) + 1) else 99).toInt ≤ ((i 72) + 1).toInt)) ∧ ((bif decide (((i 72) + 1) < 99) then ((i 72) + 1) else 99).toInt = (99 : Int32).toInt ∨ (bif decide (((i 72) + 1) < 99) then ((i 72) + 1) else 99).toInt = ((i 72) + 1).toInt) := kd_min
  refine ft_go mi_k32 1 12 [(0, .ref 1)] [.int (bif decide (((i 72) + 1) < 99) then ((i 72) + 1) else 99), .ref 1] i a q r (by rfl) ?_
  generalize hm2 : (bif decide (((i 72) + 1) < 99) then ((i 72) + 1) else 99) = m2 at m3 ⊢
  have qm2 := hm2.symm
  have hJ4 := kG_i hG 72 rfl (v := m2) (kd_bd _)
  have hJ5 := kG_i hJ4 73 rfl (v := 0) (kd_bd _)
  refine ft_go mi_k32 6 22 [(1, .int 0), (0, .ref 1)] [] (ku (ku i 72 m2) 73 0) a q r (by rfl) ?_
  have lp6 : ∀ (nz : Nat) (i6 : Nat → Int32) (a6 : Nat → List Int32) (q6 : Nat → List Int64) (r6 : Nat → Nat) (l1_6 : Int32), kG yw32_1_L22 (ku (ku i 72 m2) 73 0) a q r i6 a6 q6 r6 → (0 : Int) ≤ l1_6.toInt → kZr (a6 6) l1_6.toInt → ((8 - l1_6.toInt)).toNat < nz → ko 1 (mi_h32, mi_c32) P (22, [(1, .int l1_6), (0, .ref 1)], [], (0, 0), ks i6 a6 q6 r6) := by
    intro nz
    induction nz with
    | zero =>
      intro _ _ _ _ _ _ _ _ hm
      exact absurd hm (Nat.not_lt_zero _)
    | succ nz ih6 =>
      intro i6 a6 q6 r6 l1_6 hL6 p6_0 O6_0 hm6
      refine ft_go mi_k32 2 25 [(1, .int l1_6), (0, .ref 1)] [.int 8, .int l1_6] i6 a6 q6 r6 (by rfl) ?_
      refine ft_if mi_k32 (decide (8 ≤ l1_6)) 41 28 [(1, .int l1_6), (0, .ref 1)] [] (by rfl) (fun c => ?_) (fun c => ?_)
      ·
        have c7 : (8 : Int32).toInt ≤ l1_6.toInt := kd_le c; clear c
        have hG8 := kG_call hJ5 hL6 (by decide +kernel)
        have qz9 : a6 6 = List.replicate 8 0 := kZr_end O6_0 (hG8.I.2.1 6) (oj0 c7 koj8)
        refine ft_go mi_k32 4 47 [(1, .int l1_6), (0, .ref 1)] [.int 3, .ref 14, .int 3, .ref 14] i6 a6 q6 r6 (by rfl) ?_
        refine ko_iald3 mi_k32.1 (n := 5) (c := 5) (ax := (0, 0, 0, 0, 0)) (mi_k32.2 _ _ (by rfl)) (by rfl) (ksG14 _ _ _ _) (hG8.I.2.1 14) rfl (oj1 koj3) (oj2 koj3) ?_
        have b10 : ((-2147483648 : Int) ≤ ((a6 14).getD (3 : Int32).toNatClampNeg 0).toInt) ∧ (((a6 14).getD (3 : Int32).toNatClampNeg 0).toInt ≤ 2147483647) := kd_bd ((a6 14).getD (3 : Int32).toNatClampNeg 0)
        refine ft_go mi_k32 2 50 [(1, .int l1_6), (0, .ref 1)] [.int (((a6 14).getD (3 : Int32).toNatClampNeg 0) + 1), .int 3, .ref 14] i6 a6 q6 r6 (by rfl) ?_
        refine ko_iast3 mi_k32.1 (n := 5) (c := 5) (ax := (0, 0, 0, 0, 0)) (mi_k32.2 _ _ (by rfl)) (by rfl) (ksG14 _ _ _ _) (ksA14 _ _ _ _) (hG8.I.2.1 14) rfl (oj1 koj3) (oj2 koj3) ?_
        intro a11 ea11 fa11
        have hJ11 := kG_a3 hG8 14 rfl ea11 fa11 (kd_bd _)
        exact ft_ret mi_k32 (by rfl) (hP  _ _ _ _ hJ11 ⟨trivial, ⟨(show i6 72 = sMn 99 (i 72 + 1) from (by first | rfl | (simp only [(show i6 72 = m2 from hL6.fi 72 rfl), qm2, sMn, sMx]; done) | (simp only [(show i6 72 = m2 from hL6.fi 72 rfl), qm2, sMn, sMx]; rfl))), (show i6 73 = 0 from (by first | rfl | (simp only [(show i6 73 = (0 : Int32) from hL6.fi 73 rfl), sMn, sMx]; done) | (simp only [(show i6 73 = (0 : Int32) from hL6.fi 73 rfl), sMn, sMx]; rfl))), (show a11 6 = List.replicate 8 0 from (by first | rfl | (simp only [fa11 6 (by decide), qz9, sMn, sMx]; done) | (simp only [fa11 6 (by decide), qz9, sMn, sMx]; rfl))), (show a11 14 = (a 14).set (3 : Int32).toNatClampNeg ((a 14).getD (3 : Int32).toNatClampNeg 0 + 1) from (by first | rfl | (simp only [ea11, hL6.fa 14 rfl, sMn, sMx]; done) | (simp only [ea11, hL6.fa 14 rfl, sMn, sMx]; rfl)))⟩⟩)
      ·
        have c12 : l1_6.toInt < (8 : Int32).toInt := kd_leF c; clear c
        refine ft_go mi_k32 4 34 [(1, .int l1_6), (0, .ref 1)] [.int 0, .int l1_6, .ref 6] i6 a6 q6 r6 (by rfl) ?_
        refine ko_iast3 mi_k32.1 (n := 8) (c := 8) (ax := (0, 0, 0, 0, 0)) (mi_k32.2 _ _ (by rfl)) (by rfl) (ksG6 _ _ _ _) (ksA6 _ _ _ _) (hL6.I.2.1 6) rfl (oj3 p6_0) (oj4 c12 koj8) ?_
        intro a13 ea13 fa13
        have hJ13 := kG_a3 hL6 6 rfl ea13 fa13 (kd_bd _)
        have s14 : (l1_6 + 1).toInt = l1_6.toInt + (1 : Int32).toInt := kd_add (oj5 p6_0 koj1) (oj6 c12 koj8 koj1)
        refine ft_go mi_k32 2 22 [(1, .int (l1_6 + 1)), (0, .ref 1)] [] i6 a13 q6 r6 (by rfl) ?_
        exact ih6 _ _ _ _ _ hJ13 (oj7 p6_0 s14 koj1) (kZr_step O6_0 (hL6.I.2.1 6) (oj3 p6_0) (oj8 c12 koj8) (oj9 s14 koj1) ea13) (kj_meas (oj10 s14 koj1) (oj11 c12 koj8) hm6)
  exact lp6 _ _ _ _ _ _ (kG_self _ hJ5.I hJ5.R) (oj12 koj0) (kZr_zero koj0) (Nat.lt_succ_self _)
def yw103_0 : kW := ([72, 73], [6, 14], [], [])
set_option maxRecDepth 100000 in
theorem ke103_0 {i : Nat → Int32} {a : Nat → List Int32} {q : Nat → List Int64} {r : Nat → Nat} (hI : kI i a q) (hr : kr r)  : km 3 103 [.ref 0] (ks i a q r) (kVI yw103_0 i a q r (fun v i1 a1 q1 r1 => (True) ∧ (i1 72 = sMn 99 (i 72 + 1) ∧ i1 73 = 0 ∧ a1 6 = List.replicate 8 0 ∧ a1 14 = (a 14).set (3 : Int32).toNatClampNeg ((a 14).getD (3 : Int32).toNatClampNeg 0 + 1) ∧ v = sMn 99 (i 72 + 1)))) := by
  have hG := kG_self yw103_0 hI hr
  refine km_ofI (q := (mi_h103, mi_c103)) rfl (by decide) (Nat.le_of_ble_eq_true rfl) ?_
  intro P hP
  refine ft_go mi_k103 2 4 [(0, .ref 0)] [.ref 1] i a q r (by rfl) ?_
  refine ko_callN mi_k103.1 (pc := 4) (ls := [(0, .ref 0)]) (st := [.ref 1]) (h := ks i a q r) (i := (.invokevirtual 258, 3, 32, 0, 9, 0, 283)) (mi_k103.2 _ _ (by rfl)) (ft_invS mi_pq32 (by rfl)) (cy := mi_c32) mi_pq32 rfl (ke32_1 hG.I hG.R ) (by decide) ?_
  intro ig1 ag1 qg1 rg1 kg1 hg1
  have hGg1 := kG_call hG kg1 (by decide +kernel)
  obtain ⟨hg1, og1⟩ := hg1
  have q2 : ig1 72 = sMn 99 (i 72 + 1) := og1.1
  have q3 : ig1 73 = 0 := og1.2.1
  have q4 : ag1 6 = List.replicate 8 0 := og1.2.2.1
  have q5 : ag1 14 = (a 14).set (3 : Int32).toNatClampNeg ((a 14).getD (3 : Int32).toNatClampNeg 0 + 1) := og1.2.2.2
  refine ft_go mi_k103 3 14 [(0, .ref 0)] [.int (ig1 72)] ig1 ag1 qg1 rg1 (by rfl) ?_
  exact ft_ret mi_k103 (by rfl) (hP (ig1 72) _ _ _ _ hGg1 ⟨trivial, ⟨(show ig1 72 = sMn 99 (i 72 + 1) from (by first | rfl | (simp only [q2, sMn, sMx]; done) | (simp only [q2, sMn, sMx]; rfl))), (show ig1 73 = 0 from (by first | rfl | (simp only [q3, sMn, sMx]; done) | (simp only [q3, sMn, sMx]; rfl))), (show ag1 6 = List.replicate 8 0 from (by first | rfl | (simp only [q4, sMn, sMx]; done) | (simp only [q4, sMn, sMx]; rfl))), (show ag1 14 = (a 14).set (3 : Int32).toNatClampNeg ((a 14).getD (3 : Int32).toNatClampNeg 0 + 1) from (by first | rfl | (simp only [q5, sMn, sMx]; done) | (simp only [q5, sMn, sMx]; rfl))), (show (ig1 72) = sMn 99 (i 72 + 1) from (by first | rfl | (simp only [q2, sMn, sMx]; done) | (simp only [q2, sMn, sMx]; rfl)))⟩⟩)
def yw167_116 : kW := ([], [118], [], [])
def yw167_116_L24 : kW := ([], [118], [], [])
set_option maxRecDepth 100000 in
theorem ke167_116 {i : Nat → Int32} {a : Nat → List Int32} {q : Nat → List Int64} {r : Nat → Nat} (hI : kI i a q) (hr : kr r)  : km 1 167 [.ref 116] (ks i a q r) (kVN yw167_116 i a q r (fun i1 a1 q1 r1 => (True) ∧ a1 118 = sEnds (a 118))) := by
  have hG := kG_self yw167_116 hI hr
  refine km_ofN (q := (mi_h167, mi_c167)) rfl (by decide) (Nat.le_of_ble_eq_true rfl) ?_
  intro P hP
  refine ft_go mi_k167 7 14 [(0, .ref 116)] [.int 8, .ref 118, .int 99, .int 8, .ref 118] i a q r (by rfl) ?_
  refine ko_iald3 mi_k167.1 (n := 31) (c := 31) (ax := (0, 0, 0, 0, 0)) (mi_k167.2 _ _ (by rfl)) (by rfl) (ksG118 _ _ _ _) (hG.I.2.1 118) rfl (oj13 koj8) (oj14 koj8) ?_
  have b1 : ((-2147483648 : Int) ≤ ((a 118).getD (8 : Int32).toNatClampNeg 0).toInt) ∧ (((a 118).getD (8 : Int32).toNatClampNeg 0).toInt ≤ 2147483647) := kd_bd ((a 118).getD (8 : Int32).toNatClampNeg 0)
  refine ft_go mi_k167 2 17 [(0, .ref 116)] [.int (((a 118).getD (8 : Int32).toNatClampNeg 0) + 1), .int 99, .int 8, .ref 118] i a q r (by rfl) ?_
  have m3 : (((bif decide ((((a 118).getD (8 : Int32).toNatClampNeg 0) + 1) < 99) then (((a 118).getD (8 : Int32).toNatClampNeg 0) + 1) else 99).toInt ≤ (99 : Int32).toInt) ∧ ((bif decide ((((a 118).getD (8 : Int32).toNatClampNeg 0) + 1) < 99) then (((a 118).getD (8 : Int32).toNatClampNeg 0) + 1) else 99).toInt ≤ (((a 118).getD (8 : Int32).toNatClampNeg 0) + 1).toInt)) ∧ ((bif decide ((((a 118).getD (8 : Int32).toNatClampNeg 0) + 1) < 99) then (((a 118).getD (8 : Int32).toNatClampNeg 0) + 1) else 99).toInt = (99 : Int32).toInt ∨ (bif decide ((((a 118).getD (8 : Int32).toNatClampNeg 0) + 1) < 99) then (((a 118).getD (8 : Int32).toNatClampNeg 0) + 1) else 99).toInt = (((a 118).getD (8 : Int32).toNatClampNeg 0) + 1).toInt) := kd_min
  refine ft_go mi_k167 1 20 [(0, .ref 116)] [.int (bif decide ((((a 118).getD (8 : Int32).toNatClampNeg 0) + 1) < 99) then (((a 118).getD (8 : Int32).toNatClampNeg 0) + 1) else 99), .int 8, .ref 118] i a q r (by rfl) ?_
  generalize hm2 : (bif decide ((((a 118).getD (8 : Int32).toNatClampNeg 0) + 1) < 99) then (((a 118).getD (8 : Int32).toNatClampNeg 0) + 1) else 99) = m2 at m3 ⊢
  have qm2 := hm2.symm
  refine ko_iast3 mi_k167.1 (n := 31) (c := 31) (ax := (0, 0, 0, 0, 0)) (mi_k167.2 _ _ (by rfl)) (by rfl) (ksG118 _ _ _ _) (ksA118 _ _ _ _) (hG.I.2.1 118) rfl (oj13 koj8) (oj14 koj8) ?_
  intro a4 ea4 fa4
  have hJ4 := kG_a3 hG 118 rfl ea4 fa4 (kE_nset (p := 118) (by decide) (oj13 koj8) (oj15 koj8) (oj16 koj8))
  refine ft_go mi_k167 2 24 [(1, .int 9), (0, .ref 116)] [] i a4 q r (by rfl) ?_
  have lp5 : ∀ (nz : Nat) (i5 : Nat → Int32) (a5 : Nat → List Int32) (q5 : Nat → List Int64) (r5 : Nat → Nat) (l1_5 : Int32), kG yw167_116_L24 i a4 q r i5 a5 q5 r5 → ((9 : Int) ≤ l1_5.toInt) ∧ (l1_5.toInt ≤ 18) → a5 118 = sZ (l1_5.toInt - 9).toNat (a4 118) → ((18 - l1_5.toInt)).toNat < nz → ko 1 (mi_h167, mi_c167) P (24, [(1, .int l1_5), (0, .ref 116)], [], (0, 0), ks i5 a5 q5 r5) := by
    intro nz
    induction nz with
    | zero =>
      intro _ _ _ _ _ _ _ _ hm
      exact absurd hm (Nat.not_lt_zero _)
    | succ nz ih5 =>
      intro i5 a5 q5 r5 l1_5 hL5 p5_0 O5_0 hm5
      refine ft_go mi_k167 2 27 [(1, .int l1_5), (0, .ref 116)] [.int 18, .int l1_5] i5 a5 q5 r5 (by rfl) ?_
      refine ft_if mi_k167 (decide (18 ≤ l1_5)) 43 30 [(1, .int l1_5), (0, .ref 116)] [] (by rfl) (fun c => ?_) (fun c => ?_)
      ·
        have c6 : (18 : Int32).toInt ≤ l1_5.toInt := kd_le c; clear c
        have hG7 := kG_call hJ4 hL5 (by decide +kernel)
        have qz8 : a5 118 = sZ 9 (a4 118) := sZ_end O5_0 (oj17 c6 p5_0.2 koj18)
        exact ft_ret mi_k167 (by rfl) (hP  _ _ _ _ hG7 ⟨trivial, (show a5 118 = sEnds (a 118) from (by first | rfl | (simp only [qz8, ea4, qm2, sMn, sMx, sEnds]; done) | (simp only [qz8, ea4, qm2, sMn, sMx, sEnds]; rfl)))⟩)
      ·
        have c9 : l1_5.toInt < (18 : Int32).toInt := kd_leF c; clear c
        refine ft_go mi_k167 4 36 [(1, .int l1_5), (0, .ref 116)] [.int 0, .int l1_5, .ref 118] i5 a5 q5 r5 (by rfl) ?_
        refine ko_iast3 mi_k167.1 (n := 31) (c := 31) (ax := (0, 0, 0, 0, 0)) (mi_k167.2 _ _ (by rfl)) (by rfl) (ksG118 _ _ _ _) (ksA118 _ _ _ _) (hL5.I.2.1 118) rfl (oj18 p5_0.1) (oj19 p5_0.2) ?_
        intro a10 ea10 fa10
        have hJ10 := kG_a3 hL5 118 rfl ea10 fa10 (kE_nset (p := 118) (by decide) (oj18 p5_0.1) (oj20 c9 koj18 koj0) (oj21 p5_0.2 koj0))
        have s11 : (l1_5 + 1).toInt = l1_5.toInt + (1 : Int32).toInt := kd_add (oj22 p5_0.1 koj1) (oj23 p5_0.2 koj1)
        refine ft_go mi_k167 2 24 [(1, .int (l1_5 + 1)), (0, .ref 116)] [] i5 a10 q5 r5 (by rfl) ?_
        exact ih5 _ _ _ _ _ hJ10 (oj24 c9 p5_0.1 s11 koj18 koj1) (sZ_step O5_0 (oj25 p5_0.1) (oj9 s11 koj1) ea10) (kj_meas (oj26 s11 koj1) (oj27 c9 koj18) hm5)
  exact lp5 _ _ _ _ _ _ (kG_self _ hJ4.I hJ4.R) (oj28 koj9) (sZ_zero _ koj9) (Nat.lt_succ_self _)
def yw203_116 : kW := ([], [118, 130], [], [])
set_option maxRecDepth 100000 in
theorem ke203_116 {i : Nat → Int32} {a : Nat → List Int32} {q : Nat → List Int64} {r : Nat → Nat} (hI : kI i a q) (hr : kr r)  : km 3 203 [.ref 116] (ks i a q r) (kVI yw203_116 i a q r (fun v i1 a1 q1 r1 => (True) ∧ (a1 118 = sEnds (a 118) ∧ a1 130 = (a 130).set (3 : Int32).toNatClampNeg ((a 130).getD (3 : Int32).toNatClampNeg 0 + 1) ∧ v = (sEnds (a 118)).getD (8 : Int32).toNatClampNeg 0))) := by
  have hG := kG_self yw203_116 hI hr
  refine km_ofI (q := (mi_h203, mi_c203)) rfl (by decide) (Nat.le_of_ble_eq_true rfl) ?_
  intro P hP
  refine ft_go mi_k203 1 1 [(0, .ref 116)] [.ref 116] i a q r (by rfl) ?_
  refine ko_callN mi_k203.1 (pc := 1) (ls := [(0, .ref 116)]) (st := [.ref 116]) (h := ks i a q r) (i := (.invokevirtual 282, 3, 167, 0, 9, 0, 426)) (mi_k203.2 _ _ (by rfl)) (ft_invS mi_pq167 (by rfl)) (cy := mi_c167) mi_pq167 rfl (ke167_116 hG.I hG.R ) (by decide) ?_
  intro ig1 ag1 qg1 rg1 kg1 hg1
  have hGg1 := kG_call hG kg1 (by decide +kernel)
  obtain ⟨hg1, og1⟩ := hg1
  have q2 : ag1 118 = sEnds (a 118) := og1
  refine ft_go mi_k203 4 10 [(0, .ref 116)] [.int 3, .ref 130, .int 3, .ref 130] ig1 ag1 qg1 rg1 (by rfl) ?_
  refine ko_iald3 mi_k203.1 (n := 5) (c := 5) (ax := (0, 0, 0, 0, 0)) (mi_k203.2 _ _ (by rfl)) (by rfl) (ksG130 _ _ _ _) (hGg1.I.2.1 130) rfl (oj1 koj3) (oj2 koj3) ?_
  have b3 : ((-2147483648 : Int) ≤ ((ag1 130).getD (3 : Int32).toNatClampNeg 0).toInt) ∧ (((ag1 130).getD (3 : Int32).toNatClampNeg 0).toInt ≤ 2147483647) := kd_bd ((ag1 130).getD (3 : Int32).toNatClampNeg 0)
  refine ft_go mi_k203 2 13 [(0, .ref 116)] [.int (((ag1 130).getD (3 : Int32).toNatClampNeg 0) + 1), .int 3, .ref 130] ig1 ag1 qg1 rg1 (by rfl) ?_
  refine ko_iast3 mi_k203.1 (n := 5) (c := 5) (ax := (0, 0, 0, 0, 0)) (mi_k203.2 _ _ (by rfl)) (by rfl) (ksG130 _ _ _ _) (ksA130 _ _ _ _) (hGg1.I.2.1 130) rfl (oj1 koj3) (oj2 koj3) ?_
  intro a4 ea4 fa4
  have hJ4 := kG_a3 hGg1 130 rfl ea4 fa4 (kd_bd _)
  refine ft_go mi_k203 3 20 [(0, .ref 116)] [.int 8, .ref 118] ig1 a4 qg1 rg1 (by rfl) ?_
  refine ko_iald3 mi_k203.1 (n := 31) (c := 31) (ax := (0, 0, 0, 0, 0)) (mi_k203.2 _ _ (by rfl)) (by rfl) (ksG118 _ _ _ _) (hJ4.I.2.1 118) rfl (oj13 koj8) (oj14 koj8) ?_
  have u5 : ((a4 118).getD (8 : Int32).toNatClampNeg 0).toInt = ((ag1 118).getD (8 : Int32).toNatClampNeg 0).toInt := congrArg (fun z : List Int32 => (z.getD (8 : Int32).toNatClampNeg 0).toInt) (fa4 118 (by decide))
  exact ft_ret mi_k203 (by rfl) (hP ((a4 118).getD (8 : Int32).toNatClampNeg 0) _ _ _ _ hJ4 ⟨trivial, ⟨(show a4 118 = sEnds (a 118) from (by first | rfl | (simp only [fa4 118 (by decide), q2, sMn, sMx]; done) | (simp only [fa4 118 (by decide), q2, sMn, sMx]; rfl))), (show a4 130 = (a 130).set (3 : Int32).toNatClampNeg ((a 130).getD (3 : Int32).toNatClampNeg 0 + 1) from (by first | rfl | (simp only [ea4, kg1.fa 130 rfl, sMn, sMx]; done) | (simp only [ea4, kg1.fa 130 rfl, sMn, sMx]; rfl))), (show ((a4 118).getD (8 : Int32).toNatClampNeg 0) = (sEnds (a 118)).getD (8 : Int32).toNatClampNeg 0 from (by first | rfl | (simp only [fa4 118 (by decide), q2, sMn, sMx]; done) | (simp only [fa4 118 (by decide), q2, sMn, sMx]; rfl)))⟩⟩)
def yw104_0 : kW := ([], [2, 14], [], [])
set_option maxRecDepth 100000 in
theorem ke104_0 {i : Nat → Int32} {a : Nat → List Int32} {q : Nat → List Int64} {r : Nat → Nat} (hI : kI i a q) (hr : kr r) (x1 : Int32) (x2 : Int32) (x3 : Int32) : km 5 104 [.ref 0, .int x1, .int x2, .int x3] (ks i a q r) (kVI yw104_0 i a q r (fun v i1 a1 q1 r1 => (True) ∧ ((((0 : Int) ≤ x1.toInt) ∧ (x1.toInt < (i 64).toInt) ∧ ((0 : Int) ≤ x2.toInt) ∧ (x2.toInt < (i 64).toInt) ∧ (x1.toInt ≠ x2.toInt) ∧ ((1 : Int) ≤ x3.toInt) ∧ (x3.toInt ≤ 999) ∧ (x3.toInt ≤ ((a 2).getD x1.toNatClampNeg 0).toInt) → a1 2 = (((a 2).set x1.toNatClampNeg ((a 2).getD x1.toNatClampNeg 0 - x3)).set x2.toNatClampNeg (sMn 999 (((a 2).set x1.toNatClampNeg ((a 2).getD x1.toNatClampNeg 0 - x3)).getD x2.toNatClampNeg 0 + x3)))) ∧ (((0 : Int) ≤ x1.toInt) ∧ (x1.toInt < (i 64).toInt) ∧ ((0 : Int) ≤ x2.toInt) ∧ (x2.toInt < (i 64).toInt) ∧ (x1.toInt ≠ x2.toInt) ∧ ((1 : Int) ≤ x3.toInt) ∧ (x3.toInt ≤ 999) ∧ (x3.toInt ≤ ((a 2).getD x1.toNatClampNeg 0).toInt) → a1 14 = (a 14).set (4 : Int32).toNatClampNeg ((a 14).getD (4 : Int32).toNatClampNeg 0 + x3)) ∧ (((0 : Int) ≤ x1.toInt) ∧ (x1.toInt < (i 64).toInt) ∧ ((0 : Int) ≤ x2.toInt) ∧ (x2.toInt < (i 64).toInt) ∧ (x1.toInt ≠ x2.toInt) ∧ ((1 : Int) ≤ x3.toInt) ∧ (x3.toInt ≤ 999) ∧ (x3.toInt ≤ ((a 2).getD x1.toNatClampNeg 0).toInt) → v = (((a 2).set x1.toNatClampNeg ((a 2).getD x1.toNatClampNeg 0 - x3)).set x2.toNatClampNeg (sMn 999 (((a 2).set x1.toNatClampNeg ((a 2).getD x1.toNatClampNeg 0 - x3)).getD x2.toNatClampNeg 0 + x3))).getD x1.toNatClampNeg 0) ∧ (¬ (((0 : Int) ≤ x1.toInt) ∧ (x1.toInt < (i 64).toInt) ∧ ((0 : Int) ≤ x2.toInt) ∧ (x2.toInt < (i 64).toInt) ∧ (x1.toInt ≠ x2.toInt) ∧ ((1 : Int) ≤ x3.toInt) ∧ (x3.toInt ≤ 999) ∧ (x3.toInt ≤ ((a 2).getD x1.toNatClampNeg 0).toInt)) → a1 2 = a 2) ∧ (¬ (((0 : Int) ≤ x1.toInt) ∧ (x1.toInt < (i 64).toInt) ∧ ((0 : Int) ≤ x2.toInt) ∧ (x2.toInt < (i 64).toInt) ∧ (x1.toInt ≠ x2.toInt) ∧ ((1 : Int) ≤ x3.toInt) ∧ (x3.toInt ≤ 999) ∧ (x3.toInt ≤ ((a 2).getD x1.toNatClampNeg 0).toInt)) → a1 14 = a 14) ∧ (((0 : Int) ≤ x1.toInt) ∧ (x1.toInt < (i 64).toInt) ∧ ((0 : Int) ≤ x2.toInt) ∧ (x2.toInt < (i 64).toInt) ∧ (x1.toInt ≠ x2.toInt) ∧ ((1 : Int) ≤ x3.toInt) ∧ (x3.toInt ≤ 999) ∧ (((a 2).getD x1.toNatClampNeg 0).toInt < x3.toInt) → v = -5) ∧ (¬ (((0 : Int) ≤ x1.toInt) ∧ (x1.toInt < (i 64).toInt) ∧ ((0 : Int) ≤ x2.toInt) ∧ (x2.toInt < (i 64).toInt) ∧ (x1.toInt ≠ x2.toInt) ∧ ((1 : Int) ≤ x3.toInt) ∧ (x3.toInt ≤ 999)) → v = -1)))) := by
  have hG := kG_self yw104_0 hI hr
  refine km_ofI (q := (mi_h104, mi_c104)) rfl (by decide) (Nat.le_of_ble_eq_true rfl) ?_
  intro P hP
  refine ft_go mi_k104 2 2 [(0, .ref 0), (1, .int x1), (2, .int x2), (3, .int x3)] [.int x1, .ref 0] i a q r (by rfl) ?_
  refine ko_callPI mi_k104.1 (pc := 2) (ls := [(0, .ref 0), (1, .int x1), (2, .int x2), (3, .int x3)]) (st := [.int x1, .ref 0]) (h := ks i a q r) (i := (.invokevirtual 141, 3, 123, 0, 9, 0, 162)) (mi_k104.2 _ _ (by rfl)) (ft_invS mi_pq123 (by rfl)) (cy := mi_c123) mi_pq123 rfl (kc123_0 hG.I hG.R x1) (by decide) ?_
  intro vg1 hg1
  rcases hg1 with ⟨eg1, hg1⟩ | ⟨eg1, hg1⟩
  ·
    subst eg1
    have fi_64 : ((0 : Int) ≤ (i 64).toInt) ∧ ((i 64).toInt ≤ 8) := hG.I.1 64
    have z2 : ((0 : Int) ≤ x1.toInt) ∧ (x1.toInt < (i 64).toInt) := hg1
    refine ft_go mi_k104 3 10 [(0, .ref 0), (1, .int x1), (2, .int x2), (3, .int x3)] [.int x2, .ref 0] i a q r (by rfl) ?_
    refine ko_callPI mi_k104.1 (pc := 10) (ls := [(0, .ref 0), (1, .int x1), (2, .int x2), (3, .int x3)]) (st := [.int x2, .ref 0]) (h := ks i a q r) (i := (.invokevirtual 141, 3, 123, 0, 9, 0, 162)) (mi_k104.2 _ _ (by rfl)) (ft_invS mi_pq123 (by rfl)) (cy := mi_c123) mi_pq123 rfl (kc123_0 hG.I hG.R x2) (by decide) ?_
    intro vg3 hg3
    rcases hg3 with ⟨eg3, hg3⟩ | ⟨eg3, hg3⟩
    ·
      subst eg3
      have z4 : ((0 : Int) ≤ x2.toInt) ∧ (x2.toInt < (i 64).toInt) := hg3
      refine ft_go mi_k104 3 18 [(0, .ref 0), (1, .int x1), (2, .int x2), (3, .int x3)] [.int x2, .int x1] i a q r (by rfl) ?_
      refine ft_if mi_k104 (x1 == x2) 32 21 [(0, .ref 0), (1, .int x1), (2, .int x2), (3, .int x3)] [] (by rfl) (fun c => ?_) (fun c => ?_)
      ·
        have c5 : x1.toInt = x2.toInt := kd_eq c; clear c
        refine ft_go mi_k104 1 33 [(0, .ref 0), (1, .int x1), (2, .int x2), (3, .int x3)] [.int (-1)] i a q r (by rfl) ?_
        exact ft_ret mi_k104 (by rfl) (hP (-1) _ _ _ _ hG ⟨trivial, ⟨(fun h => absurd h (oj35 c5)), (fun h => absurd h (oj35 c5)), (fun h => absurd h (oj35 c5)), (fun _ => (show a 2 = a 2 from rfl)), (fun _ => (show a 14 = a 14 from rfl)), (fun h => absurd h (oj36 c5)), (fun _ => (show ((-1) : Int32) = -1 from (by first | rfl | (simp only [sMn, sMx]; done) | (simp only [sMn, sMx]; rfl))))⟩⟩)
      ·
        have c6 : x1.toInt ≠ x2.toInt := kd_eqF c; clear c
        refine ft_go mi_k104 3 26 [(0, .ref 0), (1, .int x1), (2, .int x2), (3, .int x3)] [.int 999, .int 1, .int x3] i a q r (by rfl) ?_
        refine ko_callPI mi_k104.1 (pc := 26) (ls := [(0, .ref 0), (1, .int x1), (2, .int x2), (3, .int x3)]) (st := [.int 999, .int 1, .int x3]) (h := ks i a q r) (i := (.invokestatic 74, 3, 120, 0, 9, 0, 152)) (mi_k104.2 _ _ (by rfl)) (ft_invS mi_pq120 (by rfl)) (cy := mi_c120) mi_pq120 rfl (kc120 hG.I hG.R x3 1 999) (by decide) ?_
        intro vg7 hg7
        rcases hg7 with ⟨eg7, hg7⟩ | ⟨eg7, hg7⟩
        ·
          subst eg7
          have z8 : ((1 : Int32).toInt ≤ x3.toInt) ∧ (x3.toInt ≤ (999 : Int32).toInt) := hg7
          refine ft_go mi_k104 5 42 [(0, .ref 0), (1, .int x1), (2, .int x2), (3, .int x3)] [.int x1, .ref 2] i a q r (by rfl) ?_
          refine ko_iald3 mi_k104.1 (n := 8) (c := 8) (ax := (0, 0, 0, 0, 0)) (mi_k104.2 _ _ (by rfl)) (by rfl) (ksG2 _ _ _ _) (hG.I.2.1 2) rfl (oj3 z2.1) (oj40 fi_64.2 z2.2) ?_
          refine ft_go mi_k104 1 44 [(0, .ref 0), (1, .int x1), (2, .int x2), (3, .int x3)] [.int x3, .int ((a 2).getD x1.toNatClampNeg 0)] i a q r (by rfl) ?_
          refine ft_if mi_k104 (decide (x3 ≤ ((a 2).getD x1.toNatClampNeg 0))) 50 47 [(0, .ref 0), (1, .int x1), (2, .int x2), (3, .int x3)] [] (by rfl) (fun c => ?_) (fun c => ?_)
          ·
            have c9 : x3.toInt ≤ ((a 2).getD x1.toNatClampNeg 0).toInt := kd_le c; clear c
            refine ft_go mi_k104 5 59 [(0, .ref 0), (1, .int x1), (2, .int x2), (3, .int x3)] [.int x1, .ref 2, .int x1, .ref 2] i a q r (by rfl) ?_
            refine ko_iald3 mi_k104.1 (n := 8) (c := 8) (ax := (0, 0, 0, 0, 0)) (mi_k104.2 _ _ (by rfl)) (by rfl) (ksG2 _ _ _ _) (hG.I.2.1 2) rfl (oj3 z2.1) (oj40 fi_64.2 z2.2) ?_
            have b10 : ((-2147483648 : Int) ≤ ((a 2).getD x1.toNatClampNeg 0).toInt) ∧ (((a 2).getD x1.toNatClampNeg 0).toInt ≤ 2147483647) := kd_bd ((a 2).getD x1.toNatClampNeg 0)
            have b11 : ((-2147483648 : Int) ≤ x3.toInt) ∧ (x3.toInt ≤ 2147483647) := kd_bd x3
            have s12 : (((a 2).getD x1.toNatClampNeg 0) - x3).toInt = ((a 2).getD x1.toNatClampNeg 0).toInt - x3.toInt := kd_sub (oj41 c9) (oj42 b10.2 z8.1 koj1)
            refine ft_go mi_k104 2 62 [(0, .ref 0), (1, .int x1), (2, .int x2), (3, .int x3)] [.int (((a 2).getD x1.toNatClampNeg 0) - x3), .int x1, .ref 2] i a q r (by rfl) ?_
            refine ko_iast3 mi_k104.1 (n := 8) (c := 8) (ax := (0, 0, 0, 0, 0)) (mi_k104.2 _ _ (by rfl)) (by rfl) (ksG2 _ _ _ _) (ksA2 _ _ _ _) (hG.I.2.1 2) rfl (oj3 z2.1) (oj40 fi_64.2 z2.2) ?_
            intro a13 ea13 fa13
            have hJ13 := kG_a3 hG 2 rfl ea13 fa13 (kd_bd _)
            refine ft_go mi_k104 9 82 [(0, .ref 0), (1, .int x1), (2, .int x2), (3, .int x3)] [.int x2, .ref 2, .int 999, .int x2, .ref 2] i a13 q r (by rfl) ?_
            refine ko_iald3 mi_k104.1 (n := 8) (c := 8) (ax := (0, 0, 0, 0, 0)) (mi_k104.2 _ _ (by rfl)) (by rfl) (ksG2 _ _ _ _) (hJ13.I.2.1 2) rfl (oj3 z4.1) (oj40 fi_64.2 z4.2) ?_
            have b14 : ((-2147483648 : Int) ≤ ((a13 2).getD x2.toNatClampNeg 0).toInt) ∧ (((a13 2).getD x2.toNatClampNeg 0).toInt ≤ 2147483647) := kd_bd ((a13 2).getD x2.toNatClampNeg 0)
            refine ft_go mi_k104 2 85 [(0, .ref 0), (1, .int x1), (2, .int x2), (3, .int x3)] [.int (((a13 2).getD x2.toNatClampNeg 0) + x3), .int 999, .int x2, .ref 2] i a13 q r (by rfl) ?_
            have m16 : (((bif decide ((((a13 2).getD x2.toNatClampNeg 0) + x3) < 999) then (((a13 2).getD x2.toNatClampNeg 0) + x3) else 999).toInt ≤ (999 : Int32).toInt) ∧ ((bif decide ((((a13 2).getD x2.toNatClampNeg 0) + x3) < 999) then (((a13 2).getD x2.toNatClampNeg 0) + x3) else 999).toInt ≤ (((a13 2).getD x2.toNatClampNeg 0) + x3).toInt)) ∧ ((bif decide ((((a13 2).getD x2.toNatClampNeg 0) + x3) < 999) then (((a13 2).getD x2.toNatClampNeg 0) + x3) else 999).toInt = (999 : Int32).toInt ∨ (bif decide ((((a13 2).getD x2.toNatClampNeg 0) + x3) < 999) then (((a13 2).getD x2.toNatClampNeg 0) + x3) else 999).toInt = (((a13 2).getD x2.toNatClampNeg 0) + x3).toInt) := kd_min
            refine ft_go mi_k104 1 88 [(0, .ref 0), (1, .int x1), (2, .int x2), (3, .int x3)] [.int (bif decide ((((a13 2).getD x2.toNatClampNeg 0) + x3) < 999) then (((a13 2).getD x2.toNatClampNeg 0) + x3) else 999), .int x2, .ref 2] i a13 q r (by rfl) ?_
            generalize hm15 : (bif decide ((((a13 2).getD x2.toNatClampNeg 0) + x3) < 999) then (((a13 2).getD x2.toNatClampNeg 0) + x3) else 999) = m15 at m16 ⊢
            have qm15 := hm15.symm
            refine ko_iast3 mi_k104.1 (n := 8) (c := 8) (ax := (0, 0, 0, 0, 0)) (mi_k104.2 _ _ (by rfl)) (by rfl) (ksG2 _ _ _ _) (ksA2 _ _ _ _) (hJ13.I.2.1 2) rfl (oj3 z4.1) (oj40 fi_64.2 z4.2) ?_
            intro a17 ea17 fa17
            have hJ17 := kG_a3 hJ13 2 rfl ea17 fa17 (kd_bd _)
            refine ft_go mi_k104 5 98 [(0, .ref 0), (1, .int x1), (2, .int x2), (3, .int x3)] [.int 4, .ref 14, .int 4, .ref 14] i a17 q r (by rfl) ?_
            refine ko_iald3 mi_k104.1 (n := 5) (c := 5) (ax := (0, 0, 0, 0, 0)) (mi_k104.2 _ _ (by rfl)) (by rfl) (ksG14 _ _ _ _) (hJ17.I.2.1 14) rfl (oj43 koj4) (oj44 koj4) ?_
            have b18 : ((-2147483648 : Int) ≤ ((a17 14).getD (4 : Int32).toNatClampNeg 0).toInt) ∧ (((a17 14).getD (4 : Int32).toNatClampNeg 0).toInt ≤ 2147483647) := kd_bd ((a17 14).getD (4 : Int32).toNatClampNeg 0)
            refine ft_go mi_k104 2 101 [(0, .ref 0), (1, .int x1), (2, .int x2), (3, .int x3)] [.int (((a17 14).getD (4 : Int32).toNatClampNeg 0) + x3), .int 4, .ref 14] i a17 q r (by rfl) ?_
            refine ko_iast3 mi_k104.1 (n := 5) (c := 5) (ax := (0, 0, 0, 0, 0)) (mi_k104.2 _ _ (by rfl)) (by rfl) (ksG14 _ _ _ _) (ksA14 _ _ _ _) (hJ17.I.2.1 14) rfl (oj43 koj4) (oj44 koj4) ?_
            intro a19 ea19 fa19
            have hJ19 := kG_a3 hJ17 14 rfl ea19 fa19 (kd_bd _)
            refine ft_go mi_k104 4 110 [(0, .ref 0), (1, .int x1), (2, .int x2), (3, .int x3)] [.int x1, .ref 2] i a19 q r (by rfl) ?_
            refine ko_iald3 mi_k104.1 (n := 8) (c := 8) (ax := (0, 0, 0, 0, 0)) (mi_k104.2 _ _ (by rfl)) (by rfl) (ksG2 _ _ _ _) (hJ19.I.2.1 2) rfl (oj3 z2.1) (oj40 fi_64.2 z2.2) ?_
            exact ft_ret mi_k104 (by rfl) (hP ((a19 2).getD x1.toNatClampNeg 0) _ _ _ _ hJ19 ⟨trivial, ⟨(fun _ => (show a19 2 = (((a 2).set x1.toNatClampNeg ((a 2).getD x1.toNatClampNeg 0 - x3)).set x2.toNatClampNeg (sMn 999 (((a 2).set x1.toNatClampNeg ((a 2).getD x1.toNatClampNeg 0 - x3)).getD x2.toNatClampNeg 0 + x3))) from (by first | rfl | (simp only [fa19 2 (by decide), ea17, ea13, qm15, sMn, sMx]; done) | (simp only [fa19 2 (by decide), ea17, ea13, qm15, sMn, sMx]; rfl)))), (fun _ => (show a19 14 = (a 14).set (4 : Int32).toNatClampNeg ((a 14).getD (4 : Int32).toNatClampNeg 0 + x3) from (by first | rfl | (simp only [ea19, fa17 14 (by decide), fa13 14 (by decide), sMn, sMx]; done) | (simp only [ea19, fa17 14 (by decide), fa13 14 (by decide), sMn, sMx]; rfl)))), (fun _ => (show ((a19 2).getD x1.toNatClampNeg 0) = (((a 2).set x1.toNatClampNeg ((a 2).getD x1.toNatClampNeg 0 - x3)).set x2.toNatClampNeg (sMn 999 (((a 2).set x1.toNatClampNeg ((a 2).getD x1.toNatClampNeg 0 - x3)).getD x2.toNatClampNeg 0 + x3))).getD x1.toNatClampNeg 0 from (by first | rfl | (simp only [fa19 2 (by decide), ea17, ea13, qm15, sMn, sMx]; done) | (simp only [fa19 2 (by decide), ea17, ea13, qm15, sMn, sMx]; rfl)))), (fun h => absurd h (oj45 c6 c9 z2.1 z2.2 z4.1 z4.2 z8.1 z8.2 koj1 koj999)), (fun h => absurd h (oj45 c6 c9 z2.1 z2.2 z4.1 z4.2 z8.1 z8.2 koj1 koj999)), (fun h => absurd h (oj46 c9)), (fun h => absurd h (oj47 c6 z2.1 z2.2 z4.1 z4.2 z8.1 z8.2 koj1 koj999))⟩⟩)
          ·
            have c20 : ((a 2).getD x1.toNatClampNeg 0).toInt < x3.toInt := kd_leF c; clear c
            refine ft_go mi_k104 1 49 [(0, .ref 0), (1, .int x1), (2, .int x2), (3, .int x3)] [.int (-5)] i a q r (by rfl) ?_
            exact ft_ret mi_k104 (by rfl) (hP (-5) _ _ _ _ hG ⟨trivial, ⟨(fun h => absurd h (oj48 c20)), (fun h => absurd h (oj48 c20)), (fun h => absurd h (oj48 c20)), (fun _ => (show a 2 = a 2 from rfl)), (fun _ => (show a 14 = a 14 from rfl)), (fun _ => (show ((-5) : Int32) = -5 from (by first | rfl | (simp only [sMn, sMx]; done) | (simp only [sMn, sMx]; rfl)))), (fun h => absurd h (oj47 c6 z2.1 z2.2 z4.1 z4.2 z8.1 z8.2 koj1 koj999))⟩⟩)
        ·
          subst eg7
          have z21 : ¬ (((1 : Int32).toInt ≤ x3.toInt) ∧ (x3.toInt ≤ (999 : Int32).toInt)) := hg7
          refine ft_go mi_k104 2 33 [(0, .ref 0), (1, .int x1), (2, .int x2), (3, .int x3)] [.int (-1)] i a q r (by rfl) ?_
          exact ft_ret mi_k104 (by rfl) (hP (-1) _ _ _ _ hG ⟨trivial, ⟨(fun h => absurd h (oj49 z21 koj1 koj999)), (fun h => absurd h (oj49 z21 koj1 koj999)), (fun h => absurd h (oj49 z21 koj1 koj999)), (fun _ => (show a 2 = a 2 from rfl)), (fun _ => (show a 14 = a 14 from rfl)), (fun h => absurd h (oj50 z21 koj1 koj999)), (fun _ => (show ((-1) : Int32) = -1 from (by first | rfl | (simp only [sMn, sMx]; done) | (simp only [sMn, sMx]; rfl))))⟩⟩)
    ·
      subst eg3
      have z22 : ¬ (((0 : Int) ≤ x2.toInt) ∧ (x2.toInt < (i 64).toInt)) := hg3
      refine ft_go mi_k104 2 33 [(0, .ref 0), (1, .int x1), (2, .int x2), (3, .int x3)] [.int (-1)] i a q r (by rfl) ?_
      exact ft_ret mi_k104 (by rfl) (hP (-1) _ _ _ _ hG ⟨trivial, ⟨(fun h => absurd h (oj51 z22)), (fun h => absurd h (oj51 z22)), (fun h => absurd h (oj51 z22)), (fun _ => (show a 2 = a 2 from rfl)), (fun _ => (show a 14 = a 14 from rfl)), (fun h => absurd h (oj52 z22)), (fun _ => (show ((-1) : Int32) = -1 from (by first | rfl | (simp only [sMn, sMx]; done) | (simp only [sMn, sMx]; rfl))))⟩⟩)
  ·
    subst eg1
    have z23 : ¬ (((0 : Int) ≤ x1.toInt) ∧ (x1.toInt < (i 64).toInt)) := hg1
    refine ft_go mi_k104 2 33 [(0, .ref 0), (1, .int x1), (2, .int x2), (3, .int x3)] [.int (-1)] i a q r (by rfl) ?_
    exact ft_ret mi_k104 (by rfl) (hP (-1) _ _ _ _ hG ⟨trivial, ⟨(fun h => absurd h (oj53 z23)), (fun h => absurd h (oj53 z23)), (fun h => absurd h (oj53 z23)), (fun _ => (show a 2 = a 2 from rfl)), (fun _ => (show a 14 = a 14 from rfl)), (fun h => absurd h (oj54 z23)), (fun _ => (show ((-1) : Int32) = -1 from (by first | rfl | (simp only [sMn, sMx]; done) | (simp only [sMn, sMx]; rfl))))⟩⟩)

