theorem ktos8 : (8 : Int32).toInt = 8 := by decide
theorem ktos0 : (0 : Int32).toInt = 0 := by decide
theorem ktos1 : (1 : Int32).toInt = 1 := by decide
theorem ktos99 : (99 : Int32).toInt = 99 := by decide
theorem ktos9 : (9 : Int32).toInt = 9 := by decide
theorem ktosm2 : ((-2) : Int32).toInt = (-2) := by decide
theorem ktos64 : (64 : Int32).toInt = 64 := by decide
theorem tos0 {a0 a1 : Int} (h0 : a0 ≤ a1) (h1 : a1 ≤ 8) (h2 : a0 = 8) : a1 = 8 := toq0 h0 h1 h2
theorem tos1 {a0 a1 : Int} (h0 : a0 ≠ a1) (h1 : a0 ≤ 99) (h2 : a1 = 99) : a0 < 99 := by omega
theorem tos2 {a0 : Int}  : a0 = a0 := oz34
theorem tos3 {a0 a1 : Int} (h0 : a0 = a1) (h1 : a1 = 99) : 99 ≤ a0 := by omega
theorem tos4 {a0 : Int} (h0 : a0 = (-2)) : a0 = -2 := toq2 h0
theorem tos5 {a0 : Int} (h0 : (0 : Int) ≤ a0) : (-2147483648 : Int) ≤ 9 * a0 := oz470 h0
theorem tos6 {a0 : Int} (h0 : a0 ≤ 8) : 9 * a0 ≤ 2147483647 := by omega
theorem tos7 {a0 a1 : Int} (h0 : (0 : Int) ≤ a0) (h1 : a1 = 9 * a0) : (0 : Int) ≤ a1 := oz472 h0 h1
theorem tos8 {a0 a1 a2 : Int} (h0 : a0 < a1) (h1 : a2 = 9 * a0) (h2 : a1 = 8) : a2 < 64 := oz473 h0 h1 h2
theorem tos9 {a0 a1 : Int} (h0 : (0 : Int) ≤ a0) (h1 : a1 = 1) : (-2147483648 : Int) ≤ a0 + a1 := oz12 h0 h1
theorem tos10 {a0 a1 : Int} (h0 : a0 ≤ 8) (h1 : a1 = 1) : a0 + a1 ≤ 2147483647 := oz13 h0 h1
theorem tos11 {a0 a1 a2 a3 : Int} (h0 : a0 < a1) (h1 : (0 : Int) ≤ a0) (h2 : a2 = a0 + a3) (h3 : a1 = 8) (h4 : a3 = 1) : ((0 : Int) ≤ a2) ∧ (a2 ≤ 8) := toq10 h0 h1 h2 h3 h4
theorem tos12 {a0 a1 : Int} (h0 : a0 ≤ a1) (h1 : a1 ≤ 99) : a0 ≤ 99 := by omega
theorem tos13 {a0 : Int} (h0 : (0 : Int) ≤ a0) : (0 : Int) ≤ a0 := oz3 h0
theorem tos14 {a0 a1 : Int} (h0 : a0 < a1) (h1 : a1 = 8) : a0 < 8 := oz936 h0 h1
theorem tos15 {a0 a1 : Int} (h0 : a0 = 9 * a1) : a0 = 9 * a1 := by omega
theorem tos16 {a0 a1 a2 : Int} (h0 : a0 = a1 + a2) (h1 : a2 = 1) : a0 = a1 + 1 := oz169 h0 h1
theorem tos17 {a0 a1 a2 : Int} (h0 : a0 ≤ a1) (h1 : a0 ≤ a2) (h2 : a0 = a1 ∨ a0 = a2) : (a0 ≤ a1 ∧ a0 ≤ a2) ∧ (a0 = a1 ∨ a0 = a2) := toq13 h0 h1 h2
theorem tos18 {a0 a1 a2 : Int} (h0 : a0 = a1 + a2) (h1 : a2 = 1) : (8 - a0) < (8 - a1) := oz475 h0 h1
theorem tos19 {a0 a1 : Int} (h0 : a0 < a1) (h1 : a1 = 8) : (1 : Int) ≤ (8 - a0) := oz476 h0 h1
theorem tos20 {a0 : Int} (h0 : a0 = 0) : ((0 : Int) ≤ a0) ∧ (a0 ≤ 8) := toq45 h0
theorem tos21 {a0 : Int} (h0 : a0 = 99) : a0 ≤ 99 := by omega
theorem tos22 {a0 a1 : Int} (h0 : a0 ≤ a1) (h1 : a0 = 64) : 64 ≤ a1 := by omega
theorem tos23 {a0 a1 : Int} (h0 : a0 < a1) (h1 : a1 = 64) : a0 < 64 := oz237 h0 h1
theorem tos24 {a0 a1 : Int} (h0 : (0 : Int) ≤ a0) (h1 : a1 = (a0 % 8)) : (-2147483648 : Int) ≤ a0 - a1 := oz477 h0 h1
theorem tos25 {a0 a1 a2 : Int} (h0 : a0 < a1) (h1 : a2 = (a0 % 8)) (h2 : a1 = 64) : a0 - a2 ≤ 2147483647 := oz478 h0 h1 h2
theorem tos26 {a0 a1 a2 a3 : Int} (h0 : (0 : Int) ≤ a0) (h1 : (0 : Int) ≤ a1) (h2 : a2 = (a0 % 8)) (h3 : a3 = a0 - a2) : (-2147483648 : Int) ≤ a3 + a1 := oz479 h0 h1 h2 h3
theorem tos27 {a0 a1 a2 a3 a4 a5 : Int} (h0 : a0 < a1) (h1 : a2 < a3) (h2 : a4 = (a2 % 8)) (h3 : a5 = a2 - a4) (h4 : a1 = 8) (h5 : a3 = 64) : a5 + a0 ≤ 2147483647 := oz480 h0 h1 h2 h3 h4 h5
theorem tos28 {a0 a1 a2 a3 a4 : Int} (h0 : (0 : Int) ≤ a0) (h1 : (0 : Int) ≤ a1) (h2 : a2 = (a0 % 8)) (h3 : a3 = a0 - a2) (h4 : a4 = a3 + a1) : (0 : Int) ≤ a4 := oz481 h0 h1 h2 h3 h4
theorem tos29 {a0 a1 a2 a3 a4 a5 a6 : Int} (h0 : a0 < a1) (h1 : a2 < a3) (h2 : a4 = (a2 % 8)) (h3 : a5 = a2 - a4) (h4 : a6 = a5 + a0) (h5 : a1 = 8) (h6 : a3 = 64) : a6 < 64 := oz482 h0 h1 h2 h3 h4 h5 h6
theorem tos30 {a0 : Int} (h0 : (0 : Int) ≤ a0) : (-2147483648 : Int) ≤ 8 * a0 := oz345 h0
theorem tos31 {a0 : Int} (h0 : a0 ≤ 8) : 8 * a0 ≤ 2147483647 := by omega
theorem tos32 {a0 a1 a2 a3 : Int} (h0 : (0 : Int) ≤ a0) (h1 : a1 = (a2 % 8)) (h2 : a3 = 8 * a0) : (-2147483648 : Int) ≤ a3 + a1 := oz484 h0 h1 h2
theorem tos33 {a0 a1 a2 a3 : Int} (h0 : a0 ≤ 8) (h1 : a1 = (a2 % 8)) (h2 : a3 = 8 * a0) : a3 + a1 ≤ 2147483647 := by omega
theorem tos34 {a0 a1 a2 a3 a4 : Int} (h0 : (0 : Int) ≤ a0) (h1 : a1 = (a2 % 8)) (h2 : a3 = 8 * a0) (h3 : a4 = a3 + a1) : (0 : Int) ≤ a4 := oz486 h0 h1 h2 h3
theorem tos35 {a0 a1 a2 a3 a4 a5 : Int} (h0 : a0 < a1) (h1 : a2 = (a3 % 8)) (h2 : a4 = 8 * a0) (h3 : a5 = a4 + a2) (h4 : a1 = 8) : a5 < 64 := oz487 h0 h1 h2 h3 h4
theorem tos36 {a0 a1 a2 a3 a4 : Int} (h0 : a0 = (a1 % 8)) (h1 : a2 = a1 - a0) (h2 : a3 = a2 + a4) : a3 = a1 - a1 % 8 + a4 := by omega
theorem tos37 {a0 a1 a2 a3 a4 : Int} (h0 : a0 = (a1 % 8)) (h1 : a2 = 8 * a3) (h2 : a4 = a2 + a0) : a4 = 8 * a3 + a1 % 8 := by omega
theorem tos38 {a0 a1 : Int} (h0 : (1 : Int) ≤ a0) (h1 : (1 : Int) ≤ a1) : (-2147483648 : Int) ≤ a0 + a1 := toq49 h0 h1
theorem tos39 {a0 a1 : Int} (h0 : a0 ≤ 99) (h1 : a1 ≤ 99) : a0 + a1 ≤ 2147483647 := by omega
theorem tos40 {a0 a1 a2 : Int} (h0 : a0 < a1) (h1 : a1 = 64) (h2 : a2 = 1) : a0 + a2 ≤ 2147483647 := oz238 h0 h1 h2
theorem tos41 {a0 a1 : Int} (h0 : a0 < a1) (h1 : (0 : Int) ≤ a0) (h2 : a1 = 8) : ((0 : Int) ≤ a0) ∧ (a0 ≤ 7) := oz488 h0 h1 h2
theorem tos42 {a0 a1 a2 : Int} (h0 : (0 : Int) ≤ a0) (h1 : a1 = a0 + a2) (h2 : a2 = 1) : (0 : Int) ≤ a1 := oz14 h0 h1 h2
theorem tos43 {a0 a1 a2 : Int} (h0 : a0 = a1 + a2) : a0 = a1 + a2 := toq51 h0
theorem tos44 {a0 a1 a2 : Int} (h0 : a0 = a1 + a2) (h1 : a2 = 1) : (64 - a0) < (64 - a1) := oz239 h0 h1
theorem tos45 {a0 a1 : Int} (h0 : a0 < a1) (h1 : a1 = 64) : (1 : Int) ≤ (64 - a0) := oz240 h0 h1
theorem tos46 {a0 : Int} (h0 : a0 = 0) : (0 : Int) ≤ a0 := oz46 h0
theorem tos47 {a0 a1 : Int} (h0 : a0 ≤ a1) (h1 : a1 = 0) : a0 ≤ 0 := ou135 h0 h1
theorem tos48 {a0 a1 : Int} (h0 : a0 < a1) (h1 : a0 = 0) : 0 < a1 := toq83 h0 h1
theorem tos62 {a0 : Int} (h0 : (0 : Int) ≤ a0) (h1 : a0 ≤ 5) : ((0 : Int) ≤ a0) ∧ (a0 ≤ 5) := oz35 h0 h1
theorem tos100 {a0 a1 : Int} (h0 : a0 ≤ a1) : a0 ≤ a1 := oz173 h0
theorem tos121 {a0 : Int} (h0 : a0 = 0) : a0 = 0 := oz236 h0
theorem tos126 {a0 : Int} (h0 : (0 : Int) ≤ a0) (h1 : a0 ≤ 7) : ((0 : Int) ≤ a0) ∧ (a0 ≤ 7) := oz181 h0 h1
theorem tos132 {a0 a1 : Int} (h0 : a0 < a1) : (1 : Int) ≤ (a1 - a0) := oz45 h0
theorem tos135 {a0 a1 a2 a3 : Int} (h0 : (0 : Int) ≤ a0) (h1 : a0 ≤ 5) (h2 : a1 ≤ a2) (h3 : a2 ≤ a3) (h4 : a1 = 0) (h5 : a3 = 1) : (((0 : Int) ≤ a2) ∧ (a2 ≤ 1)) ∧ ((0 : Int) ≤ a0) ∧ (a0 ≤ 5) := by omega
theorem tos136 {a0 a1 : Int} (h0 : a0 ≤ a1) (h1 : a0 = 0) : ¬ (a1 < 0) := oy47 h0 h1
theorem tos137 {a0 a1 : Int} (h0 : (1 : Int) ≤ a0) (h1 : a0 ≤ a1) : ¬ (a1 ≤ 0) := by omega
theorem tos138 {a0 a1 a2 a3 a4 : Int} (h0 : a0 ≤ a1) (h1 : a2 = a3) (h2 : a0 = a2) (h3 : a3 = a4) (h4 : a1 ≤ a4) : a1 = a4 := by omega
theorem tos139 {a0 a1 : Int} (h0 : a0 ≠ a1) (h1 : a1 ≤ a0) (h2 : a1 = 0) : ¬ (a0 = 0) := toy121 h0 h1 h2
theorem tos140 {a0 a1 : Int} (h0 : a0 = a1) (h1 : a1 = 0) : ¬ (a0 = 1) := toy129 h0 h1
theorem tos141 {a0 : Int} (h0 : (1 : Int) ≤ a0) : (0 : Int) ≤ a0 := oz489 h0
theorem tos142 {a0 a1 : Int} (h0 : a0 ≤ 8) (h1 : a1 ≤ a0) : a1 < 31 := by omega
theorem tos143 {a0 : Int} (h0 : a0 ≤ 7) : a0 < 31 := oz65 h0
theorem tos144 {a0 a1 : Int} (h0 : (1 : Int) ≤ a0) (h1 : a1 = 1) : (-2147483648 : Int) ≤ a0 + a1 := oz491 h0 h1
theorem tos145 {a0 a1 a2 : Int} (h0 : a0 ≤ 8) (h1 : a1 ≤ a0) (h2 : a2 = 1) : a1 + a2 ≤ 2147483647 := by omega
theorem tos146 {a0 a1 a2 : Int} (h0 : (1 : Int) ≤ a0) (h1 : a1 = a0 + a2) (h2 : a2 = 1) : (1 : Int) ≤ a1 := oz492 h0 h1 h2
theorem tos147 {a0 a1 a2 a3 a4 a5 a6 : Int} (h0 : a0 < a1) (h1 : a2 = a3) (h2 : a1 = a2) (h3 : a3 = a4) (h4 : a5 = a0 + a6) (h5 : a6 = 1) : a5 ≤ a4 := by omega
theorem tos148 {a0 a1 a2 a3 : Int} (h0 : a0 = a1) (h1 : a2 = a0) (h2 : a1 = a3) : a2 = a3 := ox22 h0 h1 h2
theorem tos149 {a0 a1 a2 a3 a4 : Int} (h0 : a0 < a1) (h1 : a2 = a3) (h2 : a1 = a2) (h3 : a3 = a4) (h4 : a4 ≤ 8) : a0 < 8 := by omega
theorem tos150 {a0 : Int} (h0 : a0 ≤ 7) : a0 < 8 := oz1032 h0
theorem tos151 {a0 : Int} (h0 : (1 : Int) ≤ a0) : (1 : Int) ≤ a0 := oz526 h0
theorem tos152 {a0 a1 a2 a3 : Int} (h0 : a0 = a1 + a2) (h1 : a2 = 1) : (a3 - a0) < (a3 - a1) := oz44 h0 h1
theorem tos153 {a0 a1 a2 a3 a4 : Int} (h0 : a0 < a1) (h1 : a2 = a3) (h2 : a1 = a2) (h3 : a3 = a4) (h4 : a4 ≤ 8) (h5 : (1 : Int) ≤ a0) : ((0 : Int) ≤ a0) ∧ (a0 ≤ 7) := by omega
theorem tos154 {a0 a1 : Int} (h0 : a0 < a1) : a0 < a1 := oz270 h0
theorem tos155 {a0 : Int} (h0 : a0 = 1) : (1 : Int) ≤ a0 := oz494 h0
theorem tos156 {a0 a1 a2 : Int} (h0 : a0 ≠ a1) (h1 : (0 : Int) ≤ a0) (h2 : a1 = 0) (h3 : a2 = 1) : a2 ≤ a0 := by omega
theorem tos157 {a0 : Int} (h0 : a0 = 0) : ((0 : Int) ≤ a0) ∧ (a0 ≤ 7) := oz463 h0
theorem tos158 {a0 a1 : Int} (h0 : a0 = a1) (h1 : a1 = 0) : a0 ≤ 0 := toy76 h0 h1
theorem tos159 {a0 a1 : Int} (h0 : a0 = a1) (h1 : a1 = 0) : ¬ (0 < a0) := by omega
theorem tos160 {a0 a1 : Int} (h0 : a0 < a1) (h1 : a1 = 0) : a0 < 0 := oz1670 h0 h1
theorem tos161 {a0 a1 a2 a3 : Int} (h0 : ¬ ((a0 ≤ a1) ∧ (a1 ≤ a2))) (h1 : a0 = 0) (h2 : a2 = 1) : ¬ ((((0 : Int) ≤ a1) ∧ (a1 ≤ 1)) ∧ ((0 : Int) ≤ a3) ∧ (a3 ≤ 5)) := by omega
theorem tos162 {a0 a1 : Int} (h0 : ¬ (((0 : Int) ≤ a0) ∧ (a0 ≤ 5))) : ¬ ((((0 : Int) ≤ a1) ∧ (a1 ≤ 1)) ∧ ((0 : Int) ≤ a0) ∧ (a0 ≤ 5)) := by omega
def ygw188_116 : kW := ([], [148], [], [])
def ygw188_116_L2 : kW := ([], [148], [], [])
def ygw188_116_L37 : kW := ([], [148], [], [])
def ygw188_116_L45 : kW := ([], [148], [], [])
set_option maxRecDepth 100000 in
theorem kg188_116 {i : Nat → Int32} {a : Nat → List Int32} {q : Nat → List Int64} {r : Nat → Nat} (hI : kI i a q) (hr : kr r)  : km 1 188 [.ref 116] (ks i a q r) (kVI ygw188_116 i a q r (fun v i1 a1 q1 r1 => (True) ∧ fRgG (a 141) v)) := by
  have hG := kG_self ygw188_116 hI hr
  refine km_ofI (q := (mi_h188, mi_c188)) rfl (by decide) (Nat.le_of_ble_eq_true rfl) ?_
  intro P hP
  refine ft_go mi_k188 2 2 [(1, .int 0), (0, .ref 116)] [] i a q r (by rfl) ?_
  have lp1 : ∀ (nz : Nat) (i1 : Nat → Int32) (a1 : Nat → List Int32) (q1 : Nat → List Int64) (r1 : Nat → Nat) (l1_1 : Int32), kG ygw188_116_L2 i a q r i1 a1 q1 r1 → (0 : Int) ≤ l1_1.toInt → kVr (a1 148) l1_1.toInt (wIn 99 (eG (a 141))) → ((64 - l1_1.toInt)).toNat < nz → ko 1 (mi_h188, mi_c188) P (2, [(1, .int l1_1), (0, .ref 116)], [], (0, 0), ks i1 a1 q1 r1) := by
    intro nz
    induction nz with
    | zero =>
      intro _ _ _ _ _ _ _ _ hm
      exact absurd hm (Nat.not_lt_zero _)
    | succ nz ih1 =>
      intro i1 a1 q1 r1 l1_1 hL1 p1_0 O1_0 hm1
      refine ft_go mi_k188 2 5 [(1, .int l1_1), (0, .ref 116)] [.int 64, .int l1_1] i1 a1 q1 r1 (by rfl) ?_
      refine ft_if mi_k188 (decide (64 ≤ l1_1)) 35 8 [(1, .int l1_1), (0, .ref 116)] [] (by rfl) (fun c => ?_) (fun c => ?_)
      ·
        have c2 : (64 : Int32).toInt ≤ l1_1.toInt := kd_le c; clear c
        have hG3 := kG_call hG hL1 (by decide +kernel)
        refine ft_go mi_k188 2 37 [(1, .int 0), (0, .ref 116)] [] i1 a1 q1 r1 (by rfl) ?_
        have lp4 : ∀ (nz : Nat) (i4 : Nat → Int32) (a4 : Nat → List Int32) (q4 : Nat → List Int64) (r4 : Nat → Nat) (l1_4 : Int32), kG ygw188_116_L37 i1 a1 q1 r1 i4 a4 q4 r4 → ((0 : Int) ≤ l1_4.toInt) ∧ (l1_4.toInt ≤ 8) → kVs (a4 148) 0 (wAll 99 (eG (a 141)) (l1_4.toInt.toNat + 1)) (wAll 99 (eG (a 141)) l1_4.toInt.toNat) → ((8 - l1_4.toInt)).toNat < nz → ko 1 (mi_h188, mi_c188) P (37, [(1, .int l1_4), (0, .ref 116)], [], (0, 0), ks i4 a4 q4 r4) := by
          intro nz
          induction nz with
          | zero =>
            intro _ _ _ _ _ _ _ _ hm
            exact absurd hm (Nat.not_lt_zero _)
          | succ nz ih4 =>
            intro i4 a4 q4 r4 l1_4 hL4 p4_0 O4_0 hm4
            refine ft_go mi_k188 2 40 [(1, .int l1_4), (0, .ref 116)] [.int 8, .int l1_4] i4 a4 q4 r4 (by rfl) ?_
            refine ft_if mi_k188 (decide (8 ≤ l1_4)) 106 43 [(1, .int l1_4), (0, .ref 116)] [] (by rfl) (fun c => ?_) (fun c => ?_)
            ·
              have c5 : (8 : Int32).toInt ≤ l1_4.toInt := kd_le c; clear c
              have hG6 := kG_call hG3 hL4 (by decide +kernel)
              refine ft_go mi_k188 4 111 [(2, .int 0), (1, .int 99), (0, .ref 116)] [] i4 a4 q4 r4 (by rfl) ?_
              have lp7 : ∀ (nz : Nat) (l2_7 : Int32) (l1_7 : Int32), ((0 : Int) ≤ l2_7.toInt) ∧ (l2_7.toInt ≤ 8) → l1_7.toInt ≤ 99 → l1_7.toInt = rLst 99 (wAll 99 (eG (a 141)) 8) l2_7.toInt.toNat → ((8 - l2_7.toInt)).toNat < nz → ko 1 (mi_h188, mi_c188) P (111, [(2, .int l2_7), (1, .int l1_7), (0, .ref 116)], [], (0, 0), ks i4 a4 q4 r4) := by
                intro nz
                induction nz with
                | zero =>
                  intro _ _ _ _ _ hm
                  exact absurd hm (Nat.not_lt_zero _)
                | succ nz ih7 =>
                  intro l2_7 l1_7 p7_0 p7_1 O7_0 hm7
                  refine ft_go mi_k188 2 114 [(2, .int l2_7), (1, .int l1_7), (0, .ref 116)] [.int 8, .int l2_7] i4 a4 q4 r4 (by rfl) ?_
                  refine ft_if mi_k188 (decide (8 ≤ l2_7)) 137 117 [(2, .int l2_7), (1, .int l1_7), (0, .ref 116)] [] (by rfl) (fun c => ?_) (fun c => ?_)
                  ·
                    have c8 : (8 : Int32).toInt ≤ l2_7.toInt := kd_le c; clear c
                    refine ft_go mi_k188 2 140 [(2, .int l2_7), (1, .int l1_7), (0, .ref 116)] [.int 99, .int l1_7] i4 a4 q4 r4 (by rfl) ?_
                    refine ft_if mi_k188 (l1_7 != 99) 148 143 [(2, .int l2_7), (1, .int l1_7), (0, .ref 116)] [] (by rfl) (fun c => ?_) (fun c => ?_)
                    ·
                      have c9 : l1_7.toInt ≠ (99 : Int32).toInt := kd_ne c; clear c
                      refine ft_go mi_k188 1 149 [(2, .int l2_7), (1, .int l1_7), (0, .ref 116)] [.int l1_7] i4 a4 q4 r4 (by rfl) ?_
                      exact ft_ret mi_k188 (by rfl) (hP l1_7 _ _ _ _ hG6 ⟨trivial, ⟨99, by decide, vLst_1 O7_0 (tos0 c8 p7_0.2 ktos8) (tos1 c9 p7_1 ktos99) tos2⟩⟩)
                    ·
                      have c10 : l1_7.toInt = (99 : Int32).toInt := kd_neF c; clear c
                      refine ft_go mi_k188 2 149 [(2, .int l2_7), (1, .int l1_7), (0, .ref 116)] [.int (-2)] i4 a4 q4 r4 (by rfl) ?_
                      exact ft_ret mi_k188 (by rfl) (hP (-2) _ _ _ _ hG6 ⟨trivial, ⟨99, by decide, vLst_n O7_0 (tos0 c8 p7_0.2 ktos8) (tos3 c10 ktos99) (tos4 ktosm2)⟩⟩)
                  ·
                    have c11 : l2_7.toInt < (8 : Int32).toInt := kd_leF c; clear c
                    have s12 : (9 * l2_7).toInt = 9 * l2_7.toInt := kd_cmul 9 ktos9 (tos5 p7_0.1) (tos6 p7_0.2)
                    refine ft_go mi_k188 6 126 [(2, .int l2_7), (1, .int l1_7), (0, .ref 116)] [.int (9 * l2_7), .ref 148, .int l1_7] i4 a4 q4 r4 (by rfl) ?_
                    refine ko_iald3 mi_k188.1 (n := 64) (c := 64) (ax := (0, 0, 0, 0, 0)) (mi_k188.2 _ _ (by rfl)) (by rfl) (ksG148 _ _ _ _) (hG6.I.2.1 148) rfl (tos7 p7_0.1 s12) (tos8 c11 s12 ktos8) ?_
                    have m14 : (((bif decide (((a4 148).getD (9 * l2_7).toNatClampNeg 0) < l1_7) then ((a4 148).getD (9 * l2_7).toNatClampNeg 0) else l1_7).toInt ≤ l1_7.toInt) ∧ ((bif decide (((a4 148).getD (9 * l2_7).toNatClampNeg 0) < l1_7) then ((a4 148).getD (9 * l2_7).toNatClampNeg 0) else l1_7).toInt ≤ ((a4 148).getD (9 * l2_7).toNatClampNeg 0).toInt)) ∧ ((bif decide (((a4 148).getD (9 * l2_7).toNatClampNeg 0) < l1_7) then ((a4 148).getD (9 * l2_7).toNatClampNeg 0) else l1_7).toInt = l1_7.toInt ∨ (bif decide (((a4 148).getD (9 * l2_7).toNatClampNeg 0) < l1_7) then ((a4 148).getD (9 * l2_7).toNatClampNeg 0) else l1_7).toInt = ((a4 148).getD (9 * l2_7).toNatClampNeg 0).toInt) := kd_min
                    refine ft_go mi_k188 1 130 [(2, .int l2_7), (1, .int l1_7), (0, .ref 116)] [.int (bif decide (((a4 148).getD (9 * l2_7).toNatClampNeg 0) < l1_7) then ((a4 148).getD (9 * l2_7).toNatClampNeg 0) else l1_7)] i4 a4 q4 r4 (by rfl) ?_
                    generalize hm13 : (bif decide (((a4 148).getD (9 * l2_7).toNatClampNeg 0) < l1_7) then ((a4 148).getD (9 * l2_7).toNatClampNeg 0) else l1_7) = m13 at m14 ⊢
                    have qm13 := hm13.symm
                    have s15 : (l2_7 + 1).toInt = l2_7.toInt + (1 : Int32).toInt := kd_add (tos9 p7_0.1 ktos1) (tos10 p7_0.2 ktos1)
                    refine ft_go mi_k188 3 111 [(2, .int (l2_7 + 1)), (1, .int m13), (0, .ref 116)] [] i4 a4 q4 r4 (by rfl) ?_
                    exact ih7 _ _ (tos11 c11 p7_0.1 s15 ktos8 ktos1) (tos12 m14.1.1 p7_1) (rLst_up O7_0 (tos13 p7_0.1) (tos16 s15 ktos1) (vG_d O4_0 (tos0 c5 p4_0.2 ktos8) (tos13 p7_0.1) (tos14 c11 ktos8) (tos15 s12)) (tos17 m14.1.1 m14.1.2 m14.2)) (kj_meas (tos18 s15 ktos1) (tos19 c11 ktos8) hm7)
              exact lp7 _ _ _ (tos20 ktos0) (tos21 ktos99) (vLst_0 ktos99 ktos0) (Nat.lt_succ_self _)
            ·
              have c16 : l1_4.toInt < (8 : Int32).toInt := kd_leF c; clear c
              refine ft_go mi_k188 2 45 [(2, .int 0), (1, .int l1_4), (0, .ref 116)] [] i4 a4 q4 r4 (by rfl) ?_
              have lp17 : ∀ (nz : Nat) (i17 : Nat → Int32) (a17 : Nat → List Int32) (q17 : Nat → List Int64) (r17 : Nat → Nat) (l2_17 : Int32), kG ygw188_116_L45 i4 a4 q4 r4 i17 a17 q17 r17 → ((0 : Int) ≤ l1_4.toInt) ∧ (l1_4.toInt ≤ 7) → (0 : Int) ≤ l2_17.toInt → kVs (a17 148) l2_17.toInt (wAll 99 (eG (a 141)) (l1_4.toInt.toNat + 1)) (wAll 99 (eG (a 141)) l1_4.toInt.toNat) → ((64 - l2_17.toInt)).toNat < nz → ko 1 (mi_h188, mi_c188) P (45, [(2, .int l2_17), (1, .int l1_4), (0, .ref 116)], [], (0, 0), ks i17 a17 q17 r17) := by
                intro nz
                induction nz with
                | zero =>
                  intro _ _ _ _ _ _ _ _ _ hm
                  exact absurd hm (Nat.not_lt_zero _)
                | succ nz ih17 =>
                  intro i17 a17 q17 r17 l2_17 hL17 p17_0 p17_1 O17_0 hm17
                  refine ft_go mi_k188 2 48 [(2, .int l2_17), (1, .int l1_4), (0, .ref 116)] [.int 64, .int l2_17] i17 a17 q17 r17 (by rfl) ?_
                  refine ft_if mi_k188 (decide (64 ≤ l2_17)) 100 51 [(2, .int l2_17), (1, .int l1_4), (0, .ref 116)] [] (by rfl) (fun c => ?_) (fun c => ?_)
                  ·
                    have c18 : (64 : Int32).toInt ≤ l2_17.toInt := kd_le c; clear c
                    have hG19 := kG_call hL4 hL17 (by decide +kernel)
                    have s20 : (l1_4 + 1).toInt = l1_4.toInt + (1 : Int32).toInt := kd_add (tos9 p4_0.1 ktos1) (tos10 p4_0.2 ktos1)
                    refine ft_go mi_k188 2 37 [(1, .int (l1_4 + 1)), (2, .int l2_17), (0, .ref 116)] [] i17 a17 q17 r17 (by rfl) ?_
                    refine ko_perm [(1, .int (l1_4 + 1)), (0, .ref 116)] (List.forall_mem_cons.mpr ⟨(List.Mem.head _), (List.forall_mem_cons.mpr ⟨(List.Mem.tail _ (List.Mem.tail _ (List.Mem.head _))), (fun _ h => absurd h List.not_mem_nil)⟩)⟩) ?_
                    exact ih4 _ _ _ _ _ hG19 (tos11 c16 p4_0.1 s20 ktos8 ktos1) (vNx O17_0 (tos22 c18 ktos64) (tos13 p4_0.1) (tos16 s20 ktos1)) (kj_meas (tos18 s20 ktos1) (tos19 c16 ktos8) hm4)
                  ·
                    have c21 : l2_17.toInt < (64 : Int32).toInt := kd_leF c; clear c
                    refine ft_go mi_k188 6 61 [(2, .int l2_17), (1, .int l1_4), (0, .ref 116)] [.int l2_17, .ref 148, .int l2_17, .ref 148] i17 a17 q17 r17 (by rfl) ?_
                    refine ko_iald3 mi_k188.1 (n := 64) (c := 64) (ax := (0, 0, 0, 0, 0)) (mi_k188.2 _ _ (by rfl)) (by rfl) (ksG148 _ _ _ _) (hL17.I.2.1 148) rfl (tos13 p17_1) (tos23 c21 ktos64) ?_
                    have s22 : (l2_17 - l2_17 / 8 * 8).toInt = (l2_17.toInt % 8) := kd_rem 8 ktos8 (by decide) (tos13 p17_1)
                    have s23 : (l2_17 - (l2_17 - l2_17 / 8 * 8)).toInt = l2_17.toInt - (l2_17 - l2_17 / 8 * 8).toInt := kd_sub (tos24 p17_1 s22) (tos25 c21 s22 ktos64)
                    have s24 : ((l2_17 - (l2_17 - l2_17 / 8 * 8)) + l1_4).toInt = (l2_17 - (l2_17 - l2_17 / 8 * 8)).toInt + l1_4.toInt := kd_add (tos26 p17_1 p4_0.1 s22 s23) (tos27 c16 c21 s22 s23 ktos8 ktos64)
                    refine ft_go mi_k188 9 74 [(2, .int l2_17), (1, .int l1_4), (0, .ref 116)] [.int ((l2_17 - (l2_17 - l2_17 / 8 * 8)) + l1_4), .ref 148, .int ((a17 148).getD l2_17.toNatClampNeg 0), .int l2_17, .ref 148] i17 a17 q17 r17 (by rfl) ?_
                    refine ko_iald3 mi_k188.1 (n := 64) (c := 64) (ax := (0, 0, 0, 0, 0)) (mi_k188.2 _ _ (by rfl)) (by rfl) (ksG148 _ _ _ _) (hL17.I.2.1 148) rfl (tos28 p17_1 p4_0.1 s22 s23 s24) (tos29 c16 c21 s22 s23 s24 ktos8 ktos64) ?_
                    have s25 : (8 * l1_4).toInt = 8 * l1_4.toInt := kd_cmul 8 ktos8 (tos30 p4_0.1) (tos31 p4_0.2)
                    have s26 : ((8 * l1_4) + (l2_17 - l2_17 / 8 * 8)).toInt = (8 * l1_4).toInt + (l2_17 - l2_17 / 8 * 8).toInt := kd_add (tos32 p4_0.1 s22 s25) (tos33 p4_0.2 s22 s25)
                    refine ft_go mi_k188 9 88 [(2, .int l2_17), (1, .int l1_4), (0, .ref 116)] [.int ((8 * l1_4) + (l2_17 - l2_17 / 8 * 8)), .ref 148, .int ((a17 148).getD ((l2_17 - (l2_17 - l2_17 / 8 * 8)) + l1_4).toNatClampNeg 0), .int ((a17 148).getD l2_17.toNatClampNeg 0), .int l2_17, .ref 148] i17 a17 q17 r17 (by rfl) ?_
                    refine ko_iald3 mi_k188.1 (n := 64) (c := 64) (ax := (0, 0, 0, 0, 0)) (mi_k188.2 _ _ (by rfl)) (by rfl) (ksG148 _ _ _ _) (hL17.I.2.1 148) rfl (tos34 p4_0.1 s22 s25 s26) (tos35 c16 s22 s25 s26 ktos8) ?_
                    have ex27 : (((a17 148).getD l2_17.toNatClampNeg 0)).toInt = (wAll 99 (eG (a 141)) l1_4.toInt.toNat) (l2_17.toInt.toNat / 8) (l2_17.toInt.toNat % 8) := vG_x O17_0 (tos13 p17_1) (tos23 c21 ktos64)
                    have ey28 : (((a17 148).getD ((l2_17 - (l2_17 - l2_17 / 8 * 8)) + l1_4).toNatClampNeg 0)).toInt = (wAll 99 (eG (a 141)) l1_4.toInt.toNat) (l2_17.toInt.toNat / 8) l1_4.toInt.toNat := vG_a O17_0 (tos13 p4_0.1) (tos14 c16 ktos8) (tos13 p17_1) (tos23 c21 ktos64) (tos36 s22 s23 s24)
                    have ez29 : (((a17 148).getD ((8 * l1_4) + (l2_17 - l2_17 / 8 * 8)).toNatClampNeg 0)).toInt = (wAll 99 (eG (a 141)) l1_4.toInt.toNat) l1_4.toInt.toNat (l2_17.toInt.toNat % 8) := vG_b O17_0 (tos13 p4_0.1) (tos14 c16 ktos8) (tos13 p17_1) (tos23 c21 ktos64) (tos37 s22 s25 s26)
                    have hw30 : ((1 : Int) ≤ ((a17 148).getD ((l2_17 - (l2_17 - l2_17 / 8 * 8)) + l1_4).toNatClampNeg 0).toInt) ∧ (((a17 148).getD ((l2_17 - (l2_17 - l2_17 / 8 * 8)) + l1_4).toNatClampNeg 0).toInt ≤ 99) := vG_rng ey28 (tos14 c16 ktos8)
                    have hw31 : ((1 : Int) ≤ ((a17 148).getD ((8 * l1_4) + (l2_17 - l2_17 / 8 * 8)).toNatClampNeg 0).toInt) ∧ (((a17 148).getD ((8 * l1_4) + (l2_17 - l2_17 / 8 * 8)).toNatClampNeg 0).toInt ≤ 99) := vG_rng ez29 (tos14 c16 ktos8)
                    have s32 : (((a17 148).getD ((l2_17 - (l2_17 - l2_17 / 8 * 8)) + l1_4).toNatClampNeg 0) + ((a17 148).getD ((8 * l1_4) + (l2_17 - l2_17 / 8 * 8)).toNatClampNeg 0)).toInt = ((a17 148).getD ((l2_17 - (l2_17 - l2_17 / 8 * 8)) + l1_4).toNatClampNeg 0).toInt + ((a17 148).getD ((8 * l1_4) + (l2_17 - l2_17 / 8 * 8)).toNatClampNeg 0).toInt := kd_add (tos38 hw30.1 hw31.1) (tos39 hw30.2 hw31.2)
                    refine ft_go mi_k188 1 90 [(2, .int l2_17), (1, .int l1_4), (0, .ref 116)] [.int (((a17 148).getD ((l2_17 - (l2_17 - l2_17 / 8 * 8)) + l1_4).toNatClampNeg 0) + ((a17 148).getD ((8 * l1_4) + (l2_17 - l2_17 / 8 * 8)).toNatClampNeg 0)), .int ((a17 148).getD l2_17.toNatClampNeg 0), .int l2_17, .ref 148] i17 a17 q17 r17 (by rfl) ?_
                    have m34 : (((bif decide ((((a17 148).getD ((l2_17 - (l2_17 - l2_17 / 8 * 8)) + l1_4).toNatClampNeg 0) + ((a17 148).getD ((8 * l1_4) + (l2_17 - l2_17 / 8 * 8)).toNatClampNeg 0)) < ((a17 148).getD l2_17.toNatClampNeg 0)) then (((a17 148).getD ((l2_17 - (l2_17 - l2_17 / 8 * 8)) + l1_4).toNatClampNeg 0) + ((a17 148).getD ((8 * l1_4) + (l2_17 - l2_17 / 8 * 8)).toNatClampNeg 0)) else ((a17 148).getD l2_17.toNatClampNeg 0)).toInt ≤ ((a17 148).getD l2_17.toNatClampNeg 0).toInt) ∧ ((bif decide ((((a17 148).getD ((l2_17 - (l2_17 - l2_17 / 8 * 8)) + l1_4).toNatClampNeg 0) + ((a17 148).getD ((8 * l1_4) + (l2_17 - l2_17 / 8 * 8)).toNatClampNeg 0)) < ((a17 148).getD l2_17.toNatClampNeg 0)) then (((a17 148).getD ((l2_17 - (l2_17 - l2_17 / 8 * 8)) + l1_4).toNatClampNeg 0) + ((a17 148).getD ((8 * l1_4) + (l2_17 - l2_17 / 8 * 8)).toNatClampNeg 0)) else ((a17 148).getD l2_17.toNatClampNeg 0)).toInt ≤ (((a17 148).getD ((l2_17 - (l2_17 - l2_17 / 8 * 8)) + l1_4).toNatClampNeg 0) + ((a17 148).getD ((8 * l1_4) + (l2_17 - l2_17 / 8 * 8)).toNatClampNeg 0)).toInt)) ∧ ((bif decide ((((a17 148).getD ((l2_17 - (l2_17 - l2_17 / 8 * 8)) + l1_4).toNatClampNeg 0) + ((a17 148).getD ((8 * l1_4) + (l2_17 - l2_17 / 8 * 8)).toNatClampNeg 0)) < ((a17 148).getD l2_17.toNatClampNeg 0)) then (((a17 148).getD ((l2_17 - (l2_17 - l2_17 / 8 * 8)) + l1_4).toNatClampNeg 0) + ((a17 148).getD ((8 * l1_4) + (l2_17 - l2_17 / 8 * 8)).toNatClampNeg 0)) else ((a17 148).getD l2_17.toNatClampNeg 0)).toInt = ((a17 148).getD l2_17.toNatClampNeg 0).toInt ∨ (bif decide ((((a17 148).getD ((l2_17 - (l2_17 - l2_17 / 8 * 8)) + l1_4).toNatClampNeg 0) + ((a17 148).getD ((8 * l1_4) + (l2_17 - l2_17 / 8 * 8)).toNatClampNeg 0)) < ((a17 148).getD l2_17.toNatClampNeg 0)) then (((a17 148).getD ((l2_17 - (l2_17 - l2_17 / 8 * 8)) + l1_4).toNatClampNeg 0) + ((a17 148).getD ((8 * l1_4) + (l2_17 - l2_17 / 8 * 8)).toNatClampNeg 0)) else ((a17 148).getD l2_17.toNatClampNeg 0)).toInt = (((a17 148).getD ((l2_17 - (l2_17 - l2_17 / 8 * 8)) + l1_4).toNatClampNeg 0) + ((a17 148).getD ((8 * l1_4) + (l2_17 - l2_17 / 8 * 8)).toNatClampNeg 0)).toInt) := kd_min
                    refine ft_go mi_k188 1 93 [(2, .int l2_17), (1, .int l1_4), (0, .ref 116)] [.int (bif decide ((((a17 148).getD ((l2_17 - (l2_17 - l2_17 / 8 * 8)) + l1_4).toNatClampNeg 0) + ((a17 148).getD ((8 * l1_4) + (l2_17 - l2_17 / 8 * 8)).toNatClampNeg 0)) < ((a17 148).getD l2_17.toNatClampNeg 0)) then (((a17 148).getD ((l2_17 - (l2_17 - l2_17 / 8 * 8)) + l1_4).toNatClampNeg 0) + ((a17 148).getD ((8 * l1_4) + (l2_17 - l2_17 / 8 * 8)).toNatClampNeg 0)) else ((a17 148).getD l2_17.toNatClampNeg 0)), .int l2_17, .ref 148] i17 a17 q17 r17 (by rfl) ?_
                    generalize hm33 : (bif decide ((((a17 148).getD ((l2_17 - (l2_17 - l2_17 / 8 * 8)) + l1_4).toNatClampNeg 0) + ((a17 148).getD ((8 * l1_4) + (l2_17 - l2_17 / 8 * 8)).toNatClampNeg 0)) < ((a17 148).getD l2_17.toNatClampNeg 0)) then (((a17 148).getD ((l2_17 - (l2_17 - l2_17 / 8 * 8)) + l1_4).toNatClampNeg 0) + ((a17 148).getD ((8 * l1_4) + (l2_17 - l2_17 / 8 * 8)).toNatClampNeg 0)) else ((a17 148).getD l2_17.toNatClampNeg 0)) = m33 at m34 ⊢
                    have qm33 := hm33.symm
                    refine ko_iast3 mi_k188.1 (n := 64) (c := 64) (ax := (0, 0, 0, 0, 0)) (mi_k188.2 _ _ (by rfl)) (by rfl) (ksG148 _ _ _ _) (ksA148 _ _ _ _) (hL17.I.2.1 148) rfl (tos13 p17_1) (tos23 c21 ktos64) ?_
                    intro a35 ea35 fa35
                    have hJ35 := kG_a3 hL17 148 rfl ea35 fa35 (kd_bd _)
                    have s36 : (l2_17 + 1).toInt = l2_17.toInt + (1 : Int32).toInt := kd_add (tos9 p17_1 ktos1) (tos40 c21 ktos64 ktos1)
                    refine ft_go mi_k188 2 45 [(2, .int (l2_17 + 1)), (1, .int l1_4), (0, .ref 116)] [] i17 a35 q17 r17 (by rfl) ?_
                    exact ih17 _ _ _ _ _ hJ35 (tos41 c16 p4_0.1 ktos8) (tos42 p17_1 s36 ktos1) (kVs_set O17_0 (hL17.I.2.1 148) (tos13 p17_1) (tos23 c21 ktos64) ea35 (wSt_v ex27 ey28 ez29 (tos43 s32) (tos17 m34.1.1 m34.1.2 m34.2)) (tos16 s36 ktos1)) (kj_meas (tos44 s36 ktos1) (tos45 c21 ktos64) hm17)
              exact lp17 _ _ _ _ _ _ (kG_self _ hL4.I hL4.R) (tos41 c16 p4_0.1 ktos8) (tos46 ktos0) (kVs_c O4_0 rfl ktos0) (Nat.lt_succ_self _)
        exact lp4 _ _ _ _ _ _ (kG_self _ hG3.I hG3.R) (tos20 ktos0) (kVs_of (show kVr (a1 148) l1_1.toInt (wAll 99 (eG (a 141)) (0 : Int32).toInt.toNat) from O1_0) (tos22 c2 ktos64) rfl) (Nat.lt_succ_self _)
      ·
        have c37 : l1_1.toInt < (64 : Int32).toInt := kd_leF c; clear c
        refine ft_go mi_k188 6 18 [(1, .int l1_1), (0, .ref 116)] [.int l1_1, .ref 141, .int l1_1, .ref 148] i1 a1 q1 r1 (by rfl) ?_
        refine ko_iald3 mi_k188.1 (n := 64) (c := 64) (ax := (0, 0, 0, 0, 0)) (mi_k188.2 _ _ (by rfl)) (by rfl) (ksG141 _ _ _ _) (hL1.I.2.1 141) rfl (tos13 p1_0) (tos23 c37 ktos64) ?_
        refine ft_if mi_k188 (decide (((a1 141).getD l1_1.toNatClampNeg 0) ≤ 0)) 26 22 [(1, .int l1_1), (0, .ref 116)] [.int l1_1, .ref 148] (by rfl) (fun c => ?_) (fun c => ?_)
        ·
          have c38 : ((a1 141).getD l1_1.toNatClampNeg 0).toInt ≤ (0 : Int32).toInt := kd_le c; clear c
          refine ft_go mi_k188 1 28 [(1, .int l1_1), (0, .ref 116)] [.int 99, .int l1_1, .ref 148] i1 a1 q1 r1 (by rfl) ?_
          refine ko_iast3 mi_k188.1 (n := 64) (c := 64) (ax := (0, 0, 0, 0, 0)) (mi_k188.2 _ _ (by rfl)) (by rfl) (ksG148 _ _ _ _) (ksA148 _ _ _ _) (hL1.I.2.1 148) rfl (tos13 p1_0) (tos23 c37 ktos64) ?_
          intro a39 ea39 fa39
          have hJ39 := kG_a3 hL1 148 rfl ea39 fa39 (kd_bd _)
          have s40 : (l1_1 + 1).toInt = l1_1.toInt + (1 : Int32).toInt := kd_add (tos9 p1_0 ktos1) (tos40 c37 ktos64 ktos1)
          refine ft_go mi_k188 2 2 [(1, .int (l1_1 + 1)), (0, .ref 116)] [] i1 a39 q1 r1 (by rfl) ?_
          exact ih1 _ _ _ _ _ hJ39 (tos42 p1_0 s40 ktos1) (kVr_set O1_0 (hL1.I.2.1 148) (tos13 p1_0) (tos23 c37 ktos64) ea39 (vIn_n ktos99 (tos13 p1_0) (kj_lt0 (congrArg (fun z : List Int32 => (z.getD l1_1.toNatClampNeg 0).toInt) ((hL1.fa 141 rfl) : a1 141 = a 141)) (tos47 c38 ktos0))) (tos16 s40 ktos1)) (kj_meas (tos44 s40 ktos1) (tos45 c37 ktos64) hm1)
        ·
          have c41 : (0 : Int32).toInt < ((a1 141).getD l1_1.toNatClampNeg 0).toInt := kd_leF c; clear c
          refine ft_go mi_k188 2 28 [(1, .int l1_1), (0, .ref 116)] [.int 1, .int l1_1, .ref 148] i1 a1 q1 r1 (by rfl) ?_
          refine ko_iast3 mi_k188.1 (n := 64) (c := 64) (ax := (0, 0, 0, 0, 0)) (mi_k188.2 _ _ (by rfl)) (by rfl) (ksG148 _ _ _ _) (ksA148 _ _ _ _) (hL1.I.2.1 148) rfl (tos13 p1_0) (tos23 c37 ktos64) ?_
          intro a42 ea42 fa42
          have hJ42 := kG_a3 hL1 148 rfl ea42 fa42 (kd_bd _)
          have s43 : (l1_1 + 1).toInt = l1_1.toInt + (1 : Int32).toInt := kd_add (tos9 p1_0 ktos1) (tos40 c37 ktos64 ktos1)
          refine ft_go mi_k188 2 2 [(1, .int (l1_1 + 1)), (0, .ref 116)] [] i1 a42 q1 r1 (by rfl) ?_
          exact ih1 _ _ _ _ _ hJ42 (tos42 p1_0 s43 ktos1) (kVr_set O1_0 (hL1.I.2.1 148) (tos13 p1_0) (tos23 c37 ktos64) ea42 (vIn_1 ktos1 (tos13 p1_0) (kj_lt1 (congrArg (fun z : List Int32 => (z.getD l1_1.toNatClampNeg 0).toInt) ((hL1.fa 141 rfl) : a1 141 = a 141)) (tos48 c41 ktos0))) (tos16 s43 ktos1)) (kj_meas (tos44 s43 ktos1) (tos45 c37 ktos64) hm1)
  exact lp1 _ _ _ _ _ _ (kG_self _ hG.I hG.R) (tos46 ktos0) (kVr_0 (Int.le_of_eq ktos0)) (Nat.lt_succ_self _)
def yzw189_116 : kW := ([7464, 7465, 7466, 7467, 7469], [118, 128, 129, 139, 141, 142, 143, 144, 145, 148], [], [])
set_option maxRecDepth 100000 in
theorem kz189_116 {i : Nat → Int32} {a : Nat → List Int32} {q : Nat → List Int64} {r : Nat → Nat} (hI : kI i a q) (hr : kr r) (x1 : Int32) (x2 : Int32) (hE_code : kCode i a) : km 13 189 [.ref 116, .int x1, .int x2] (ks i a q r) (kVI yzw189_116 i a q r (fun v i1 a1 q1 r1 => (True) ∧ (a1 118 = a 118 ∧ rTop (((0 : Int) ≤ x2.toInt) ∧ (x2.toInt ≤ 1)) i a q x1 v (fun n L => fRnR (gKn i a) (gR i a) (i 7424) (a 118) x2 v n L)))) := by
  have hG := kG_self yzw189_116 hI hr
  refine km_ofI (q := (mi_h189, mi_c189)) rfl (by decide) (Nat.le_of_ble_eq_true rfl) ?_
  intro P hP
  refine ft_go mi_k189 1 1 [(0, .ref 116), (1, .int x1), (2, .int x2)] [.int x1] i a q r (by rfl) ?_
  refine ko_callPI mi_k189.1 (pc := 1) (ls := [(0, .ref 116), (1, .int x1), (2, .int x2)]) (st := [.int x1]) (h := ks i a q r) (i := (.invokestatic 127, 3, 133, 0, 9, 0, 382)) (mi_k189.2 _ _ (by rfl)) (ft_invS mi_pq133 (by rfl)) (cy := mi_c133) mi_pq133 rfl (kc133 hG.I hG.R x1) (by decide) ?_
  intro vg1 hg1
  rcases hg1 with ⟨eg1, hg1⟩ | ⟨eg1, hg1⟩
  ·
    subst eg1
    have z2 : ((0 : Int) ≤ x1.toInt) ∧ (x1.toInt ≤ 5) := hg1
    refine ft_go mi_k189 4 10 [(0, .ref 116), (1, .int x1), (2, .int x2)] [.int 1, .int 0, .int x2] i a q r (by rfl) ?_
    refine ko_callPI mi_k189.1 (pc := 10) (ls := [(0, .ref 116), (1, .int x1), (2, .int x2)]) (st := [.int 1, .int 0, .int x2]) (h := ks i a q r) (i := (.invokestatic 119, 3, 131, 0, 9, 0, 379)) (mi_k189.2 _ _ (by rfl)) (ft_invS mi_pq131 (by rfl)) (cy := mi_c131) mi_pq131 rfl (kc131 hG.I hG.R x2 0 1) (by decide) ?_
    intro vg3 hg3
    rcases hg3 with ⟨eg3, hg3⟩ | ⟨eg3, hg3⟩
    ·
      subst eg3
      have z4 : ((0 : Int32).toInt ≤ x2.toInt) ∧ (x2.toInt ≤ (1 : Int32).toInt) := hg3
      refine ft_go mi_k189 3 20 [(0, .ref 116), (1, .int x1), (2, .int x2)] [.int x1, .ref 116] i a q r (by rfl) ?_
      refine ko_callPI mi_k189.1 (pc := 20) (ls := [(0, .ref 116), (1, .int x1), (2, .int x2)]) (st := [.int x1, .ref 116]) (h := ks i a q r) (i := (.invokevirtual 276, 3, 173, 0, 9, 0, 410)) (mi_k189.2 _ _ (by rfl)) (ft_invS mi_pq173 (by rfl)) (cy := mi_c173) mi_pq173 rfl (kg173_116 hG.I hG.R x1 (tos62 z2.1 z2.2)) (by decide) ?_
      intro vg5 hg5
      obtain ⟨hg5, og5⟩ := hg5
      have z6 : vg5.toInt ≤ 0 := hg5
      refine ft_go mi_k189 2 25 [(3, .int vg5), (0, .ref 116), (1, .int x1), (2, .int x2)] [.int vg5] i a q r (by rfl) ?_
      refine ft_if mi_k189 (decide (0 ≤ vg5)) 30 28 [(3, .int vg5), (0, .ref 116), (1, .int x1), (2, .int x2)] [] (by rfl) (fun c => ?_) (fun c => ?_)
      ·
        have c7 : (0 : Int32).toInt ≤ vg5.toInt := kd_le c; clear c
        have fi_7424 : ((0 : Int) ≤ (i 7424).toInt) ∧ ((i 7424).toInt ≤ 8) := hG.I.1 7424
        refine ft_go mi_k189 2 34 [(3, .int vg5), (0, .ref 116), (1, .int x1), (2, .int x2)] [.int (i 7424)] i a q r (by rfl) ?_
        refine ft_if mi_k189 ((i 7424) != 0) 40 37 [(3, .int vg5), (0, .ref 116), (1, .int x1), (2, .int x2)] [] (by rfl) (fun c => ?_) (fun c => ?_)
        ·
          have c8 : (i 7424).toInt ≠ (0 : Int32).toInt := kd_ne c; clear c
          refine ft_go mi_k189 2 42 [(3, .int vg5), (0, .ref 116), (1, .int x1), (2, .int x2)] [.int x1, .ref 116] i a q r (by rfl) ?_
          refine ko_callN mi_k189.1 (pc := 42) (ls := [(3, .int vg5), (0, .ref 116), (1, .int x1), (2, .int x2)]) (st := [.int x1, .ref 116]) (h := ks i a q r) (i := (.invokevirtual 279, 3, 174, 0, 9, 0, 411)) (mi_k189.2 _ _ (by rfl)) (ft_invS mi_pq174 (by rfl)) (cy := mi_c174) mi_pq174 rfl (kg174_116 hG.I hG.R x1 (tos62 z2.1 z2.2)) (by decide) ?_
          intro ig9 ag9 qg9 rg9 kg9 hg9
          have hGg9 := kG_call hG kg9 (by decide +kernel)
          obtain ⟨hg9, og9⟩ := hg9
          have fig9_7469 : ((0 : Int) ≤ (ig9 7469).toInt) ∧ ((ig9 7469).toInt ≤ 21) := hGg9.I.1 7469
          have z10 : (ig9 7469).toInt ≤ 20 := hg9
          refine ft_go mi_k189 1 46 [(3, .int vg5), (0, .ref 116), (1, .int x1), (2, .int x2)] [.ref 116] ig9 ag9 qg9 rg9 (by rfl) ?_
          refine ko_callN mi_k189.1 (pc := 46) (ls := [(3, .int vg5), (0, .ref 116), (1, .int x1), (2, .int x2)]) (st := [.ref 116]) (h := ks ig9 ag9 qg9 rg9) (i := (.invokevirtual 267, 3, 171, 0, 9, 0, 412)) (mi_k189.2 _ _ (by rfl)) (ft_invS mi_pq171 (by rfl)) (cy := mi_c171) mi_pq171 rfl (kg171_116 hGg9.I hGg9.R ) (by decide) ?_
          intro ig11 ag11 qg11 rg11 kg11 hg11
          have hGg11 := kG_call hGg9 kg11 (by decide +kernel)
          obtain ⟨hg11, og11⟩ := hg11
          have tG12 : gT ig11 ag11 = gR i a := (gT_R (og11.2.1.trans (kg9.fa 118 rfl)) ((kg11.fi 7464 rfl).trans (kg9.fi 7464 rfl)) ((kg11.fi 7465 rfl).trans (kg9.fi 7465 rfl)) ((kg11.fi 7466 rfl).trans (kg9.fi 7466 rfl)) og11.2.2.1 og11.2.2.2)
          have q13 : ag11 139 = ag9 118 := og11.1
          have q14 : ag11 118 = ag9 118 := og11.2.1
          have q15 : ig11 7467 = 0 := og11.2.2.1
          have q16 : ag11 141 = List.replicate 64 0 := og11.2.2.2
          refine ft_go mi_k189 1 50 [(3, .int vg5), (0, .ref 116), (1, .int x1), (2, .int x2)] [.ref 116] ig11 ag11 qg11 rg11 (by rfl) ?_
          refine ko_callN mi_k189.1 (pc := 50) (ls := [(3, .int vg5), (0, .ref 116), (1, .int x1), (2, .int x2)]) (st := [.ref 116]) (h := ks ig11 ag11 qg11 rg11) (i := (.invokevirtual 270, 3, 170, 0, 9, 0, 414)) (mi_k189.2 _ _ (by rfl)) (ft_invS mi_pq170 (by rfl)) (cy := mi_c170) mi_pq170 rfl (kg170_116 hGg11.I hGg11.R (kCode_of (i1 := ig11) hE_code (hGg11.fi 7432 rfl) (hGg11.fa 120 rfl) (hGg11.fa 121 rfl) (hGg11.fa 122 rfl) (hGg11.fa 123 rfl))) (by decide) ?_
          intro ig17 ag17 qg17 rg17 kg17 hg17
          have hGg17 := kG_call hGg11 kg17 (by decide +kernel)
          obtain ⟨hg17, og17⟩ := hg17
          have oG18 := og17
          rw [(gKn_fr hGg11 (by decide +kernel) : gKn ig11 ag11 = gKn i a), (tG12 : gT ig11 ag11 = gR i a)] at oG18
          rw [((kg11.fa 142 rfl) : ag11 142 = ag9 142), ((kg11.fi 7469 rfl) : ig11 7469 = ig9 7469)] at oG18
          have tG19 : gT ig17 ag17 = gAt (gKn i a) (ag9 142) (gR i a) (ig9 7469).toInt.toNat := oG18.1
          refine ft_go mi_k189 4 59 [(5, .int 1), (4, .int 0), (3, .int vg5), (0, .ref 116), (1, .int x1), (2, .int x2)] [] ig17 ag17 qg17 rg17 (by rfl) ?_
          have lp20 : ∀ (nz : Nat) (l5_20 : Int32) (l4_20 : Int32), (1 : Int) ≤ l5_20.toInt → l5_20.toInt ≤ (i 7424).toInt → ((0 : Int) ≤ l4_20.toInt) ∧ (l4_20.toInt ≤ 7) → (ig17 7424).toInt = (i 7424).toInt → l4_20.toInt = ((gGn (dGn (gAt (gKn i a) (ag9 142) (gR i a) (ig9 7469).toInt.toNat).1 (a 118)) l5_20.toInt.toNat : Nat) : Int) → gT ig17 ag17 = gAt (gKn i a) (ag9 142) (gR i a) (ig9 7469).toInt.toNat → ag17 139 = a 118 → (((ig17 7424).toInt - l5_20.toInt)).toNat < nz → ko 13 (mi_h189, mi_c189) P (59, [(5, .int l5_20), (4, .int l4_20), (3, .int vg5), (0, .ref 116), (1, .int x1), (2, .int x2)], [], (0, 0), ks ig17 ag17 qg17 rg17) := by
            intro nz
            induction nz with
            | zero =>
              intro _ _ _ _ _ _ _ _ _ hm
              exact absurd hm (Nat.not_lt_zero _)
            | succ nz ih20 =>
              intro l5_20 l4_20 p20_0 p20_1 p20_2 p20_3 O20_0 O20_1 O20_2 hm20
              have fig17_7424 : ((0 : Int) ≤ (ig17 7424).toInt) ∧ ((ig17 7424).toInt ≤ 8) := hGg17.I.1 7424
              have fig11_7424 : ((0 : Int) ≤ (ig11 7424).toInt) ∧ ((ig11 7424).toInt ≤ 8) := hGg11.I.1 7424
              have fig9_7424 : ((0 : Int) ≤ (ig9 7424).toInt) ∧ ((ig9 7424).toInt ≤ 8) := hGg9.I.1 7424
              have efig9_7424 : (ig9 7424).toInt = (i 7424).toInt := kg9.ti 7424 rfl
              have efig11_7424 : (ig11 7424).toInt = (ig9 7424).toInt := kg11.ti 7424 rfl
              have efig17_7424 : (ig17 7424).toInt = (ig11 7424).toInt := kg17.ti 7424 rfl
              refine ft_go mi_k189 3 65 [(5, .int l5_20), (4, .int l4_20), (3, .int vg5), (0, .ref 116), (1, .int x1), (2, .int x2)] [.int (ig17 7424), .int l5_20] ig17 ag17 qg17 rg17 (by rfl) ?_
              refine ft_if mi_k189 (decide ((ig17 7424) ≤ l5_20)) 111 68 [(5, .int l5_20), (4, .int l4_20), (3, .int vg5), (0, .ref 116), (1, .int x1), (2, .int x2)] [] (by rfl) (fun c => ?_) (fun c => ?_)
              ·
                have c21 : (ig17 7424).toInt ≤ l5_20.toInt := kd_le c; clear c
                refine ft_go mi_k189 4 117 [(5, .int l5_20), (4, .int l4_20), (3, .int vg5), (0, .ref 116), (1, .int x1), (2, .int x2)] [.int 0, .ref 139, .ref 116] ig17 ag17 qg17 rg17 (by rfl) ?_
                refine ko_callN mi_k189.1 (pc := 117) (ls := [(5, .int l5_20), (4, .int l4_20), (3, .int vg5), (0, .ref 116), (1, .int x1), (2, .int x2)]) (st := [.int 0, .ref 139, .ref 116]) (h := ks ig17 ag17 qg17 rg17) (i := (.invokevirtual 273, 3, 169, 0, 9, 0, 423)) (mi_k189.2 _ _ (by rfl)) (ft_invS mi_pq169 (by rfl)) (cy := mi_c169) mi_pq169 rfl (ke169_116_139 hGg17.I hGg17.R 0 (tos121 ktos0)) (by decide) ?_
                intro ig22 ag22 qg22 rg22 kg22 hg22
                have hGg22 := kG_call hGg17 kg22 (by decide +kernel)
                obtain ⟨hg22, og22⟩ := hg22
                have q23 : ag22 118 = ag17 139 := og22
                refine ft_go mi_k189 1 121 [(5, .int l5_20), (4, .int l4_20), (3, .int vg5), (0, .ref 116), (1, .int x1), (2, .int x2)] [.int x2] ig22 ag22 qg22 rg22 (by rfl) ?_
                refine ft_if mi_k189 (x2 != 0) 131 124 [(5, .int l5_20), (4, .int l4_20), (3, .int vg5), (0, .ref 116), (1, .int x1), (2, .int x2)] [] (by rfl) (fun c => ?_) (fun c => ?_)
                ·
                  have c24 : x2.toInt ≠ (0 : Int32).toInt := kd_ne c; clear c
                  refine ft_go mi_k189 1 133 [(5, .int l5_20), (4, .int l4_20), (3, .int vg5), (0, .ref 116), (1, .int x1), (2, .int x2)] [.int l4_20] ig22 ag22 qg22 rg22 (by rfl) ?_
                  exact ft_ret mi_k189 (by rfl) (hP l4_20 _ _ _ _ hGg22 ⟨trivial, ⟨(show ag22 118 = a 118 from (by first | rfl | (simp only [q23, O20_2, sMn, sMx]; done) | (simp only [q23, O20_2, sMn, sMx]; rfl))), (rTop_go (rok (tos135 z2.1 z2.2 z4.1 z4.2 ktos0 ktos1)) og5 (tos136 c7 ktos0) og9 ⟨fun _ => ⟨fun h => absurd h (tos139 c24 z4.1 ktos0), fun _ => gGn_len O20_0 (tos138 c21 efig11_7424 efig17_7424 efig9_7424 p20_1)⟩, fun h => absurd h (tos137 p20_0 p20_1)⟩)⟩⟩)
                ·
                  have c25 : x2.toInt = (0 : Int32).toInt := kd_neF c; clear c
                  refine ft_go mi_k189 1 125 [(5, .int l5_20), (4, .int l4_20), (3, .int vg5), (0, .ref 116), (1, .int x1), (2, .int x2)] [.ref 116] ig22 ag22 qg22 rg22 (by rfl) ?_
                  refine ko_callI mi_k189.1 (pc := 125) (ls := [(5, .int l5_20), (4, .int l4_20), (3, .int vg5), (0, .ref 116), (1, .int x1), (2, .int x2)]) (st := [.ref 116]) (h := ks ig22 ag22 qg22 rg22) (i := (.invokevirtual 311, 3, 188, 0, 9, 0, 440)) (mi_k189.2 _ _ (by rfl)) (ft_invS mi_pq188 (by rfl)) (cy := mi_c188) mi_pq188 rfl (kg188_116 hGg22.I hGg22.R ) (by decide) ?_
                  intro vg26 ig26 ag26 qg26 rg26 kg26 hg26
                  have hGg26 := kG_call hGg22 kg26 (by decide +kernel)
                  obtain ⟨hg26, og26⟩ := hg26
                  have oR27 := og26
                  rw [(show ag22 141 = (gAt (gKn i a) (ag9 142) (gR i a) (ig9 7469).toInt.toNat).2.2.2.2.2 from ((kg22.fa 141 rfl)).trans (congrArg (fun z : gS => z.2.2.2.2.2) O20_1))] at oR27
                  refine ft_go mi_k189 1 133 [(5, .int l5_20), (4, .int l4_20), (3, .int vg5), (0, .ref 116), (1, .int x1), (2, .int x2)] [.int vg26] ig26 ag26 qg26 rg26 (by rfl) ?_
                  exact ft_ret mi_k189 (by rfl) (hP vg26 _ _ _ _ hGg26 ⟨trivial, ⟨(show ag26 118 = a 118 from (by first | rfl | (simp only [kg26.fa 118 rfl, q23, O20_2, sMn, sMx]; done) | (simp only [kg26.fa 118 rfl, q23, O20_2, sMn, sMx]; rfl))), (rTop_go (rok (tos135 z2.1 z2.2 z4.1 z4.2 ktos0 ktos1)) og5 (tos136 c7 ktos0) og9 ⟨fun _ => ⟨fun _ => oR27, fun h => absurd h (tos140 c25 ktos0)⟩, fun h => absurd h (tos137 p20_0 p20_1)⟩)⟩⟩)
              ·
                have c28 : l5_20.toInt < (ig17 7424).toInt := kd_leF c; clear c
                refine ft_go mi_k189 3 74 [(5, .int l5_20), (4, .int l4_20), (3, .int vg5), (0, .ref 116), (1, .int x1), (2, .int x2)] [.int l5_20, .ref 118] ig17 ag17 qg17 rg17 (by rfl) ?_
                refine ko_iald3 mi_k189.1 (n := 31) (c := 31) (ax := (0, 0, 0, 0, 0)) (mi_k189.2 _ _ (by rfl)) (by rfl) (ksG118 _ _ _ _) (hGg17.I.2.1 118) rfl (tos141 p20_0) (tos142 fi_7424.2 p20_1) ?_
                have r29 : ((l5_20.toInt = 18 → (0 : Int) ≤ ((ag17 118).getD l5_20.toNatClampNeg 0).toInt ∧ ((ag17 118).getD l5_20.toNatClampNeg 0).toInt ≤ 5)) ∧ ((19 ≤ l5_20.toInt → l5_20.toInt ≤ 24 → (0 : Int) ≤ ((ag17 118).getD l5_20.toNatClampNeg 0).toInt ∧ ((ag17 118).getD l5_20.toNatClampNeg 0).toInt ≤ 7)) := kE_ncond (p := 118) hGg17.I (by decide) (j := l5_20) (tos141 p20_0)
                refine ft_go mi_k189 3 81 [(5, .int l5_20), (4, .int l4_20), (3, .int vg5), (0, .ref 116), (1, .int x1), (2, .int x2)] [.int l5_20, .ref 139, .int ((ag17 118).getD l5_20.toNatClampNeg 0)] ig17 ag17 qg17 rg17 (by rfl) ?_
                refine ko_iald3 mi_k189.1 (n := 31) (c := 31) (ax := (0, 0, 0, 0, 0)) (mi_k189.2 _ _ (by rfl)) (by rfl) (ksG139 _ _ _ _) (hGg17.I.2.1 139) rfl (tos141 p20_0) (tos142 fi_7424.2 p20_1) ?_
                have r30 : ((l5_20.toInt = 18 → (0 : Int) ≤ ((ag17 139).getD l5_20.toNatClampNeg 0).toInt ∧ ((ag17 139).getD l5_20.toNatClampNeg 0).toInt ≤ 5)) ∧ ((19 ≤ l5_20.toInt → l5_20.toInt ≤ 24 → (0 : Int) ≤ ((ag17 139).getD l5_20.toNatClampNeg 0).toInt ∧ ((ag17 139).getD l5_20.toNatClampNeg 0).toInt ≤ 7)) := kE_ncond (p := 139) hGg17.I (by decide) (j := l5_20) (tos141 p20_0)
                have b31 : ((-2147483648 : Int) ≤ ((ag17 118).getD l5_20.toNatClampNeg 0).toInt) ∧ (((ag17 118).getD l5_20.toNatClampNeg 0).toInt ≤ 2147483647) := kd_bd ((ag17 118).getD l5_20.toNatClampNeg 0)
                have b32 : ((-2147483648 : Int) ≤ ((ag17 139).getD l5_20.toNatClampNeg 0).toInt) ∧ (((ag17 139).getD l5_20.toNatClampNeg 0).toInt ≤ 2147483647) := kd_bd ((ag17 139).getD l5_20.toNatClampNeg 0)
                refine ft_go mi_k189 4 89 [(5, .int l5_20), (4, .int l4_20), (3, .int vg5), (0, .ref 116), (1, .int x1), (2, .int x2)] [.int l4_20, .ref 118, .int (((ag17 118).getD l5_20.toNatClampNeg 0) - ((ag17 139).getD l5_20.toNatClampNeg 0))] ig17 ag17 qg17 rg17 (by rfl) ?_
                refine ko_iald3 mi_k189.1 (n := 31) (c := 31) (ax := (0, 0, 0, 0, 0)) (mi_k189.2 _ _ (by rfl)) (by rfl) (ksG118 _ _ _ _) (hGg17.I.2.1 118) rfl (tos13 p20_2.1) (tos143 p20_2.2) ?_
                have r33 : ((l4_20.toInt = 18 → (0 : Int) ≤ ((ag17 118).getD l4_20.toNatClampNeg 0).toInt ∧ ((ag17 118).getD l4_20.toNatClampNeg 0).toInt ≤ 5)) ∧ ((19 ≤ l4_20.toInt → l4_20.toInt ≤ 24 → (0 : Int) ≤ ((ag17 118).getD l4_20.toNatClampNeg 0).toInt ∧ ((ag17 118).getD l4_20.toNatClampNeg 0).toInt ≤ 7)) := kE_ncond (p := 118) hGg17.I (by decide) (j := l4_20) (tos13 p20_2.1)
                refine ft_go mi_k189 3 96 [(5, .int l5_20), (4, .int l4_20), (3, .int vg5), (0, .ref 116), (1, .int x1), (2, .int x2)] [.int l4_20, .ref 139, .int ((ag17 118).getD l4_20.toNatClampNeg 0), .int (((ag17 118).getD l5_20.toNatClampNeg 0) - ((ag17 139).getD l5_20.toNatClampNeg 0))] ig17 ag17 qg17 rg17 (by rfl) ?_
                refine ko_iald3 mi_k189.1 (n := 31) (c := 31) (ax := (0, 0, 0, 0, 0)) (mi_k189.2 _ _ (by rfl)) (by rfl) (ksG139 _ _ _ _) (hGg17.I.2.1 139) rfl (tos13 p20_2.1) (tos143 p20_2.2) ?_
                have r34 : ((l4_20.toInt = 18 → (0 : Int) ≤ ((ag17 139).getD l4_20.toNatClampNeg 0).toInt ∧ ((ag17 139).getD l4_20.toNatClampNeg 0).toInt ≤ 5)) ∧ ((19 ≤ l4_20.toInt → l4_20.toInt ≤ 24 → (0 : Int) ≤ ((ag17 139).getD l4_20.toNatClampNeg 0).toInt ∧ ((ag17 139).getD l4_20.toNatClampNeg 0).toInt ≤ 7)) := kE_ncond (p := 139) hGg17.I (by decide) (j := l4_20) (tos13 p20_2.1)
                have b35 : ((-2147483648 : Int) ≤ ((ag17 118).getD l4_20.toNatClampNeg 0).toInt) ∧ (((ag17 118).getD l4_20.toNatClampNeg 0).toInt ≤ 2147483647) := kd_bd ((ag17 118).getD l4_20.toNatClampNeg 0)
                have b36 : ((-2147483648 : Int) ≤ ((ag17 139).getD l4_20.toNatClampNeg 0).toInt) ∧ (((ag17 139).getD l4_20.toNatClampNeg 0).toInt ≤ 2147483647) := kd_bd ((ag17 139).getD l4_20.toNatClampNeg 0)
                refine ft_go mi_k189 1 98 [(5, .int l5_20), (4, .int l4_20), (3, .int vg5), (0, .ref 116), (1, .int x1), (2, .int x2)] [.int (((ag17 118).getD l4_20.toNatClampNeg 0) - ((ag17 139).getD l4_20.toNatClampNeg 0)), .int (((ag17 118).getD l5_20.toNatClampNeg 0) - ((ag17 139).getD l5_20.toNatClampNeg 0))] ig17 ag17 qg17 rg17 (by rfl) ?_
                refine ft_if mi_k189 (decide ((((ag17 118).getD l5_20.toNatClampNeg 0) - ((ag17 139).getD l5_20.toNatClampNeg 0)) ≤ (((ag17 118).getD l4_20.toNatClampNeg 0) - ((ag17 139).getD l4_20.toNatClampNeg 0)))) 105 101 [(5, .int l5_20), (4, .int l4_20), (3, .int vg5), (0, .ref 116), (1, .int x1), (2, .int x2)] [] (by rfl) (fun c => ?_) (fun c => ?_)
                ·
                  have c37 : (((ag17 118).getD l5_20.toNatClampNeg 0) - ((ag17 139).getD l5_20.toNatClampNeg 0)).toInt ≤ (((ag17 118).getD l4_20.toNatClampNeg 0) - ((ag17 139).getD l4_20.toNatClampNeg 0)).toInt := kd_le c; clear c
                  have s38 : (l5_20 + 1).toInt = l5_20.toInt + (1 : Int32).toInt := kd_add (tos144 p20_0 ktos1) (tos145 fi_7424.2 p20_1 ktos1)
                  refine ft_go mi_k189 2 59 [(5, .int (l5_20 + 1)), (4, .int l4_20), (3, .int vg5), (0, .ref 116), (1, .int x1), (2, .int x2)] [] ig17 ag17 qg17 rg17 (by rfl) ?_
                  exact ih20 _ _ (tos146 p20_0 s38 ktos1) (tos147 c28 efig11_7424 efig17_7424 efig9_7424 s38 ktos1) (tos126 p20_2.1 p20_2.2) (tos148 efig11_7424 efig17_7424 efig9_7424) (gGn_no O20_0 (tos151 p20_0) (tos16 s38 ktos1) (kj_le2 (dGn_of (tos141 p20_0) (tos149 c28 efig11_7424 efig17_7424 efig9_7424 fi_7424.2) (fun j hj => congrArg (fun z : List Int32 => z.getD j 0) (show ag17 118 = _ from congrArg Prod.fst O20_1)) (fun j hj => congrArg (fun z : List Int32 => z.getD j 0) (show ag17 139 = a 118 from (by first | rfl | (simp only [O20_2, sMn, sMx]; done) | (simp only [O20_2, sMn, sMx]; rfl))))) ((dGn_of (tos13 p20_2.1) (tos150 p20_2.2) (fun j hj => congrArg (fun z : List Int32 => z.getD j 0) (show ag17 118 = _ from congrArg Prod.fst O20_1)) (fun j hj => congrArg (fun z : List Int32 => z.getD j 0) (show ag17 139 = a 118 from (by first | rfl | (simp only [O20_2, sMn, sMx]; done) | (simp only [O20_2, sMn, sMx]; rfl))))).trans (dGn_w O20_0)) (tos100 c37)) tos2) O20_1 (by first | rfl | (simp only [O20_2, sMn, sMx]; done) | (simp only [O20_2, sMn, sMx]; rfl)) (kj_meas (tos152 s38 ktos1) (tos132 c28) hm20)
                ·
                  have c39 : (((ag17 118).getD l4_20.toNatClampNeg 0) - ((ag17 139).getD l4_20.toNatClampNeg 0)).toInt < (((ag17 118).getD l5_20.toNatClampNeg 0) - ((ag17 139).getD l5_20.toNatClampNeg 0)).toInt := kd_leF c; clear c
                  have s40 : (l5_20 + 1).toInt = l5_20.toInt + (1 : Int32).toInt := kd_add (tos144 p20_0 ktos1) (tos145 fi_7424.2 p20_1 ktos1)
                  refine ft_go mi_k189 4 59 [(5, .int (l5_20 + 1)), (4, .int l5_20), (3, .int vg5), (0, .ref 116), (1, .int x1), (2, .int x2)] [] ig17 ag17 qg17 rg17 (by rfl) ?_
                  exact ih20 _ _ (tos146 p20_0 s40 ktos1) (tos147 c28 efig11_7424 efig17_7424 efig9_7424 s40 ktos1) (tos153 c28 efig11_7424 efig17_7424 efig9_7424 fi_7424.2 p20_0) (tos148 efig11_7424 efig17_7424 efig9_7424) (gGn_up O20_0 (tos141 p20_0) (tos16 s40 ktos1) (Or.inr (kj_lt2 ((dGn_of (tos13 p20_2.1) (tos150 p20_2.2) (fun j hj => congrArg (fun z : List Int32 => z.getD j 0) (show ag17 118 = _ from congrArg Prod.fst O20_1)) (fun j hj => congrArg (fun z : List Int32 => z.getD j 0) (show ag17 139 = a 118 from (by first | rfl | (simp only [O20_2, sMn, sMx]; done) | (simp only [O20_2, sMn, sMx]; rfl))))).trans (dGn_w O20_0)) (dGn_of (tos141 p20_0) (tos149 c28 efig11_7424 efig17_7424 efig9_7424 fi_7424.2) (fun j hj => congrArg (fun z : List Int32 => z.getD j 0) (show ag17 118 = _ from congrArg Prod.fst O20_1)) (fun j hj => congrArg (fun z : List Int32 => z.getD j 0) (show ag17 139 = a 118 from (by first | rfl | (simp only [O20_2, sMn, sMx]; done) | (simp only [O20_2, sMn, sMx]; rfl))))) (tos154 c39))) tos2) O20_1 (by first | rfl | (simp only [O20_2, sMn, sMx]; done) | (simp only [O20_2, sMn, sMx]; rfl)) (kj_meas (tos152 s40 ktos1) (tos132 c28) hm20)
          have fig17_7424 : ((0 : Int) ≤ (ig17 7424).toInt) ∧ ((ig17 7424).toInt ≤ 8) := hGg17.I.1 7424
          have fig11_7424 : ((0 : Int) ≤ (ig11 7424).toInt) ∧ ((ig11 7424).toInt ≤ 8) := hGg11.I.1 7424
          have fig9_7424 : ((0 : Int) ≤ (ig9 7424).toInt) ∧ ((ig9 7424).toInt ≤ 8) := hGg9.I.1 7424
          have efig9_7424 : (ig9 7424).toInt = (i 7424).toInt := kg9.ti 7424 rfl
          have efig11_7424 : (ig11 7424).toInt = (ig9 7424).toInt := kg11.ti 7424 rfl
          have efig17_7424 : (ig17 7424).toInt = (ig11 7424).toInt := kg17.ti 7424 rfl
          exact lp20 _ _ _ (tos155 ktos1) (tos156 c8 fi_7424.1 ktos0 ktos1) (tos157 ktos0) (tos148 efig11_7424 efig17_7424 efig9_7424) (gGn_1 ktos0 ktos1) tG19 (by first | rfl | (simp only [kg17.fa 139 rfl, q13, kg9.fa 118 rfl, sMn, sMx]; done) | (simp only [kg17.fa 139 rfl, q13, kg9.fa 118 rfl, sMn, sMx]; rfl)) (Nat.lt_succ_self _)
        ·
          have c41 : (i 7424).toInt = (0 : Int32).toInt := kd_neF c; clear c
          refine ft_go mi_k189 1 39 [(3, .int vg5), (0, .ref 116), (1, .int x1), (2, .int x2)] [.int (-2)] i a q r (by rfl) ?_
          have r42 : ((0 : Int) ≤ ((a 137).getD x1.toNatClampNeg 0).toInt) ∧ (((a 137).getD x1.toNatClampNeg 0).toInt ≤ 60) := hG.I.2.2.1 137 (x1.toNatClampNeg)
          exact ft_ret mi_k189 (by rfl) (hP (-2) _ _ _ _ hG ⟨trivial, ⟨(show a 118 = a 118 from rfl), (rTop_go (rok (tos135 z2.1 z2.2 z4.1 z4.2 ktos0 ktos1)) og5 (tos136 c7 ktos0) (kRd_0 (L := []) (tos158 c41 ktos0) (tos13 r42.1)) ⟨fun h => absurd h (tos159 c41 ktos0), fun _ => (tos4 ktosm2)⟩)⟩⟩)
      ·
        have c43 : vg5.toInt < (0 : Int32).toInt := kd_leF c; clear c
        refine ft_go mi_k189 1 29 [(3, .int vg5), (0, .ref 116), (1, .int x1), (2, .int x2)] [.int vg5] i a q r (by rfl) ?_
        exact ft_ret mi_k189 (by rfl) (hP vg5 _ _ _ _ hG ⟨trivial, ⟨(show a 118 = a 118 from rfl), (rTop_bar (rok (tos135 z2.1 z2.2 z4.1 z4.2 ktos0 ktos1)) og5 (tos160 c43 ktos0))⟩⟩)
    ·
      subst eg3
      have z44 : ¬ (((0 : Int32).toInt ≤ x2.toInt) ∧ (x2.toInt ≤ (1 : Int32).toInt)) := hg3
      refine ft_go mi_k189 2 17 [(0, .ref 116), (1, .int x1), (2, .int x2)] [.int (-1)] i a q r (by rfl) ?_
      exact ft_ret mi_k189 (by rfl) (hP (-1) _ _ _ _ hG ⟨trivial, ⟨(show a 118 = a 118 from rfl), (Or.inl ⟨(tos161 z44 ktos0 ktos1), rfl⟩)⟩⟩)
  ·
    subst eg1
    have z45 : ¬ (((0 : Int) ≤ x1.toInt) ∧ (x1.toInt ≤ 5)) := hg1
    refine ft_go mi_k189 2 17 [(0, .ref 116), (1, .int x1), (2, .int x2)] [.int (-1)] i a q r (by rfl) ?_
    exact ft_ret mi_k189 (by rfl) (hP (-1) _ _ _ _ hG ⟨trivial, ⟨(show a 118 = a 118 from rfl), (Or.inl ⟨(tos162 z45), rfl⟩)⟩⟩)
