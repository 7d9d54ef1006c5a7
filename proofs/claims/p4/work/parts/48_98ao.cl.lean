theorem ktok0 : (0 : Int32).toInt = 0 := by decide
theorem ktok1 : (1 : Int32).toInt = 1 := by decide
theorem ktok20 : (20 : Int32).toInt = 20 := by decide
theorem ktokm2 : ((-2) : Int32).toInt = (-2) := by decide
theorem tok0 {a0 a1 : Int} (h0 : a0 ≤ a1) (h1 : a1 ≤ 19) (h2 : a0 = 20) : False := by omega
theorem tok1 {a0 a1 : Int} (h0 : a0 < a1) (h1 : (0 : Int) ≤ a0) (h2 : a1 = 0) : False := by omega
theorem tok2 {a0 a1 : Int} (h0 : a0 < a1) (h1 : a1 ≤ a0) : False := by omega
theorem tok3 {a0 a1 : Int} (h0 : (0 : Int) ≤ a0) (h1 : a1 = 1) : (-2147483648 : Int) ≤ a0 + a1 := by omega
theorem tok4 {a0 a1 a2 : Int} (h0 : a0 ≤ a1) (h1 : a1 ≤ 19) (h2 : a2 = 1) : a0 + a2 ≤ 2147483647 := by omega
theorem tok5 {a0 a1 : Int} (h0 : a0 ≤ a1) : (-2147483648 : Int) ≤ a1 - a0 := by omega
theorem tok6 {a0 a1 : Int} (h0 : a0 ≤ 20) (h1 : (0 : Int) ≤ a1) : a0 - a1 ≤ 2147483647 := by omega
theorem tok7 {a0 a1 a2 : Int} (h0 : a0 ≤ a1) (h1 : a2 = a1 - a0) : (0 : Int) ≤ a2 := by omega
theorem tok8 {a0 : Int} (h0 : (0 : Int) ≤ a0) : (0 : Int) ≤ a0 := by omega
theorem tok9 {a0 a1 a2 : Int} (h0 : (0 : Int) ≤ a0) (h1 : a1 = a0 + a2) (h2 : a2 = 1) : (0 : Int) ≤ a1 := by omega
theorem tok10 {a0 a1 a2 : Int} (h0 : a0 ≤ 19) (h1 : a1 = a0 - a2) : a2 + a1 ≤ 20 := by omega
theorem tok11 {a0 a1 a2 a3 a4 : Int} (h0 : a0 ≤ 19) (h1 : a1 = a2 + a3) (h2 : a4 = a0 - a2) (h3 : a3 = 1) : a1 + a4 ≤ 20 := by omega
theorem tok12 {a0 a1 : Int} (h0 : a0 ≤ a1) (h1 : a1 ≤ 19) : a0 < 20 := by omega
theorem tok13 {a0 a1 : Int} (h0 : a0 ≤ 20) (h1 : a1 = 1) : a0 + a1 ≤ 2147483647 := by omega
theorem tok14 {a0 a1 a2 : Int} (h0 : a0 ≤ 19) (h1 : a1 = a0 + a2) (h2 : a2 = 1) : a1 ≤ 20 := by omega
theorem tok15 {a0 a1 a2 : Int} (h0 : a0 = a1 + a2) (h1 : a2 = 1) : a0 = (a1 + 1) := by omega
theorem tok16 {a0 : Int} (h0 : a0 = 0) : (0 : Int) ≤ a0 := by omega
theorem tok17 {a0 a1 : Int} (h0 : (0 : Int) ≤ a0) (h1 : a1 = 0) : a1 ≤ a0 := by omega
theorem tok18 {a0 : Int} (h0 : a0 ≤ 19) : a0 ≤ 19 := by omega
theorem tok19 {a0 a1 : Int} (h0 : (0 : Int) ≤ a0) (h1 : a1 = 0) : (-2147483648 : Int) ≤ a0 - a1 := by omega
theorem tok20 {a0 a1 : Int} (h0 : a0 ≤ 20) (h1 : a1 = 0) : a0 - a1 ≤ 2147483647 := by omega
theorem tok21 {a0 : Int} (h0 : a0 ≤ 19) : a0 < ((20 : Nat) : Int) := by omega
theorem tok22 {a0 a1 : Int} (h0 : a0 = 1) (h1 : a1 = 0) : a0 = a1 + 1 := by omega
theorem tok23 {a0 a1 a2 : Int} (h0 : a0 = a1 - a2) (h1 : a2 = 0) : a0 = a1 - a2 := by omega
theorem tok24 {a0 a1 a2 : Int} (h0 : a0 = a1) (h1 : a1 = (a2 + 1)) : a0 = (a2 + 1) := by omega
theorem tok25 {a0 a1 a2 a3 : Int} (h0 : a0 ≤ a1) (h1 : a0 = a2) (h2 : a1 ≤ a0) (h3 : a2 = (a3 + 1)) : a1 = a3 + 1 := by omega
theorem tok26 {a0 a1 a2 a3 : Int} (h0 : a0 < a1) (h1 : a1 = a2) (h2 : a2 = (a3 + 1)) : a0 ≤ a3 := by omega
theorem tok43 {a0 a1 : Int} (h0 : (0 : Int) ≤ a0) (h1 : a0 < a1) : ((0 : Int) ≤ a0) ∧ (a0 < a1) := by omega
theorem tok60 {a0 a1 a2 a3 : Int} (h0 : a0 ≤ a1) (h1 : a0 = a2) (h2 : a2 = a3) (h3 : a1 ≤ a3) : a1 = a3 := by omega
theorem tok63 {a0 a1 a2 a3 : Int} (h0 : a0 < a1) (h1 : a1 = a2) (h2 : a2 = a3) : a0 < a3 := by omega
theorem tok65 {a0 a1 a2 a3 a4 a5 : Int} (h0 : a0 < a1) (h1 : a1 = a2) (h2 : a2 = a3) (h3 : a4 = a0 + a5) (h4 : a5 = 1) : a4 ≤ a3 := by omega
theorem tok66 {a0 a1 a2 a3 : Int} (h0 : a0 = a1) (h1 : a2 = a0) (h2 : a1 = a3) : a2 = a3 := by omega
theorem tok67 {a0 a1 a2 : Int} (h0 : a0 = a1 + a2) (h1 : a2 = 1) : a0 = a1 + 1 := by omega
theorem tok70 {a0 a1 : Int} (h0 : a0 = a1) : a0 = a1 := by omega
theorem tok71 {a0 a1 a2 a3 : Int} (h0 : a0 = a1) (h1 : a1 = a2) (h2 : (0 : Int) ≤ a3) (h3 : a3 < a2) : ((0 : Int) ≤ a3) ∧ (a3 < a0) := by omega
theorem tok72 {a0 a1 a2 : Int} (h0 : a0 = a1) (h1 : a1 = (a2 + 1)) : a0 = a2 + 1 := by omega
theorem tok73 {a0 a1 a2 a3 : Int} (h0 : a0 < a1) (h1 : a2 ≤ 20) (h2 : a1 = (a2 + 1)) (h3 : a3 = 1) : a0 + a3 ≤ 2147483647 := by omega
theorem tok74 {a0 a1 a2 a3 a4 : Int} (h0 : a0 < a1) (h1 : a2 = a1) (h2 : a3 = a0 + a4) (h3 : a4 = 1) : a3 ≤ a2 := by omega
theorem tok75 {a0 a1 a2 a3 : Int} (h0 : a0 = a1) (h1 : a2 = a0) (h2 : a1 = (a3 + 1)) : a2 = (a3 + 1) := by omega
theorem tok76 {a0 a1 a2 : Int} (h0 : a0 ≤ a1) (h1 : a1 = a2) : a0 ≤ a2 := by omega
theorem tok77 {a0 : Int}  : a0 = a0 := by omega
theorem tok78 {a0 a1 a2 a3 a4 : Int} (h0 : a0 ≤ a1) (h1 : a2 = a3) (h2 : a0 = a2) (h3 : a3 = (a4 + 1)) : ¬ (a1 ≤ a4) := by omega
theorem tok79 {a0 a1 a2 a3 : Int} (h0 : a0 = a1 + a2) (h1 : a2 = 1) : ((a3 + 1) - a0) < ((a3 + 1) - a1) := by omega
theorem tok80 {a0 a1 a2 a3 : Int} (h0 : a0 < a1) (h1 : a1 = a2) (h2 : a2 = (a3 + 1)) : (1 : Int) ≤ ((a3 + 1) - a0) := by omega
theorem tok81 {a0 : Int} (h0 : a0 ≤ 19) : a0 < 20 := by omega
theorem tok82 {a0 a1 a2 a3 a4 a5 : Int} (h0 : a0 < a1) (h1 : a1 = a2) (h2 : a3 ≤ 20) (h3 : (0 : Int) ≤ a4) (h4 : a2 = (a3 + 1)) (h5 : a0 = a4 + a5) (h6 : a5 = 1) : ((0 : Int) ≤ a4) ∧ (a4 ≤ 19) := by omega
theorem tok83 {a0 a1 a2 a3 : Int} (h0 : a0 < a1) (h1 : a1 ≤ 20) (h2 : (0 : Int) ≤ a2) (h3 : a0 = a2 + a3) (h4 : a3 = 1) : ((0 : Int) ≤ a0) ∧ (a0 ≤ 19) := by omega
theorem tok84 {a0 a1 a2 a3 a4 : Int} (h0 : a0 < a1) (h1 : a2 = a3) (h2 : a1 = a2) (h3 : a3 = (a4 + 1)) : a0 < a4 + 1 := by omega
theorem tok85 {a0 : Int} (h0 : a0 ≤ 19) : a0 + 1 ≤ ((20 : Nat) : Int) := by omega
theorem tok86 {a0 a1 a2 : Int} (h0 : a0 < a1) (h1 : a2 = a1) : a0 ≤ a2 := by omega
theorem tok87 {a0 a1 a2 a3 a4 : Int} (h0 : a0 = a1) (h1 : a2 = a0) (h2 : a3 = a2) (h3 : a1 = (a4 + 1)) : a3 = (a4 + 1) := by omega
theorem tok88 {a0 a1 a2 : Int} (h0 : a0 = a1) (h1 : a2 = a0) : a2 = a1 := by omega
theorem tok89 {a0 a1 a2 : Int} (h0 : a0 < a1) (h1 : a0 = a2) : a2 < a1 := by omega
theorem tok90 {a0 a1 : Int} (h0 : a0 = (a1 + 1)) : a0 = (a1 + 1) := by omega
theorem tok91 {a0 a1 : Int} (h0 : a0 ≤ a1) : a0 ≤ a1 := by omega
theorem tok92 {a0 a1 a2 : Int} (h0 : a0 = a1 - a2) : a0 = a1 - a2 := by omega
theorem tok93 {a0 a1 : Int} (h0 : a0 ≤ a1) (h1 : a1 ≤ 19) : a0 < ((20 : Nat) : Int) := by omega
theorem tok94 {a0 a1 a2 a3 a4 : Int} (h0 : a0 < a1) (h1 : a1 = a2) (h2 : a2 = a3) (h3 : a3 ≤ 8) (h4 : a4 = 1) : a0 + a4 ≤ 2147483647 := by omega
theorem tok95 {a0 a1 a2 a3 : Int} (h0 : a0 < a1) (h1 : a1 = a2) (h2 : a2 = a3) (h3 : a3 ≤ 8) : a0 ≤ 1000 := by omega
theorem tok96 {a0 a1 a2 a3 a4 : Int} (h0 : a0 = a1) (h1 : a2 = a3 + a4) (h2 : a4 = 1) : (a0 - a2) < (a1 - a3) := by omega
theorem tok97 {a0 a1 : Int} (h0 : a0 < a1) : (1 : Int) ≤ (a1 - a0) := by omega
theorem tok98 {a0 a1 a2 : Int} (h0 : a0 ≤ 20) (h1 : (a1 = 0) ∨ ((a1 + 1) ≤ a0)) (h2 : a2 = 1) : a1 + a2 ≤ 2147483647 := by omega
theorem tok99 {a0 a1 a2 a3 a4 a5 : Int} (h0 : a0 ≤ a1) (h1 : a0 = a2) (h2 : a2 = a3) (h3 : (0 : Int) ≤ a4) (h4 : (a4 = 0) ∨ ((a4 + 1) ≤ a3)) (h5 : a1 = a4 + a5) (h6 : a5 = 1) : a3 - 1 = a4 ∨ (a3 ≤ 0 ∧ a4 = 0) := by omega
theorem tok100 {a0 a1 a2 a3 a4 a5 : Int} (h0 : a0 < a1) (h1 : a1 = a2) (h2 : a2 = a3) (h3 : a3 ≤ 20) (h4 : (0 : Int) ≤ a4) (h5 : a0 = a4 + a5) (h6 : a5 = 1) : ((0 : Int) ≤ a4) ∧ (a4 ≤ 19) := by omega
theorem tok101 {a0 : Int} (h0 : a0 ≤ 20) : a0 ≤ ((20 : Nat) : Int) := by omega
theorem tok102 {a0 a1 a2 a3 a4 a5 : Int} (h0 : a0 < a1) (h1 : a1 = a2) (h2 : a2 = a3) (h3 : a0 = a4 + a5) (h4 : a5 = 1) : a4 + 1 < a3 := by omega
theorem tok103 {a0 a1 a2 a3 a4 : Int} (h0 : a0 = a1) (h1 : a2 = a0) (h2 : a1 = a3) (h3 : (0 : Int) ≤ a4) (h4 : a4 < a3) : ((0 : Int) ≤ a4) ∧ (a4 < a2) := by omega
theorem tok104 {a0 a1 a2 a3 : Int} (h0 : a0 < a1) (h1 : a1 = a2) (h2 : a2 = a3) : (a0 = 0) ∨ ((a0 + 1) ≤ a3) := by omega
theorem tok105 {a0 a1 a2 a3 a4 a5 : Int} (h0 : a0 = a1) (h1 : a2 = a0) (h2 : a3 = a2) (h3 : a4 = a3) (h4 : a1 = a5) : a4 = a5 := by omega
theorem tok106 {a0 a1 a2 a3 a4 : Int} (h0 : a0 ≤ a1) (h1 : a2 = a3) (h2 : a4 = a2) (h3 : a1 = a4) : a0 ≤ a3 := by omega
theorem tok107 {a0 a1 a2 a3 : Int} (h0 : a0 = a1) (h1 : a2 = a0) (h2 : a3 = a2) : a3 = a1 := by omega
theorem tok108 {a0 a1 a2 a3 a4 a5 a6 : Int} (h0 : a0 = a1) (h1 : a2 = a0) (h2 : a3 = a2) (h3 : a4 = a5 + a6) (h4 : a6 = 1) : (a3 - a4) < (a1 - a5) := by omega
theorem tok109 {a0 a1 a2 a3 : Int} (h0 : a0 < a1) (h1 : a0 = a2 + a3) (h2 : a3 = 1) : (1 : Int) ≤ (a1 - a2) := by omega
theorem tok110 {a0 a1 a2 a3 a4 : Int} (h0 : a0 < a1) (h1 : a2 = a3) (h2 : a4 = a2) (h3 : a0 = a4) : a3 < a1 := by omega
theorem tok111 {a0 a1 : Int} (h0 : a0 = 0) : (a0 = 0) ∨ ((a0 + 1) ≤ a1) := by omega
theorem tok184 {a0 a1 a2 : Int} (h0 : a0 = a1) (h1 : (0 : Int) ≤ a2) (h2 : a2 < a1) : ((0 : Int) ≤ a2) ∧ (a2 < a0) := by omega
theorem tok185 {a0 a1 : Int} (h0 : a0 < a1) (h1 : a1 = 20) : a0 ≤ 19 := by omega
theorem tok186 {a0 a1 : Int} (h0 : a0 ≤ a1) (h1 : a0 = 0) : ¬ (a1 < 0) := by omega
theorem tok187 {a0 a1 a2 a3 a4 : Int} (h0 : (0 : Int) ≤ a0) (h1 : a0 < a1) (h2 : a2 ≤ a3) (h3 : a3 ≤ a4) (h4 : a2 = 0) (h5 : a4 = 1) : ((0 : Int) ≤ a0) ∧ (a0 < a1) ∧ ((0 : Int) ≤ a3) ∧ (a3 ≤ 1) := by omega
theorem tok188 {a0 a1 : Int} (h0 : a0 < a1) (h1 : a1 = 20) : ¬ (a0 = 20) := by omega
theorem tok189 {a0 a1 : Int} (h0 : a0 ≠ a1) (h1 : a1 ≤ a0) (h2 : a1 = 0) : ¬ (a0 = 0) := by omega
theorem tok192 {a0 a1 : Int} (h0 : a0 = a1) (h1 : a1 ≤ a0) (h2 : a1 = 0) : ¬ (a0 ≠ 0) := by omega
theorem tok193 {a0 a1 : Int} (h0 : a0 ≤ a1) (h1 : a0 = 20) : ¬ (a1 < 20) := by omega
theorem tok194 {a0 a1 : Int} (h0 : a0 < a1) (h1 : a1 = 0) : a0 < 0 := by omega
theorem tok195 {a0 a1 a2 a3 a4 : Int} (h0 : ¬ ((a0 ≤ a1) ∧ (a1 ≤ a2))) (h1 : a0 = 0) (h2 : a2 = 1) : ¬ (((0 : Int) ≤ a3) ∧ (a3 < a4) ∧ ((0 : Int) ≤ a1) ∧ (a1 ≤ 1)) := by omega
theorem tok196 {a0 a1 a2 : Int} (h0 : ¬ (((0 : Int) ≤ a0) ∧ (a0 < a1))) : ¬ (((0 : Int) ≤ a0) ∧ (a0 < a1) ∧ ((0 : Int) ≤ a2) ∧ (a2 ≤ 1)) := by omega
theorem tok197 {a0 a1 a2 a3 a4 : Int} (h0 : a0 < a1) (h1 : a1 = 0) : ¬ (((0 : Int) ≤ a0) ∧ ((0 : Int) ≤ a2) ∧ (a2 < a3) ∧ ((0 : Int) ≤ a4) ∧ (a4 ≤ 1)) := by omega
theorem tok198 {a0 a1 a2 : Int} (h0 : a0 ≤ a1) (h1 : a2 ≤ a0) (h2 : a2 = 0) : ((0 : Int) ≤ a0) ∧ (a0 ≤ a1) := by omega
theorem tok199 {a0 a1 a2 a3 a4 a5 : Int} (h0 : a0 ≤ a1) (h1 : (0 : Int) ≤ a2) (h2 : a2 < a3) (h3 : a0 ≤ a4) (h4 : a4 ≤ a5) (h5 : a0 = 0) (h6 : a5 = 1) : ((0 : Int) ≤ a1) ∧ ((0 : Int) ≤ a2) ∧ (a2 < a3) ∧ ((0 : Int) ≤ a4) ∧ (a4 ≤ 1) := by omega
theorem tok200 {a0 a1 : Int} (h0 : a0 ≤ a1) : ¬ (a1 < a0) := by omega
theorem tok201 {a0 a1 : Int} (h0 : a0 < a1) : ¬ (a1 ≤ a0) := by omega
theorem tok202 {a0 a1 a2 a3 a4 a5 : Int} (h0 : ¬ ((a0 ≤ a1) ∧ (a1 ≤ a2))) (h1 : a0 = 0) (h2 : a2 = 1) : ¬ (((0 : Int) ≤ a3) ∧ ((0 : Int) ≤ a4) ∧ (a4 < a5) ∧ ((0 : Int) ≤ a1) ∧ (a1 ≤ 1)) := by omega
theorem tok203 {a0 a1 a2 a3 : Int} (h0 : ¬ (((0 : Int) ≤ a0) ∧ (a0 < a1))) : ¬ (((0 : Int) ≤ a2) ∧ ((0 : Int) ≤ a0) ∧ (a0 < a1) ∧ ((0 : Int) ≤ a3) ∧ (a3 ≤ 1)) := by omega
def yw65_49 : kW := ([3138], [74], [], [])
set_option maxRecDepth 100000 in
theorem ke65_49 {i : Nat → Int32} {a : Nat → List Int32} {q : Nat → List Int64} {r : Nat → Nat} (hI : kI i a q) (hr : kr r) (x1 : Int32) (x2 : Int32) (hp0 : (0 : Int) ≤ x1.toInt) (hp1 : x1.toInt ≤ (i 3138).toInt) (hp2 : (i 3138).toInt ≤ 19) : km 1 65 [.ref 49, .int x1, .int x2] (ks i a q r) (kVN yw65_49 i a q r (fun i1 a1 q1 r1 => ((i1 3138).toInt = ((i 3138).toInt + 1)) ∧ a1 74 = (mi_cpy (a 74) (a 74) x1.toNatClampNeg (x1 + 1).toNatClampNeg (i 3138 - x1).toNatClampNeg).set x1.toNatClampNeg x2)) := by
  have hG := kG_self yw65_49 hI hr
  refine km_ofN (q := (mi_h65, mi_c65)) rfl (by decide) (Nat.le_of_ble_eq_true rfl) ?_
  intro P hP
  have fi_3138 : ((0 : Int) ≤ (i 3138).toInt) ∧ ((i 3138).toInt ≤ 20) := hG.I.1 3138
  refine ft_go mi_k65 3 6 [(0, .ref 49), (1, .int x1), (2, .int x2)] [.int 20, .int (i 3138)] i a q r (by rfl) ?_
  refine ft_if mi_k65 (decide (20 ≤ (i 3138))) 59 9 [(0, .ref 49), (1, .int x1), (2, .int x2)] [] (by rfl) (fun c => ?_) (fun c => ?_)
  ·
    have c1 : (20 : Int32).toInt ≤ (i 3138).toInt := kd_le c; clear c
    exact (tok0 c1 hp2 ktok20).elim
  ·
    have c2 : (i 3138).toInt < (20 : Int32).toInt := kd_leF c; clear c
    refine ft_go mi_k65 1 10 [(0, .ref 49), (1, .int x1), (2, .int x2)] [.int x1] i a q r (by rfl) ?_
    refine ft_if mi_k65 (decide (x1 < 0)) 59 13 [(0, .ref 49), (1, .int x1), (2, .int x2)] [] (by rfl) (fun c => ?_) (fun c => ?_)
    ·
      have c3 : x1.toInt < (0 : Int32).toInt := kd_lt c; clear c
      exact (tok1 c3 hp0 ktok0).elim
    ·
      have c4 : (0 : Int32).toInt ≤ x1.toInt := kd_ltF c; clear c
      refine ft_go mi_k65 3 18 [(0, .ref 49), (1, .int x1), (2, .int x2)] [.int (i 3138), .int x1] i a q r (by rfl) ?_
      refine ft_if mi_k65 (decide ((i 3138) < x1)) 59 21 [(0, .ref 49), (1, .int x1), (2, .int x2)] [] (by rfl) (fun c => ?_) (fun c => ?_)
      ·
        have c5 : (i 3138).toInt < x1.toInt := kd_lt c; clear c
        exact (tok2 c5 hp1).elim
      ·
        have c6 : x1.toInt ≤ (i 3138).toInt := kd_ltF c; clear c
        have s7 : (x1 + 1).toInt = x1.toInt + (1 : Int32).toInt := kd_add (tok3 hp0 ktok1) (tok4 hp1 hp2 ktok1)
        have s8 : ((i 3138) - x1).toInt = (i 3138).toInt - x1.toInt := kd_sub (tok5 hp1) (tok6 fi_3138.2 hp0)
        refine ft_go mi_k65 12 39 [(0, .ref 49), (1, .int x1), (2, .int x2)] [.int ((i 3138) - x1), .int (x1 + 1), .ref 74, .int x1, .ref 74] i a q r (by rfl) ?_
        refine ko_copyI3 mi_k65.1 (n := 20) (c := 20) (m := 20) (b := 20) (mi_k65.2 _ _ (by rfl)) (by rfl) (by rfl) (by rfl) (ksG74 _ _ _ _) (ksG74 _ _ _ _) (ksA74 _ _ _ _) (hG.I.2.1 74) rfl (hG.I.2.1 74) rfl (tok7 hp1 s8) (tok8 hp0) (tok9 hp0 s7 ktok1) (tok10 hp2 s8) (tok11 hp2 s7 s8 ktok1) ?_
        intro a10 ea10 fa10
        have hJ10 := kG_al3 hG 74 rfl ea10 fa10 (kcpy_len2 (n := 20) (c := 20) (m := 20) (b := 20) (sp := x1) (dp := (x1 + 1)) (n1 := ((i 3138) - x1)) (hG.I.2.1 74) rfl (hG.I.2.1 74) rfl (tok7 hp1 s8) (tok8 hp0) (tok9 hp0 s7 ktok1) (tok10 hp2 s8) (tok11 hp2 s7 s8 ktok1)) (fun _ => kd_bd _)
        refine ft_go mi_k65 4 48 [(0, .ref 49), (1, .int x1), (2, .int x2)] [.int x2, .int x1, .ref 74] i a10 q r (by rfl) ?_
        refine ko_iast3 mi_k65.1 (n := 20) (c := 20) (ax := (0, 0, 0, 0, 0)) (mi_k65.2 _ _ (by rfl)) (by rfl) (ksG74 _ _ _ _) (ksA74 _ _ _ _) (hJ10.I.2.1 74) rfl (tok8 hp0) (tok12 hp1 hp2) ?_
        intro a11 ea11 fa11
        have hJ11 := kG_a3 hJ10 74 rfl ea11 fa11 (kd_bd _)
        have s12 : ((i 3138) + 1).toInt = (i 3138).toInt + (1 : Int32).toInt := kd_add (tok3 fi_3138.1 ktok1) (tok13 fi_3138.2 ktok1)
        have hJ13 := kG_i hJ11 3138 rfl (v := ((i 3138) + 1)) ⟨(tok9 fi_3138.1 s12 ktok1), (tok14 hp2 s12 ktok1)⟩
        refine ft_go mi_k65 6 59 [(0, .ref 49), (1, .int x1), (2, .int x2)] [] (ku i 3138 ((i 3138) + 1)) a11 q r (by rfl) ?_
        exact ft_ret mi_k65 (by rfl) (hP  _ _ _ _ hJ13 ⟨(tok15 s12 ktok1), (show a11 74 = (mi_cpy (a 74) (a 74) x1.toNatClampNeg (x1 + 1).toNatClampNeg (i 3138 - x1).toNatClampNeg).set x1.toNatClampNeg x2 from (by first | rfl | (simp only [ea11, ea10, sMn, sMx]; done) | (simp only [ea11, ea10, sMn, sMx]; rfl)))⟩)
def yw64_49 : kW := ([], [74], [], [])
set_option maxRecDepth 100000 in
theorem ke64_49 {i : Nat → Int32} {a : Nat → List Int32} {q : Nat → List Int64} {r : Nat → Nat} (hI : kI i a q) (hr : kr r) (x1 : Int32) (x2 : Int32) (hp0 : ((0 : Int) ≤ x1.toInt) ∧ (x1.toInt ≤ 19)) (hp1 : ((0 : Int) ≤ x2.toInt) ∧ (x2.toInt ≤ 19)) : km 1 64 [.ref 49, .int x1, .int x2] (ks i a q r) (kVN yw64_49 i a q r (fun i1 a1 q1 r1 => (True) ∧ a1 74 = ((a 74).set x1.toNatClampNeg ((a 74).getD x2.toNatClampNeg 0)).set x2.toNatClampNeg ((a 74).getD x1.toNatClampNeg 0))) := by
  have hG := kG_self yw64_49 hI hr
  refine km_ofN (q := (mi_h64, mi_c64)) rfl (by decide) (Nat.le_of_ble_eq_true rfl) ?_
  intro P hP
  refine ft_go mi_k64 3 5 [(0, .ref 49), (1, .int x1), (2, .int x2)] [.int x1, .ref 74] i a q r (by rfl) ?_
  refine ko_iald3 mi_k64.1 (n := 20) (c := 20) (ax := (0, 0, 0, 0, 0)) (mi_k64.2 _ _ (by rfl)) (by rfl) (ksG74 _ _ _ _) (hG.I.2.1 74) rfl (tok8 hp0.1) (tok81 hp0.2) ?_
  refine ft_go mi_k64 7 17 [(3, .int ((a 74).getD x1.toNatClampNeg 0)), (0, .ref 49), (1, .int x1), (2, .int x2)] [.int x2, .ref 74, .int x1, .ref 74] i a q r (by rfl) ?_
  refine ko_iald3 mi_k64.1 (n := 20) (c := 20) (ax := (0, 0, 0, 0, 0)) (mi_k64.2 _ _ (by rfl)) (by rfl) (ksG74 _ _ _ _) (hG.I.2.1 74) rfl (tok8 hp1.1) (tok81 hp1.2) ?_
  refine ko_iast3 mi_k64.1 (n := 20) (c := 20) (ax := (0, 0, 0, 0, 0)) (mi_k64.2 _ _ (by rfl)) (by rfl) (ksG74 _ _ _ _) (ksA74 _ _ _ _) (hG.I.2.1 74) rfl (tok8 hp0.1) (tok81 hp0.2) ?_
  intro a1 ea1 fa1
  have hJ1 := kG_a3 hG 74 rfl ea1 fa1 (kd_bd _)
  refine ft_go mi_k64 4 25 [(3, .int ((a 74).getD x1.toNatClampNeg 0)), (0, .ref 49), (1, .int x1), (2, .int x2)] [.int ((a 74).getD x1.toNatClampNeg 0), .int x2, .ref 74] i a1 q r (by rfl) ?_
  refine ko_iast3 mi_k64.1 (n := 20) (c := 20) (ax := (0, 0, 0, 0, 0)) (mi_k64.2 _ _ (by rfl)) (by rfl) (ksG74 _ _ _ _) (ksA74 _ _ _ _) (hJ1.I.2.1 74) rfl (tok8 hp1.1) (tok81 hp1.2) ?_
  intro a2 ea2 fa2
  have hJ2 := kG_a3 hJ1 74 rfl ea2 fa2 (kd_bd _)
  exact ft_ret mi_k64 (by rfl) (hP  _ _ _ _ hJ2 ⟨trivial, (show a2 74 = ((a 74).set x1.toNatClampNeg ((a 74).getD x2.toNatClampNeg 0)).set x2.toNatClampNeg ((a 74).getD x1.toNatClampNeg 0) from (by first | rfl | (simp only [ea2, ea1, sMn, sMx]; done) | (simp only [ea2, ea1, sMn, sMx]; rfl)))⟩)
def yw66_49_1 : kW := ([645, 3138, 3142, 3200, 3206, 3207, 3208, 3209, 3214, 3215, 3216, 3586, 3781, 6405], [13, 51, 52, 53, 54, 55, 57, 58, 62, 63, 65, 66, 67, 68, 69, 70, 71, 72, 73, 74, 103], [], [1])
def yw66_49_1_L16 : kW := ([645, 3142, 3200, 3206, 3207, 3208, 3209, 3214, 3215, 3216, 3586, 3781, 6405], [13, 51, 52, 53, 54, 55, 57, 58, 62, 63, 65, 66, 67, 68, 69, 70, 71, 72, 73, 74, 103], [], [1])
set_option maxRecDepth 100000 in
theorem ke66_49_1 {i : Nat → Int32} {a : Nat → List Int32} {q : Nat → List Int64} {r : Nat → Nat} (hI : kI i a q) (hr : kr r) (x2 : Int32) (hp0 : ((0 : Int) ≤ x2.toInt) ∧ (x2.toInt < (i 64).toInt)) (hp1 : (i 3138).toInt ≤ 19) (hN : kNoW i a r) (hR : kRow i a) : km 11 66 [.ref 49, .ref 1, .int x2] (ks i a q r) (kVI yw66_49_1 i a q r (fun v i1 a1 q1 r1 => ((i1 3138).toInt = ((i 3138).toInt + 1)) ∧ (i1 3142, v.toInt) = gBst (fun p => gPur (gKn i a) (a 118) (rIns (fun j => (a 74).getD j 0) x2 p) ((i 3138).toInt + 1).toNat x2) (-1) 0 ((i 3138).toInt + 1).toNat)) := by
  have hG := kG_self yw66_49_1 hI hr
  refine km_ofI (q := (mi_h66, mi_c66)) rfl (by decide) (Nat.le_of_ble_eq_true rfl) ?_
  intro P hP
  have fi_64 : ((0 : Int) ≤ (i 64).toInt) ∧ ((i 64).toInt ≤ 8) := hG.I.1 64
  have fi_3138 : ((0 : Int) ≤ (i 3138).toInt) ∧ ((i 3138).toInt ≤ 20) := hG.I.1 3138
  have hJ1 := kG_i hG 3142 rfl (v := (-1)) (kd_bd _)
  refine ft_go mi_k66 8 10 [(3, .int 0), (0, .ref 49), (1, .ref 1), (2, .int x2)] [.int x2, .int 0, .ref 49] (ku i 3142 (-1)) a q r (by rfl) ?_
  refine ko_callN mi_k66.1 (pc := 10) (ls := [(3, .int 0), (0, .ref 49), (1, .ref 1), (2, .int x2)]) (st := [.int x2, .int 0, .ref 49]) (h := ks (ku i 3142 (-1)) a q r) (i := (.invokevirtual 95, 3, 65, 0, 9, 0, 237)) (mi_k66.2 _ _ (by rfl)) (ft_invS mi_pq65 (by rfl)) (cy := mi_c65) mi_pq65 rfl (ke65_49 hJ1.I hJ1.R 0 x2 (tok16 ktok0) (tok17 fi_3138.1 ktok0) (tok18 hp1)) (by decide) ?_
  intro ig2 ag2 qg2 rg2 kg2 hg2
  have hGg2 := kG_call hJ1 kg2 (by decide +kernel)
  obtain ⟨hg2, og2⟩ := hg2
  have fig2_3138 : ((0 : Int) ≤ (ig2 3138).toInt) ∧ ((ig2 3138).toInt ≤ 20) := hGg2.I.1 3138
  have z3 : (ig2 3138).toInt = ((i 3138).toInt + 1) := hg2
  have s4 : ((i 3138) - 0).toInt = (i 3138).toInt - (0 : Int32).toInt := kd_sub (tok19 fi_3138.1 ktok0) (tok20 fi_3138.2 ktok0)
  have tI5 : kIs (ag2 74) (rIns (fun j => (a 74).getD j 0) x2 (0 : Int32).toInt.toNat) ((i 3138).toInt + 1) := (kIs_ins (n := i 3138) (p := (0 : Int32)) (p1 := (1 : Int32)) (l := ((i 3138) - 0)) (m := 20) (kIs_self (L := a 74)) (hG.I.2.1 74) (tok16 ktok0) (tok17 fi_3138.1 ktok0) (tok21 hp1) (tok22 ktok1 ktok0) (tok23 s4 ktok0) (show ag2 74 = (mi_cpy (a 74) (a 74) (0 : Int32).toNatClampNeg (1 : Int32).toNatClampNeg ((i 3138) - 0).toNatClampNeg).set (0 : Int32).toNatClampNeg x2 from og2))
  have q6 : ag2 74 = (mi_cpy (a 74) (a 74) (0 : Int32).toNatClampNeg ((0 : Int32) + 1).toNatClampNeg (i 3138 - (0 : Int32)).toNatClampNeg).set (0 : Int32).toNatClampNeg x2 := og2
  refine ft_go mi_k66 2 16 [(4, .int 0), (3, .int 0), (0, .ref 49), (1, .ref 1), (2, .int x2)] [] ig2 ag2 qg2 rg2 (by rfl) ?_
  have lp7 : ∀ (nz : Nat) (i7 : Nat → Int32) (a7 : Nat → List Int32) (q7 : Nat → List Int64) (r7 : Nat → Nat) (l4_7 : Int32) (l3_7 : Int32), kG yw66_49_1_L16 ig2 ag2 qg2 rg2 i7 a7 q7 r7 → (0 : Int) ≤ l4_7.toInt → l4_7.toInt ≤ (i7 3138).toInt → (i7 3138).toInt = ((i 3138).toInt + 1) → ((i7 3142), l3_7.toInt) = gBst (fun p => gPur (gKn i a) (a 118) (rIns (fun j => (a 74).getD j 0) x2 p) ((i 3138).toInt + 1).toNat x2) (-1) 0 l4_7.toInt.toNat → (l4_7.toInt ≤ (i 3138).toInt → kIs (a7 74) (rIns (fun j => (a 74).getD j 0) x2 l4_7.toInt.toNat) ((i 3138).toInt + 1)) → ((((i 3138).toInt + 1) - l4_7.toInt)).toNat < nz → ko 11 (mi_h66, mi_c66) P (16, [(4, .int l4_7), (3, .int l3_7), (0, .ref 49), (1, .ref 1), (2, .int x2)], [], (0, 0), ks i7 a7 q7 r7) := by
    intro nz
    induction nz with
    | zero =>
      intro _ _ _ _ _ _ _ _ _ _ _ _ hm
      exact absurd hm (Nat.not_lt_zero _)
    | succ nz ih7 =>
      intro i7 a7 q7 r7 l4_7 l3_7 hL7 p7_0 p7_1 p7_2 O7_0 O7_1 hm7
      have fi7_3138 : ((0 : Int) ≤ (i7 3138).toInt) ∧ ((i7 3138).toInt ≤ 20) := hL7.I.1 3138
      have efi7_3138 : (i7 3138).toInt = (ig2 3138).toInt := hL7.ti 3138 rfl
      refine ft_go mi_k66 3 22 [(4, .int l4_7), (3, .int l3_7), (0, .ref 49), (1, .ref 1), (2, .int x2)] [.int (i7 3138), .int l4_7] i7 a7 q7 r7 (by rfl) ?_
      refine ft_if mi_k66 (decide ((i7 3138) ≤ l4_7)) 78 25 [(4, .int l4_7), (3, .int l3_7), (0, .ref 49), (1, .ref 1), (2, .int x2)] [] (by rfl) (fun c => ?_) (fun c => ?_)
      ·
        have c8 : (i7 3138).toInt ≤ l4_7.toInt := kd_le c; clear c
        have hG9 := kG_call hGg2 hL7 (by decide +kernel)
        refine ft_go mi_k66 1 79 [(4, .int l4_7), (3, .int l3_7), (0, .ref 49), (1, .ref 1), (2, .int x2)] [.int l3_7] i7 a7 q7 r7 (by rfl) ?_
        exact ft_ret mi_k66 (by rfl) (hP l3_7 _ _ _ _ hG9 ⟨(tok24 efi7_3138 z3), (gBst_len O7_0 (kj_np1 (tok25 c8 efi7_3138 p7_1 z3) (tok8 fi_3138.1)))⟩)
      ·
        have c10 : l4_7.toInt < (i7 3138).toInt := kd_leF c; clear c
        have tI11 : kIs (a7 74) (rIns (fun j => (a 74).getD j 0) x2 l4_7.toInt.toNat) ((i 3138).toInt + 1) := O7_1 (tok26 c10 efi7_3138 z3)
        refine ft_go mi_k66 3 28 [(4, .int l4_7), (3, .int l3_7), (0, .ref 49), (1, .ref 1), (2, .int x2)] [.int x2, .ref 1, .ref 49] i7 a7 q7 r7 (by rfl) ?_
        have fi7_64 : ((0 : Int) ≤ (i7 64).toInt) ∧ ((i7 64).toInt ≤ 8) := hL7.I.1 64
        have fig2_64 : ((0 : Int) ≤ (ig2 64).toInt) ∧ ((ig2 64).toInt ≤ 8) := hGg2.I.1 64
        have efig2_64 : (ig2 64).toInt = (i 64).toInt := kg2.ti 64 rfl
        have efi7_64 : (i7 64).toInt = (ig2 64).toInt := hL7.ti 64 rfl
        have hG12 := kG_call hGg2 hL7 (by decide +kernel)
        refine ko_callI mi_k66.1 (pc := 28) (ls := [(4, .int l4_7), (3, .int l3_7), (0, .ref 49), (1, .ref 1), (2, .int x2)]) (st := [.int x2, .ref 1, .ref 49]) (h := ks i7 a7 q7 r7) (i := (.invokevirtual 99, 3, 63, 0, 9, 0, 239)) (mi_k66.2 _ _ (by rfl)) (ft_invS mi_pq63 (by rfl)) (cy := mi_c63) mi_pq63 rfl (ke63_49_1 hL7.I hL7.R x2 (tok71 efi7_64 efig2_64 hp0.1 hp0.2) (kNoW_fr hG12 (by decide +kernel) hr hN) (kRow_is tI11 (rOkw_ins (rOkw_row hR) hp0 (kj_natle (tok8 p7_0) (tok26 c10 efi7_3138 z3))) (tok72 efi7_3138 z3) (hG12.fi 64 rfl))) (by decide) ?_
        intro vg13 ig13 ag13 qg13 rg13 kg13 hg13
        have hGg13 := kG_call hL7 kg13 (by decide +kernel)
        obtain ⟨hg13, og13⟩ := hg13
        have hG14 := kG_call hGg2 hL7 (by decide +kernel)
        have oP15 := og13.1
        rw [(gKn_fr hG14 (by decide +kernel) : gKn i7 a7 = gKn i a)] at oP15
        have pv16 : vg13 = gPur (gKn i a) (a 118) (rIns (fun j => (a 74).getD j 0) x2 l4_7.toInt.toNat) ((i 3138).toInt + 1).toNat x2 := by
          have e := gPur_of (R := rIns (fun j => (a 74).getD j 0) x2 l4_7.toInt.toNat) oP15 (N := a 118) (show a7 118 = a 118 from ((hL7.fa 118 rfl).trans (kg2.fa 118 rfl))) rfl (kIs_c tI11 rfl (Int.le_of_eq (tok72 efi7_3138 z3))) (tok8 fi7_3138.1)
          rw [((tok72 efi7_3138 z3) : (i7 3138).toInt = (i 3138).toInt + 1)] at e
          exact e
        have efig13_3142 : (ig13 3142).toInt = (i7 3142).toInt := kg13.ti 3142 rfl
        refine ft_go mi_k66 4 39 [(5, .int vg13), (4, .int l4_7), (3, .int l3_7), (0, .ref 49), (1, .ref 1), (2, .int x2)] [.int (ig13 3142), .int vg13] ig13 ag13 qg13 rg13 (by rfl) ?_
        refine ft_if mi_k66 (decide (vg13 ≤ (ig13 3142))) 51 42 [(5, .int vg13), (4, .int l4_7), (3, .int l3_7), (0, .ref 49), (1, .ref 1), (2, .int x2)] [] (by rfl) (fun c => ?_) (fun c => ?_)
        ·
          have c17 : vg13.toInt ≤ (ig13 3142).toInt := kd_le c; clear c
          have s18 : (l4_7 + 1).toInt = l4_7.toInt + (1 : Int32).toInt := kd_add (tok3 p7_0 ktok1) (tok73 c10 fi_3138.2 p7_2 ktok1)
          have fig13_3138 : ((0 : Int) ≤ (ig13 3138).toInt) ∧ ((ig13 3138).toInt ≤ 20) := hGg13.I.1 3138
          have efig13_3138 : (ig13 3138).toInt = (i7 3138).toInt := kg13.ti 3138 rfl
          refine ft_go mi_k66 5 59 [(5, .int vg13), (4, .int l4_7), (3, .int l3_7), (0, .ref 49), (1, .ref 1), (2, .int x2)] [.int (ig13 3138), .int (l4_7 + 1)] ig13 ag13 qg13 rg13 (by rfl) ?_
          refine ft_if mi_k66 (decide ((ig13 3138) ≤ (l4_7 + 1))) 72 62 [(5, .int vg13), (4, .int l4_7), (3, .int l3_7), (0, .ref 49), (1, .ref 1), (2, .int x2)] [] (by rfl) (fun c => ?_) (fun c => ?_)
          ·
            have c19 : (ig13 3138).toInt ≤ (l4_7 + 1).toInt := kd_le c; clear c
            refine ft_go mi_k66 2 16 [(4, .int (l4_7 + 1)), (5, .int vg13), (3, .int l3_7), (0, .ref 49), (1, .ref 1), (2, .int x2)] [] ig13 ag13 qg13 rg13 (by rfl) ?_
            refine ko_perm [(4, .int (l4_7 + 1)), (3, .int l3_7), (0, .ref 49), (1, .ref 1), (2, .int x2)] (List.forall_mem_cons.mpr ⟨(List.Mem.head _), (List.forall_mem_cons.mpr ⟨(List.Mem.tail _ (List.Mem.tail _ (List.Mem.head _))), (List.forall_mem_cons.mpr ⟨(List.Mem.tail _ (List.Mem.tail _ (List.Mem.tail _ (List.Mem.head _)))), (List.forall_mem_cons.mpr ⟨(List.Mem.tail _ (List.Mem.tail _ (List.Mem.tail _ (List.Mem.tail _ (List.Mem.head _))))), (List.forall_mem_cons.mpr ⟨(List.Mem.tail _ (List.Mem.tail _ (List.Mem.tail _ (List.Mem.tail _ (List.Mem.tail _ (List.Mem.head _)))))), (fun _ h => absurd h List.not_mem_nil)⟩)⟩)⟩)⟩)⟩) ?_
            exact ih7 _ _ _ _ _ _ hGg13 (tok9 p7_0 s18 ktok1) (tok74 c10 efig13_3138 s18 ktok1) (tok75 efi7_3138 efig13_3138 z3) (kT2m (gBst_no O7_0 pv16 (tok76 c17 efig13_3142) (tok8 p7_0) (tok67 s18 ktok1)) (kj_v (tok70 efig13_3142)) tok77) (fun h => absurd h (tok78 c19 efi7_3138 efig13_3138 z3)) (kj_meas (tok79 s18 ktok1) (tok80 c10 efi7_3138 z3) hm7)
          ·
            have c20 : (l4_7 + 1).toInt < (ig13 3138).toInt := kd_leF c; clear c
            refine ft_go mi_k66 5 69 [(5, .int vg13), (4, .int l4_7), (3, .int l3_7), (0, .ref 49), (1, .ref 1), (2, .int x2)] [.int (l4_7 + 1), .int l4_7, .ref 49] ig13 ag13 qg13 rg13 (by rfl) ?_
            refine ko_callN mi_k66.1 (pc := 69) (ls := [(5, .int vg13), (4, .int l4_7), (3, .int l3_7), (0, .ref 49), (1, .ref 1), (2, .int x2)]) (st := [.int (l4_7 + 1), .int l4_7, .ref 49]) (h := ks ig13 ag13 qg13 rg13) (i := (.invokevirtual 103, 3, 64, 0, 9, 0, 241)) (mi_k66.2 _ _ (by rfl)) (ft_invS mi_pq64 (by rfl)) (cy := mi_c64) mi_pq64 rfl (ke64_49 hGg13.I hGg13.R l4_7 (l4_7 + 1) (tok82 c20 efig13_3138 fi_3138.2 p7_0 p7_2 s18 ktok1) (tok83 c20 fig13_3138.2 p7_0 s18 ktok1)) (by decide) ?_
            intro ig21 ag21 qg21 rg21 kg21 hg21
            have hGg21 := kG_call hGg13 kg21 (by decide +kernel)
            obtain ⟨hg21, og21⟩ := hg21
            have tI22 : kIs (ag21 74) (rSwp (rIns (fun j => (a 74).getD j 0) x2 l4_7.toInt.toNat) l4_7.toInt.toNat) ((i 3138).toInt + 1) := (kIs_swp (p := l4_7) (p1 := (l4_7 + 1)) (m := 20) (kIs_c tI11 (kg13.fa 74 rfl) (Int.le_refl _)) (hGg13.I.2.1 74) (tok8 p7_0) (tok67 s18 ktok1) (tok84 c20 efi7_3138 efig13_3138 z3) (tok85 hp1) og21)
            have q23 : ag21 74 = ((ag13 74).set l4_7.toNatClampNeg ((ag13 74).getD (l4_7 + 1).toNatClampNeg 0)).set (l4_7 + 1).toNatClampNeg ((ag13 74).getD l4_7.toNatClampNeg 0) := og21
            refine ft_go mi_k66 2 16 [(4, .int (l4_7 + 1)), (5, .int vg13), (3, .int l3_7), (0, .ref 49), (1, .ref 1), (2, .int x2)] [] ig21 ag21 qg21 rg21 (by rfl) ?_
            refine ko_perm [(4, .int (l4_7 + 1)), (3, .int l3_7), (0, .ref 49), (1, .ref 1), (2, .int x2)] (List.forall_mem_cons.mpr ⟨(List.Mem.head _), (List.forall_mem_cons.mpr ⟨(List.Mem.tail _ (List.Mem.tail _ (List.Mem.head _))), (List.forall_mem_cons.mpr ⟨(List.Mem.tail _ (List.Mem.tail _ (List.Mem.tail _ (List.Mem.head _)))), (List.forall_mem_cons.mpr ⟨(List.Mem.tail _ (List.Mem.tail _ (List.Mem.tail _ (List.Mem.tail _ (List.Mem.head _))))), (List.forall_mem_cons.mpr ⟨(List.Mem.tail _ (List.Mem.tail _ (List.Mem.tail _ (List.Mem.tail _ (List.Mem.tail _ (List.Mem.head _)))))), (fun _ h => absurd h List.not_mem_nil)⟩)⟩)⟩)⟩)⟩) ?_
            have fig21_3138 : ((0 : Int) ≤ (ig21 3138).toInt) ∧ ((ig21 3138).toInt ≤ 20) := hGg21.I.1 3138
            have efig21_3138 : (ig21 3138).toInt = (ig13 3138).toInt := kg21.ti 3138 rfl
            have efig21_3142 : (ig21 3142).toInt = (ig13 3142).toInt := kg21.ti 3142 rfl
            exact ih7 _ _ _ _ _ _ hGg21 (tok9 p7_0 s18 ktok1) (tok86 c20 efig21_3138) (tok87 efi7_3138 efig13_3138 efig21_3138 z3) (kT2m (gBst_no O7_0 pv16 (tok76 c17 efig13_3142) (tok8 p7_0) (tok67 s18 ktok1)) (kj_v (tok88 efig13_3142 efig21_3142)) tok77) (fun _ => kIs_R tI22 (rSwp_at (tok8 p7_0) (tok67 s18 ktok1))) (kj_meas (tok79 s18 ktok1) (tok80 c10 efi7_3138 z3) hm7)
        ·
          have c24 : (ig13 3142).toInt < vg13.toInt := kd_leF c; clear c
          have hJ25 := kG_i hGg13 3142 rfl (v := vg13) (kd_bd _)
          have s26 : (l4_7 + 1).toInt = l4_7.toInt + (1 : Int32).toInt := kd_add (tok3 p7_0 ktok1) (tok73 c10 fi_3138.2 p7_2 ktok1)
          have fig13_3138 : ((0 : Int) ≤ (ig13 3138).toInt) ∧ ((ig13 3138).toInt ≤ 20) := hJ25.I.1 3138
          have efig13_3138 : (ig13 3138).toInt = (i7 3138).toInt := kg13.ti 3138 rfl
          refine ft_go mi_k66 10 59 [(3, .int l4_7), (5, .int vg13), (4, .int l4_7), (0, .ref 49), (1, .ref 1), (2, .int x2)] [.int (ig13 3138), .int (l4_7 + 1)] (ku ig13 3142 vg13) ag13 qg13 rg13 (by rfl) ?_
          refine ft_if mi_k66 (decide ((ig13 3138) ≤ (l4_7 + 1))) 72 62 [(3, .int l4_7), (5, .int vg13), (4, .int l4_7), (0, .ref 49), (1, .ref 1), (2, .int x2)] [] (by rfl) (fun c => ?_) (fun c => ?_)
          ·
            have c27 : (ig13 3138).toInt ≤ (l4_7 + 1).toInt := kd_le c; clear c
            refine ft_go mi_k66 2 16 [(4, .int (l4_7 + 1)), (3, .int l4_7), (5, .int vg13), (0, .ref 49), (1, .ref 1), (2, .int x2)] [] (ku ig13 3142 vg13) ag13 qg13 rg13 (by rfl) ?_
            refine ko_perm [(4, .int (l4_7 + 1)), (3, .int l4_7), (0, .ref 49), (1, .ref 1), (2, .int x2)] (List.forall_mem_cons.mpr ⟨(List.Mem.head _), (List.forall_mem_cons.mpr ⟨(List.Mem.tail _ (List.Mem.head _)), (List.forall_mem_cons.mpr ⟨(List.Mem.tail _ (List.Mem.tail _ (List.Mem.tail _ (List.Mem.head _)))), (List.forall_mem_cons.mpr ⟨(List.Mem.tail _ (List.Mem.tail _ (List.Mem.tail _ (List.Mem.tail _ (List.Mem.head _))))), (List.forall_mem_cons.mpr ⟨(List.Mem.tail _ (List.Mem.tail _ (List.Mem.tail _ (List.Mem.tail _ (List.Mem.tail _ (List.Mem.head _)))))), (fun _ h => absurd h List.not_mem_nil)⟩)⟩)⟩)⟩)⟩) ?_
            exact ih7 _ _ _ _ _ _ hJ25 (tok9 p7_0 s26 ktok1) (tok74 c10 efig13_3138 s26 ktok1) (tok75 efi7_3138 efig13_3138 z3) (kT2m (gBst_up (w1 := l4_7) O7_0 pv16 (tok89 c24 efig13_3142) (tok8 p7_0) (tok67 s26 ktok1) tok77) (kj_v tok77) rfl) (fun h => absurd h (tok78 c27 efi7_3138 efig13_3138 z3)) (kj_meas (tok79 s26 ktok1) (tok80 c10 efi7_3138 z3) hm7)
          ·
            have c28 : (l4_7 + 1).toInt < (ig13 3138).toInt := kd_leF c; clear c
            refine ft_go mi_k66 5 69 [(3, .int l4_7), (5, .int vg13), (4, .int l4_7), (0, .ref 49), (1, .ref 1), (2, .int x2)] [.int (l4_7 + 1), .int l4_7, .ref 49] (ku ig13 3142 vg13) ag13 qg13 rg13 (by rfl) ?_
            refine ko_callN mi_k66.1 (pc := 69) (ls := [(3, .int l4_7), (5, .int vg13), (4, .int l4_7), (0, .ref 49), (1, .ref 1), (2, .int x2)]) (st := [.int (l4_7 + 1), .int l4_7, .ref 49]) (h := ks (ku ig13 3142 vg13) ag13 qg13 rg13) (i := (.invokevirtual 103, 3, 64, 0, 9, 0, 241)) (mi_k66.2 _ _ (by rfl)) (ft_invS mi_pq64 (by rfl)) (cy := mi_c64) mi_pq64 rfl (ke64_49 hJ25.I hJ25.R l4_7 (l4_7 + 1) (tok82 c28 efig13_3138 fi_3138.2 p7_0 p7_2 s26 ktok1) (tok83 c28 fig13_3138.2 p7_0 s26 ktok1)) (by decide) ?_
            intro ig29 ag29 qg29 rg29 kg29 hg29
            have hGg29 := kG_call hJ25 kg29 (by decide +kernel)
            obtain ⟨hg29, og29⟩ := hg29
            have tI30 : kIs (ag29 74) (rSwp (rIns (fun j => (a 74).getD j 0) x2 l4_7.toInt.toNat) l4_7.toInt.toNat) ((i 3138).toInt + 1) := (kIs_swp (p := l4_7) (p1 := (l4_7 + 1)) (m := 20) (kIs_c tI11 (kg13.fa 74 rfl) (Int.le_refl _)) (hJ25.I.2.1 74) (tok8 p7_0) (tok67 s26 ktok1) (tok84 c28 efi7_3138 efig13_3138 z3) (tok85 hp1) og29)
            have q31 : ag29 74 = ((ag13 74).set l4_7.toNatClampNeg ((ag13 74).getD (l4_7 + 1).toNatClampNeg 0)).set (l4_7 + 1).toNatClampNeg ((ag13 74).getD l4_7.toNatClampNeg 0) := og29
            refine ft_go mi_k66 2 16 [(4, .int (l4_7 + 1)), (3, .int l4_7), (5, .int vg13), (0, .ref 49), (1, .ref 1), (2, .int x2)] [] ig29 ag29 qg29 rg29 (by rfl) ?_
            refine ko_perm [(4, .int (l4_7 + 1)), (3, .int l4_7), (0, .ref 49), (1, .ref 1), (2, .int x2)] (List.forall_mem_cons.mpr ⟨(List.Mem.head _), (List.forall_mem_cons.mpr ⟨(List.Mem.tail _ (List.Mem.head _)), (List.forall_mem_cons.mpr ⟨(List.Mem.tail _ (List.Mem.tail _ (List.Mem.tail _ (List.Mem.head _)))), (List.forall_mem_cons.mpr ⟨(List.Mem.tail _ (List.Mem.tail _ (List.Mem.tail _ (List.Mem.tail _ (List.Mem.head _))))), (List.forall_mem_cons.mpr ⟨(List.Mem.tail _ (List.Mem.tail _ (List.Mem.tail _ (List.Mem.tail _ (List.Mem.tail _ (List.Mem.head _)))))), (fun _ h => absurd h List.not_mem_nil)⟩)⟩)⟩)⟩)⟩) ?_
            have fig29_3138 : ((0 : Int) ≤ (ig29 3138).toInt) ∧ ((ig29 3138).toInt ≤ 20) := hGg29.I.1 3138
            have efig29_3138 : (ig29 3138).toInt = (ig13 3138).toInt := kg29.ti 3138 rfl
            have efig29_3142 : (ig29 3142).toInt = vg13.toInt := kg29.ti 3142 rfl
            exact ih7 _ _ _ _ _ _ hGg29 (tok9 p7_0 s26 ktok1) (tok86 c28 efig29_3138) (tok87 efi7_3138 efig13_3138 efig29_3138 z3) (kT2m (gBst_up (w1 := l4_7) O7_0 pv16 (tok89 c24 efig13_3142) (tok8 p7_0) (tok67 s26 ktok1) tok77) (kj_v (tok70 efig29_3142)) rfl) (fun _ => kIs_R tI30 (rSwp_at (tok8 p7_0) (tok67 s26 ktok1))) (kj_meas (tok79 s26 ktok1) (tok80 c10 efi7_3138 z3) hm7)
  have efig2_3142 : (ig2 3142).toInt = ((-1) : Int32).toInt := kg2.ti 3142 rfl
  exact lp7 _ _ _ _ _ _ _ (kG_self _ hGg2.I hGg2.R) (tok16 ktok0) (tok17 fig2_3138.1 ktok0) (tok90 z3) (kT2m (gBst_0 ktok0) (show ig2 3142 = ((-1) : Int32) from (by first | rfl | (simp only [(show ig2 3142 = ((-1) : Int32) from kg2.fi 3142 rfl), sMn, sMx]; done) | (simp only [(show ig2 3142 = ((-1) : Int32) from kg2.fi 3142 rfl), sMn, sMx]; rfl))) ktok0) (fun _ => tI5) (Nat.lt_succ_self _)
def yw67_49_1 : kW := ([645, 3138, 3142, 3200, 3206, 3207, 3208, 3209, 3214, 3215, 3216, 3586, 3781, 6405], [13, 51, 52, 53, 54, 55, 57, 58, 62, 63, 65, 66, 67, 68, 69, 70, 71, 72, 73, 74, 103], [], [1])
def yw67_49_1_L17 : kW := ([645, 3142, 3200, 3206, 3207, 3208, 3209, 3214, 3215, 3216, 3586, 3781, 6405], [13, 51, 52, 53, 54, 55, 57, 58, 62, 63, 65, 66, 67, 68, 69, 70, 71, 72, 73, 74, 103], [], [1])
set_option maxRecDepth 100000 in
theorem ke67_49_1 {i : Nat → Int32} {a : Nat → List Int32} {q : Nat → List Int64} {r : Nat → Nat} (hI : kI i a q) (hr : kr r) (x2 : Int32) (x3 : Int32) (hp0 : ((0 : Int) ≤ x2.toInt) ∧ (x2.toInt ≤ (i 3138).toInt)) (hp1 : ((0 : Int) ≤ x3.toInt) ∧ (x3.toInt < (i 64).toInt)) (hp2 : (i 3138).toInt ≤ 19) (hN : kNoW i a r) (hR : kRow i a) : km 11 67 [.ref 49, .ref 1, .int x2, .int x3] (ks i a q r) (kVI yw67_49_1 i a q r (fun v i1 a1 q1 r1 => (True) ∧ (i1 3142, v.toInt) = gBst (fun p => gPur (gKn i a) (a 118) (rIns (fun j => (a 74).getD j 0) (kOf p) x2.toInt.toNat) ((i 3138).toInt + 1).toNat x3) (-1) 0 (i 64).toInt.toNat)) := by
  have hG := kG_self yw67_49_1 hI hr
  refine km_ofI (q := (mi_h67, mi_c67)) rfl (by decide) (Nat.le_of_ble_eq_true rfl) ?_
  intro P hP
  have fi_3138 : ((0 : Int) ≤ (i 3138).toInt) ∧ ((i 3138).toInt ≤ 20) := hG.I.1 3138
  have fi_64 : ((0 : Int) ≤ (i 64).toInt) ∧ ((i 64).toInt ≤ 8) := hG.I.1 64
  have hJ1 := kG_i hG 3142 rfl (v := (-1)) (kd_bd _)
  refine ft_go mi_k67 8 11 [(4, .int 0), (0, .ref 49), (1, .ref 1), (2, .int x2), (3, .int x3)] [.int 0, .int x2, .ref 49] (ku i 3142 (-1)) a q r (by rfl) ?_
  refine ko_callN mi_k67.1 (pc := 11) (ls := [(4, .int 0), (0, .ref 49), (1, .ref 1), (2, .int x2), (3, .int x3)]) (st := [.int 0, .int x2, .ref 49]) (h := ks (ku i 3142 (-1)) a q r) (i := (.invokevirtual 95, 3, 65, 0, 9, 0, 237)) (mi_k67.2 _ _ (by rfl)) (ft_invS mi_pq65 (by rfl)) (cy := mi_c65) mi_pq65 rfl (ke65_49 hJ1.I hJ1.R x2 0 (tok8 hp0.1) (tok91 hp0.2) (tok18 hp2)) (by decide) ?_
  intro ig2 ag2 qg2 rg2 kg2 hg2
  have hGg2 := kG_call hJ1 kg2 (by decide +kernel)
  obtain ⟨hg2, og2⟩ := hg2
  have fig2_3138 : ((0 : Int) ≤ (ig2 3138).toInt) ∧ ((ig2 3138).toInt ≤ 20) := hGg2.I.1 3138
  have z3 : (ig2 3138).toInt = ((i 3138).toInt + 1) := hg2
  have s4 : (x2 + 1).toInt = x2.toInt + (1 : Int32).toInt := kd_add (tok3 hp0.1 ktok1) (tok4 hp0.2 hp2 ktok1)
  have s5 : ((i 3138) - x2).toInt = (i 3138).toInt - x2.toInt := kd_sub (tok5 hp0.2) (tok6 fi_3138.2 hp0.1)
  have tI6 : kIs (ag2 74) (rIns (fun j => (a 74).getD j 0) (0 : Int32) x2.toInt.toNat) ((i 3138).toInt + 1) := (kIs_ins (n := i 3138) (p := x2) (p1 := (x2 + 1)) (l := ((i 3138) - x2)) (m := 20) (kIs_self (L := a 74)) (hG.I.2.1 74) (tok8 hp0.1) (tok91 hp0.2) (tok21 hp2) (tok67 s4 ktok1) (tok92 s5) (show ag2 74 = (mi_cpy (a 74) (a 74) x2.toNatClampNeg (x2 + 1).toNatClampNeg ((i 3138) - x2).toNatClampNeg).set x2.toNatClampNeg 0 from og2))
  have q7 : ag2 74 = (mi_cpy (a 74) (a 74) x2.toNatClampNeg (x2 + 1).toNatClampNeg (i 3138 - x2).toNatClampNeg).set x2.toNatClampNeg (0 : Int32) := og2
  refine ft_go mi_k67 2 17 [(5, .int 0), (4, .int 0), (0, .ref 49), (1, .ref 1), (2, .int x2), (3, .int x3)] [] ig2 ag2 qg2 rg2 (by rfl) ?_
  have lp8 : ∀ (nz : Nat) (i8 : Nat → Int32) (a8 : Nat → List Int32) (q8 : Nat → List Int64) (r8 : Nat → Nat) (l5_8 : Int32) (l4_8 : Int32), kG yw67_49_1_L17 ig2 ag2 qg2 rg2 i8 a8 q8 r8 → (0 : Int) ≤ l5_8.toInt → l5_8.toInt ≤ (i 64).toInt → (i8 3138).toInt = ((i 3138).toInt + 1) → ((i8 3142), l4_8.toInt) = gBst (fun p => gPur (gKn i a) (a 118) (rIns (fun j => (a 74).getD j 0) (kOf p) x2.toInt.toNat) ((i 3138).toInt + 1).toNat x3) (-1) 0 l5_8.toInt.toNat → (∃ y : Int32, kIs (a8 74) (rIns (fun j => (a 74).getD j 0) y x2.toInt.toNat) ((i 3138).toInt + 1)) → (((i8 64).toInt - l5_8.toInt)).toNat < nz → ko 11 (mi_h67, mi_c67) P (17, [(5, .int l5_8), (4, .int l4_8), (0, .ref 49), (1, .ref 1), (2, .int x2), (3, .int x3)], [], (0, 0), ks i8 a8 q8 r8) := by
    intro nz
    induction nz with
    | zero =>
      intro _ _ _ _ _ _ _ _ _ _ _ _ hm
      exact absurd hm (Nat.not_lt_zero _)
    | succ nz ih8 =>
      intro i8 a8 q8 r8 l5_8 l4_8 hL8 p8_0 p8_1 p8_2 O8_0 O8_1 hm8
      have fi8_3138 : ((0 : Int) ≤ (i8 3138).toInt) ∧ ((i8 3138).toInt ≤ 20) := hL8.I.1 3138
      have efi8_3138 : (i8 3138).toInt = (ig2 3138).toInt := hL8.ti 3138 rfl
      have fi8_64 : ((0 : Int) ≤ (i8 64).toInt) ∧ ((i8 64).toInt ≤ 8) := hL8.I.1 64
      have fig2_64 : ((0 : Int) ≤ (ig2 64).toInt) ∧ ((ig2 64).toInt ≤ 8) := hGg2.I.1 64
      have efig2_64 : (ig2 64).toInt = (i 64).toInt := kg2.ti 64 rfl
      have efi8_64 : (i8 64).toInt = (ig2 64).toInt := hL8.ti 64 rfl
      obtain ⟨yI9, hI10⟩ := O8_1
      refine ft_go mi_k67 3 23 [(5, .int l5_8), (4, .int l4_8), (0, .ref 49), (1, .ref 1), (2, .int x2), (3, .int x3)] [.int (i8 64), .int l5_8] i8 a8 q8 r8 (by rfl) ?_
      refine ft_if mi_k67 (decide ((i8 64) ≤ l5_8)) 67 26 [(5, .int l5_8), (4, .int l4_8), (0, .ref 49), (1, .ref 1), (2, .int x2), (3, .int x3)] [] (by rfl) (fun c => ?_) (fun c => ?_)
      ·
        have c11 : (i8 64).toInt ≤ l5_8.toInt := kd_le c; clear c
        have hG12 := kG_call hGg2 hL8 (by decide +kernel)
        refine ft_go mi_k67 1 69 [(5, .int l5_8), (4, .int l4_8), (0, .ref 49), (1, .ref 1), (2, .int x2), (3, .int x3)] [.int l4_8] i8 a8 q8 r8 (by rfl) ?_
        exact ft_ret mi_k67 (by rfl) (hP l4_8 _ _ _ _ hG12 ⟨trivial, (gBst_len O8_0 (kj_np (tok60 c11 efi8_64 efig2_64 p8_1) (tok8 fi_64.1)))⟩)
      ·
        have c13 : l5_8.toInt < (i8 64).toInt := kd_leF c; clear c
        refine ft_go mi_k67 4 33 [(5, .int l5_8), (4, .int l4_8), (0, .ref 49), (1, .ref 1), (2, .int x2), (3, .int x3)] [.int l5_8, .int x2, .ref 74] i8 a8 q8 r8 (by rfl) ?_
        refine ko_iast3 mi_k67.1 (n := 20) (c := 20) (ax := (0, 0, 0, 0, 0)) (mi_k67.2 _ _ (by rfl)) (by rfl) (ksG74 _ _ _ _) (ksA74 _ _ _ _) (hL8.I.2.1 74) rfl (tok8 hp0.1) (tok12 hp0.2 hp2) ?_
        intro a14 ea14 fa14
        have hJ14 := kG_a3 hL8 74 rfl ea14 fa14 (kd_bd _)
        have tI15 : kIs (a14 74) (rIns (fun j => (a 74).getD j 0) l5_8 x2.toInt.toNat) ((i 3138).toInt + 1) := kIs_R (kIs_put (m := 20) hI10 (hL8.I.2.1 74) (tok8 hp0.1) (tok93 hp0.2 hp2) ea14) ((rPuw_ins _ _).symm)
        refine ft_go mi_k67 3 37 [(5, .int l5_8), (4, .int l4_8), (0, .ref 49), (1, .ref 1), (2, .int x2), (3, .int x3)] [.int x3, .ref 1, .ref 49] i8 a14 q8 r8 (by rfl) ?_
        have hG16 := kG_call hGg2 hJ14 (by decide +kernel)
        refine ko_callI mi_k67.1 (pc := 37) (ls := [(5, .int l5_8), (4, .int l4_8), (0, .ref 49), (1, .ref 1), (2, .int x2), (3, .int x3)]) (st := [.int x3, .ref 1, .ref 49]) (h := ks i8 a14 q8 r8) (i := (.invokevirtual 99, 3, 63, 0, 9, 0, 239)) (mi_k67.2 _ _ (by rfl)) (ft_invS mi_pq63 (by rfl)) (cy := mi_c63) mi_pq63 rfl (ke63_49_1 hJ14.I hJ14.R x3 (tok71 efi8_64 efig2_64 hp1.1 hp1.2) (kNoW_fr hG16 (by decide +kernel) hr hN) (kRow_is tI15 (rOkw_ins (rOkw_row hR) ⟨(tok8 p8_0), (tok63 c13 efi8_64 efig2_64)⟩ (kj_natle (tok8 hp0.1) (tok91 hp0.2))) (tok72 efi8_3138 z3) (hG16.fi 64 rfl))) (by decide) ?_
        intro vg17 ig17 ag17 qg17 rg17 kg17 hg17
        have hGg17 := kG_call hJ14 kg17 (by decide +kernel)
        obtain ⟨hg17, og17⟩ := hg17
        have hG18 := kG_call hGg2 hJ14 (by decide +kernel)
        have oP19 := og17.1
        rw [(gKn_fr hG18 (by decide +kernel) : gKn i8 a14 = gKn i a)] at oP19
        have pv20 : vg17 = gPur (gKn i a) (a 118) (rIns (fun j => (a 74).getD j 0) l5_8 x2.toInt.toNat) ((i 3138).toInt + 1).toNat x3 := by
          have e := gPur_of (R := rIns (fun j => (a 74).getD j 0) l5_8 x2.toInt.toNat) oP19 (N := a 118) (show a14 118 = a 118 from (((fa14 118 (by decide)).trans (hL8.fa 118 rfl)).trans (kg2.fa 118 rfl))) rfl (kIs_c tI15 rfl (Int.le_of_eq (tok72 efi8_3138 z3))) (tok8 fi8_3138.1)
          rw [((tok72 efi8_3138 z3) : (i8 3138).toInt = (i 3138).toInt + 1)] at e
          exact e
        have efig17_3142 : (ig17 3142).toInt = (i8 3142).toInt := kg17.ti 3142 rfl
        refine ft_go mi_k67 4 48 [(6, .int vg17), (5, .int l5_8), (4, .int l4_8), (0, .ref 49), (1, .ref 1), (2, .int x2), (3, .int x3)] [.int (ig17 3142), .int vg17] ig17 ag17 qg17 rg17 (by rfl) ?_
        refine ft_if mi_k67 (decide (vg17 ≤ (ig17 3142))) 61 51 [(6, .int vg17), (5, .int l5_8), (4, .int l4_8), (0, .ref 49), (1, .ref 1), (2, .int x2), (3, .int x3)] [] (by rfl) (fun c => ?_) (fun c => ?_)
        ·
          have c21 : vg17.toInt ≤ (ig17 3142).toInt := kd_le c; clear c
          have s22 : (l5_8 + 1).toInt = l5_8.toInt + (1 : Int32).toInt := kd_add (tok3 p8_0 ktok1) (tok94 c13 efi8_64 efig2_64 fi_64.2 ktok1)
          refine ft_go mi_k67 2 17 [(5, .int (l5_8 + 1)), (6, .int vg17), (4, .int l4_8), (0, .ref 49), (1, .ref 1), (2, .int x2), (3, .int x3)] [] ig17 ag17 qg17 rg17 (by rfl) ?_
          refine ko_perm [(5, .int (l5_8 + 1)), (4, .int l4_8), (0, .ref 49), (1, .ref 1), (2, .int x2), (3, .int x3)] (List.forall_mem_cons.mpr ⟨(List.Mem.head _), (List.forall_mem_cons.mpr ⟨(List.Mem.tail _ (List.Mem.tail _ (List.Mem.head _))), (List.forall_mem_cons.mpr ⟨(List.Mem.tail _ (List.Mem.tail _ (List.Mem.tail _ (List.Mem.head _)))), (List.forall_mem_cons.mpr ⟨(List.Mem.tail _ (List.Mem.tail _ (List.Mem.tail _ (List.Mem.tail _ (List.Mem.head _))))), (List.forall_mem_cons.mpr ⟨(List.Mem.tail _ (List.Mem.tail _ (List.Mem.tail _ (List.Mem.tail _ (List.Mem.tail _ (List.Mem.head _)))))), (List.forall_mem_cons.mpr ⟨(List.Mem.tail _ (List.Mem.tail _ (List.Mem.tail _ (List.Mem.tail _ (List.Mem.tail _ (List.Mem.tail _ (List.Mem.head _))))))), (fun _ h => absurd h List.not_mem_nil)⟩)⟩)⟩)⟩)⟩)⟩) ?_
          have fig17_3138 : ((0 : Int) ≤ (ig17 3138).toInt) ∧ ((ig17 3138).toInt ≤ 20) := hGg17.I.1 3138
          have efig17_3138 : (ig17 3138).toInt = (i8 3138).toInt := kg17.ti 3138 rfl
          have fig17_64 : ((0 : Int) ≤ (ig17 64).toInt) ∧ ((ig17 64).toInt ≤ 8) := hGg17.I.1 64
          have efig17_64 : (ig17 64).toInt = (i8 64).toInt := kg17.ti 64 rfl
          exact ih8 _ _ _ _ _ _ hGg17 (tok9 p8_0 s22 ktok1) (tok65 c13 efi8_64 efig2_64 s22 ktok1) (tok75 efi8_3138 efig17_3138 z3) (kT2m (gBst_no O8_0 (bh_fv pv20 (tok8 p8_0) (tok95 c13 efi8_64 efig2_64 fi_64.2)) (tok76 c21 efig17_3142) (tok8 p8_0) (tok67 s22 ktok1)) (kj_v (tok70 efig17_3142)) tok77) ⟨_, (kIs_c tI15 (kg17.fa 74 rfl) (Int.le_refl _))⟩ (kj_meas (tok96 efig17_64 s22 ktok1) (tok97 c13) hm8)
        ·
          have c23 : (ig17 3142).toInt < vg17.toInt := kd_leF c; clear c
          have hJ24 := kG_i hGg17 3142 rfl (v := vg17) (kd_bd _)
          have s25 : (l5_8 + 1).toInt = l5_8.toInt + (1 : Int32).toInt := kd_add (tok3 p8_0 ktok1) (tok94 c13 efi8_64 efig2_64 fi_64.2 ktok1)
          refine ft_go mi_k67 7 17 [(5, .int (l5_8 + 1)), (4, .int l5_8), (6, .int vg17), (0, .ref 49), (1, .ref 1), (2, .int x2), (3, .int x3)] [] (ku ig17 3142 vg17) ag17 qg17 rg17 (by rfl) ?_
          refine ko_perm [(5, .int (l5_8 + 1)), (4, .int l5_8), (0, .ref 49), (1, .ref 1), (2, .int x2), (3, .int x3)] (List.forall_mem_cons.mpr ⟨(List.Mem.head _), (List.forall_mem_cons.mpr ⟨(List.Mem.tail _ (List.Mem.head _)), (List.forall_mem_cons.mpr ⟨(List.Mem.tail _ (List.Mem.tail _ (List.Mem.tail _ (List.Mem.head _)))), (List.forall_mem_cons.mpr ⟨(List.Mem.tail _ (List.Mem.tail _ (List.Mem.tail _ (List.Mem.tail _ (List.Mem.head _))))), (List.forall_mem_cons.mpr ⟨(List.Mem.tail _ (List.Mem.tail _ (List.Mem.tail _ (List.Mem.tail _ (List.Mem.tail _ (List.Mem.head _)))))), (List.forall_mem_cons.mpr ⟨(List.Mem.tail _ (List.Mem.tail _ (List.Mem.tail _ (List.Mem.tail _ (List.Mem.tail _ (List.Mem.tail _ (List.Mem.head _))))))), (fun _ h => absurd h List.not_mem_nil)⟩)⟩)⟩)⟩)⟩)⟩) ?_
          have fig17_3138 : ((0 : Int) ≤ (ig17 3138).toInt) ∧ ((ig17 3138).toInt ≤ 20) := hJ24.I.1 3138
          have efig17_3138 : (ig17 3138).toInt = (i8 3138).toInt := kg17.ti 3138 rfl
          have fig17_64 : ((0 : Int) ≤ (ig17 64).toInt) ∧ ((ig17 64).toInt ≤ 8) := hJ24.I.1 64
          have efig17_64 : (ig17 64).toInt = (i8 64).toInt := kg17.ti 64 rfl
          exact ih8 _ _ _ _ _ _ hJ24 (tok9 p8_0 s25 ktok1) (tok65 c13 efi8_64 efig2_64 s25 ktok1) (tok75 efi8_3138 efig17_3138 z3) (kT2m (gBst_up (w1 := l5_8) O8_0 (bh_fv pv20 (tok8 p8_0) (tok95 c13 efi8_64 efig2_64 fi_64.2)) (tok89 c23 efig17_3142) (tok8 p8_0) (tok67 s25 ktok1) tok77) (kj_v tok77) rfl) ⟨_, (kIs_c tI15 (kg17.fa 74 rfl) (Int.le_refl _))⟩ (kj_meas (tok96 efig17_64 s25 ktok1) (tok97 c13) hm8)
  have efig2_3142 : (ig2 3142).toInt = ((-1) : Int32).toInt := kg2.ti 3142 rfl
  exact lp8 _ _ _ _ _ _ _ (kG_self _ hGg2.I hGg2.R) (tok16 ktok0) (tok17 fi_64.1 ktok0) (tok90 z3) (kT2m (gBst_0 ktok0) (show ig2 3142 = ((-1) : Int32) from (by first | rfl | (simp only [(show ig2 3142 = ((-1) : Int32) from kg2.fi 3142 rfl), sMn, sMx]; done) | (simp only [(show ig2 3142 = ((-1) : Int32) from kg2.fi 3142 rfl), sMn, sMx]; rfl))) ktok0) ⟨_, tI6⟩ (Nat.lt_succ_self _)
def yw68_49_1 : kW := ([645, 3142, 3200, 3206, 3207, 3208, 3209, 3214, 3215, 3216, 3586, 3781, 6405], [13, 51, 52, 53, 54, 55, 57, 58, 62, 63, 65, 66, 67, 68, 69, 70, 71, 72, 73, 74, 103], [], [1])
def yw68_49_1_L16 : kW := ([645, 3142, 3200, 3206, 3207, 3208, 3209, 3214, 3215, 3216, 3586, 3781, 6405], [13, 51, 52, 53, 54, 55, 57, 58, 62, 63, 65, 66, 67, 68, 69, 70, 71, 72, 73, 74, 103], [], [1])
set_option maxRecDepth 100000 in
theorem ke68_49_1 {i : Nat → Int32} {a : Nat → List Int32} {q : Nat → List Int64} {r : Nat → Nat} (hI : kI i a q) (hr : kr r) (x2 : Int32) (hp0 : ((0 : Int) ≤ x2.toInt) ∧ (x2.toInt < (i 64).toInt)) (hN : kNoW i a r) (hR : kRow i a) : km 11 68 [.ref 49, .ref 1, .int x2] (ks i a q r) (kVI yw68_49_1 i a q r (fun v i1 a1 q1 r1 => (True) ∧ (i1 3142, v.toInt) = gBst (fun p => gPur (gKn i a) (a 118) (rSwp (fun j => (a 74).getD j 0) p) (i 3138).toInt.toNat x2) (gPur (gKn i a) (a 118) (fun j => (a 74).getD j 0) (i 3138).toInt.toNat x2) (-2) ((i 3138).toInt - 1).toNat)) := by
  have hG := kG_self yw68_49_1 hI hr
  refine km_ofI (q := (mi_h68, mi_c68)) rfl (by decide) (Nat.le_of_ble_eq_true rfl) ?_
  intro P hP
  have fi_64 : ((0 : Int) ≤ (i 64).toInt) ∧ ((i 64).toInt ≤ 8) := hG.I.1 64
  have tI1 : kIs (a 74) ((fun j => (a 74).getD j 0)) ((i 3138).toInt) := kIs_self
  refine ft_go mi_k68 6 7 [(3, .int (-2)), (0, .ref 49), (1, .ref 1), (2, .int x2)] [.int x2, .ref 1, .ref 49, .ref 49] i a q r (by rfl) ?_
  have fi_3138 : ((0 : Int) ≤ (i 3138).toInt) ∧ ((i 3138).toInt ≤ 20) := hG.I.1 3138
  refine ko_callI mi_k68.1 (pc := 7) (ls := [(3, .int (-2)), (0, .ref 49), (1, .ref 1), (2, .int x2)]) (st := [.int x2, .ref 1, .ref 49, .ref 49]) (h := ks i a q r) (i := (.invokevirtual 99, 3, 63, 0, 9, 0, 239)) (mi_k68.2 _ _ (by rfl)) (ft_invS mi_pq63 (by rfl)) (cy := mi_c63) mi_pq63 rfl (ke63_49_1 hG.I hG.R x2 (tok43 hp0.1 hp0.2) hN (kRow_is tI1 (rOkw_row hR) tok77 (hG.fi 64 rfl))) (by decide) ?_
  intro vg2 ig2 ag2 qg2 rg2 kg2 hg2
  have hGg2 := kG_call hG kg2 (by decide +kernel)
  obtain ⟨hg2, og2⟩ := hg2
  have oP3 := og2.1
  have pv4 : vg2 = gPur (gKn i a) (a 118) ((fun j => (a 74).getD j 0)) ((i 3138).toInt).toNat x2 := by
    have e := gPur_of (R := (fun j => (a 74).getD j 0)) oP3 (N := a 118) (show a 118 = a 118 from rfl) rfl (kIs_c tI1 rfl (Int.le_of_eq tok77)) (tok8 fi_3138.1)
    exact e
  have hJ5 := kG_i hGg2 3142 rfl (v := vg2) (kd_bd _)
  refine ft_go mi_k68 3 16 [(4, .int 0), (3, .int (-2)), (0, .ref 49), (1, .ref 1), (2, .int x2)] [] (ku ig2 3142 vg2) ag2 qg2 rg2 (by rfl) ?_
  have lp6 : ∀ (nz : Nat) (i6 : Nat → Int32) (a6 : Nat → List Int32) (q6 : Nat → List Int64) (r6 : Nat → Nat) (l4_6 : Int32) (l3_6 : Int32), kG yw68_49_1_L16 (ku ig2 3142 vg2) ag2 qg2 rg2 i6 a6 q6 r6 → (0 : Int) ≤ l4_6.toInt → (l4_6.toInt = 0) ∨ ((l4_6.toInt + 1) ≤ (i 3138).toInt) → (i6 3138).toInt = (i 3138).toInt → ((i6 3142), l3_6.toInt) = gBst (fun p => gPur (gKn i a) (a 118) (rSwp (fun j => (a 74).getD j 0) p) (i 3138).toInt.toNat x2) (gPur (gKn i a) (a 118) (fun j => (a 74).getD j 0) (i 3138).toInt.toNat x2) (-2) l4_6.toInt.toNat → kIs (a6 74) (fun j => (a 74).getD j 0) (i 3138).toInt → (((i6 3138).toInt - l4_6.toInt)).toNat < nz → ko 11 (mi_h68, mi_c68) P (16, [(4, .int l4_6), (3, .int l3_6), (0, .ref 49), (1, .ref 1), (2, .int x2)], [], (0, 0), ks i6 a6 q6 r6) := by
    intro nz
    induction nz with
    | zero =>
      intro _ _ _ _ _ _ _ _ _ _ _ _ hm
      exact absurd hm (Nat.not_lt_zero _)
    | succ nz ih6 =>
      intro i6 a6 q6 r6 l4_6 l3_6 hL6 p6_0 p6_1 p6_2 O6_0 O6_1 hm6
      have fi6_3138 : ((0 : Int) ≤ (i6 3138).toInt) ∧ ((i6 3138).toInt ≤ 20) := hL6.I.1 3138
      have fig2_3138 : ((0 : Int) ≤ (ig2 3138).toInt) ∧ ((ig2 3138).toInt ≤ 20) := hJ5.I.1 3138
      have efig2_3138 : (ig2 3138).toInt = (i 3138).toInt := kg2.ti 3138 rfl
      have efi6_3138 : (i6 3138).toInt = (ig2 3138).toInt := hL6.ti 3138 rfl
      have s7 : (l4_6 + 1).toInt = l4_6.toInt + (1 : Int32).toInt := kd_add (tok3 p6_0 ktok1) (tok98 fi_3138.2 p6_1 ktok1)
      refine ft_go mi_k68 5 24 [(4, .int l4_6), (3, .int l3_6), (0, .ref 49), (1, .ref 1), (2, .int x2)] [.int (i6 3138), .int (l4_6 + 1)] i6 a6 q6 r6 (by rfl) ?_
      refine ft_if mi_k68 (decide ((i6 3138) ≤ (l4_6 + 1))) 79 27 [(4, .int l4_6), (3, .int l3_6), (0, .ref 49), (1, .ref 1), (2, .int x2)] [] (by rfl) (fun c => ?_) (fun c => ?_)
      ·
        have c8 : (i6 3138).toInt ≤ (l4_6 + 1).toInt := kd_le c; clear c
        have hG9 := kG_call hJ5 hL6 (by decide +kernel)
        refine ft_go mi_k68 1 80 [(4, .int l4_6), (3, .int l3_6), (0, .ref 49), (1, .ref 1), (2, .int x2)] [.int l3_6] i6 a6 q6 r6 (by rfl) ?_
        exact ft_ret mi_k68 (by rfl) (hP l3_6 _ _ _ _ hG9 ⟨trivial, (gBst_len O6_0 (kj_nm1 (tok8 p6_0) (tok99 c8 efi6_3138 efig2_3138 p6_0 p6_1 s7 ktok1)))⟩)
      ·
        have c10 : (l4_6 + 1).toInt < (i6 3138).toInt := kd_leF c; clear c
        refine ft_go mi_k68 5 34 [(4, .int l4_6), (3, .int l3_6), (0, .ref 49), (1, .ref 1), (2, .int x2)] [.int (l4_6 + 1), .int l4_6, .ref 49] i6 a6 q6 r6 (by rfl) ?_
        refine ko_callN mi_k68.1 (pc := 34) (ls := [(4, .int l4_6), (3, .int l3_6), (0, .ref 49), (1, .ref 1), (2, .int x2)]) (st := [.int (l4_6 + 1), .int l4_6, .ref 49]) (h := ks i6 a6 q6 r6) (i := (.invokevirtual 103, 3, 64, 0, 9, 0, 241)) (mi_k68.2 _ _ (by rfl)) (ft_invS mi_pq64 (by rfl)) (cy := mi_c64) mi_pq64 rfl (ke64_49 hL6.I hL6.R l4_6 (l4_6 + 1) (tok100 c10 efi6_3138 efig2_3138 fi_3138.2 p6_0 s7 ktok1) (tok83 c10 fi6_3138.2 p6_0 s7 ktok1)) (by decide) ?_
        intro ig11 ag11 qg11 rg11 kg11 hg11
        have hGg11 := kG_call hL6 kg11 (by decide +kernel)
        obtain ⟨hg11, og11⟩ := hg11
        have tI12 : kIs (ag11 74) (rSwp ((fun j => (a 74).getD j 0)) l4_6.toInt.toNat) ((i 3138).toInt) := (kIs_swp (p := l4_6) (p1 := (l4_6 + 1)) (m := 20) O6_1 (hL6.I.2.1 74) (tok8 p6_0) (tok67 s7 ktok1) (tok63 c10 efi6_3138 efig2_3138) (tok101 fi_3138.2) og11)
        have q13 : ag11 74 = ((a6 74).set l4_6.toNatClampNeg ((a6 74).getD (l4_6 + 1).toNatClampNeg 0)).set (l4_6 + 1).toNatClampNeg ((a6 74).getD l4_6.toNatClampNeg 0) := og11
        refine ft_go mi_k68 3 40 [(4, .int l4_6), (3, .int l3_6), (0, .ref 49), (1, .ref 1), (2, .int x2)] [.int x2, .ref 1, .ref 49] ig11 ag11 qg11 rg11 (by rfl) ?_
        have fig11_64 : ((0 : Int) ≤ (ig11 64).toInt) ∧ ((ig11 64).toInt ≤ 8) := hGg11.I.1 64
        have fi6_64 : ((0 : Int) ≤ (i6 64).toInt) ∧ ((i6 64).toInt ≤ 8) := hL6.I.1 64
        have fig2_64 : ((0 : Int) ≤ (ig2 64).toInt) ∧ ((ig2 64).toInt ≤ 8) := hJ5.I.1 64
        have efig2_64 : (ig2 64).toInt = (i 64).toInt := kg2.ti 64 rfl
        have efi6_64 : (i6 64).toInt = (ig2 64).toInt := hL6.ti 64 rfl
        have efig11_64 : (ig11 64).toInt = (i6 64).toInt := kg11.ti 64 rfl
        have hG14 := kG_call hJ5 hGg11 (by decide +kernel)
        have fig11_3138 : ((0 : Int) ≤ (ig11 3138).toInt) ∧ ((ig11 3138).toInt ≤ 20) := hGg11.I.1 3138
        have efig11_3138 : (ig11 3138).toInt = (i6 3138).toInt := kg11.ti 3138 rfl
        refine ko_callI mi_k68.1 (pc := 40) (ls := [(4, .int l4_6), (3, .int l3_6), (0, .ref 49), (1, .ref 1), (2, .int x2)]) (st := [.int x2, .ref 1, .ref 49]) (h := ks ig11 ag11 qg11 rg11) (i := (.invokevirtual 99, 3, 63, 0, 9, 0, 239)) (mi_k68.2 _ _ (by rfl)) (ft_invS mi_pq63 (by rfl)) (cy := mi_c63) mi_pq63 rfl (ke63_49_1 hGg11.I hGg11.R x2 (tok103 efi6_64 efig11_64 efig2_64 hp0.1 hp0.2) (kNoW_fr hG14 (by decide +kernel) hr hN) (kRow_is tI12 (rOkw_swp (rOkw_row hR) (kj_natlt (tok8 p6_0) (tok102 c10 efi6_3138 efig2_3138 s7 ktok1))) (tok66 efi6_3138 efig11_3138 efig2_3138) (hG14.fi 64 rfl))) (by decide) ?_
        intro vg15 ig15 ag15 qg15 rg15 kg15 hg15
        have hGg15 := kG_call hGg11 kg15 (by decide +kernel)
        obtain ⟨hg15, og15⟩ := hg15
        have hG16 := kG_call hJ5 hGg11 (by decide +kernel)
        have oP17 := og15.1
        rw [(gKn_fr hG16 (by decide +kernel) : gKn ig11 ag11 = gKn i a)] at oP17
        have pv18 : vg15 = gPur (gKn i a) (a 118) (rSwp ((fun j => (a 74).getD j 0)) l4_6.toInt.toNat) ((i 3138).toInt).toNat x2 := by
          have e := gPur_of (R := rSwp ((fun j => (a 74).getD j 0)) l4_6.toInt.toNat) oP17 (N := a 118) (show ag11 118 = a 118 from (((kg11.fa 118 rfl).trans (hL6.fa 118 rfl)).trans (kg2.fa 118 rfl))) rfl (kIs_c tI12 rfl (Int.le_of_eq (tok66 efi6_3138 efig11_3138 efig2_3138))) (tok8 fig11_3138.1)
          rw [((tok66 efi6_3138 efig11_3138 efig2_3138) : (ig11 3138).toInt = (i 3138).toInt)] at e
          exact e
        refine ft_go mi_k68 6 52 [(5, .int vg15), (4, .int l4_6), (3, .int l3_6), (0, .ref 49), (1, .ref 1), (2, .int x2)] [.int (l4_6 + 1), .int l4_6, .ref 49] ig15 ag15 qg15 rg15 (by rfl) ?_
        refine ko_callN mi_k68.1 (pc := 52) (ls := [(5, .int vg15), (4, .int l4_6), (3, .int l3_6), (0, .ref 49), (1, .ref 1), (2, .int x2)]) (st := [.int (l4_6 + 1), .int l4_6, .ref 49]) (h := ks ig15 ag15 qg15 rg15) (i := (.invokevirtual 103, 3, 64, 0, 9, 0, 241)) (mi_k68.2 _ _ (by rfl)) (ft_invS mi_pq64 (by rfl)) (cy := mi_c64) mi_pq64 rfl (ke64_49 hGg15.I hGg15.R l4_6 (l4_6 + 1) (tok100 c10 efi6_3138 efig2_3138 fi_3138.2 p6_0 s7 ktok1) (tok83 c10 fi6_3138.2 p6_0 s7 ktok1)) (by decide) ?_
        intro ig19 ag19 qg19 rg19 kg19 hg19
        have hGg19 := kG_call hGg15 kg19 (by decide +kernel)
        obtain ⟨hg19, og19⟩ := hg19
        have tI20 : kIs (ag19 74) (rSwp (rSwp ((fun j => (a 74).getD j 0)) l4_6.toInt.toNat) l4_6.toInt.toNat) ((i 3138).toInt) := (kIs_swp (p := l4_6) (p1 := (l4_6 + 1)) (m := 20) (kIs_c tI12 (kg15.fa 74 rfl) (Int.le_refl _)) (hGg15.I.2.1 74) (tok8 p6_0) (tok67 s7 ktok1) (tok63 c10 efi6_3138 efig2_3138) (tok101 fi_3138.2) og19)
        have q21 : ag19 74 = ((ag15 74).set l4_6.toNatClampNeg ((ag15 74).getD (l4_6 + 1).toNatClampNeg 0)).set (l4_6 + 1).toNatClampNeg ((ag15 74).getD l4_6.toNatClampNeg 0) := og19
        have efig11_3142 : (ig11 3142).toInt = (i6 3142).toInt := kg11.ti 3142 rfl
        have efig15_3142 : (ig15 3142).toInt = (ig11 3142).toInt := kg15.ti 3142 rfl
        have efig19_3142 : (ig19 3142).toInt = (ig15 3142).toInt := kg19.ti 3142 rfl
        refine ft_go mi_k68 3 61 [(5, .int vg15), (4, .int l4_6), (3, .int l3_6), (0, .ref 49), (1, .ref 1), (2, .int x2)] [.int (ig19 3142), .int vg15] ig19 ag19 qg19 rg19 (by rfl) ?_
        refine ft_if mi_k68 (decide (vg15 ≤ (ig19 3142))) 73 64 [(5, .int vg15), (4, .int l4_6), (3, .int l3_6), (0, .ref 49), (1, .ref 1), (2, .int x2)] [] (by rfl) (fun c => ?_) (fun c => ?_)
        ·
          have c22 : vg15.toInt ≤ (ig19 3142).toInt := kd_le c; clear c
          refine ft_go mi_k68 2 16 [(4, .int (l4_6 + 1)), (5, .int vg15), (3, .int l3_6), (0, .ref 49), (1, .ref 1), (2, .int x2)] [] ig19 ag19 qg19 rg19 (by rfl) ?_
          refine ko_perm [(4, .int (l4_6 + 1)), (3, .int l3_6), (0, .ref 49), (1, .ref 1), (2, .int x2)] (List.forall_mem_cons.mpr ⟨(List.Mem.head _), (List.forall_mem_cons.mpr ⟨(List.Mem.tail _ (List.Mem.tail _ (List.Mem.head _))), (List.forall_mem_cons.mpr ⟨(List.Mem.tail _ (List.Mem.tail _ (List.Mem.tail _ (List.Mem.head _)))), (List.forall_mem_cons.mpr ⟨(List.Mem.tail _ (List.Mem.tail _ (List.Mem.tail _ (List.Mem.tail _ (List.Mem.head _))))), (List.forall_mem_cons.mpr ⟨(List.Mem.tail _ (List.Mem.tail _ (List.Mem.tail _ (List.Mem.tail _ (List.Mem.tail _ (List.Mem.head _)))))), (fun _ h => absurd h List.not_mem_nil)⟩)⟩)⟩)⟩)⟩) ?_
          have fig19_3138 : ((0 : Int) ≤ (ig19 3138).toInt) ∧ ((ig19 3138).toInt ≤ 20) := hGg19.I.1 3138
          have fig15_3138 : ((0 : Int) ≤ (ig15 3138).toInt) ∧ ((ig15 3138).toInt ≤ 20) := hGg15.I.1 3138
          have efig15_3138 : (ig15 3138).toInt = (ig11 3138).toInt := kg15.ti 3138 rfl
          have efig19_3138 : (ig19 3138).toInt = (ig15 3138).toInt := kg19.ti 3138 rfl
          exact ih6 _ _ _ _ _ _ hGg19 (tok9 p6_0 s7 ktok1) (tok104 c10 efi6_3138 efig2_3138) (tok105 efi6_3138 efig11_3138 efig15_3138 efig19_3138 efig2_3138) (kT2m (gBst_no O6_0 pv18 (tok106 c22 efig11_3142 efig15_3142 efig19_3142) (tok8 p6_0) (tok67 s7 ktok1)) (kj_v (tok107 efig11_3142 efig15_3142 efig19_3142)) tok77) (kIs_R tI20 (rSwp_2 _).symm) (kj_meas (tok108 efig11_3138 efig15_3138 efig19_3138 s7 ktok1) (tok109 c10 s7 ktok1) hm6)
        ·
          have c23 : (ig19 3142).toInt < vg15.toInt := kd_leF c; clear c
          have hJ24 := kG_i hGg19 3142 rfl (v := vg15) (kd_bd _)
          refine ft_go mi_k68 7 16 [(4, .int (l4_6 + 1)), (3, .int l4_6), (5, .int vg15), (0, .ref 49), (1, .ref 1), (2, .int x2)] [] (ku ig19 3142 vg15) ag19 qg19 rg19 (by rfl) ?_
          refine ko_perm [(4, .int (l4_6 + 1)), (3, .int l4_6), (0, .ref 49), (1, .ref 1), (2, .int x2)] (List.forall_mem_cons.mpr ⟨(List.Mem.head _), (List.forall_mem_cons.mpr ⟨(List.Mem.tail _ (List.Mem.head _)), (List.forall_mem_cons.mpr ⟨(List.Mem.tail _ (List.Mem.tail _ (List.Mem.tail _ (List.Mem.head _)))), (List.forall_mem_cons.mpr ⟨(List.Mem.tail _ (List.Mem.tail _ (List.Mem.tail _ (List.Mem.tail _ (List.Mem.head _))))), (List.forall_mem_cons.mpr ⟨(List.Mem.tail _ (List.Mem.tail _ (List.Mem.tail _ (List.Mem.tail _ (List.Mem.tail _ (List.Mem.head _)))))), (fun _ h => absurd h List.not_mem_nil)⟩)⟩)⟩)⟩)⟩) ?_
          have fig19_3138 : ((0 : Int) ≤ (ig19 3138).toInt) ∧ ((ig19 3138).toInt ≤ 20) := hJ24.I.1 3138
          have fig15_3138 : ((0 : Int) ≤ (ig15 3138).toInt) ∧ ((ig15 3138).toInt ≤ 20) := hGg15.I.1 3138
          have efig15_3138 : (ig15 3138).toInt = (ig11 3138).toInt := kg15.ti 3138 rfl
          have efig19_3138 : (ig19 3138).toInt = (ig15 3138).toInt := kg19.ti 3138 rfl
          exact ih6 _ _ _ _ _ _ hJ24 (tok9 p6_0 s7 ktok1) (tok104 c10 efi6_3138 efig2_3138) (tok105 efi6_3138 efig11_3138 efig15_3138 efig19_3138 efig2_3138) (kT2m (gBst_up (w1 := l4_6) O6_0 pv18 (tok110 c23 efig11_3142 efig15_3142 efig19_3142) (tok8 p6_0) (tok67 s7 ktok1) tok77) (kj_v tok77) rfl) (kIs_R tI20 (rSwp_2 _).symm) (kj_meas (tok108 efig11_3138 efig15_3138 efig19_3138 s7 ktok1) (tok109 c10 s7 ktok1) hm6)
  have fig2_3138 : ((0 : Int) ≤ (ig2 3138).toInt) ∧ ((ig2 3138).toInt ≤ 20) := hJ5.I.1 3138
  have efig2_3138 : (ig2 3138).toInt = (i 3138).toInt := kg2.ti 3138 rfl
  exact lp6 _ _ _ _ _ _ _ (kG_self _ hJ5.I hJ5.R) (tok16 ktok0) (tok111 ktok0) (tok70 efig2_3138) (kT2m (gBst_0 ktok0) ((show vg2 = vg2 from rfl).trans pv4) ktokm2) (kIs_c (kIs_self (L := a 74)) (kg2.fa 74 rfl) (Int.le_refl _)) (Nat.lt_succ_self _)
def yw91_0 : kW := ([645, 3138, 3142, 3200, 3206, 3207, 3208, 3209, 3214, 3215, 3216, 3586, 3781, 6405], [13, 51, 52, 53, 54, 55, 57, 58, 62, 63, 65, 66, 67, 68, 69, 70, 71, 72, 73, 74, 103], [], [1])
set_option maxRecDepth 100000 in
theorem ke91_0 {i : Nat → Int32} {a : Nat → List Int32} {q : Nat → List Int64} {r : Nat → Nat} (hI : kI i a q) (hr : kr r) (x1 : Int32) (x2 : Int32) (x3 : Int32) (hN : kNoW i a r) : km 13 91 [.ref 0, .int x1, .int x2, .int x3] (ks i a q r) (kVI yw91_0 i a q r (fun v i1 a1 q1 r1 => (True) ∧ cTop (((0 : Int) ≤ x2.toInt) ∧ (x2.toInt < (i 64).toInt) ∧ ((0 : Int) ≤ x3.toInt) ∧ (x3.toInt ≤ 1)) i q x1 v (fun n L => fBp (gKn i a) (a 118) x2 x3 v n L))) := by
  have hG := kG_self yw91_0 hI hr
  refine km_ofI (q := (mi_h91, mi_c91)) rfl (by decide) (Nat.le_of_ble_eq_true rfl) ?_
  intro P hP
  refine ft_go mi_k91 2 2 [(0, .ref 0), (1, .int x1), (2, .int x2), (3, .int x3)] [.int x2, .ref 0] i a q r (by rfl) ?_
  refine ko_callPI mi_k91.1 (pc := 2) (ls := [(0, .ref 0), (1, .int x1), (2, .int x2), (3, .int x3)]) (st := [.int x2, .ref 0]) (h := ks i a q r) (i := (.invokevirtual 141, 3, 123, 0, 9, 0, 162)) (mi_k91.2 _ _ (by rfl)) (ft_invS mi_pq123 (by rfl)) (cy := mi_c123) mi_pq123 rfl (kc123_0 hG.I hG.R x2) (by decide) ?_
  intro vg1 hg1
  rcases hg1 with ⟨eg1, hg1⟩ | ⟨eg1, hg1⟩
  ·
    subst eg1
    have fi_64 : ((0 : Int) ≤ (i 64).toInt) ∧ ((i 64).toInt ≤ 8) := hG.I.1 64
    have z2 : ((0 : Int) ≤ x2.toInt) ∧ (x2.toInt < (i 64).toInt) := hg1
    refine ft_go mi_k91 4 11 [(0, .ref 0), (1, .int x1), (2, .int x2), (3, .int x3)] [.int 1, .int 0, .int x3] i a q r (by rfl) ?_
    refine ko_callPI mi_k91.1 (pc := 11) (ls := [(0, .ref 0), (1, .int x1), (2, .int x2), (3, .int x3)]) (st := [.int 1, .int 0, .int x3]) (h := ks i a q r) (i := (.invokestatic 74, 3, 120, 0, 9, 0, 152)) (mi_k91.2 _ _ (by rfl)) (ft_invS mi_pq120 (by rfl)) (cy := mi_c120) mi_pq120 rfl (kc120 hG.I hG.R x3 0 1) (by decide) ?_
    intro vg3 hg3
    rcases hg3 with ⟨eg3, hg3⟩ | ⟨eg3, hg3⟩
    ·
      subst eg3
      have z4 : ((0 : Int32).toInt ≤ x3.toInt) ∧ (x3.toInt ≤ (1 : Int32).toInt) := hg3
      refine ft_go mi_k91 3 21 [(0, .ref 0), (1, .int x1), (2, .int x2), (3, .int x3)] [.int x1, .ref 0] i a q r (by rfl) ?_
      refine ko_callI mi_k91.1 (pc := 21) (ls := [(0, .ref 0), (1, .int x1), (2, .int x2), (3, .int x3)]) (st := [.int x1, .ref 0]) (h := ks i a q r) (i := (.invokevirtual 144, 3, 129, 0, 9, 0, 208)) (mi_k91.2 _ _ (by rfl)) (ft_invS mi_pq129 (by rfl)) (cy := mi_c129) mi_pq129 rfl (kg129_0 hG.I hG.R x1) (by decide) ?_
      intro vg5 ig5 ag5 qg5 rg5 kg5 hg5
      have hGg5 := kG_call hG kg5 (by decide +kernel)
      obtain ⟨hg5, og5⟩ := hg5
      have z6 : vg5.toInt ≤ 0 := hg5
      refine ft_go mi_k91 2 28 [(4, .int vg5), (0, .ref 0), (1, .int x1), (2, .int x2), (3, .int x3)] [.int vg5] ig5 ag5 qg5 rg5 (by rfl) ?_
      refine ft_if mi_k91 (decide (0 ≤ vg5)) 34 31 [(4, .int vg5), (0, .ref 0), (1, .int x1), (2, .int x2), (3, .int x3)] [] (by rfl) (fun c => ?_) (fun c => ?_)
      ·
        have c7 : (0 : Int32).toInt ≤ vg5.toInt := kd_le c; clear c
        have fig5_3138 : ((0 : Int) ≤ (ig5 3138).toInt) ∧ ((ig5 3138).toInt ≤ 20) := hGg5.I.1 3138
        refine ft_go mi_k91 4 43 [(4, .int vg5), (0, .ref 0), (1, .int x1), (2, .int x2), (3, .int x3)] [.int 20, .int (ig5 3138)] ig5 ag5 qg5 rg5 (by rfl) ?_
        refine ft_if mi_k91 (decide ((ig5 3138) < 20)) 49 46 [(4, .int vg5), (0, .ref 0), (1, .int x1), (2, .int x2), (3, .int x3)] [] (by rfl) (fun c => ?_) (fun c => ?_)
        ·
          have c8 : (ig5 3138).toInt < (20 : Int32).toInt := kd_lt c; clear c
          refine ft_go mi_k91 5 58 [(4, .int vg5), (0, .ref 0), (1, .int x1), (2, .int x2), (3, .int x3)] [.int x2, .ref 1, .ref 49] ig5 ag5 qg5 rg5 (by rfl) ?_
          have fig5_64 : ((0 : Int) ≤ (ig5 64).toInt) ∧ ((ig5 64).toInt ≤ 8) := hGg5.I.1 64
          have efig5_64 : (ig5 64).toInt = (i 64).toInt := kg5.ti 64 rfl
          refine ko_callI mi_k91.1 (pc := 58) (ls := [(4, .int vg5), (0, .ref 0), (1, .int x1), (2, .int x2), (3, .int x3)]) (st := [.int x2, .ref 1, .ref 49]) (h := ks ig5 ag5 qg5 rg5) (i := (.invokevirtual 174, 3, 66, 0, 9, 0, 236)) (mi_k91.2 _ _ (by rfl)) (ft_invS mi_pq66 (by rfl)) (cy := mi_c66) mi_pq66 rfl (ke66_49_1 hGg5.I hGg5.R x2 (tok184 efig5_64 z2.1 z2.2) (tok185 c8 ktok20) (kNoW_fr hGg5 (by decide +kernel) hr hN) (cRow1_row (cPl_row og5 (tok186 c7 ktok0)) (hGg5.fi 64 rfl))) (by decide) ?_
          intro vg9 ig9 ag9 qg9 rg9 kg9 hg9
          have hGg9 := kG_call hGg5 kg9 (by decide +kernel)
          obtain ⟨hg9, og9⟩ := hg9
          have fig9_3138 : ((0 : Int) ≤ (ig9 3138).toInt) ∧ ((ig9 3138).toInt ≤ 20) := hGg9.I.1 3138
          have z10 : (ig9 3138).toInt = ((ig5 3138).toInt + 1) := hg9
          have oB11 := og9
          rw [(gKn_fr hGg5 (by decide +kernel) : gKn ig5 ag5 = gKn i a), ((kg5.fa 118 rfl) : ag5 118 = a 118)] at oB11
          refine ft_go mi_k91 2 64 [(5, .int vg9), (4, .int vg5), (0, .ref 0), (1, .int x1), (2, .int x2), (3, .int x3)] [.int x3] ig9 ag9 qg9 rg9 (by rfl) ?_
          refine ft_if mi_k91 (x3 != 0) 72 67 [(5, .int vg9), (4, .int vg5), (0, .ref 0), (1, .int x1), (2, .int x2), (3, .int x3)] [] (by rfl) (fun c => ?_) (fun c => ?_)
          ·
            have c12 : x3.toInt ≠ (0 : Int32).toInt := kd_ne c; clear c
            refine ft_go mi_k91 3 79 [(5, .int vg9), (4, .int vg5), (0, .ref 0), (1, .int x1), (2, .int x2), (3, .int x3)] [.int (ig9 3142)] ig9 ag9 qg9 rg9 (by rfl) ?_
            exact ft_ret mi_k91 (by rfl) (hP (ig9 3142) _ _ _ _ hGg9 ⟨trivial, (Or.inr ⟨(tok187 z2.1 z2.2 z4.1 z4.2 ktok0 ktok1), cShf_go (cPl_row og5 (tok186 c7 ktok0)) ⟨fun h => absurd h (tok188 c8 ktok20), fun _ => ⟨fun h => absurd h (tok189 c12 z4.1 ktok0), fun _ => congrArg Prod.fst oB11⟩⟩⟩)⟩)
          ·
            have c13 : x3.toInt = (0 : Int32).toInt := kd_neF c; clear c
            refine ft_go mi_k91 2 79 [(5, .int vg9), (4, .int vg5), (0, .ref 0), (1, .int x1), (2, .int x2), (3, .int x3)] [.int vg9] ig9 ag9 qg9 rg9 (by rfl) ?_
            exact ft_ret mi_k91 (by rfl) (hP vg9 _ _ _ _ hGg9 ⟨trivial, (Or.inr ⟨(tok187 z2.1 z2.2 z4.1 z4.2 ktok0 ktok1), cShf_go (cPl_row og5 (tok186 c7 ktok0)) ⟨fun h => absurd h (tok188 c8 ktok20), fun _ => ⟨fun _ => congrArg Prod.snd oB11, fun h => absurd h (tok192 c13 z4.1 ktok0)⟩⟩⟩)⟩)
        ·
          have c14 : (20 : Int32).toInt ≤ (ig5 3138).toInt := kd_ltF c; clear c
          refine ft_go mi_k91 1 48 [(4, .int vg5), (0, .ref 0), (1, .int x1), (2, .int x2), (3, .int x3)] [.int (-5)] ig5 ag5 qg5 rg5 (by rfl) ?_
          exact ft_ret mi_k91 (by rfl) (hP (-5) _ _ _ _ hGg5 ⟨trivial, (Or.inr ⟨(tok187 z2.1 z2.2 z4.1 z4.2 ktok0 ktok1), cShf_go (cPl_row og5 (tok186 c7 ktok0)) ⟨fun _ => rfl, fun h => absurd h (tok193 c14 ktok20)⟩⟩)⟩)
      ·
        have c15 : vg5.toInt < (0 : Int32).toInt := kd_leF c; clear c
        refine ft_go mi_k91 1 33 [(4, .int vg5), (0, .ref 0), (1, .int x1), (2, .int x2), (3, .int x3)] [.int vg5] ig5 ag5 qg5 rg5 (by rfl) ?_
        exact ft_ret mi_k91 (by rfl) (hP vg5 _ _ _ _ hGg5 ⟨trivial, (Or.inr ⟨(tok187 z2.1 z2.2 z4.1 z4.2 ktok0 ktok1), cShf_bar og5 (tok194 c15 ktok0)⟩)⟩)
    ·
      subst eg3
      have z16 : ¬ (((0 : Int32).toInt ≤ x3.toInt) ∧ (x3.toInt ≤ (1 : Int32).toInt)) := hg3
      refine ft_go mi_k91 2 18 [(0, .ref 0), (1, .int x1), (2, .int x2), (3, .int x3)] [.int (-1)] i a q r (by rfl) ?_
      exact ft_ret mi_k91 (by rfl) (hP (-1) _ _ _ _ hG ⟨trivial, (Or.inl ⟨(tok195 z16 ktok0 ktok1), rfl⟩)⟩)
  ·
    subst eg1
    have fi_64 : ((0 : Int) ≤ (i 64).toInt) ∧ ((i 64).toInt ≤ 8) := hG.I.1 64
    have z17 : ¬ (((0 : Int) ≤ x2.toInt) ∧ (x2.toInt < (i 64).toInt)) := hg1
    refine ft_go mi_k91 2 18 [(0, .ref 0), (1, .int x1), (2, .int x2), (3, .int x3)] [.int (-1)] i a q r (by rfl) ?_
    exact ft_ret mi_k91 (by rfl) (hP (-1) _ _ _ _ hG ⟨trivial, (Or.inl ⟨(tok196 z17), rfl⟩)⟩)
def yw92_0 : kW := ([645, 3138, 3142, 3200, 3206, 3207, 3208, 3209, 3214, 3215, 3216, 3586, 3781, 6405], [13, 51, 52, 53, 54, 55, 57, 58, 62, 63, 65, 66, 67, 68, 69, 70, 71, 72, 73, 74, 103], [], [1])
set_option maxRecDepth 100000 in
theorem ke92_0 {i : Nat → Int32} {a : Nat → List Int32} {q : Nat → List Int64} {r : Nat → Nat} (hI : kI i a q) (hr : kr r) (x1 : Int32) (x2 : Int32) (x3 : Int32) (x4 : Int32) (hN : kNoW i a r) : km 13 92 [.ref 0, .int x1, .int x2, .int x3, .int x4] (ks i a q r) (kVI yw92_0 i a q r (fun v i1 a1 q1 r1 => (True) ∧ cTop (((0 : Int) ≤ x2.toInt) ∧ ((0 : Int) ≤ x3.toInt) ∧ (x3.toInt < (i 64).toInt) ∧ ((0 : Int) ≤ x4.toInt) ∧ (x4.toInt ≤ 1)) i q x1 v (fun n L => fHi (gKn i a) (a 118) (i 64) x2 x3 x4 v n L))) := by
  have hG := kG_self yw92_0 hI hr
  refine km_ofI (q := (mi_h92, mi_c92)) rfl (by decide) (Nat.le_of_ble_eq_true rfl) ?_
  intro P hP
  refine ft_go mi_k92 1 1 [(0, .ref 0), (1, .int x1), (2, .int x2), (3, .int x3), (4, .int x4)] [.int x2] i a q r (by rfl) ?_
  refine ft_if mi_k92 (decide (x2 < 0)) 22 4 [(0, .ref 0), (1, .int x1), (2, .int x2), (3, .int x3), (4, .int x4)] [] (by rfl) (fun c => ?_) (fun c => ?_)
  ·
    have c1 : x2.toInt < (0 : Int32).toInt := kd_lt c; clear c
    refine ft_go mi_k92 1 23 [(0, .ref 0), (1, .int x1), (2, .int x2), (3, .int x3), (4, .int x4)] [.int (-1)] i a q r (by rfl) ?_
    have fi_64 : ((0 : Int) ≤ (i 64).toInt) ∧ ((i 64).toInt ≤ 8) := hG.I.1 64
    exact ft_ret mi_k92 (by rfl) (hP (-1) _ _ _ _ hG ⟨trivial, (Or.inl ⟨(tok197 c1 ktok0), rfl⟩)⟩)
  ·
    have c2 : (0 : Int32).toInt ≤ x2.toInt := kd_ltF c; clear c
    refine ft_go mi_k92 2 6 [(0, .ref 0), (1, .int x1), (2, .int x2), (3, .int x3), (4, .int x4)] [.int x3, .ref 0] i a q r (by rfl) ?_
    refine ko_callPI mi_k92.1 (pc := 6) (ls := [(0, .ref 0), (1, .int x1), (2, .int x2), (3, .int x3), (4, .int x4)]) (st := [.int x3, .ref 0]) (h := ks i a q r) (i := (.invokevirtual 141, 3, 123, 0, 9, 0, 162)) (mi_k92.2 _ _ (by rfl)) (ft_invS mi_pq123 (by rfl)) (cy := mi_c123) mi_pq123 rfl (kc123_0 hG.I hG.R x3) (by decide) ?_
    intro vg3 hg3
    rcases hg3 with ⟨eg3, hg3⟩ | ⟨eg3, hg3⟩
    ·
      subst eg3
      have fi_64 : ((0 : Int) ≤ (i 64).toInt) ∧ ((i 64).toInt ≤ 8) := hG.I.1 64
      have z4 : ((0 : Int) ≤ x3.toInt) ∧ (x3.toInt < (i 64).toInt) := hg3
      refine ft_go mi_k92 4 16 [(0, .ref 0), (1, .int x1), (2, .int x2), (3, .int x3), (4, .int x4)] [.int 1, .int 0, .int x4] i a q r (by rfl) ?_
      refine ko_callPI mi_k92.1 (pc := 16) (ls := [(0, .ref 0), (1, .int x1), (2, .int x2), (3, .int x3), (4, .int x4)]) (st := [.int 1, .int 0, .int x4]) (h := ks i a q r) (i := (.invokestatic 74, 3, 120, 0, 9, 0, 152)) (mi_k92.2 _ _ (by rfl)) (ft_invS mi_pq120 (by rfl)) (cy := mi_c120) mi_pq120 rfl (kc120 hG.I hG.R x4 0 1) (by decide) ?_
      intro vg5 hg5
      rcases hg5 with ⟨eg5, hg5⟩ | ⟨eg5, hg5⟩
      ·
        subst eg5
        have z6 : ((0 : Int32).toInt ≤ x4.toInt) ∧ (x4.toInt ≤ (1 : Int32).toInt) := hg5
        refine ft_go mi_k92 3 26 [(0, .ref 0), (1, .int x1), (2, .int x2), (3, .int x3), (4, .int x4)] [.int x1, .ref 0] i a q r (by rfl) ?_
        refine ko_callI mi_k92.1 (pc := 26) (ls := [(0, .ref 0), (1, .int x1), (2, .int x2), (3, .int x3), (4, .int x4)]) (st := [.int x1, .ref 0]) (h := ks i a q r) (i := (.invokevirtual 144, 3, 129, 0, 9, 0, 208)) (mi_k92.2 _ _ (by rfl)) (ft_invS mi_pq129 (by rfl)) (cy := mi_c129) mi_pq129 rfl (kg129_0 hG.I hG.R x1) (by decide) ?_
        intro vg7 ig7 ag7 qg7 rg7 kg7 hg7
        have hGg7 := kG_call hG kg7 (by decide +kernel)
        obtain ⟨hg7, og7⟩ := hg7
        have z8 : vg7.toInt ≤ 0 := hg7
        refine ft_go mi_k92 2 33 [(5, .int vg7), (0, .ref 0), (1, .int x1), (2, .int x2), (3, .int x3), (4, .int x4)] [.int vg7] ig7 ag7 qg7 rg7 (by rfl) ?_
        refine ft_if mi_k92 (decide (0 ≤ vg7)) 39 36 [(5, .int vg7), (0, .ref 0), (1, .int x1), (2, .int x2), (3, .int x3), (4, .int x4)] [] (by rfl) (fun c => ?_) (fun c => ?_)
        ·
          have c9 : (0 : Int32).toInt ≤ vg7.toInt := kd_le c; clear c
          have fig7_3138 : ((0 : Int) ≤ (ig7 3138).toInt) ∧ ((ig7 3138).toInt ≤ 20) := hGg7.I.1 3138
          refine ft_go mi_k92 4 47 [(5, .int vg7), (0, .ref 0), (1, .int x1), (2, .int x2), (3, .int x3), (4, .int x4)] [.int (ig7 3138), .int x2] ig7 ag7 qg7 rg7 (by rfl) ?_
          refine ft_if mi_k92 (decide (x2 ≤ (ig7 3138))) 52 50 [(5, .int vg7), (0, .ref 0), (1, .int x1), (2, .int x2), (3, .int x3), (4, .int x4)] [] (by rfl) (fun c => ?_) (fun c => ?_)
          ·
            have c10 : x2.toInt ≤ (ig7 3138).toInt := kd_le c; clear c
            refine ft_go mi_k92 4 61 [(5, .int vg7), (0, .ref 0), (1, .int x1), (2, .int x2), (3, .int x3), (4, .int x4)] [.int 20, .int (ig7 3138)] ig7 ag7 qg7 rg7 (by rfl) ?_
            refine ft_if mi_k92 (decide ((ig7 3138) < 20)) 67 64 [(5, .int vg7), (0, .ref 0), (1, .int x1), (2, .int x2), (3, .int x3), (4, .int x4)] [] (by rfl) (fun c => ?_) (fun c => ?_)
            ·
              have c11 : (ig7 3138).toInt < (20 : Int32).toInt := kd_lt c; clear c
              refine ft_go mi_k92 6 77 [(5, .int vg7), (0, .ref 0), (1, .int x1), (2, .int x2), (3, .int x3), (4, .int x4)] [.int x3, .int x2, .ref 1, .ref 49] ig7 ag7 qg7 rg7 (by rfl) ?_
              have fig7_64 : ((0 : Int) ≤ (ig7 64).toInt) ∧ ((ig7 64).toInt ≤ 8) := hGg7.I.1 64
              have efig7_64 : (ig7 64).toInt = (i 64).toInt := kg7.ti 64 rfl
              refine ko_callI mi_k92.1 (pc := 77) (ls := [(5, .int vg7), (0, .ref 0), (1, .int x1), (2, .int x2), (3, .int x3), (4, .int x4)]) (st := [.int x3, .int x2, .ref 1, .ref 49]) (h := ks ig7 ag7 qg7 rg7) (i := (.invokevirtual 181, 3, 67, 0, 9, 0, 243)) (mi_k92.2 _ _ (by rfl)) (ft_invS mi_pq67 (by rfl)) (cy := mi_c67) mi_pq67 rfl (ke67_49_1 hGg7.I hGg7.R x2 x3 (tok198 c10 c2 ktok0) (tok184 efig7_64 z4.1 z4.2) (tok185 c11 ktok20) (kNoW_fr hGg7 (by decide +kernel) hr hN) (cRow1_row (cPl_row og7 (tok186 c9 ktok0)) (hGg7.fi 64 rfl))) (by decide) ?_
              intro vg12 ig12 ag12 qg12 rg12 kg12 hg12
              have hGg12 := kG_call hGg7 kg12 (by decide +kernel)
              obtain ⟨hg12, og12⟩ := hg12
              have oB13 := og12
              rw [(gKn_fr hGg7 (by decide +kernel) : gKn ig7 ag7 = gKn i a), ((kg7.fa 118 rfl) : ag7 118 = a 118), ((kg7.fi 64 rfl) : ig7 64 = i 64)] at oB13
              refine ft_go mi_k92 2 84 [(6, .int vg12), (5, .int vg7), (0, .ref 0), (1, .int x1), (2, .int x2), (3, .int x3), (4, .int x4)] [.int x4] ig12 ag12 qg12 rg12 (by rfl) ?_
              refine ft_if mi_k92 (x4 != 0) 92 87 [(6, .int vg12), (5, .int vg7), (0, .ref 0), (1, .int x1), (2, .int x2), (3, .int x3), (4, .int x4)] [] (by rfl) (fun c => ?_) (fun c => ?_)
              ·
                have c14 : x4.toInt ≠ (0 : Int32).toInt := kd_ne c; clear c
                refine ft_go mi_k92 3 99 [(6, .int vg12), (5, .int vg7), (0, .ref 0), (1, .int x1), (2, .int x2), (3, .int x3), (4, .int x4)] [.int (ig12 3142)] ig12 ag12 qg12 rg12 (by rfl) ?_
                have fig12_3138 : ((0 : Int) ≤ (ig12 3138).toInt) ∧ ((ig12 3138).toInt ≤ 20) := hGg12.I.1 3138
                exact ft_ret mi_k92 (by rfl) (hP (ig12 3142) _ _ _ _ hGg12 ⟨trivial, (Or.inr ⟨(tok199 c2 z4.1 z4.2 z6.1 z6.2 ktok0 ktok1), cShf_go (cPl_row og7 (tok186 c9 ktok0)) ⟨fun h => absurd h (tok200 c10), fun _ => ⟨fun h => absurd h (tok188 c11 ktok20), fun _ => ⟨fun h => absurd h (tok189 c14 z6.1 ktok0), fun _ => congrArg Prod.fst oB13⟩⟩⟩⟩)⟩)
              ·
                have c15 : x4.toInt = (0 : Int32).toInt := kd_neF c; clear c
                refine ft_go mi_k92 2 99 [(6, .int vg12), (5, .int vg7), (0, .ref 0), (1, .int x1), (2, .int x2), (3, .int x3), (4, .int x4)] [.int vg12] ig12 ag12 qg12 rg12 (by rfl) ?_
                have fig12_3138 : ((0 : Int) ≤ (ig12 3138).toInt) ∧ ((ig12 3138).toInt ≤ 20) := hGg12.I.1 3138
                exact ft_ret mi_k92 (by rfl) (hP vg12 _ _ _ _ hGg12 ⟨trivial, (Or.inr ⟨(tok199 c2 z4.1 z4.2 z6.1 z6.2 ktok0 ktok1), cShf_go (cPl_row og7 (tok186 c9 ktok0)) ⟨fun h => absurd h (tok200 c10), fun _ => ⟨fun h => absurd h (tok188 c11 ktok20), fun _ => ⟨fun _ => congrArg Prod.snd oB13, fun h => absurd h (tok192 c15 z6.1 ktok0)⟩⟩⟩⟩)⟩)
            ·
              have c16 : (20 : Int32).toInt ≤ (ig7 3138).toInt := kd_ltF c; clear c
              refine ft_go mi_k92 1 66 [(5, .int vg7), (0, .ref 0), (1, .int x1), (2, .int x2), (3, .int x3), (4, .int x4)] [.int (-5)] ig7 ag7 qg7 rg7 (by rfl) ?_
              exact ft_ret mi_k92 (by rfl) (hP (-5) _ _ _ _ hGg7 ⟨trivial, (Or.inr ⟨(tok199 c2 z4.1 z4.2 z6.1 z6.2 ktok0 ktok1), cShf_go (cPl_row og7 (tok186 c9 ktok0)) ⟨fun h => absurd h (tok200 c10), fun _ => ⟨fun _ => rfl, fun h => absurd h (tok193 c16 ktok20)⟩⟩⟩)⟩)
          ·
            have c17 : (ig7 3138).toInt < x2.toInt := kd_leF c; clear c
            refine ft_go mi_k92 1 51 [(5, .int vg7), (0, .ref 0), (1, .int x1), (2, .int x2), (3, .int x3), (4, .int x4)] [.int (-1)] ig7 ag7 qg7 rg7 (by rfl) ?_
            exact ft_ret mi_k92 (by rfl) (hP (-1) _ _ _ _ hGg7 ⟨trivial, (Or.inr ⟨(tok199 c2 z4.1 z4.2 z6.1 z6.2 ktok0 ktok1), cShf_go (cPl_row og7 (tok186 c9 ktok0)) ⟨fun _ => rfl, fun h => absurd h (tok201 c17)⟩⟩)⟩)
        ·
          have c18 : vg7.toInt < (0 : Int32).toInt := kd_leF c; clear c
          refine ft_go mi_k92 1 38 [(5, .int vg7), (0, .ref 0), (1, .int x1), (2, .int x2), (3, .int x3), (4, .int x4)] [.int vg7] ig7 ag7 qg7 rg7 (by rfl) ?_
          exact ft_ret mi_k92 (by rfl) (hP vg7 _ _ _ _ hGg7 ⟨trivial, (Or.inr ⟨(tok199 c2 z4.1 z4.2 z6.1 z6.2 ktok0 ktok1), cShf_bar og7 (tok194 c18 ktok0)⟩)⟩)
      ·
        subst eg5
        have z19 : ¬ (((0 : Int32).toInt ≤ x4.toInt) ∧ (x4.toInt ≤ (1 : Int32).toInt)) := hg5
        refine ft_go mi_k92 2 23 [(0, .ref 0), (1, .int x1), (2, .int x2), (3, .int x3), (4, .int x4)] [.int (-1)] i a q r (by rfl) ?_
        exact ft_ret mi_k92 (by rfl) (hP (-1) _ _ _ _ hG ⟨trivial, (Or.inl ⟨(tok202 z19 ktok0 ktok1), rfl⟩)⟩)
    ·
      subst eg3
      have fi_64 : ((0 : Int) ≤ (i 64).toInt) ∧ ((i 64).toInt ≤ 8) := hG.I.1 64
      have z20 : ¬ (((0 : Int) ≤ x3.toInt) ∧ (x3.toInt < (i 64).toInt)) := hg3
      refine ft_go mi_k92 2 23 [(0, .ref 0), (1, .int x1), (2, .int x2), (3, .int x3), (4, .int x4)] [.int (-1)] i a q r (by rfl) ?_
      exact ft_ret mi_k92 (by rfl) (hP (-1) _ _ _ _ hG ⟨trivial, (Or.inl ⟨(tok203 z20), rfl⟩)⟩)
def yw93_0 : kW := ([645, 3138, 3142, 3200, 3206, 3207, 3208, 3209, 3214, 3215, 3216, 3586, 3781, 6405], [13, 51, 52, 53, 54, 55, 57, 58, 62, 63, 65, 66, 67, 68, 69, 70, 71, 72, 73, 74, 103], [], [1])
set_option maxRecDepth 100000 in
theorem ke93_0 {i : Nat → Int32} {a : Nat → List Int32} {q : Nat → List Int64} {r : Nat → Nat} (hI : kI i a q) (hr : kr r) (x1 : Int32) (x2 : Int32) (x3 : Int32) (hN : kNoW i a r) : km 13 93 [.ref 0, .int x1, .int x2, .int x3] (ks i a q r) (kVI yw93_0 i a q r (fun v i1 a1 q1 r1 => (True) ∧ cTop (((0 : Int) ≤ x2.toInt) ∧ (x2.toInt < (i 64).toInt) ∧ ((0 : Int) ≤ x3.toInt) ∧ (x3.toInt ≤ 1)) i q x1 v (fun n L => fLt (gKn i a) (a 118) x2 x3 v n L))) := by
  have hG := kG_self yw93_0 hI hr
  refine km_ofI (q := (mi_h93, mi_c93)) rfl (by decide) (Nat.le_of_ble_eq_true rfl) ?_
  intro P hP
  refine ft_go mi_k93 2 2 [(0, .ref 0), (1, .int x1), (2, .int x2), (3, .int x3)] [.int x2, .ref 0] i a q r (by rfl) ?_
  refine ko_callPI mi_k93.1 (pc := 2) (ls := [(0, .ref 0), (1, .int x1), (2, .int x2), (3, .int x3)]) (st := [.int x2, .ref 0]) (h := ks i a q r) (i := (.invokevirtual 141, 3, 123, 0, 9, 0, 162)) (mi_k93.2 _ _ (by rfl)) (ft_invS mi_pq123 (by rfl)) (cy := mi_c123) mi_pq123 rfl (kc123_0 hG.I hG.R x2) (by decide) ?_
  intro vg1 hg1
  rcases hg1 with ⟨eg1, hg1⟩ | ⟨eg1, hg1⟩
  ·
    subst eg1
    have fi_64 : ((0 : Int) ≤ (i 64).toInt) ∧ ((i 64).toInt ≤ 8) := hG.I.1 64
    have z2 : ((0 : Int) ≤ x2.toInt) ∧ (x2.toInt < (i 64).toInt) := hg1
    refine ft_go mi_k93 4 11 [(0, .ref 0), (1, .int x1), (2, .int x2), (3, .int x3)] [.int 1, .int 0, .int x3] i a q r (by rfl) ?_
    refine ko_callPI mi_k93.1 (pc := 11) (ls := [(0, .ref 0), (1, .int x1), (2, .int x2), (3, .int x3)]) (st := [.int 1, .int 0, .int x3]) (h := ks i a q r) (i := (.invokestatic 74, 3, 120, 0, 9, 0, 152)) (mi_k93.2 _ _ (by rfl)) (ft_invS mi_pq120 (by rfl)) (cy := mi_c120) mi_pq120 rfl (kc120 hG.I hG.R x3 0 1) (by decide) ?_
    intro vg3 hg3
    rcases hg3 with ⟨eg3, hg3⟩ | ⟨eg3, hg3⟩
    ·
      subst eg3
      have z4 : ((0 : Int32).toInt ≤ x3.toInt) ∧ (x3.toInt ≤ (1 : Int32).toInt) := hg3
      refine ft_go mi_k93 3 21 [(0, .ref 0), (1, .int x1), (2, .int x2), (3, .int x3)] [.int x1, .ref 0] i a q r (by rfl) ?_
      refine ko_callI mi_k93.1 (pc := 21) (ls := [(0, .ref 0), (1, .int x1), (2, .int x2), (3, .int x3)]) (st := [.int x1, .ref 0]) (h := ks i a q r) (i := (.invokevirtual 144, 3, 129, 0, 9, 0, 208)) (mi_k93.2 _ _ (by rfl)) (ft_invS mi_pq129 (by rfl)) (cy := mi_c129) mi_pq129 rfl (kg129_0 hG.I hG.R x1) (by decide) ?_
      intro vg5 ig5 ag5 qg5 rg5 kg5 hg5
      have hGg5 := kG_call hG kg5 (by decide +kernel)
      obtain ⟨hg5, og5⟩ := hg5
      have z6 : vg5.toInt ≤ 0 := hg5
      refine ft_go mi_k93 2 28 [(4, .int vg5), (0, .ref 0), (1, .int x1), (2, .int x2), (3, .int x3)] [.int vg5] ig5 ag5 qg5 rg5 (by rfl) ?_
      refine ft_if mi_k93 (decide (0 ≤ vg5)) 34 31 [(4, .int vg5), (0, .ref 0), (1, .int x1), (2, .int x2), (3, .int x3)] [] (by rfl) (fun c => ?_) (fun c => ?_)
      ·
        have c7 : (0 : Int32).toInt ≤ vg5.toInt := kd_le c; clear c
        refine ft_go mi_k93 5 43 [(4, .int vg5), (0, .ref 0), (1, .int x1), (2, .int x2), (3, .int x3)] [.int x2, .ref 1, .ref 49] ig5 ag5 qg5 rg5 (by rfl) ?_
        have fig5_64 : ((0 : Int) ≤ (ig5 64).toInt) ∧ ((ig5 64).toInt ≤ 8) := hGg5.I.1 64
        have efig5_64 : (ig5 64).toInt = (i 64).toInt := kg5.ti 64 rfl
        refine ko_callI mi_k93.1 (pc := 43) (ls := [(4, .int vg5), (0, .ref 0), (1, .int x1), (2, .int x2), (3, .int x3)]) (st := [.int x2, .ref 1, .ref 49]) (h := ks ig5 ag5 qg5 rg5) (i := (.invokevirtual 185, 3, 68, 0, 9, 0, 245)) (mi_k93.2 _ _ (by rfl)) (ft_invS mi_pq68 (by rfl)) (cy := mi_c68) mi_pq68 rfl (ke68_49_1 hGg5.I hGg5.R x2 (tok184 efig5_64 z2.1 z2.2) (kNoW_fr hGg5 (by decide +kernel) hr hN) (cRow1_row (cPl_row og5 (tok186 c7 ktok0)) (hGg5.fi 64 rfl))) (by decide) ?_
        intro vg8 ig8 ag8 qg8 rg8 kg8 hg8
        have hGg8 := kG_call hGg5 kg8 (by decide +kernel)
        obtain ⟨hg8, og8⟩ := hg8
        have oB9 := og8
        rw [(gKn_fr hGg5 (by decide +kernel) : gKn ig5 ag5 = gKn i a), ((kg5.fa 118 rfl) : ag5 118 = a 118)] at oB9
        refine ft_go mi_k93 2 49 [(5, .int vg8), (4, .int vg5), (0, .ref 0), (1, .int x1), (2, .int x2), (3, .int x3)] [.int x3] ig8 ag8 qg8 rg8 (by rfl) ?_
        refine ft_if mi_k93 (x3 != 0) 57 52 [(5, .int vg8), (4, .int vg5), (0, .ref 0), (1, .int x1), (2, .int x2), (3, .int x3)] [] (by rfl) (fun c => ?_) (fun c => ?_)
        ·
          have c10 : x3.toInt ≠ (0 : Int32).toInt := kd_ne c; clear c
          refine ft_go mi_k93 3 64 [(5, .int vg8), (4, .int vg5), (0, .ref 0), (1, .int x1), (2, .int x2), (3, .int x3)] [.int (ig8 3142)] ig8 ag8 qg8 rg8 (by rfl) ?_
          exact ft_ret mi_k93 (by rfl) (hP (ig8 3142) _ _ _ _ hGg8 ⟨trivial, (Or.inr ⟨(tok187 z2.1 z2.2 z4.1 z4.2 ktok0 ktok1), cShf_go (cPl_row og5 (tok186 c7 ktok0)) ⟨fun h => absurd h (tok189 c10 z4.1 ktok0), fun _ => congrArg Prod.fst oB9⟩⟩)⟩)
        ·
          have c11 : x3.toInt = (0 : Int32).toInt := kd_neF c; clear c
          refine ft_go mi_k93 2 64 [(5, .int vg8), (4, .int vg5), (0, .ref 0), (1, .int x1), (2, .int x2), (3, .int x3)] [.int vg8] ig8 ag8 qg8 rg8 (by rfl) ?_
          exact ft_ret mi_k93 (by rfl) (hP vg8 _ _ _ _ hGg8 ⟨trivial, (Or.inr ⟨(tok187 z2.1 z2.2 z4.1 z4.2 ktok0 ktok1), cShf_go (cPl_row og5 (tok186 c7 ktok0)) ⟨fun _ => congrArg Prod.snd oB9, fun h => absurd h (tok192 c11 z4.1 ktok0)⟩⟩)⟩)
      ·
        have c12 : vg5.toInt < (0 : Int32).toInt := kd_leF c; clear c
        refine ft_go mi_k93 1 33 [(4, .int vg5), (0, .ref 0), (1, .int x1), (2, .int x2), (3, .int x3)] [.int vg5] ig5 ag5 qg5 rg5 (by rfl) ?_
        exact ft_ret mi_k93 (by rfl) (hP vg5 _ _ _ _ hGg5 ⟨trivial, (Or.inr ⟨(tok187 z2.1 z2.2 z4.1 z4.2 ktok0 ktok1), cShf_bar og5 (tok194 c12 ktok0)⟩)⟩)
    ·
      subst eg3
      have z13 : ¬ (((0 : Int32).toInt ≤ x3.toInt) ∧ (x3.toInt ≤ (1 : Int32).toInt)) := hg3
      refine ft_go mi_k93 2 18 [(0, .ref 0), (1, .int x1), (2, .int x2), (3, .int x3)] [.int (-1)] i a q r (by rfl) ?_
      exact ft_ret mi_k93 (by rfl) (hP (-1) _ _ _ _ hG ⟨trivial, (Or.inl ⟨(tok195 z13 ktok0 ktok1), rfl⟩)⟩)
  ·
    subst eg1
    have fi_64 : ((0 : Int) ≤ (i 64).toInt) ∧ ((i 64).toInt ≤ 8) := hG.I.1 64
    have z14 : ¬ (((0 : Int) ≤ x2.toInt) ∧ (x2.toInt < (i 64).toInt)) := hg1
    refine ft_go mi_k93 2 18 [(0, .ref 0), (1, .int x1), (2, .int x2), (3, .int x3)] [.int (-1)] i a q r (by rfl) ?_
    exact ft_ret mi_k93 (by rfl) (hP (-1) _ _ _ _ hG ⟨trivial, (Or.inl ⟨(tok196 z14), rfl⟩)⟩)
