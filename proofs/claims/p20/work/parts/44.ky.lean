theorem ky0 : (0 : Int32).toInt = 0 := by decide
theorem ky7 : (7 : Int32).toInt = 7 := by decide
theorem ky1 : (1 : Int32).toInt = 1 := by decide
theorem ky50 : (50 : Int32).toInt = 50 := by decide
theorem kym3 : ((-3) : Int32).toInt = (-3) := by decide
theorem kym1 : ((-1) : Int32).toInt = (-1) := by decide
theorem kym11 : ((-11) : Int32).toInt = (-11) := by decide
theorem kym13 : ((-13) : Int32).toInt = (-13) := by decide
theorem ky60 : (60 : Int32).toInt = 60 := by decide
theorem kym12 : ((-12) : Int32).toInt = (-12) := by decide
theorem oy3 {a0 : Int} (h0 : (0 : Int) ≤ a0) : (0 : Int) ≤ a0 := oz3 h0
theorem oy4 {a0 a1 : Int} (h0 : a0 < a1) (h1 : a1 = 50) : a0 < 50 := oz1236 h0 h1
theorem oy5 {a0 : Int} (h0 : a0 ≤ 7) : a0 ≤ 7 := oz407 h0
theorem oy6 {a0 a1 : Int} (h0 : (0 : Int) ≤ a0) (h1 : a1 = 1) : (-2147483648 : Int) ≤ a0 + a1 := oz12 h0 h1
theorem oy7 {a0 a1 : Int} (h0 : a0 ≤ 50) (h1 : a1 = 1) : a0 + a1 ≤ 2147483647 := oz578 h0 h1
theorem oy8 {a0 a1 a2 : Int} (h0 : (0 : Int) ≤ a0) (h1 : a1 = a0 + a2) (h2 : a2 = 1) : (0 : Int) ≤ a1 := oz14 h0 h1 h2
theorem oy9 {a0 a1 a2 a3 : Int} (h0 : a0 < a1) (h1 : a2 = a0 + a3) (h2 : a1 = 50) (h3 : a3 = 1) : a2 ≤ 50 := oz1237 h0 h1 h2 h3
theorem oy10 {a0 a1 a2 : Int} (h0 : (0 : Int) ≤ a0) (h1 : a1 = a0 + a2) (h2 : a2 = 1) : (-2147483648 : Int) ≤ a1 - a2 := oz915 h0 h1 h2
theorem oy11 {a0 a1 a2 : Int} (h0 : a0 ≤ 50) (h1 : a1 = a0 + a2) (h2 : a2 = 1) : a1 - a2 ≤ 2147483647 := oz1238 h0 h1 h2
theorem oy12 {a0 a1 a2 a3 a4 : Int} (h0 : a0 < a1) (h1 : a2 = a0 + a3) (h2 : a4 = a2 - a3) (h3 : a1 = 50) (h4 : a3 = 1) : ((a4 = (-3)) ∧ ((50 : Int) ≤ a0) ∧ (a2 = a0)) ∨ ((a0 < 50) ∧ (a4 = a0) ∧ (a2 = (a0 + 1))) := by omega
theorem oy13 {a0 a1 a2 a3 : Int} (h0 : (0 : Int) ≤ a0) (h1 : a1 = a0 + a2) (h2 : a3 = a1 - a2) (h3 : a2 = 1) : ¬ (a3 < 0) := by omega
theorem oy14 {a0 a1 a2 : Int} (h0 : a0 ≤ a1) (h1 : a0 = 50) (h2 : a2 = (-3)) : ((a2 = (-3)) ∧ ((50 : Int) ≤ a1) ∧ (a1 = a1)) ∨ ((a1 < 50) ∧ (a2 = a1) ∧ (a1 = (a1 + 1))) := by omega
theorem oy15 {a0 a1 a2 : Int} (h0 : a0 ≤ a1) (h1 : a1 ≤ a2) (h2 : a0 = 0) (h3 : a2 = 7) : ((0 : Int) ≤ a1) ∧ (a1 ≤ 7) := oz1239 h0 h1 h2 h3
theorem oy16 {a0 a1 a2 a3 a4 a5 a6 : Int} (h0 : a0 < a1) (h1 : (0 : Int) ≤ a0) (h2 : a2 ≤ a3) (h3 : a3 ≤ a4) (h4 : ((a5 = (-3)) ∧ ((50 : Int) ≤ a0) ∧ (a6 = a0)) ∨ ((a0 < 50) ∧ (a5 = a0) ∧ (a6 = (a0 + 1)))) (h5 : a1 = 50) (h6 : a2 = 0) (h7 : a4 = 7) : ((a5 = (-1)) ∧ (¬ (((0 : Int) ≤ a3) ∧ (a3 ≤ 7))) ∧ (a6 = a0)) ∨ (((0 : Int) ≤ a3) ∧ (a3 ≤ 7) ∧ (((a5 = (-3)) ∧ ((50 : Int) ≤ a0) ∧ (a6 = a0)) ∨ ((a0 < 50) ∧ (a5 = a0) ∧ (a6 = (a0 + 1))))) := by omega
theorem oy17 {a0 a1 a2 a3 : Int} (h0 : a0 < a1) (h1 : (0 : Int) ≤ a0) (h2 : ((a2 = (-3)) ∧ ((50 : Int) ≤ a0) ∧ (a3 = a0)) ∨ ((a0 < 50) ∧ (a2 = a0) ∧ (a3 = (a0 + 1)))) (h3 : a1 = 50) : ¬ (a2 < 0) := by omega
theorem oy18 {a0 a1 a2 a3 : Int} (h0 : a0 < a1) (h1 : (0 : Int) ≤ a0) (h2 : ((a2 = (-3)) ∧ ((50 : Int) ≤ a0) ∧ (a3 = a0)) ∨ ((a0 < 50) ∧ (a2 = a0) ∧ (a3 = (a0 + 1)))) (h3 : a1 = 50) : (0 : Int) ≤ a2 := by omega
theorem oy19 {a0 a1 a2 a3 a4 a5 : Int} (h0 : a0 ≤ a1) (h1 : a2 ≤ a3) (h2 : a3 ≤ a4) (h3 : a0 = 50) (h4 : a2 = 0) (h5 : a4 = 7) (h6 : a5 = (-3)) : ((a5 = (-1)) ∧ (¬ (((0 : Int) ≤ a3) ∧ (a3 ≤ 7))) ∧ (a1 = a1)) ∨ (((0 : Int) ≤ a3) ∧ (a3 ≤ 7) ∧ (((a5 = (-3)) ∧ ((50 : Int) ≤ a1) ∧ (a1 = a1)) ∨ ((a1 < 50) ∧ (a5 = a1) ∧ (a1 = (a1 + 1))))) := by omega
theorem oy20 {a0 a1 a2 a3 a4 : Int} (h0 : ¬ ((a0 ≤ a1) ∧ (a1 ≤ a2))) (h1 : a0 = 0) (h2 : a2 = 7) (h3 : a3 = (-1)) : ((a3 = (-1)) ∧ (¬ (((0 : Int) ≤ a1) ∧ (a1 ≤ 7))) ∧ (a4 = a4)) ∨ (((0 : Int) ≤ a1) ∧ (a1 ≤ 7) ∧ (((a3 = (-3)) ∧ ((50 : Int) ≤ a4) ∧ (a4 = a4)) ∨ ((a4 < 50) ∧ (a3 = a4) ∧ (a4 = (a4 + 1))))) := by omega
theorem oy21 {a0 a1 : Int} (h0 : a0 ≠ a1) (h1 : a0 ≤ 50) (h2 : a1 = 50) : a0 < 50 := oz576 h0 h1 h2
theorem oy22 {a0 a1 : Int} (h0 : a0 ≤ a1) (h1 : a0 = 0) : (0 : Int) ≤ a1 := oz389 h0 h1
theorem oy23 {a0 a1 : Int} (h0 : a0 ≤ a1) (h1 : a1 = 7) : a0 ≤ 7 := oz577 h0 h1
theorem oy24 {a0 a1 a2 a3 : Int} (h0 : a0 ≠ a1) (h1 : a0 ≤ 50) (h2 : a2 = a0 + a3) (h3 : a1 = 50) (h4 : a3 = 1) : a2 ≤ 50 := oz579 h0 h1 h2 h3 h4
theorem oy25 {a0 a1 a2 a3 a4 a5 a6 : Int} (h0 : a0 ≠ a1) (h1 : a0 ≤ 50) (h2 : a2 = a0 + a3) (h3 : a4 ≤ a5) (h4 : a5 ≤ a6) (h5 : a1 = 50) (h6 : a3 = 1) (h7 : a4 = 0) (h8 : a6 = 7) : ((a0 = (-1)) ∧ (¬ (((0 : Int) ≤ a5) ∧ (a5 ≤ 7))) ∧ (a2 = a0)) ∨ (((0 : Int) ≤ a5) ∧ (a5 ≤ 7) ∧ (((a0 = (-3)) ∧ ((50 : Int) ≤ a0) ∧ (a2 = a0)) ∨ ((a0 < 50) ∧ (a0 = a0) ∧ (a2 = (a0 + 1))))) := by omega
theorem oy26 {a0 : Int} (h0 : (0 : Int) ≤ a0) : ¬ (a0 < 0) := by omega
theorem oy27 {a0 a1 a2 a3 a4 a5 : Int} (h0 : a0 = a1) (h1 : a2 ≤ a3) (h2 : a3 ≤ a4) (h3 : a1 = 50) (h4 : a2 = 0) (h5 : a4 = 7) (h6 : a5 = (-3)) : ((a5 = (-1)) ∧ (¬ (((0 : Int) ≤ a3) ∧ (a3 ≤ 7))) ∧ (a0 = a0)) ∨ (((0 : Int) ≤ a3) ∧ (a3 ≤ 7) ∧ (((a5 = (-3)) ∧ ((50 : Int) ≤ a0) ∧ (a0 = a0)) ∨ ((a0 < 50) ∧ (a5 = a0) ∧ (a0 = (a0 + 1))))) := by omega
theorem oy30 {a0 : Int} (h0 : a0 ≤ 5) : a0 < 6 := oz19 h0
theorem oy31 {a0 a1 a2 : Int} (h0 : a0 = a1) (h1 : (-1 : Int) ≤ a0) (h2 : a1 = (-1)) : a0 = -1 ∨ a2 = -1 := by omega
theorem oy32 {a0 a1 : Int} (h0 : (0 : Int) ≤ a0) (h1 : a0 ≤ 5) (h2 : (0 : Int) ≤ a1) (h3 : a1 ≤ 5) : 0 ≤ a0 ∧ a0 ≤ 5 ∧ 0 ≤ a1 ∧ a1 ≤ 5 := by omega
theorem oy35 {a0 : Int} (h0 : (0 : Int) ≤ a0) (h1 : a0 ≤ 5) : ((0 : Int) ≤ a0) ∧ (a0 ≤ 5) := oz35 h0 h1
theorem oy36 {a0 a1 : Int} (h0 : a0 = a1) (h1 : (0 : Int) ≤ a0) (h2 : a0 ≤ 4) (h3 : (0 : Int) ≤ a1) (h4 : a1 ≤ 4) : 0 ≤ a0 ∧ a0 ≤ 4 ∧ 0 ≤ a1 ∧ a1 ≤ 4 ∧ a0 = a1 := by omega
theorem oy37 {a0 a1 a2 a3 a4 a5 : Int} (h0 : a0 < a1) (h1 : a1 = 0) : ¬ (0 ≤ a2 ∧ 0 ≤ a3 ∧ 0 ≤ a0 ∧ a2 + a0 ≤ a4 ∧ a3 + a0 ≤ a5) := by omega
theorem oy38 {a0 a1 a2 a3 a4 a5 : Int} (h0 : a0 < a1) (h1 : a1 = 0) : ¬ (0 ≤ a0 ∧ 0 ≤ a2 ∧ 0 ≤ a3 ∧ a0 + a3 ≤ a4 ∧ a2 + a3 ≤ a5) := by omega
theorem oy39 {a0 a1 a2 a3 a4 a5 : Int} (h0 : a0 < a1) (h1 : a1 = 0) : ¬ (0 ≤ a2 ∧ 0 ≤ a0 ∧ 0 ≤ a3 ∧ a2 + a3 ≤ a4 ∧ a0 + a3 ≤ a5) := by omega
theorem oy40 {a0 a1 a2 a3 a4 : Int} (h0 : a0 ≤ a1) (h1 : a0 ≤ a2) (h2 : a3 = a2) (h3 : a4 = a1) (h4 : a0 = 0) : (-9223372036854775808 : Int) ≤ a3 + a4 := oz612 h0 h1 h2 h3 h4
theorem oy41 {a0 a1 a2 a3 : Int} (h0 : a0 ≤ 2147483647) (h1 : a1 ≤ 2147483647) (h2 : a2 = a0) (h3 : a3 = a1) : a2 + a3 ≤ 9223372036854775807 := oz613 h0 h1 h2 h3
theorem oy42 {a0 a1 a2 a3 a4 a5 a6 a7 a8 a9 a10 : Int} (h0 : a0 < a1) (h1 : a2 = a3) (h2 : a4 = a5) (h3 : a6 = a2 + a4) (h4 : a7 = a8) (h5 : (0 < a1 ↔ a7 < a6)) (h6 : a0 = 0) : ¬ (0 ≤ a3 ∧ 0 ≤ a9 ∧ 0 ≤ a5 ∧ a3 + a5 ≤ a8 ∧ a9 + a5 ≤ a10) := by omega
theorem oy43 {a0 a1 a2 a3 a4 : Int} (h0 : a0 ≤ a1) (h1 : a0 ≤ a2) (h2 : a3 = a1) (h3 : a4 = a2) (h4 : a0 = 0) : (-9223372036854775808 : Int) ≤ a4 + a3 := oz614 h0 h1 h2 h3 h4
theorem oy44 {a0 a1 a2 a3 : Int} (h0 : a0 ≤ 2147483647) (h1 : a1 ≤ 2147483647) (h2 : a2 = a0) (h3 : a3 = a1) : a3 + a2 ≤ 9223372036854775807 := oz615 h0 h1 h2 h3
theorem oy45 {a0 a1 a2 a3 a4 a5 a6 a7 a8 a9 a10 a11 a12 a13 a14 : Int} (h0 : a0 ≤ a1) (h1 : a0 ≤ a2) (h2 : a0 ≤ a3) (h3 : a4 ≤ a0) (h4 : a5 ≤ a0) (h5 : a6 = a2) (h6 : a7 = a1) (h7 : a8 = a6 + a7) (h8 : a9 = a10) (h9 : (0 < a4 ↔ a9 < a8)) (h10 : a11 = a3) (h11 : a12 = a11 + a7) (h12 : a13 = a14) (h13 : (0 < a5 ↔ a13 < a12)) (h14 : a0 = 0) : 0 ≤ a2 ∧ 0 ≤ a3 ∧ 0 ≤ a1 ∧ a2 + a1 ≤ a10 ∧ a3 + a1 ≤ a14 := ⟨by omega, by omega, by omega, by omega, by omega⟩
theorem oy46 {a0 a1 : Int} (h0 : a0 ≤ a1) (h1 : a1 ≤ a0) : a1 = a0 := by omega
theorem oy47 {a0 a1 : Int} (h0 : a0 ≤ a1) (h1 : a0 = 0) : ¬ (a1 < 0) := by omega
theorem oy48 {a0 : Int} (h0 : (0 : Int) ≤ a0) : (-2147483648 : Int) ≤ 60 * a0 := oz28 h0
theorem oy49 {a0 : Int} (h0 : a0 ≤ 5) : 60 * a0 ≤ 2147483647 := oz29 h0
theorem oy50 {a0 a1 a2 a3 : Int} (h0 : a0 ≤ a1) (h1 : a2 = 60 * a3) (h2 : (0 : Int) ≤ a3) (h3 : a0 = 0) : (-2147483648 : Int) ≤ a2 + a1 := oz616 h0 h1 h2 h3
theorem oy51 {a0 a1 a2 a3 a4 a5 a6 a7 a8 a9 a10 : Int} (h0 : a0 ≤ a1) (h1 : a2 ≤ a0) (h2 : a3 ≤ 60) (h3 : a4 = a1) (h4 : a5 = a6) (h5 : a7 = a5 + a4) (h6 : a8 = a3) (h7 : (0 < a2 ↔ a8 < a7)) (h8 : a9 = 60 * a10) (h9 : a10 ≤ 5) (h10 : a0 = 0) : a9 + a6 ≤ 2147483647 := oz617 h0 h1 h2 h3 h4 h5 h6 h7 h8 h9 h10
theorem oy52 {a0 a1 a2 a3 a4 a5 : Int} (h0 : a0 ≤ a1) (h1 : (0 : Int) ≤ a2) (h2 : a3 = 60 * a4) (h3 : a5 = a3 + a1) (h4 : (0 : Int) ≤ a4) (h5 : a0 = 0) : (-2147483648 : Int) ≤ a5 + a2 := oz618 h0 h1 h2 h3 h4 h5
theorem oy53 {a0 a1 a2 a3 a4 a5 a6 a7 a8 a9 a10 a11 a12 : Int} (h0 : a0 ≤ a1) (h1 : a2 < a3) (h2 : a4 ≤ 60) (h3 : a5 = a3) (h4 : a6 = a7) (h5 : a8 = a6 + a5) (h6 : a9 = a4) (h7 : (0 < a0 ↔ a9 < a8)) (h8 : a10 = 60 * a11) (h9 : a12 = a10 + a7) (h10 : a11 ≤ 5) (h11 : a1 = 0) : a12 + a2 ≤ 2147483647 := oz619 h0 h1 h2 h3 h4 h5 h6 h7 h8 h9 h10 h11
theorem oy54 {a0 a1 a2 a3 a4 a5 a6 a7 a8 a9 a10 : Int} (h0 : a0 ≤ a1) (h1 : a2 ≤ a0) (h2 : a3 ≤ 60) (h3 : a4 = a5) (h4 : a6 = a1) (h5 : a7 = a4 + a6) (h6 : a8 = a3) (h7 : (0 < a2 ↔ a8 < a7)) (h8 : a9 = 60 * a10) (h9 : a10 ≤ 5) (h10 : a0 = 0) : a9 + a5 ≤ 2147483647 := oz620 h0 h1 h2 h3 h4 h5 h6 h7 h8 h9 h10
theorem oy55 {a0 a1 a2 a3 a4 a5 a6 a7 a8 a9 a10 a11 a12 : Int} (h0 : a0 ≤ a1) (h1 : a2 < a3) (h2 : a4 ≤ 60) (h3 : a5 = a6) (h4 : a7 = a3) (h5 : a8 = a5 + a7) (h6 : a9 = a4) (h7 : (0 < a0 ↔ a9 < a8)) (h8 : a10 = 60 * a11) (h9 : a12 = a10 + a6) (h10 : a11 ≤ 5) (h11 : a1 = 0) : a12 + a2 ≤ 2147483647 := oz621 h0 h1 h2 h3 h4 h5 h6 h7 h8 h9 h10 h11
theorem oy56 {a0 a1 a2 a3 a4 a5 a6 : Int} (h0 : a0 ≤ a1) (h1 : (0 : Int) ≤ a2) (h2 : a3 = 60 * a4) (h3 : a5 = a3 + a1) (h4 : a6 = a5 + a2) (h5 : (0 : Int) ≤ a4) (h6 : a0 = 0) : (0 : Int) ≤ a6 := oz622 h0 h1 h2 h3 h4 h5 h6
theorem oy57 {a0 a1 a2 a3 a4 a5 a6 a7 a8 a9 a10 a11 a12 a13 : Int} (h0 : a0 ≤ a1) (h1 : a2 < a3) (h2 : a4 ≤ 60) (h3 : a5 = a6) (h4 : a7 = a3) (h5 : a8 = a5 + a7) (h6 : a9 = a4) (h7 : (0 < a0 ↔ a9 < a8)) (h8 : a10 = 60 * a11) (h9 : a12 = a10 + a6) (h10 : a13 = a12 + a2) (h11 : a11 ≤ 5) (h12 : a1 = 0) : a13 < 360 := oz623 h0 h1 h2 h3 h4 h5 h6 h7 h8 h9 h10 h11 h12
theorem oy58 {a0 a1 a2 a3 a4 a5 a6 a7 a8 a9 a10 a11 a12 a13 : Int} (h0 : a0 ≤ a1) (h1 : a2 < a3) (h2 : a4 ≤ 60) (h3 : a5 = a3) (h4 : a6 = a7) (h5 : a8 = a6 + a5) (h6 : a9 = a4) (h7 : (0 < a0 ↔ a9 < a8)) (h8 : a10 = 60 * a11) (h9 : a12 = a10 + a7) (h10 : a13 = a12 + a2) (h11 : a11 ≤ 5) (h12 : a1 = 0) : a13 < 360 := oz624 h0 h1 h2 h3 h4 h5 h6 h7 h8 h9 h10 h11 h12
theorem oy59 {a0 a1 a2 : Int} (h0 : a0 ≤ 2147483647) (h1 : a1 < a0) (h2 : a2 = 1) : a1 + a2 ≤ 2147483647 := oz625 h0 h1 h2
theorem oy60 {a0 a1 a2 a3 : Int} (h0 : a0 < a1) (h1 : (0 : Int) ≤ a0) (h2 : a2 = a0 + a3) (h3 : a3 = 1) : ((0 : Int) ≤ a2) ∧ (a2 ≤ a1) := oz1320 h0 h1 h2 h3
theorem oy61 {a0 a1 a2 a3 a4 a5 : Int} (h0 : a0 = 60 * a1) (h1 : a2 = a0 + a3) (h2 : a4 = a2 + a5) : a4 = 60 * a1 + a3 + a5 := by omega
theorem oy62 {a0 a1 a2 a3 a4 a5 a6 a7 a8 a9 a10 a11 a12 a13 a14 a15 a16 a17 a18 a19 a20 : Int} (h0 : a0 ≤ a1) (h1 : a0 ≤ a2) (h2 : a3 ≤ a0) (h3 : a4 ≤ a0) (h4 : a5 ≠ a6) (h5 : a7 < a8) (h6 : (0 : Int) ≤ a7) (h7 : a9 ≤ 60) (h8 : a10 ≤ 60) (h9 : a11 = a1) (h10 : a12 = a8) (h11 : a13 = a11 + a12) (h12 : a14 = a9) (h13 : (0 < a3 ↔ a14 < a13)) (h14 : a15 = a2) (h15 : a16 = a15 + a12) (h16 : a17 = a10) (h17 : (0 < a4 ↔ a17 < a16)) (h18 : a18 = 60 * a5) (h19 : a19 = a18 + a1) (h20 : a20 = a19 + a7) (h21 : a0 = 0) : a20 < 60 * a6 + a2 ∨ 60 * a6 + a2 + a7 ≤ a20 := by omega
theorem oy63 {a0 a1 a2 : Int} (h0 : a0 = a1 + a2) (h1 : a2 = 1) : a0 = a1 + 1 := oz169 h0 h1
theorem oy64 {a0 a1 a2 a3 : Int} (h0 : a0 = a1 + a2) (h1 : a2 = 1) : (a3 - a0) < (a3 - a1) := oz44 h0 h1
theorem oy65 {a0 a1 : Int} (h0 : a0 < a1) : (1 : Int) ≤ (a1 - a0) := oz45 h0
theorem oy66 {a0 a1 : Int} (h0 : a0 ≤ a1) (h1 : a0 = 0) : ((0 : Int) ≤ a0) ∧ (a0 ≤ a1) := by omega
theorem oy67 {a0 a1 a2 a3 a4 a5 a6 a7 a8 a9 a10 a11 a12 a13 : Int} (h0 : a0 ≤ a1) (h1 : a2 ≤ a3) (h2 : a4 < a5) (h3 : a6 ≤ 60) (h4 : a7 = a3) (h5 : a8 = a5) (h6 : a9 = a7 + a8) (h7 : a10 = a6) (h8 : (0 < a0 ↔ a10 < a9)) (h9 : a11 = 60 * a12) (h10 : a13 = a11 + a2) (h11 : a12 ≤ 5) (h12 : a1 = 0) : a13 + a4 ≤ 2147483647 := oz626 h0 h1 h2 h3 h4 h5 h6 h7 h8 h9 h10 h11 h12
theorem oy68 {a0 a1 a2 a3 a4 a5 a6 a7 a8 a9 a10 a11 : Int} (h0 : a0 ≤ a1) (h1 : a2 < a3) (h2 : (0 : Int) ≤ a2) (h3 : a4 ≤ 60) (h4 : a5 = a6) (h5 : a7 = a3) (h6 : a8 = a5 + a7) (h7 : a9 = a4) (h8 : (0 < a0 ↔ a9 < a8)) (h9 : a10 = 60 * a11) (h10 : a11 ≤ 5) (h11 : a1 = 0) : a10 + a6 ≤ 2147483647 := oz627 h0 h1 h2 h3 h4 h5 h6 h7 h8 h9 h10 h11
theorem oy69 {a0 a1 a2 a3 a4 a5 a6 a7 a8 a9 a10 a11 a12 a13 a14 : Int} (h0 : a0 ≤ a1) (h1 : a2 ≤ a3) (h2 : a4 < a5) (h3 : a6 ≤ 60) (h4 : a7 = a3) (h5 : a8 = a5) (h6 : a9 = a7 + a8) (h7 : a10 = a6) (h8 : (0 < a0 ↔ a10 < a9)) (h9 : a11 = 60 * a12) (h10 : a13 = a11 + a2) (h11 : a14 = a13 + a4) (h12 : a12 ≤ 5) (h13 : a1 = 0) : a14 < 360 := oz628 h0 h1 h2 h3 h4 h5 h6 h7 h8 h9 h10 h11 h12 h13
theorem oy70 {a0 a1 a2 a3 a4 a5 a6 a7 : Int} (h0 : a0 = a1) (h1 : a2 ≤ a3) (h2 : a4 = 60 * a0) (h3 : a5 = a4 + a3) (h4 : a6 = a5 + a7) : a6 < 60 * a1 + a2 ∨ 60 * a1 + a2 + a7 ≤ a6 := by omega
theorem oy71 {a0 a1 a2 : Int} (h0 : a0 ≤ a1) (h1 : a0 = 0) (h2 : a2 = 1) : (-2147483648 : Int) ≤ a1 - a2 := oz629 h0 h1 h2
theorem oy72 {a0 a1 : Int} (h0 : a0 ≤ 2147483647) (h1 : a1 = 1) : a0 - a1 ≤ 2147483647 := oz630 h0 h1
theorem oy73 {a0 a1 a2 a3 a4 a5 a6 a7 a8 a9 a10 a11 a12 a13 a14 : Int} (h0 : a0 ≤ a1) (h1 : a0 ≤ a2) (h2 : a3 ≤ a0) (h3 : a4 ≤ a0) (h4 : a2 < a5) (h5 : a6 = a2) (h6 : a7 = a1) (h7 : a8 = a6 + a7) (h8 : a9 = a10) (h9 : (0 < a3 ↔ a9 < a8)) (h10 : a11 = a5) (h11 : a12 = a11 + a7) (h12 : a13 = a14) (h13 : (0 < a4 ↔ a13 < a12)) (h14 : a0 = 0) : 0 ≤ a2 ∧ 0 ≤ a5 ∧ 0 ≤ a1 ∧ a2 + a1 ≤ a10 ∧ a5 + a1 ≤ a14 := ⟨by omega, by omega, by omega, by omega, by omega⟩
theorem oy74 {a0 a1 : Int} (h0 : a0 < a1) (h1 : ((-1) : Int) ≤ a0) (h2 : a1 = 0) : a0 + 1 = 0 := by omega
theorem oy75 {a0 a1 a2 a3 a4 a5 a6 a7 a8 a9 a10 a11 : Int} (h0 : a0 ≤ a1) (h1 : a1 ≤ a2) (h2 : a2 ≤ (a3 - 1)) (h3 : a4 ≤ 60) (h4 : a5 = a3) (h5 : a6 = a7) (h6 : a8 = a6 + a5) (h7 : a9 = a4) (h8 : (0 < a0 ↔ a9 < a8)) (h9 : a10 = 60 * a11) (h10 : a11 ≤ 5) (h11 : a1 = 0) : a10 + a7 ≤ 2147483647 := oz631 h0 h1 h2 h3 h4 h5 h6 h7 h8 h9 h10 h11
theorem oy76 {a0 a1 a2 a3 a4 a5 : Int} (h0 : a0 ≤ a1) (h1 : a0 ≤ a2) (h2 : a3 = 60 * a4) (h3 : a5 = a3 + a1) (h4 : (0 : Int) ≤ a4) (h5 : a0 = 0) : (-2147483648 : Int) ≤ a5 + a2 := oz632 h0 h1 h2 h3 h4 h5
theorem oy77 {a0 a1 a2 a3 a4 a5 a6 a7 a8 a9 a10 a11 a12 : Int} (h0 : a0 ≤ a1) (h1 : a2 ≤ (a3 - 1)) (h2 : a4 ≤ 60) (h3 : a5 = a3) (h4 : a6 = a7) (h5 : a8 = a6 + a5) (h6 : a9 = a4) (h7 : (0 < a0 ↔ a9 < a8)) (h8 : a10 = 60 * a11) (h9 : a12 = a10 + a7) (h10 : a11 ≤ 5) (h11 : a1 = 0) : a12 + a2 ≤ 2147483647 := oz633 h0 h1 h2 h3 h4 h5 h6 h7 h8 h9 h10 h11
theorem oy78 {a0 a1 a2 a3 a4 a5 a6 a7 a8 a9 a10 a11 : Int} (h0 : a0 ≤ a1) (h1 : ((-1) : Int) ≤ a2) (h2 : a2 ≤ (a3 - 1)) (h3 : a4 ≤ 60) (h4 : a5 = a6) (h5 : a7 = a3) (h6 : a8 = a5 + a7) (h7 : a9 = a4) (h8 : (0 < a0 ↔ a9 < a8)) (h9 : a10 = 60 * a11) (h10 : a11 ≤ 5) (h11 : a1 = 0) : a10 + a6 ≤ 2147483647 := oz634 h0 h1 h2 h3 h4 h5 h6 h7 h8 h9 h10 h11
theorem oy79 {a0 a1 a2 a3 a4 a5 a6 a7 a8 a9 a10 a11 a12 : Int} (h0 : a0 ≤ a1) (h1 : a2 ≤ (a3 - 1)) (h2 : a4 ≤ 60) (h3 : a5 = a6) (h4 : a7 = a3) (h5 : a8 = a5 + a7) (h6 : a9 = a4) (h7 : (0 < a0 ↔ a9 < a8)) (h8 : a10 = 60 * a11) (h9 : a12 = a10 + a6) (h10 : a11 ≤ 5) (h11 : a1 = 0) : a12 + a2 ≤ 2147483647 := oz635 h0 h1 h2 h3 h4 h5 h6 h7 h8 h9 h10 h11
theorem oy80 {a0 a1 a2 a3 a4 a5 a6 : Int} (h0 : a0 ≤ a1) (h1 : a0 ≤ a2) (h2 : a3 = 60 * a4) (h3 : a5 = a3 + a1) (h4 : a6 = a5 + a2) (h5 : (0 : Int) ≤ a4) (h6 : a0 = 0) : (0 : Int) ≤ a6 := oz636 h0 h1 h2 h3 h4 h5 h6
theorem oy81 {a0 a1 a2 a3 a4 a5 a6 a7 a8 a9 a10 a11 a12 a13 : Int} (h0 : a0 ≤ a1) (h1 : a2 ≤ (a3 - 1)) (h2 : a4 ≤ 60) (h3 : a5 = a6) (h4 : a7 = a3) (h5 : a8 = a5 + a7) (h6 : a9 = a4) (h7 : (0 < a0 ↔ a9 < a8)) (h8 : a10 = 60 * a11) (h9 : a12 = a10 + a6) (h10 : a13 = a12 + a2) (h11 : a11 ≤ 5) (h12 : a1 = 0) : a13 < 360 := oz637 h0 h1 h2 h3 h4 h5 h6 h7 h8 h9 h10 h11 h12
theorem oy82 {a0 a1 a2 a3 a4 a5 a6 a7 : Int} (h0 : a0 ≤ a1) (h1 : a1 < a2) (h2 : a0 ≤ a3) (h3 : a4 = 60 * a5) (h4 : a6 = a4 + a2) (h5 : a7 = a6 + a3) (h6 : (0 : Int) ≤ a5) (h7 : a0 = 0) : (0 : Int) ≤ a7 := oz638 h0 h1 h2 h3 h4 h5 h6 h7
theorem oy83 {a0 a1 a2 a3 a4 a5 a6 a7 a8 a9 a10 a11 a12 a13 a14 : Int} (h0 : a0 ≤ a1) (h1 : a2 = a3) (h2 : a4 ≤ (a5 - 1)) (h3 : a6 ≤ 60) (h4 : a7 = a5) (h5 : a8 = a9) (h6 : a10 = a8 + a7) (h7 : a11 = a6) (h8 : (0 < a0 ↔ a11 < a10)) (h9 : a12 = 60 * a3) (h10 : a13 = a12 + a9) (h11 : a14 = a13 + a4) (h12 : a2 ≤ 5) (h13 : a1 = 0) : a14 < 360 := oz639 h0 h1 h2 h3 h4 h5 h6 h7 h8 h9 h10 h11 h12 h13
theorem oy84 {a0 a1 : Int} (h0 : ((-1) : Int) ≤ a0) (h1 : a1 = (-1)) : (-2147483648 : Int) ≤ a0 + a1 := oz516 h0 h1
theorem oy85 {a0 a1 a2 : Int} (h0 : a0 ≤ 2147483647) (h1 : a1 ≤ (a0 - 1)) (h2 : a2 = (-1)) : a1 + a2 ≤ 2147483647 := oz640 h0 h1 h2
theorem oy86 {a0 a1 a2 a3 : Int} (h0 : a0 ≤ a1) (h1 : a2 = a1 + a3) (h2 : a0 = 0) (h3 : a3 = (-1)) : ((-1) : Int) ≤ a2 := oz518 h0 h1 h2 h3
theorem oy87 {a0 a1 a2 a3 : Int} (h0 : a0 ≤ (a1 - 1)) (h1 : a2 = a0 + a3) (h2 : a3 = (-1)) : a2 ≤ (a1 - 1) := oz641 h0 h1 h2
theorem oy88 {a0 a1 a2 a3 a4 a5 a6 a7 : Int} (h0 : a0 = a1) (h1 : a2 < a3) (h2 : a4 = 60 * a0) (h3 : a5 = a4 + a2) (h4 : a6 = a5 + a7) : a6 < 60 * a1 + a3 + a7 + 1 := by omega
theorem oy89 {a0 a1 : Int} (h0 : a0 ≤ (a1 - 1)) : a0 < a1 := by omega
theorem oy90 {a0 a1 a2 : Int} (h0 : a0 = a1 + a2) (h1 : a2 = (-1)) : a0 = a1 - 1 := by omega
theorem oy91 {a0 a1 a2 : Int} (h0 : a0 = a1 + a2) (h1 : a2 = (-1)) : (a0 + 1) < (a1 + 1) := oz519 h0 h1
theorem oy92 {a0 a1 : Int} (h0 : a0 ≤ a1) (h1 : a0 = 0) : (1 : Int) ≤ (a1 + 1) := oz520 h0 h1
theorem oy93 {a0 a1 a2 a3 : Int} (h0 : a0 ≤ a1) (h1 : a2 = a1 - a3) (h2 : a0 = 0) (h3 : a3 = 1) : ((-1) : Int) ≤ a2 := oz642 h0 h1 h2 h3
theorem oy94 {a0 a1 a2 : Int} (h0 : a0 = a1 - a2) (h1 : a2 = 1) : a0 ≤ (a1 - 1) := oz643 h0 h1
theorem oy95 {a0 a1 a2 : Int} (h0 : a0 = a1 - a2) (h1 : a2 = 1) : a1 ≤ a0 + 1 := by omega
theorem oy96 {a0 a1 a2 a3 a4 a5 a6 a7 a8 a9 a10 : Int} (h0 : a0 < a1) (h1 : a2 = a3) (h2 : a4 = a5) (h3 : a6 = a4 + a2) (h4 : a7 = a8) (h5 : (0 < a1 ↔ a7 < a6)) (h6 : a0 = 0) : ¬ (0 ≤ a9 ∧ 0 ≤ a5 ∧ 0 ≤ a3 ∧ a9 + a3 ≤ a10 ∧ a5 + a3 ≤ a8) := by omega
theorem oy97 {a0 a1 : Int} (h0 : (0 : Int) ≤ a0) (h1 : (0 : Int) ≤ a1) : ¬ (a0 = -1 ∨ a1 = -1) := by omega
theorem oy98 {a0 a1 : Int} (h0 : a0 ≠ a1) : ¬ (0 ≤ a0 ∧ a0 ≤ 4 ∧ 0 ≤ a1 ∧ a1 ≤ 4 ∧ a0 = a1) := by omega
theorem oy99 {a0 a1 a2 : Int} (h0 : a0 ≠ a1) (h1 : (-1 : Int) ≤ a0) (h2 : (0 : Int) ≤ a2) (h3 : a1 = (-1)) : ¬ (a2 = -1 ∨ a0 = -1) := by omega
theorem oy100 {a0 a1 a2 : Int} (h0 : a0 ≠ a1) (h1 : (-1 : Int) ≤ a0) (h2 : ¬ (((0 : Int) ≤ a0) ∧ (a0 ≤ 4))) (h3 : a1 = (-1)) : ¬ (0 ≤ a2 ∧ a2 ≤ 4 ∧ 0 ≤ a0 ∧ a0 ≤ 4 ∧ a2 = a0) := by omega
theorem oy101 {a0 a1 a2 : Int} (h0 : a0 ≠ a1) (h1 : a2 ≠ a1) (h2 : (-1 : Int) ≤ a0) (h3 : (-1 : Int) ≤ a2) (h4 : a1 = (-1)) : ¬ (a0 = -1 ∨ a2 = -1) := by omega
theorem oy102 {a0 a1 a2 : Int} (h0 : a0 ≠ a1) (h1 : (-1 : Int) ≤ a0) (h2 : ¬ (((0 : Int) ≤ a0) ∧ (a0 ≤ 4))) (h3 : a1 = (-1)) : ¬ (0 ≤ a0 ∧ a0 ≤ 4 ∧ 0 ≤ a2 ∧ a2 ≤ 4 ∧ a0 = a2) := by omega
theorem oy103 {a0 a1 a2 : Int} (h0 : a0 = a1) (h1 : (-1 : Int) ≤ a0) (h2 : a1 = (-1)) : a2 = -1 ∨ a0 = -1 := by omega
theorem oy104 {a0 a1 : Int} (h0 : ¬ (((0 : Int) ≤ a0) ∧ (a0 ≤ 5))) : ¬ (0 ≤ a1 ∧ a1 ≤ 5 ∧ 0 ≤ a0 ∧ a0 ≤ 5) := by omega
theorem oy105 {a0 a1 : Int} (h0 : ¬ (((0 : Int) ≤ a0) ∧ (a0 ≤ 5))) : ¬ (0 ≤ a0 ∧ a0 ≤ 5 ∧ 0 ≤ a1 ∧ a1 ≤ 5) := by omega
def xw9_94 : kW := ([6017], [95], [], [])
set_option maxRecDepth 100000 in
theorem kd9_94 {i : Nat → Int32} {a : Nat → List Int32} {q : Nat → List Int64} {r : Nat → Nat} (hI : kI i a q) (hr : kr r) (x1 : Int32) (hp0 : ((0 : Int) ≤ x1.toInt) ∧ (x1.toInt ≤ 7)) : km 1 9 [.ref 94, .int x1] (ks i a q r) (kVI xw9_94 i a q r (fun v i1 a1 q1 r1 => (((v.toInt = (-3)) ∧ ((50 : Int) ≤ (i 6017).toInt) ∧ ((i1 6017).toInt = (i 6017).toInt)) ∨ (((i 6017).toInt < 50) ∧ (v.toInt = (i 6017).toInt) ∧ ((i1 6017).toInt = ((i 6017).toInt + 1)))) ∧ ((v.toInt < 0 → a1 95 = a 95) ∧ (0 ≤ v.toInt → a1 95 = (a 95).set (i 6017).toNatClampNeg x1)))) := by
  have hG := kG_self xw9_94 hI hr
  refine km_ofI (q := (mi_h9, mi_c9)) rfl (by decide) (Nat.le_of_ble_eq_true rfl) ?_
  intro P hP
  have fi_6017 : ((0 : Int) ≤ (i 6017).toInt) ∧ ((i 6017).toInt ≤ 50) := hG.I.1 6017
  refine ft_go mi_k9 3 6 [(0, .ref 94), (1, .int x1)] [.int 50, .int (i 6017)] i a q r (by rfl) ?_
  refine ft_if mi_k9 (decide ((i 6017) < 50)) 12 9 [(0, .ref 94), (1, .int x1)] [] (by rfl) (fun c => ?_) (fun c => ?_)
  ·
    have c1 : (i 6017).toInt < (50 : Int32).toInt := kd_lt c; clear c
    refine ft_go mi_k9 5 21 [(0, .ref 94), (1, .int x1)] [.int x1, .int (i 6017), .ref 95] i a q r (by rfl) ?_
    refine ko_iast3 mi_k9.1 (n := 50) (c := 50) (ax := (0, 0, 0, 0, 0)) (mi_k9.2 _ _ (by rfl)) (by rfl) (ksG95 _ _ _ _) (ksA95 _ _ _ _) (hG.I.2.1 95) rfl (oy3 fi_6017.1) (oy4 c1 ky50) ?_
    intro a2 ea2 fa2
    have hJ2 := kG_a3 hG 95 rfl ea2 fa2 ⟨(oy3 hp0.1), (oy5 hp0.2)⟩
    have s3 : ((i 6017) + 1).toInt = (i 6017).toInt + (1 : Int32).toInt := kd_add (oy6 fi_6017.1 ky1) (oy7 fi_6017.2 ky1)
    have hJ4 := kG_i hJ2 6017 rfl (v := ((i 6017) + 1)) ⟨(oy8 fi_6017.1 s3 ky1), (oy9 c1 s3 ky50 ky1)⟩
    have s5 : (((i 6017) + 1) - 1).toInt = ((i 6017) + 1).toInt - (1 : Int32).toInt := kd_sub (oy10 fi_6017.1 s3 ky1) (oy11 fi_6017.2 s3 ky1)
    refine ft_go mi_k9 10 38 [(0, .ref 94), (1, .int x1)] [.int (((i 6017) + 1) - 1)] (ku i 6017 ((i 6017) + 1)) a2 q r (by rfl) ?_
    exact ft_ret mi_k9 (by rfl) (hP (((i 6017) + 1) - 1) _ _ _ _ hJ4 ⟨(oy12 c1 s3 s5 ky50 ky1), ⟨fun h => absurd h (oy13 fi_6017.1 s3 s5 ky1), fun _ => (kset_o ea2 rfl)⟩⟩)
  ·
    have c6 : (50 : Int32).toInt ≤ (i 6017).toInt := kd_ltF c; clear c
    refine ft_go mi_k9 1 11 [(0, .ref 94), (1, .int x1)] [.int (-3)] i a q r (by rfl) ?_
    exact ft_ret mi_k9 (by rfl) (hP (-3) _ _ _ _ hG ⟨(oy14 c6 ky50 kym3), ⟨fun _ => rfl, fun h => absurd h (kj_neg kym3 (by decide))⟩⟩)
def xw110_0 : kW := ([6017], [95], [], [])
set_option maxRecDepth 100000 in
theorem kd110_0 {i : Nat → Int32} {a : Nat → List Int32} {q : Nat → List Int64} {r : Nat → Nat} (hI : kI i a q) (hr : kr r) (x1 : Int32) : km 3 110 [.ref 0, .int x1] (ks i a q r) (kVI xw110_0 i a q r (fun v i1 a1 q1 r1 => (((v.toInt = (-1)) ∧ (¬ (((0 : Int) ≤ x1.toInt) ∧ (x1.toInt ≤ 7))) ∧ ((i1 6017).toInt = (i 6017).toInt)) ∨ (((0 : Int) ≤ x1.toInt) ∧ (x1.toInt ≤ 7) ∧ (((v.toInt = (-3)) ∧ ((50 : Int) ≤ (i 6017).toInt) ∧ ((i1 6017).toInt = (i 6017).toInt)) ∨ (((i 6017).toInt < 50) ∧ (v.toInt = (i 6017).toInt) ∧ ((i1 6017).toInt = ((i 6017).toInt + 1)))))) ∧ ((v.toInt < 0 → a1 95 = a 95) ∧ (0 ≤ v.toInt → a1 95 = (a 95).set (i 6017).toNatClampNeg x1)))) := by
  have hG := kG_self xw110_0 hI hr
  refine km_ofI (q := (mi_h110, mi_c110)) rfl (by decide) (Nat.le_of_ble_eq_true rfl) ?_
  intro P hP
  refine ft_go mi_k110 3 4 [(0, .ref 0), (1, .int x1)] [.int 7, .int 0, .int x1] i a q r (by rfl) ?_
  refine ko_callPI mi_k110.1 (pc := 4) (ls := [(0, .ref 0), (1, .int x1)]) (st := [.int 7, .int 0, .int x1]) (h := ks i a q r) (i := (.invokestatic 74, 3, 120, 0, 9, 0, 152)) (mi_k110.2 _ _ (by rfl)) (ft_invS mi_pq120 (by rfl)) (cy := mi_c120) mi_pq120 rfl (kc120 hG.I hG.R x1 0 7) (by decide) ?_
  intro vg1 hg1
  rcases hg1 with ⟨eg1, hg1⟩ | ⟨eg1, hg1⟩
  ·
    subst eg1
    have z2 : ((0 : Int32).toInt ≤ x1.toInt) ∧ (x1.toInt ≤ (7 : Int32).toInt) := hg1
    have fi_6017 : ((0 : Int) ≤ (i 6017).toInt) ∧ ((i 6017).toInt ≤ 50) := hG.I.1 6017
    refine ft_go mi_k110 5 21 [(0, .ref 0), (1, .int x1)] [.int 50, .int (i 6017)] i a q r (by rfl) ?_
    refine ft_if mi_k110 (decide ((i 6017) < 50)) 29 24 [(0, .ref 0), (1, .int x1)] [] (by rfl) (fun c => ?_) (fun c => ?_)
    ·
      have c3 : (i 6017).toInt < (50 : Int32).toInt := kd_lt c; clear c
      refine ft_go mi_k110 3 34 [(0, .ref 0), (1, .int x1)] [.int x1, .ref 94] i a q r (by rfl) ?_
      refine ko_callI mi_k110.1 (pc := 34) (ls := [(0, .ref 0), (1, .int x1)]) (st := [.int x1, .ref 94]) (h := ks i a q r) (i := (.invokevirtual 291, 3, 9, 0, 9, 0, 293)) (mi_k110.2 _ _ (by rfl)) (ft_invS mi_pq9 (by rfl)) (cy := mi_c9) mi_pq9 rfl (kd9_94 hG.I hG.R x1 (oy15 z2.1 z2.2 ky0 ky7)) (by decide) ?_
      intro vg4 ig4 ag4 qg4 rg4 kg4 hg4
      have hGg4 := kG_call hG kg4 (by decide +kernel)
      obtain ⟨hg4, og4⟩ := hg4
      have z5 : ((vg4.toInt = (-3)) ∧ ((50 : Int) ≤ (i 6017).toInt) ∧ ((ig4 6017).toInt = (i 6017).toInt)) ∨ (((i 6017).toInt < 50) ∧ (vg4.toInt = (i 6017).toInt) ∧ ((ig4 6017).toInt = ((i 6017).toInt + 1))) := hg4
      exact ft_ret mi_k110 (by rfl) (hP vg4 _ _ _ _ hGg4 ⟨(oy16 c3 fi_6017.1 z2.1 z2.2 z5 ky50 ky0 ky7), ⟨fun h => absurd h (oy17 c3 fi_6017.1 z5 ky50), fun _ => og4.2 (oy18 c3 fi_6017.1 z5 ky50)⟩⟩)
    ·
      have c6 : (50 : Int32).toInt ≤ (i 6017).toInt := kd_ltF c; clear c
      refine ft_go mi_k110 2 37 [(0, .ref 0), (1, .int x1)] [.int (-3)] i a q r (by rfl) ?_
      exact ft_ret mi_k110 (by rfl) (hP (-3) _ _ _ _ hG ⟨(oy19 c6 z2.1 z2.2 ky50 ky0 ky7 kym3), ⟨fun _ => rfl, fun h => absurd h (kj_neg kym3 (by decide))⟩⟩)
  ·
    subst eg1
    have z7 : ¬ (((0 : Int32).toInt ≤ x1.toInt) ∧ (x1.toInt ≤ (7 : Int32).toInt)) := hg1
    refine ft_go mi_k110 2 11 [(0, .ref 0), (1, .int x1)] [.int (-1)] i a q r (by rfl) ?_
    exact ft_ret mi_k110 (by rfl) (hP (-1) _ _ _ _ hG ⟨(oy20 z7 ky0 ky7 kym1), ⟨fun _ => rfl, fun h => absurd h (kj_neg kym1 (by decide))⟩⟩)
def xw214_116 : kW := ([7455], [134], [], [])
set_option maxRecDepth 100000 in
theorem kd214_116 {i : Nat → Int32} {a : Nat → List Int32} {q : Nat → List Int64} {r : Nat → Nat} (hI : kI i a q) (hr : kr r) (x1 : Int32) : km 3 214 [.ref 116, .int x1] (ks i a q r) (kVI xw214_116 i a q r (fun v i1 a1 q1 r1 => (((v.toInt = (-1)) ∧ (¬ (((0 : Int) ≤ x1.toInt) ∧ (x1.toInt ≤ 7))) ∧ ((i1 7455).toInt = (i 7455).toInt)) ∨ (((0 : Int) ≤ x1.toInt) ∧ (x1.toInt ≤ 7) ∧ (((v.toInt = (-3)) ∧ ((50 : Int) ≤ (i 7455).toInt) ∧ ((i1 7455).toInt = (i 7455).toInt)) ∨ (((i 7455).toInt < 50) ∧ (v.toInt = (i 7455).toInt) ∧ ((i1 7455).toInt = ((i 7455).toInt + 1)))))) ∧ ((v.toInt < 0 → a1 134 = a 134) ∧ (0 ≤ v.toInt → a1 134 = (a 134).set (i 7455).toNatClampNeg x1)))) := by
  have hG := kG_self xw214_116 hI hr
  refine km_ofI (q := (mi_h214, mi_c214)) rfl (by decide) (Nat.le_of_ble_eq_true rfl) ?_
  intro P hP
  refine ft_go mi_k214 3 4 [(0, .ref 116), (1, .int x1)] [.int 7, .int 0, .int x1] i a q r (by rfl) ?_
  refine ko_callPI mi_k214.1 (pc := 4) (ls := [(0, .ref 116), (1, .int x1)]) (st := [.int 7, .int 0, .int x1]) (h := ks i a q r) (i := (.invokestatic 119, 3, 131, 0, 9, 0, 379)) (mi_k214.2 _ _ (by rfl)) (ft_invS mi_pq131 (by rfl)) (cy := mi_c131) mi_pq131 rfl (kc131 hG.I hG.R x1 0 7) (by decide) ?_
  intro vg1 hg1
  rcases hg1 with ⟨eg1, hg1⟩ | ⟨eg1, hg1⟩
  ·
    subst eg1
    have z2 : ((0 : Int32).toInt ≤ x1.toInt) ∧ (x1.toInt ≤ (7 : Int32).toInt) := hg1
    have fi_7455 : ((0 : Int) ≤ (i 7455).toInt) ∧ ((i 7455).toInt ≤ 50) := hG.I.1 7455
    refine ft_go mi_k214 4 18 [(0, .ref 116), (1, .int x1)] [.int 50, .int (i 7455)] i a q r (by rfl) ?_
    refine ft_if mi_k214 ((i 7455) != 50) 24 21 [(0, .ref 116), (1, .int x1)] [] (by rfl) (fun c => ?_) (fun c => ?_)
    ·
      have c3 : (i 7455).toInt ≠ (50 : Int32).toInt := kd_ne c; clear c
      refine ft_go mi_k214 5 33 [(0, .ref 116), (1, .int x1)] [.int x1, .int (i 7455), .ref 134] i a q r (by rfl) ?_
      refine ko_iast3 mi_k214.1 (n := 50) (c := 50) (ax := (0, 0, 0, 0, 0)) (mi_k214.2 _ _ (by rfl)) (by rfl) (ksG134 _ _ _ _) (ksA134 _ _ _ _) (hG.I.2.1 134) rfl (oy3 fi_7455.1) (oy21 c3 fi_7455.2 ky50) ?_
      intro a4 ea4 fa4
      have hJ4 := kG_a3 hG 134 rfl ea4 fa4 ⟨(oy22 z2.1 ky0), (oy23 z2.2 ky7)⟩
      have s5 : ((i 7455) + 1).toInt = (i 7455).toInt + (1 : Int32).toInt := kd_add (oy6 fi_7455.1 ky1) (oy7 fi_7455.2 ky1)
      have hJ6 := kG_i hJ4 7455 rfl (v := ((i 7455) + 1)) ⟨(oy8 fi_7455.1 s5 ky1), (oy24 c3 fi_7455.2 s5 ky50 ky1)⟩
      refine ft_go mi_k214 7 45 [(0, .ref 116), (1, .int x1)] [.int (i 7455)] (ku i 7455 ((i 7455) + 1)) a4 q r (by rfl) ?_
      exact ft_ret mi_k214 (by rfl) (hP (i 7455) _ _ _ _ hJ6 ⟨(oy25 c3 fi_7455.2 s5 z2.1 z2.2 ky50 ky1 ky0 ky7), ⟨fun h => absurd h (oy26 fi_7455.1), fun _ => (kset_o ea4 rfl)⟩⟩)
    ·
      have c7 : (i 7455).toInt = (50 : Int32).toInt := kd_neF c; clear c
      refine ft_go mi_k214 1 23 [(0, .ref 116), (1, .int x1)] [.int (-3)] i a q r (by rfl) ?_
      exact ft_ret mi_k214 (by rfl) (hP (-3) _ _ _ _ hG ⟨(oy27 c7 z2.1 z2.2 ky50 ky0 ky7 kym3), ⟨fun _ => rfl, fun h => absurd h (kj_neg kym3 (by decide))⟩⟩)
  ·
    subst eg1
    have z8 : ¬ (((0 : Int32).toInt ≤ x1.toInt) ∧ (x1.toInt ≤ (7 : Int32).toInt)) := hg1
    refine ft_go mi_k214 2 11 [(0, .ref 116), (1, .int x1)] [.int (-1)] i a q r (by rfl) ?_
    exact ft_ret mi_k214 (by rfl) (hP (-1) _ _ _ _ hG ⟨(oy20 z8 ky0 ky7 kym1), ⟨fun _ => rfl, fun h => absurd h (kj_neg kym1 (by decide))⟩⟩)
def xw223_116 : kW := ([], [], [138], [])
def xw223_116_L188 : kW := ([], [], [138], [])
def xw223_116_L142 : kW := ([], [], [138], [])
set_option maxRecDepth 100000 in
theorem kd223_116 {i : Nat → Int32} {a : Nat → List Int32} {q : Nat → List Int64} {r : Nat → Nat} (hI : kI i a q) (hr : kr r) (x1 : Int32) (x2 : Int32) (x3 : Int32) (x4 : Int32) (x5 : Int32) : km 5 223 [.ref 116, .int x1, .int x2, .int x3, .int x4, .int x5] (ks i a q r) (kVI xw223_116 i a q r (fun v i1 a1 q1 r1 => (True) ∧ (((0 ≤ x1.toInt ∧ x1.toInt ≤ 5 ∧ 0 ≤ x3.toInt ∧ x3.toInt ≤ 5) → kSfR ((a 136).getD x1.toNatClampNeg 0) ((a 136).getD x3.toNatClampNeg 0) ((a 137).getD x1.toNatClampNeg 0) ((a 137).getD x3.toNatClampNeg 0) x2 x4 x5 v) ∧ (¬ (0 ≤ x1.toInt ∧ x1.toInt ≤ 5 ∧ 0 ≤ x3.toInt ∧ x3.toInt ≤ 5) → v.toInt = -1) ∧ (0 ≤ v.toInt → kMov (q 138) (q1 138) (60 * x1.toInt + x2.toInt) (60 * x3.toInt + x4.toInt) 0 x5.toInt) ∧ (v.toInt < 0 → q1 138 = q 138)))) := by
  have hG := kG_self xw223_116 hI hr
  refine km_ofI (q := (mi_h223, mi_c223)) rfl (by decide) (Nat.le_of_ble_eq_true rfl) ?_
  intro P hP
  refine ft_go mi_k223 1 1 [(0, .ref 116), (1, .int x1), (2, .int x2), (3, .int x3), (4, .int x4), (5, .int x5)] [.int x1] i a q r (by rfl) ?_
  refine ko_callPI mi_k223.1 (pc := 1) (ls := [(0, .ref 116), (1, .int x1), (2, .int x2), (3, .int x3), (4, .int x4), (5, .int x5)]) (st := [.int x1]) (h := ks i a q r) (i := (.invokestatic 127, 3, 133, 0, 9, 0, 382)) (mi_k223.2 _ _ (by rfl)) (ft_invS mi_pq133 (by rfl)) (cy := mi_c133) mi_pq133 rfl (kc133 hG.I hG.R x1) (by decide) ?_
  intro vg1 hg1
  rcases hg1 with ⟨eg1, hg1⟩ | ⟨eg1, hg1⟩
  ·
    subst eg1
    have z2 : ((0 : Int) ≤ x1.toInt) ∧ (x1.toInt ≤ 5) := hg1
    refine ft_go mi_k223 2 8 [(0, .ref 116), (1, .int x1), (2, .int x2), (3, .int x3), (4, .int x4), (5, .int x5)] [.int x3] i a q r (by rfl) ?_
    refine ko_callPI mi_k223.1 (pc := 8) (ls := [(0, .ref 116), (1, .int x1), (2, .int x2), (3, .int x3), (4, .int x4), (5, .int x5)]) (st := [.int x3]) (h := ks i a q r) (i := (.invokestatic 127, 3, 133, 0, 9, 0, 382)) (mi_k223.2 _ _ (by rfl)) (ft_invS mi_pq133 (by rfl)) (cy := mi_c133) mi_pq133 rfl (kc133 hG.I hG.R x3) (by decide) ?_
    intro vg3 hg3
    rcases hg3 with ⟨eg3, hg3⟩ | ⟨eg3, hg3⟩
    ·
      subst eg3
      have z4 : ((0 : Int) ≤ x3.toInt) ∧ (x3.toInt ≤ 5) := hg3
      refine ft_go mi_k223 4 21 [(0, .ref 116), (1, .int x1), (2, .int x2), (3, .int x3), (4, .int x4), (5, .int x5)] [.int x1, .ref 136] i a q r (by rfl) ?_
      refine ko_iald3 mi_k223.1 (n := 6) (c := 6) (ax := (0, 0, 0, 0, 0)) (mi_k223.2 _ _ (by rfl)) (by rfl) (ksG136 _ _ _ _) (hG.I.2.1 136) rfl (oy3 z2.1) (oy30 z2.2) ?_
      have r5 : ((-1 : Int) ≤ ((a 136).getD x1.toNatClampNeg 0).toInt) ∧ (((a 136).getD x1.toNatClampNeg 0).toInt ≤ 59) := hG.I.2.2.1 136 (x1.toNatClampNeg)
      refine ft_go mi_k223 1 23 [(0, .ref 116), (1, .int x1), (2, .int x2), (3, .int x3), (4, .int x4), (5, .int x5)] [.int (-1), .int ((a 136).getD x1.toNatClampNeg 0)] i a q r (by rfl) ?_
      refine ft_if mi_k223 (((a 136).getD x1.toNatClampNeg 0) == (-1)) 36 26 [(0, .ref 116), (1, .int x1), (2, .int x2), (3, .int x3), (4, .int x4), (5, .int x5)] [] (by rfl) (fun c => ?_) (fun c => ?_)
      ·
        have c6 : ((a 136).getD x1.toNatClampNeg 0).toInt = ((-1) : Int32).toInt := kd_eq c; clear c
        refine ft_go mi_k223 1 38 [(0, .ref 116), (1, .int x1), (2, .int x2), (3, .int x3), (4, .int x4), (5, .int x5)] [.int (-11)] i a q r (by rfl) ?_
        exact ft_ret mi_k223 (by rfl) (hP (-11) _ _ _ _ hG ⟨trivial, ⟨fun _ => (Or.inl ⟨kym11, (oy31 c6 r5.1 kym1)⟩), fun h => absurd (oy32 z2.1 z2.2 z4.1 z4.2) h, fun h => absurd h (kj_neg kym11 (by decide)), fun _ => rfl⟩⟩)
      ·
        have c7 : ((a 136).getD x1.toNatClampNeg 0).toInt ≠ ((-1) : Int32).toInt := kd_eqF c; clear c
        refine ft_go mi_k223 3 31 [(0, .ref 116), (1, .int x1), (2, .int x2), (3, .int x3), (4, .int x4), (5, .int x5)] [.int x3, .ref 136] i a q r (by rfl) ?_
        refine ko_iald3 mi_k223.1 (n := 6) (c := 6) (ax := (0, 0, 0, 0, 0)) (mi_k223.2 _ _ (by rfl)) (by rfl) (ksG136 _ _ _ _) (hG.I.2.1 136) rfl (oy3 z4.1) (oy30 z4.2) ?_
        have r8 : ((-1 : Int) ≤ ((a 136).getD x3.toNatClampNeg 0).toInt) ∧ (((a 136).getD x3.toNatClampNeg 0).toInt ≤ 59) := hG.I.2.2.1 136 (x3.toNatClampNeg)
        refine ft_go mi_k223 1 33 [(0, .ref 116), (1, .int x1), (2, .int x2), (3, .int x3), (4, .int x4), (5, .int x5)] [.int (-1), .int ((a 136).getD x3.toNatClampNeg 0)] i a q r (by rfl) ?_
        refine ft_if mi_k223 (((a 136).getD x3.toNatClampNeg 0) != (-1)) 39 36 [(0, .ref 116), (1, .int x1), (2, .int x2), (3, .int x3), (4, .int x4), (5, .int x5)] [] (by rfl) (fun c => ?_) (fun c => ?_)
        ·
          have c9 : ((a 136).getD x3.toNatClampNeg 0).toInt ≠ ((-1) : Int32).toInt := kd_ne c; clear c
          refine ft_go mi_k223 2 41 [(0, .ref 116), (1, .int x1), (2, .int x2), (3, .int x3), (4, .int x4), (5, .int x5)] [.int x1, .ref 116] i a q r (by rfl) ?_
          refine ko_callPI mi_k223.1 (pc := 41) (ls := [(0, .ref 116), (1, .int x1), (2, .int x2), (3, .int x3), (4, .int x4), (5, .int x5)]) (st := [.int x1, .ref 116]) (h := ks i a q r) (i := (.invokevirtual 372, 3, 219, 0, 9, 0, 473)) (mi_k223.2 _ _ (by rfl)) (ft_invS mi_pq219 (by rfl)) (cy := mi_c219) mi_pq219 rfl (kc219_116 hG.I hG.R x1 (oy35 z2.1 z2.2)) (by decide) ?_
          intro vg10 hg10
          rcases hg10 with ⟨eg10, hg10⟩ | ⟨eg10, hg10⟩
          ·
            subst eg10
            have z11 : ((0 : Int) ≤ ((a 136).getD x1.toNatClampNeg 0).toInt) ∧ (((a 136).getD x1.toNatClampNeg 0).toInt ≤ 4) := hg10
            refine ft_go mi_k223 3 49 [(0, .ref 116), (1, .int x1), (2, .int x2), (3, .int x3), (4, .int x4), (5, .int x5)] [.int x3, .ref 116] i a q r (by rfl) ?_
            refine ko_callPI mi_k223.1 (pc := 49) (ls := [(0, .ref 116), (1, .int x1), (2, .int x2), (3, .int x3), (4, .int x4), (5, .int x5)]) (st := [.int x3, .ref 116]) (h := ks i a q r) (i := (.invokevirtual 372, 3, 219, 0, 9, 0, 473)) (mi_k223.2 _ _ (by rfl)) (ft_invS mi_pq219 (by rfl)) (cy := mi_c219) mi_pq219 rfl (kc219_116 hG.I hG.R x3 (oy35 z4.1 z4.2)) (by decide) ?_
            intro vg12 hg12
            rcases hg12 with ⟨eg12, hg12⟩ | ⟨eg12, hg12⟩
            ·
              subst eg12
              have z13 : ((0 : Int) ≤ ((a 136).getD x3.toNatClampNeg 0).toInt) ∧ (((a 136).getD x3.toNatClampNeg 0).toInt ≤ 4) := hg12
              refine ft_go mi_k223 4 60 [(0, .ref 116), (1, .int x1), (2, .int x2), (3, .int x3), (4, .int x4), (5, .int x5)] [.int x1, .ref 136] i a q r (by rfl) ?_
              refine ko_iald3 mi_k223.1 (n := 6) (c := 6) (ax := (0, 0, 0, 0, 0)) (mi_k223.2 _ _ (by rfl)) (by rfl) (ksG136 _ _ _ _) (hG.I.2.1 136) rfl (oy3 z2.1) (oy30 z2.2) ?_
              refine ft_go mi_k223 3 66 [(0, .ref 116), (1, .int x1), (2, .int x2), (3, .int x3), (4, .int x4), (5, .int x5)] [.int x3, .ref 136, .int ((a 136).getD x1.toNatClampNeg 0)] i a q r (by rfl) ?_
              refine ko_iald3 mi_k223.1 (n := 6) (c := 6) (ax := (0, 0, 0, 0, 0)) (mi_k223.2 _ _ (by rfl)) (by rfl) (ksG136 _ _ _ _) (hG.I.2.1 136) rfl (oy3 z4.1) (oy30 z4.2) ?_
              refine ft_if mi_k223 (((a 136).getD x1.toNatClampNeg 0) == ((a 136).getD x3.toNatClampNeg 0)) 73 70 [(0, .ref 116), (1, .int x1), (2, .int x2), (3, .int x3), (4, .int x4), (5, .int x5)] [] (by rfl) (fun c => ?_) (fun c => ?_)
              ·
                have c14 : ((a 136).getD x1.toNatClampNeg 0).toInt = ((a 136).getD x3.toNatClampNeg 0).toInt := kd_eq c; clear c
                refine ft_go mi_k223 1 75 [(0, .ref 116), (1, .int x1), (2, .int x2), (3, .int x3), (4, .int x4), (5, .int x5)] [.int x5] i a q r (by rfl) ?_
                refine ft_if mi_k223 (decide (x5 < 0)) 122 78 [(0, .ref 116), (1, .int x1), (2, .int x2), (3, .int x3), (4, .int x4), (5, .int x5)] [] (by rfl) (fun c => ?_) (fun c => ?_)
                ·
                  have c15 : x5.toInt < (0 : Int32).toInt := kd_lt c; clear c
                  refine ft_go mi_k223 1 124 [(0, .ref 116), (1, .int x1), (2, .int x2), (3, .int x3), (4, .int x4), (5, .int x5)] [.int (-13)] i a q r (by rfl) ?_
                  exact ft_ret mi_k223 (by rfl) (hP (-13) _ _ _ _ hG ⟨trivial, ⟨fun _ => (Or.inr (Or.inr (Or.inl ⟨kym13, (oy36 c14 z11.1 z11.2 z13.1 z13.2), (oy37 c15 ky0)⟩))), fun h => absurd (oy32 z2.1 z2.2 z4.1 z4.2) h, fun h => absurd h (kj_neg kym13 (by decide)), fun _ => rfl⟩⟩)
                ·
                  have c16 : (0 : Int32).toInt ≤ x5.toInt := kd_ltF c; clear c
                  refine ft_go mi_k223 1 79 [(0, .ref 116), (1, .int x1), (2, .int x2), (3, .int x3), (4, .int x4), (5, .int x5)] [.int x2] i a q r (by rfl) ?_
                  refine ft_if mi_k223 (decide (x2 < 0)) 122 82 [(0, .ref 116), (1, .int x1), (2, .int x2), (3, .int x3), (4, .int x4), (5, .int x5)] [] (by rfl) (fun c => ?_) (fun c => ?_)
                  ·
                    have c17 : x2.toInt < (0 : Int32).toInt := kd_lt c; clear c
                    refine ft_go mi_k223 1 124 [(0, .ref 116), (1, .int x1), (2, .int x2), (3, .int x3), (4, .int x4), (5, .int x5)] [.int (-13)] i a q r (by rfl) ?_
                    exact ft_ret mi_k223 (by rfl) (hP (-13) _ _ _ _ hG ⟨trivial, ⟨fun _ => (Or.inr (Or.inr (Or.inl ⟨kym13, (oy36 c14 z11.1 z11.2 z13.1 z13.2), (oy38 c17 ky0)⟩))), fun h => absurd (oy32 z2.1 z2.2 z4.1 z4.2) h, fun h => absurd h (kj_neg kym13 (by decide)), fun _ => rfl⟩⟩)
                  ·
                    have c18 : (0 : Int32).toInt ≤ x2.toInt := kd_ltF c; clear c
                    refine ft_go mi_k223 1 84 [(0, .ref 116), (1, .int x1), (2, .int x2), (3, .int x3), (4, .int x4), (5, .int x5)] [.int x4] i a q r (by rfl) ?_
                    refine ft_if mi_k223 (decide (x4 < 0)) 122 87 [(0, .ref 116), (1, .int x1), (2, .int x2), (3, .int x3), (4, .int x4), (5, .int x5)] [] (by rfl) (fun c => ?_) (fun c => ?_)
                    ·
                      have c19 : x4.toInt < (0 : Int32).toInt := kd_lt c; clear c
                      refine ft_go mi_k223 1 124 [(0, .ref 116), (1, .int x1), (2, .int x2), (3, .int x3), (4, .int x4), (5, .int x5)] [.int (-13)] i a q r (by rfl) ?_
                      exact ft_ret mi_k223 (by rfl) (hP (-13) _ _ _ _ hG ⟨trivial, ⟨fun _ => (Or.inr (Or.inr (Or.inl ⟨kym13, (oy36 c14 z11.1 z11.2 z13.1 z13.2), (oy39 c19 ky0)⟩))), fun h => absurd (oy32 z2.1 z2.2 z4.1 z4.2) h, fun h => absurd h (kj_neg kym13 (by decide)), fun _ => rfl⟩⟩)
                    ·
                      have c20 : (0 : Int32).toInt ≤ x4.toInt := kd_ltF c; clear c
                      have b21 : ((-2147483648 : Int) ≤ x2.toInt) ∧ (x2.toInt ≤ 2147483647) := kd_bd x2
                      have s22 : x2.toInt64.toInt = x2.toInt := kl_i2l
                      have b23 : ((-2147483648 : Int) ≤ x5.toInt) ∧ (x5.toInt ≤ 2147483647) := kd_bd x5
                      have s24 : x5.toInt64.toInt = x5.toInt := kl_i2l
                      have s25 : (x2.toInt64 + x5.toInt64).toInt = x2.toInt64.toInt + x5.toInt64.toInt := kl_add (oy40 c16 c18 s22 s24 ky0) (oy41 b21.2 b23.2 s22 s24)
                      refine ft_go mi_k223 8 98 [(0, .ref 116), (1, .int x1), (2, .int x2), (3, .int x3), (4, .int x4), (5, .int x5)] [.int x1, .ref 137, .long (x2.toInt64 + x5.toInt64)] i a q r (by rfl) ?_
                      refine ko_iald3 mi_k223.1 (n := 6) (c := 6) (ax := (0, 0, 0, 0, 0)) (mi_k223.2 _ _ (by rfl)) (by rfl) (ksG137 _ _ _ _) (hG.I.2.1 137) rfl (oy3 z2.1) (oy30 z2.2) ?_
                      have r26 : ((0 : Int) ≤ ((a 137).getD x1.toNatClampNeg 0).toInt) ∧ (((a 137).getD x1.toNatClampNeg 0).toInt ≤ 60) := hG.I.2.2.1 137 (x1.toNatClampNeg)
                      have b27 : ((-2147483648 : Int) ≤ ((a 137).getD x1.toNatClampNeg 0).toInt) ∧ (((a 137).getD x1.toNatClampNeg 0).toInt ≤ 2147483647) := kd_bd ((a 137).getD x1.toNatClampNeg 0)
                      have s28 : (((a 137).getD x1.toNatClampNeg 0).toInt64).toInt = ((a 137).getD x1.toNatClampNeg 0).toInt := kl_i2l
                      have s29 : (((lg_cmp (x2.toInt64 + x5.toInt64) (((a 137).getD x1.toNatClampNeg 0).toInt64)).toInt < 0 ↔ (x2.toInt64 + x5.toInt64).toInt < (((a 137).getD x1.toNatClampNeg 0).toInt64).toInt)) ∧ ((0 < (lg_cmp (x2.toInt64 + x5.toInt64) (((a 137).getD x1.toNatClampNeg 0).toInt64)).toInt ↔ (((a 137).getD x1.toNatClampNeg 0).toInt64).toInt < (x2.toInt64 + x5.toInt64).toInt)) := kl_cmp
                      refine ft_go mi_k223 2 101 [(0, .ref 116), (1, .int x1), (2, .int x2), (3, .int x3), (4, .int x4), (5, .int x5)] [.int (lg_cmp (x2.toInt64 + x5.toInt64) (((a 137).getD x1.toNatClampNeg 0).toInt64))] i a q r (by rfl) ?_
                      refine ft_if mi_k223 (decide (0 < (lg_cmp (x2.toInt64 + x5.toInt64) (((a 137).getD x1.toNatClampNeg 0).toInt64)))) 122 104 [(0, .ref 116), (1, .int x1), (2, .int x2), (3, .int x3), (4, .int x4), (5, .int x5)] [] (by rfl) (fun c => ?_) (fun c => ?_)
                      ·
                        have c30 : (0 : Int32).toInt < (lg_cmp (x2.toInt64 + x5.toInt64) (((a 137).getD x1.toNatClampNeg 0).toInt64)).toInt := kd_lt c; clear c
                        refine ft_go mi_k223 1 124 [(0, .ref 116), (1, .int x1), (2, .int x2), (3, .int x3), (4, .int x4), (5, .int x5)] [.int (-13)] i a q r (by rfl) ?_
                        exact ft_ret mi_k223 (by rfl) (hP (-13) _ _ _ _ hG ⟨trivial, ⟨fun _ => (Or.inr (Or.inr (Or.inl ⟨kym13, (oy36 c14 z11.1 z11.2 z13.1 z13.2), (oy42 c30 s22 s24 s25 s28 s29.2 ky0)⟩))), fun h => absurd (oy32 z2.1 z2.2 z4.1 z4.2) h, fun h => absurd h (kj_neg kym13 (by decide)), fun _ => rfl⟩⟩)
                      ·
                        have c31 : (lg_cmp (x2.toInt64 + x5.toInt64) (((a 137).getD x1.toNatClampNeg 0).toInt64)).toInt ≤ (0 : Int32).toInt := kd_ltF c; clear c
                        have b32 : ((-2147483648 : Int) ≤ x4.toInt) ∧ (x4.toInt ≤ 2147483647) := kd_bd x4
                        have s33 : x4.toInt64.toInt = x4.toInt := kl_i2l
                        have s34 : (x4.toInt64 + x5.toInt64).toInt = x4.toInt64.toInt + x5.toInt64.toInt := kl_add (oy43 c16 c20 s24 s33 ky0) (oy44 b23.2 b32.2 s24 s33)
                        refine ft_go mi_k223 8 116 [(0, .ref 116), (1, .int x1), (2, .int x2), (3, .int x3), (4, .int x4), (5, .int x5)] [.int x3, .ref 137, .long (x4.toInt64 + x5.toInt64)] i a q r (by rfl) ?_
                        refine ko_iald3 mi_k223.1 (n := 6) (c := 6) (ax := (0, 0, 0, 0, 0)) (mi_k223.2 _ _ (by rfl)) (by rfl) (ksG137 _ _ _ _) (hG.I.2.1 137) rfl (oy3 z4.1) (oy30 z4.2) ?_
                        have r35 : ((0 : Int) ≤ ((a 137).getD x3.toNatClampNeg 0).toInt) ∧ (((a 137).getD x3.toNatClampNeg 0).toInt ≤ 60) := hG.I.2.2.1 137 (x3.toNatClampNeg)
                        have b36 : ((-2147483648 : Int) ≤ ((a 137).getD x3.toNatClampNeg 0).toInt) ∧ (((a 137).getD x3.toNatClampNeg 0).toInt ≤ 2147483647) := kd_bd ((a 137).getD x3.toNatClampNeg 0)
                        have s37 : (((a 137).getD x3.toNatClampNeg 0).toInt64).toInt = ((a 137).getD x3.toNatClampNeg 0).toInt := kl_i2l
                        have s38 : (((lg_cmp (x4.toInt64 + x5.toInt64) (((a 137).getD x3.toNatClampNeg 0).toInt64)).toInt < 0 ↔ (x4.toInt64 + x5.toInt64).toInt < (((a 137).getD x3.toNatClampNeg 0).toInt64).toInt)) ∧ ((0 < (lg_cmp (x4.toInt64 + x5.toInt64) (((a 137).getD x3.toNatClampNeg 0).toInt64)).toInt ↔ (((a 137).getD x3.toNatClampNeg 0).toInt64).toInt < (x4.toInt64 + x5.toInt64).toInt)) := kl_cmp
                        refine ft_go mi_k223 2 119 [(0, .ref 116), (1, .int x1), (2, .int x2), (3, .int x3), (4, .int x4), (5, .int x5)] [.int (lg_cmp (x4.toInt64 + x5.toInt64) (((a 137).getD x3.toNatClampNeg 0).toInt64))] i a q r (by rfl) ?_
                        refine ft_if mi_k223 (decide ((lg_cmp (x4.toInt64 + x5.toInt64) (((a 137).getD x3.toNatClampNeg 0).toInt64)) ≤ 0)) 125 122 [(0, .ref 116), (1, .int x1), (2, .int x2), (3, .int x3), (4, .int x4), (5, .int x5)] [] (by rfl) (fun c => ?_) (fun c => ?_)
                        ·
                          have c39 : (lg_cmp (x4.toInt64 + x5.toInt64) (((a 137).getD x3.toNatClampNeg 0).toInt64)).toInt ≤ (0 : Int32).toInt := kd_le c; clear c
                          refine ft_go mi_k223 2 127 [(0, .ref 116), (1, .int x1), (2, .int x2), (3, .int x3), (4, .int x4), (5, .int x5)] [.int x3, .int x1] i a q r (by rfl) ?_
                          refine ft_if mi_k223 (x1 != x3) 185 130 [(0, .ref 116), (1, .int x1), (2, .int x2), (3, .int x3), (4, .int x4), (5, .int x5)] [] (by rfl) (fun c => ?_) (fun c => ?_)
                          ·
                            have c40 : x1.toInt ≠ x3.toInt := kd_ne c; clear c
                            refine ft_go mi_k223 2 188 [(6, .int 0), (0, .ref 116), (1, .int x1), (2, .int x2), (3, .int x3), (4, .int x4), (5, .int x5)] [] i a q r (by rfl) ?_
                            have lp41 : ∀ (nz : Nat) (i41 : Nat → Int32) (a41 : Nat → List Int32) (q41 : Nat → List Int64) (r41 : Nat → Nat) (l6_41 : Int32), kG xw223_116_L188 i a q r i41 a41 q41 r41 → ((0 : Int) ≤ l6_41.toInt) ∧ (l6_41.toInt ≤ x5.toInt) → kMov (q 138) (q41 138) (60 * x1.toInt + x2.toInt) (60 * x3.toInt + x4.toInt) 0 l6_41.toInt → ((x5.toInt - l6_41.toInt)).toNat < nz → ko 5 (mi_h223, mi_c223) P (188, [(6, .int l6_41), (0, .ref 116), (1, .int x1), (2, .int x2), (3, .int x3), (4, .int x4), (5, .int x5)], [], (0, 0), ks i41 a41 q41 r41) := by
                              intro nz
                              induction nz with
                              | zero =>
                                intro _ _ _ _ _ _ _ _ hm
                                exact absurd hm (Nat.not_lt_zero _)
                              | succ nz ih41 =>
                                intro i41 a41 q41 r41 l6_41 hL41 p41_0 O41_0 hm41
                                refine ft_go mi_k223 2 192 [(6, .int l6_41), (0, .ref 116), (1, .int x1), (2, .int x2), (3, .int x3), (4, .int x4), (5, .int x5)] [.int x5, .int l6_41] i41 a41 q41 r41 (by rfl) ?_
                                refine ft_if mi_k223 (decide (x5 ≤ l6_41)) 230 195 [(6, .int l6_41), (0, .ref 116), (1, .int x1), (2, .int x2), (3, .int x3), (4, .int x4), (5, .int x5)] [] (by rfl) (fun c => ?_) (fun c => ?_)
                                ·
                                  have c42 : x5.toInt ≤ l6_41.toInt := kd_le c; clear c
                                  have hG43 := kG_call hG hL41 (by decide +kernel)
                                  refine ft_go mi_k223 1 232 [(6, .int l6_41), (0, .ref 116), (1, .int x1), (2, .int x2), (3, .int x3), (4, .int x4), (5, .int x5)] [.int x5] i41 a41 q41 r41 (by rfl) ?_
                                  exact ft_ret mi_k223 (by rfl) (hP x5 _ _ _ _ hG43 ⟨trivial, ⟨fun _ => (Or.inr (Or.inr (Or.inr ⟨rfl, (oy36 c14 z11.1 z11.2 z13.1 z13.2), (oy45 c16 c18 c20 c31 c39 s22 s24 s25 s28 s29.2 s33 s34 s37 s38.2 ky0)⟩))), fun h => absurd (oy32 z2.1 z2.2 z4.1 z4.2) h, fun _ => (kMov_cast O41_0 rfl (oy46 c42 p41_0.2)), fun h => absurd h (oy47 c16 ky0)⟩⟩)
                                ·
                                  have c44 : l6_41.toInt < x5.toInt := kd_leF c; clear c
                                  have s45 : (60 * x3).toInt = 60 * x3.toInt := kd_cmul 60 ky60 (oy48 z4.1) (oy49 z4.2)
                                  have s46 : ((60 * x3) + x4).toInt = (60 * x3).toInt + x4.toInt := kd_add (oy50 c20 s45 z4.1 ky0) (oy51 c16 c39 r35.2 s24 s33 s34 s37 s38.2 s45 z4.2 ky0)
                                  have s47 : (((60 * x3) + x4) + l6_41).toInt = ((60 * x3) + x4).toInt + l6_41.toInt := kd_add (oy52 c20 p41_0.1 s45 s46 z4.1 ky0) (oy53 c39 c44 r35.2 s24 s33 s34 s37 s38.2 s45 s46 z4.2 ky0)
                                  have s48 : (60 * x1).toInt = 60 * x1.toInt := kd_cmul 60 ky60 (oy48 z2.1) (oy49 z2.2)
                                  have s49 : ((60 * x1) + x2).toInt = (60 * x1).toInt + x2.toInt := kd_add (oy50 c18 s48 z2.1 ky0) (oy54 c16 c31 r26.2 s22 s24 s25 s28 s29.2 s48 z2.2 ky0)
                                  have s50 : (((60 * x1) + x2) + l6_41).toInt = ((60 * x1) + x2).toInt + l6_41.toInt := kd_add (oy52 c18 p41_0.1 s48 s49 z2.1 ky0) (oy55 c31 c44 r26.2 s22 s24 s25 s28 s29.2 s48 s49 z2.2 ky0)
                                  refine ft_go mi_k223 18 222 [(6, .int l6_41), (0, .ref 116), (1, .int x1), (2, .int x2), (3, .int x3), (4, .int x4), (5, .int x5)] [.int (((60 * x1) + x2) + l6_41), .ref 138, .int (((60 * x3) + x4) + l6_41), .ref 138] i41 a41 q41 r41 (by rfl) ?_
                                  refine ko_lald2 mi_k223.1 (l := q41 138) (n := 360) (c := 360) (ax := (0, 0, 0, 0, 0)) (mi_k223.2 _ _ (by rfl)) (by rfl) (by rfl) (hL41.I.2.2.2 138) rfl (oy56 c18 p41_0.1 s48 s49 s50 z2.1 ky0) (oy57 c31 c44 r26.2 s22 s24 s25 s28 s29.2 s48 s49 s50 z2.2 ky0) ?_
                                  have hJ51 := kG_q hL41 138 rfl (z := (q41 138).set (((60 * x3) + x4) + l6_41).toNatClampNeg ((q41 138).getD (((60 * x1) + x2) + l6_41).toNatClampNeg 0)) (List.length_set.trans (hL41.I.2.2.2 138))
                                  refine ko_last2 mi_k223.1 (l := q41 138) (n := 360) (c := 360) (ax := (0, 0, 0, 0, 0)) (mi_k223.2 _ _ (by rfl)) (by rfl) (by rfl) (hL41.I.2.2.2 138) rfl (oy56 c20 p41_0.1 s45 s46 s47 z4.1 ky0) (oy58 c39 c44 r35.2 s24 s33 s34 s37 s38.2 s45 s46 s47 z4.2 ky0) (h2 := ks i41 a41 (ku q41 138 ((q41 138).set (((60 * x3) + x4) + l6_41).toNatClampNeg ((q41 138).getD (((60 * x1) + x2) + l6_41).toNatClampNeg 0))) r41) (by rfl) ?_
                                  have s52 : (l6_41 + 1).toInt = l6_41.toInt + (1 : Int32).toInt := kd_add (oy6 p41_0.1 ky1) (oy59 b23.2 c44 ky1)
                                  refine ft_go mi_k223 2 188 [(6, .int (l6_41 + 1)), (0, .ref 116), (1, .int x1), (2, .int x2), (3, .int x3), (4, .int x4), (5, .int x5)] [] i41 a41 (ku q41 138 ((q41 138).set (((60 * x3) + x4) + l6_41).toNatClampNeg ((q41 138).getD (((60 * x1) + x2) + l6_41).toNatClampNeg 0))) r41 (by rfl) ?_
                                  exact ih41 _ _ _ _ _ hJ51 (oy60 c44 p41_0.1 s52 ky1) (kMov_up O41_0 (hL41.I.2.2.2 138) (oy61 s45 s46 s47) (oy61 s48 s49 s50) (oy56 c20 p41_0.1 s45 s46 s47 z4.1 ky0) (oy58 c39 c44 r35.2 s24 s33 s34 s37 s38.2 s45 s46 s47 z4.2 ky0) (oy56 c18 p41_0.1 s48 s49 s50 z2.1 ky0) (oy62 c18 c20 c31 c39 c40 c44 p41_0.1 r26.2 r35.2 s22 s24 s25 s28 s29.2 s33 s34 s37 s38.2 s48 s49 s50 ky0) (oy3 p41_0.1) (oy63 s52 ky1) rfl) (kj_meas (oy64 s52 ky1) (oy65 c44) hm41)
                            exact lp41 _ _ _ _ _ _ (kG_self _ hG.I hG.R) (oy66 c16 ky0) (kMov_start rfl (Int.le_of_eq kn0)) (Nat.lt_succ_self _)
                          ·
                            have c53 : x1.toInt = x3.toInt := kd_neF c; clear c
                            refine ft_go mi_k223 2 133 [(0, .ref 116), (1, .int x1), (2, .int x2), (3, .int x3), (4, .int x4), (5, .int x5)] [.int x4, .int x2] i a q r (by rfl) ?_
                            refine ft_if mi_k223 (decide (x4 ≤ x2)) 185 136 [(0, .ref 116), (1, .int x1), (2, .int x2), (3, .int x3), (4, .int x4), (5, .int x5)] [] (by rfl) (fun c => ?_) (fun c => ?_)
                            ·
                              have c54 : x4.toInt ≤ x2.toInt := kd_le c; clear c
                              refine ft_go mi_k223 2 188 [(6, .int 0), (0, .ref 116), (1, .int x1), (2, .int x2), (3, .int x3), (4, .int x4), (5, .int x5)] [] i a q r (by rfl) ?_
                              have lp55 : ∀ (nz : Nat) (i55 : Nat → Int32) (a55 : Nat → List Int32) (q55 : Nat → List Int64) (r55 : Nat → Nat) (l6_55 : Int32), kG xw223_116_L188 i a q r i55 a55 q55 r55 → ((0 : Int) ≤ l6_55.toInt) ∧ (l6_55.toInt ≤ x5.toInt) → kMov (q 138) (q55 138) (60 * x1.toInt + x2.toInt) (60 * x3.toInt + x4.toInt) 0 l6_55.toInt → ((x5.toInt - l6_55.toInt)).toNat < nz → ko 5 (mi_h223, mi_c223) P (188, [(6, .int l6_55), (0, .ref 116), (1, .int x1), (2, .int x2), (3, .int x3), (4, .int x4), (5, .int x5)], [], (0, 0), ks i55 a55 q55 r55) := by
                                intro nz
                                induction nz with
                                | zero =>
                                  intro _ _ _ _ _ _ _ _ hm
                                  exact absurd hm (Nat.not_lt_zero _)
                                | succ nz ih55 =>
                                  intro i55 a55 q55 r55 l6_55 hL55 p55_0 O55_0 hm55
                                  refine ft_go mi_k223 2 192 [(6, .int l6_55), (0, .ref 116), (1, .int x1), (2, .int x2), (3, .int x3), (4, .int x4), (5, .int x5)] [.int x5, .int l6_55] i55 a55 q55 r55 (by rfl) ?_
                                  refine ft_if mi_k223 (decide (x5 ≤ l6_55)) 230 195 [(6, .int l6_55), (0, .ref 116), (1, .int x1), (2, .int x2), (3, .int x3), (4, .int x4), (5, .int x5)] [] (by rfl) (fun c => ?_) (fun c => ?_)
                                  ·
                                    have c56 : x5.toInt ≤ l6_55.toInt := kd_le c; clear c
                                    have hG57 := kG_call hG hL55 (by decide +kernel)
                                    refine ft_go mi_k223 1 232 [(6, .int l6_55), (0, .ref 116), (1, .int x1), (2, .int x2), (3, .int x3), (4, .int x4), (5, .int x5)] [.int x5] i55 a55 q55 r55 (by rfl) ?_
                                    exact ft_ret mi_k223 (by rfl) (hP x5 _ _ _ _ hG57 ⟨trivial, ⟨fun _ => (Or.inr (Or.inr (Or.inr ⟨rfl, (oy36 c14 z11.1 z11.2 z13.1 z13.2), (oy45 c16 c18 c20 c31 c39 s22 s24 s25 s28 s29.2 s33 s34 s37 s38.2 ky0)⟩))), fun h => absurd (oy32 z2.1 z2.2 z4.1 z4.2) h, fun _ => (kMov_cast O55_0 rfl (oy46 c56 p55_0.2)), fun h => absurd h (oy47 c16 ky0)⟩⟩)
                                  ·
                                    have c58 : l6_55.toInt < x5.toInt := kd_leF c; clear c
                                    have s59 : (60 * x3).toInt = 60 * x3.toInt := kd_cmul 60 ky60 (oy48 z4.1) (oy49 z4.2)
                                    have s60 : ((60 * x3) + x4).toInt = (60 * x3).toInt + x4.toInt := kd_add (oy50 c20 s59 z4.1 ky0) (oy51 c16 c39 r35.2 s24 s33 s34 s37 s38.2 s59 z4.2 ky0)
                                    have s61 : (((60 * x3) + x4) + l6_55).toInt = ((60 * x3) + x4).toInt + l6_55.toInt := kd_add (oy52 c20 p55_0.1 s59 s60 z4.1 ky0) (oy67 c31 c54 c58 r26.2 s22 s24 s25 s28 s29.2 s59 s60 z4.2 ky0)
                                    have s62 : (60 * x1).toInt = 60 * x1.toInt := kd_cmul 60 ky60 (oy48 z2.1) (oy49 z2.2)
                                    have s63 : ((60 * x1) + x2).toInt = (60 * x1).toInt + x2.toInt := kd_add (oy50 c18 s62 z2.1 ky0) (oy68 c31 c58 p55_0.1 r26.2 s22 s24 s25 s28 s29.2 s62 z2.2 ky0)
                                    have s64 : (((60 * x1) + x2) + l6_55).toInt = ((60 * x1) + x2).toInt + l6_55.toInt := kd_add (oy52 c18 p55_0.1 s62 s63 z2.1 ky0) (oy55 c31 c58 r26.2 s22 s24 s25 s28 s29.2 s62 s63 z2.2 ky0)
                                    refine ft_go mi_k223 18 222 [(6, .int l6_55), (0, .ref 116), (1, .int x1), (2, .int x2), (3, .int x3), (4, .int x4), (5, .int x5)] [.int (((60 * x1) + x2) + l6_55), .ref 138, .int (((60 * x3) + x4) + l6_55), .ref 138] i55 a55 q55 r55 (by rfl) ?_
                                    refine ko_lald2 mi_k223.1 (l := q55 138) (n := 360) (c := 360) (ax := (0, 0, 0, 0, 0)) (mi_k223.2 _ _ (by rfl)) (by rfl) (by rfl) (hL55.I.2.2.2 138) rfl (oy56 c18 p55_0.1 s62 s63 s64 z2.1 ky0) (oy57 c31 c58 r26.2 s22 s24 s25 s28 s29.2 s62 s63 s64 z2.2 ky0) ?_
                                    have hJ65 := kG_q hL55 138 rfl (z := (q55 138).set (((60 * x3) + x4) + l6_55).toNatClampNeg ((q55 138).getD (((60 * x1) + x2) + l6_55).toNatClampNeg 0)) (List.length_set.trans (hL55.I.2.2.2 138))
                                    refine ko_last2 mi_k223.1 (l := q55 138) (n := 360) (c := 360) (ax := (0, 0, 0, 0, 0)) (mi_k223.2 _ _ (by rfl)) (by rfl) (by rfl) (hL55.I.2.2.2 138) rfl (oy56 c20 p55_0.1 s59 s60 s61 z4.1 ky0) (oy69 c31 c54 c58 r26.2 s22 s24 s25 s28 s29.2 s59 s60 s61 z4.2 ky0) (h2 := ks i55 a55 (ku q55 138 ((q55 138).set (((60 * x3) + x4) + l6_55).toNatClampNeg ((q55 138).getD (((60 * x1) + x2) + l6_55).toNatClampNeg 0))) r55) (by rfl) ?_
                                    have s66 : (l6_55 + 1).toInt = l6_55.toInt + (1 : Int32).toInt := kd_add (oy6 p55_0.1 ky1) (oy59 b23.2 c58 ky1)
                                    refine ft_go mi_k223 2 188 [(6, .int (l6_55 + 1)), (0, .ref 116), (1, .int x1), (2, .int x2), (3, .int x3), (4, .int x4), (5, .int x5)] [] i55 a55 (ku q55 138 ((q55 138).set (((60 * x3) + x4) + l6_55).toNatClampNeg ((q55 138).getD (((60 * x1) + x2) + l6_55).toNatClampNeg 0))) r55 (by rfl) ?_
                                    exact ih55 _ _ _ _ _ hJ65 (oy60 c58 p55_0.1 s66 ky1) (kMov_up O55_0 (hL55.I.2.2.2 138) (oy61 s59 s60 s61) (oy61 s62 s63 s64) (oy56 c20 p55_0.1 s59 s60 s61 z4.1 ky0) (oy69 c31 c54 c58 r26.2 s22 s24 s25 s28 s29.2 s59 s60 s61 z4.2 ky0) (oy56 c18 p55_0.1 s62 s63 s64 z2.1 ky0) (oy70 c53 c54 s62 s63 s64) (oy3 p55_0.1) (oy63 s66 ky1) rfl) (kj_meas (oy64 s66 ky1) (oy65 c58) hm55)
                              exact lp55 _ _ _ _ _ _ (kG_self _ hG.I hG.R) (oy66 c16 ky0) (kMov_start rfl (Int.le_of_eq kn0)) (Nat.lt_succ_self _)
                            ·
                              have c67 : x2.toInt < x4.toInt := kd_leF c; clear c
                              have s68 : (x5 - 1).toInt = x5.toInt - (1 : Int32).toInt := kd_sub (oy71 c16 ky0 ky1) (oy72 b23.2 ky1)
                              refine ft_go mi_k223 4 142 [(6, .int (x5 - 1)), (0, .ref 116), (1, .int x1), (2, .int x2), (3, .int x3), (4, .int x4), (5, .int x5)] [] i a q r (by rfl) ?_
                              have lp69 : ∀ (nz : Nat) (i69 : Nat → Int32) (a69 : Nat → List Int32) (q69 : Nat → List Int64) (r69 : Nat → Nat) (l6_69 : Int32), kG xw223_116_L142 i a q r i69 a69 q69 r69 → ((-1) : Int) ≤ l6_69.toInt → l6_69.toInt ≤ (x5.toInt - 1) → kMov (q 138) (q69 138) (60 * x1.toInt + x2.toInt) (60 * x3.toInt + x4.toInt) (l6_69.toInt + 1) x5.toInt → ((l6_69.toInt + 1)).toNat < nz → ko 5 (mi_h223, mi_c223) P (142, [(6, .int l6_69), (0, .ref 116), (1, .int x1), (2, .int x2), (3, .int x3), (4, .int x4), (5, .int x5)], [], (0, 0), ks i69 a69 q69 r69) := by
                                intro nz
                                induction nz with
                                | zero =>
                                  intro _ _ _ _ _ _ _ _ _ hm
                                  exact absurd hm (Nat.not_lt_zero _)
                                | succ nz ih69 =>
                                  intro i69 a69 q69 r69 l6_69 hL69 p69_0 p69_1 O69_0 hm69
                                  refine ft_go mi_k223 1 144 [(6, .int l6_69), (0, .ref 116), (1, .int x1), (2, .int x2), (3, .int x3), (4, .int x4), (5, .int x5)] [.int l6_69] i69 a69 q69 r69 (by rfl) ?_
                                  refine ft_if mi_k223 (decide (l6_69 < 0)) 182 147 [(6, .int l6_69), (0, .ref 116), (1, .int x1), (2, .int x2), (3, .int x3), (4, .int x4), (5, .int x5)] [] (by rfl) (fun c => ?_) (fun c => ?_)
                                  ·
                                    have c70 : l6_69.toInt < (0 : Int32).toInt := kd_lt c; clear c
                                    have hG71 := kG_call hG hL69 (by decide +kernel)
                                    refine ft_go mi_k223 2 232 [(6, .int l6_69), (0, .ref 116), (1, .int x1), (2, .int x2), (3, .int x3), (4, .int x4), (5, .int x5)] [.int x5] i69 a69 q69 r69 (by rfl) ?_
                                    exact ft_ret mi_k223 (by rfl) (hP x5 _ _ _ _ hG71 ⟨trivial, ⟨fun _ => (Or.inr (Or.inr (Or.inr ⟨rfl, (oy36 c14 z11.1 z11.2 z13.1 z13.2), (oy73 c16 c18 c31 c39 c67 s22 s24 s25 s28 s29.2 s33 s34 s37 s38.2 ky0)⟩))), fun h => absurd (oy32 z2.1 z2.2 z4.1 z4.2) h, fun _ => (kMov_cast0 O69_0 rfl (oy74 c70 p69_0 ky0)), fun h => absurd h (oy47 c16 ky0)⟩⟩)
                                  ·
                                    have c72 : (0 : Int32).toInt ≤ l6_69.toInt := kd_ltF c; clear c
                                    have s73 : (60 * x3).toInt = 60 * x3.toInt := kd_cmul 60 ky60 (oy48 z4.1) (oy49 z4.2)
                                    have s74 : ((60 * x3) + x4).toInt = (60 * x3).toInt + x4.toInt := kd_add (oy50 c20 s73 z4.1 ky0) (oy75 c39 c72 p69_1 r35.2 s24 s33 s34 s37 s38.2 s73 z4.2 ky0)
                                    have s75 : (((60 * x3) + x4) + l6_69).toInt = ((60 * x3) + x4).toInt + l6_69.toInt := kd_add (oy76 c20 c72 s73 s74 z4.1 ky0) (oy77 c39 p69_1 r35.2 s24 s33 s34 s37 s38.2 s73 s74 z4.2 ky0)
                                    have s76 : (60 * x1).toInt = 60 * x1.toInt := kd_cmul 60 ky60 (oy48 z2.1) (oy49 z2.2)
                                    have s77 : ((60 * x1) + x2).toInt = (60 * x1).toInt + x2.toInt := kd_add (oy50 c18 s76 z2.1 ky0) (oy78 c31 p69_0 p69_1 r26.2 s22 s24 s25 s28 s29.2 s76 z2.2 ky0)
                                    have s78 : (((60 * x1) + x2) + l6_69).toInt = ((60 * x1) + x2).toInt + l6_69.toInt := kd_add (oy76 c18 c72 s76 s77 z2.1 ky0) (oy79 c31 p69_1 r26.2 s22 s24 s25 s28 s29.2 s76 s77 z2.2 ky0)
                                    refine ft_go mi_k223 18 174 [(6, .int l6_69), (0, .ref 116), (1, .int x1), (2, .int x2), (3, .int x3), (4, .int x4), (5, .int x5)] [.int (((60 * x1) + x2) + l6_69), .ref 138, .int (((60 * x3) + x4) + l6_69), .ref 138] i69 a69 q69 r69 (by rfl) ?_
                                    refine ko_lald2 mi_k223.1 (l := q69 138) (n := 360) (c := 360) (ax := (0, 0, 0, 0, 0)) (mi_k223.2 _ _ (by rfl)) (by rfl) (by rfl) (hL69.I.2.2.2 138) rfl (oy80 c18 c72 s76 s77 s78 z2.1 ky0) (oy81 c31 p69_1 r26.2 s22 s24 s25 s28 s29.2 s76 s77 s78 z2.2 ky0) ?_
                                    have hJ79 := kG_q hL69 138 rfl (z := (q69 138).set (((60 * x3) + x4) + l6_69).toNatClampNeg ((q69 138).getD (((60 * x1) + x2) + l6_69).toNatClampNeg 0)) (List.length_set.trans (hL69.I.2.2.2 138))
                                    refine ko_last2 mi_k223.1 (l := q69 138) (n := 360) (c := 360) (ax := (0, 0, 0, 0, 0)) (mi_k223.2 _ _ (by rfl)) (by rfl) (by rfl) (hL69.I.2.2.2 138) rfl (oy82 c18 c67 c72 s73 s74 s75 z4.1 ky0) (oy83 c39 c53 p69_1 r35.2 s24 s33 s34 s37 s38.2 s73 s74 s75 z2.2 ky0) (h2 := ks i69 a69 (ku q69 138 ((q69 138).set (((60 * x3) + x4) + l6_69).toNatClampNeg ((q69 138).getD (((60 * x1) + x2) + l6_69).toNatClampNeg 0))) r69) (by rfl) ?_
                                    have s80 : (l6_69 + (-1)).toInt = l6_69.toInt + ((-1) : Int32).toInt := kd_add (oy84 p69_0 kym1) (oy85 b23.2 p69_1 kym1)
                                    refine ft_go mi_k223 2 142 [(6, .int (l6_69 + (-1))), (0, .ref 116), (1, .int x1), (2, .int x2), (3, .int x3), (4, .int x4), (5, .int x5)] [] i69 a69 (ku q69 138 ((q69 138).set (((60 * x3) + x4) + l6_69).toNatClampNeg ((q69 138).getD (((60 * x1) + x2) + l6_69).toNatClampNeg 0))) r69 (by rfl) ?_
                                    exact ih69 _ _ _ _ _ hJ79 (oy86 c72 s80 ky0 kym1) (oy87 p69_1 s80 kym1) (kMov_down O69_0 (hL69.I.2.2.2 138) (oy61 s73 s74 s75) (oy61 s76 s77 s78) (oy82 c18 c67 c72 s73 s74 s75 z4.1 ky0) (oy83 c39 c53 p69_1 r35.2 s24 s33 s34 s37 s38.2 s73 s74 s75 z2.2 ky0) (oy80 c18 c72 s76 s77 s78 z2.1 ky0) (oy88 c53 c67 s76 s77 s78) (oy89 p69_1) (oy90 s80 kym1) rfl) (kj_meas (oy91 s80 kym1) (oy92 c72 ky0) hm69)
                              exact lp69 _ _ _ _ _ _ (kG_self _ hG.I hG.R) (oy93 c16 s68 ky0 ky1) (oy94 s68 ky1) (kMov_start rfl (oy95 s68 ky1)) (Nat.lt_succ_self _)
                        ·
                          have c81 : (0 : Int32).toInt < (lg_cmp (x4.toInt64 + x5.toInt64) (((a 137).getD x3.toNatClampNeg 0).toInt64)).toInt := kd_leF c; clear c
                          refine ft_go mi_k223 1 124 [(0, .ref 116), (1, .int x1), (2, .int x2), (3, .int x3), (4, .int x4), (5, .int x5)] [.int (-13)] i a q r (by rfl) ?_
                          exact ft_ret mi_k223 (by rfl) (hP (-13) _ _ _ _ hG ⟨trivial, ⟨fun _ => (Or.inr (Or.inr (Or.inl ⟨kym13, (oy36 c14 z11.1 z11.2 z13.1 z13.2), (oy96 c81 s24 s33 s34 s37 s38.2 ky0)⟩))), fun h => absurd (oy32 z2.1 z2.2 z4.1 z4.2) h, fun h => absurd h (kj_neg kym13 (by decide)), fun _ => rfl⟩⟩)
              ·
                have c82 : ((a 136).getD x1.toNatClampNeg 0).toInt ≠ ((a 136).getD x3.toNatClampNeg 0).toInt := kd_eqF c; clear c
                refine ft_go mi_k223 1 72 [(0, .ref 116), (1, .int x1), (2, .int x2), (3, .int x3), (4, .int x4), (5, .int x5)] [.int (-12)] i a q r (by rfl) ?_
                exact ft_ret mi_k223 (by rfl) (hP (-12) _ _ _ _ hG ⟨trivial, ⟨fun _ => (Or.inr (Or.inl ⟨kym12, (oy97 z11.1 z13.1), (oy98 c82)⟩)), fun h => absurd (oy32 z2.1 z2.2 z4.1 z4.2) h, fun h => absurd h (kj_neg kym12 (by decide)), fun _ => rfl⟩⟩)
            ·
              subst eg12
              have z83 : ¬ (((0 : Int) ≤ ((a 136).getD x3.toNatClampNeg 0).toInt) ∧ (((a 136).getD x3.toNatClampNeg 0).toInt ≤ 4)) := hg12
              refine ft_go mi_k223 2 72 [(0, .ref 116), (1, .int x1), (2, .int x2), (3, .int x3), (4, .int x4), (5, .int x5)] [.int (-12)] i a q r (by rfl) ?_
              exact ft_ret mi_k223 (by rfl) (hP (-12) _ _ _ _ hG ⟨trivial, ⟨fun _ => (Or.inr (Or.inl ⟨kym12, (oy99 c9 r8.1 z11.1 kym1), (oy100 c9 r8.1 z83 kym1)⟩)), fun h => absurd (oy32 z2.1 z2.2 z4.1 z4.2) h, fun h => absurd h (kj_neg kym12 (by decide)), fun _ => rfl⟩⟩)
          ·
            subst eg10
            have z84 : ¬ (((0 : Int) ≤ ((a 136).getD x1.toNatClampNeg 0).toInt) ∧ (((a 136).getD x1.toNatClampNeg 0).toInt ≤ 4)) := hg10
            refine ft_go mi_k223 2 72 [(0, .ref 116), (1, .int x1), (2, .int x2), (3, .int x3), (4, .int x4), (5, .int x5)] [.int (-12)] i a q r (by rfl) ?_
            exact ft_ret mi_k223 (by rfl) (hP (-12) _ _ _ _ hG ⟨trivial, ⟨fun _ => (Or.inr (Or.inl ⟨kym12, (oy101 c7 c9 r5.1 r8.1 kym1), (oy102 c7 r5.1 z84 kym1)⟩)), fun h => absurd (oy32 z2.1 z2.2 z4.1 z4.2) h, fun h => absurd h (kj_neg kym12 (by decide)), fun _ => rfl⟩⟩)
        ·
          have c85 : ((a 136).getD x3.toNatClampNeg 0).toInt = ((-1) : Int32).toInt := kd_neF c; clear c
          refine ft_go mi_k223 1 38 [(0, .ref 116), (1, .int x1), (2, .int x2), (3, .int x3), (4, .int x4), (5, .int x5)] [.int (-11)] i a q r (by rfl) ?_
          exact ft_ret mi_k223 (by rfl) (hP (-11) _ _ _ _ hG ⟨trivial, ⟨fun _ => (Or.inl ⟨kym11, (oy103 c85 r8.1 kym1)⟩), fun h => absurd (oy32 z2.1 z2.2 z4.1 z4.2) h, fun h => absurd h (kj_neg kym11 (by decide)), fun _ => rfl⟩⟩)
    ·
      subst eg3
      have z86 : ¬ (((0 : Int) ≤ x3.toInt) ∧ (x3.toInt ≤ 5)) := hg3
      refine ft_go mi_k223 2 15 [(0, .ref 116), (1, .int x1), (2, .int x2), (3, .int x3), (4, .int x4), (5, .int x5)] [.int (-1)] i a q r (by rfl) ?_
      exact ft_ret mi_k223 (by rfl) (hP (-1) _ _ _ _ hG ⟨trivial, ⟨fun h => absurd h (oy104 z86), fun _ => knm1, fun h => absurd h (kj_neg knm1 (by decide)), fun _ => rfl⟩⟩)
  ·
    subst eg1
    have z87 : ¬ (((0 : Int) ≤ x1.toInt) ∧ (x1.toInt ≤ 5)) := hg1
    refine ft_go mi_k223 2 15 [(0, .ref 116), (1, .int x1), (2, .int x2), (3, .int x3), (4, .int x4), (5, .int x5)] [.int (-1)] i a q r (by rfl) ?_
    exact ft_ret mi_k223 (by rfl) (hP (-1) _ _ _ _ hG ⟨trivial, ⟨fun h => absurd h (oy105 z87), fun _ => knm1, fun h => absurd h (kj_neg knm1 (by decide)), fun _ => rfl⟩⟩)
