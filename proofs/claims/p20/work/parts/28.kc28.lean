theorem kn0 : (0 : Int32).toInt = 0 := by decide
theorem kn9 : (9 : Int32).toInt = 9 := by decide
theorem kn1 : (1 : Int32).toInt = 1 := by decide
theorem kn8 : (8 : Int32).toInt = 8 := by decide
theorem kn100 : (100 : Int32).toInt = 100 := by decide
theorem knm1 : ((-1) : Int32).toInt = (-1) := by decide
theorem kn5 : (5 : Int32).toInt = 5 := by decide
theorem kn60 : (60 : Int32).toInt = 60 := by decide
theorem knL0 : (0 : Int64).toInt = 0 := by decide
theorem kn2 : (2 : Int32).toInt = 2 := by decide
theorem knm12 : ((-12) : Int32).toInt = (-12) := by decide
theorem kn3 : (3 : Int32).toInt = 3 := by decide
theorem kn4 : (4 : Int32).toInt = 4 := by decide
theorem kn6 : (6 : Int32).toInt = 6 := by decide
theorem kn40 : (40 : Int32).toInt = 40 := by decide
theorem kn120 : (120 : Int32).toInt = 120 := by decide
theorem kn18 : (18 : Int32).toInt = 18 := by decide
theorem kn19 : (19 : Int32).toInt = 19 := by decide
theorem knm11 : ((-11) : Int32).toInt = (-11) := by decide
theorem kn20 : (20 : Int32).toInt = 20 := by decide
theorem kn31 : (31 : Int32).toInt = 31 := by decide
theorem kn64 : (64 : Int32).toInt = 64 := by decide
theorem kn16 : (16 : Int32).toInt = 16 := by decide
theorem kn10 : (10 : Int32).toInt = 10 := by decide
theorem kn17 : (17 : Int32).toInt = 17 := by decide
theorem kn7 : (7 : Int32).toInt = 7 := by decide
theorem kn11 : (11 : Int32).toInt = 11 := by decide
theorem kn12 : (12 : Int32).toInt = 12 := by decide
theorem kn13 : (13 : Int32).toInt = 13 := by decide
theorem kn14 : (14 : Int32).toInt = 14 := by decide
theorem kn25 : (25 : Int32).toInt = 25 := by decide
theorem kn26 : (26 : Int32).toInt = 26 := by decide
theorem oz0 {a0 a1 a2 : Int} (h0 : a0 < a1) : ¬ ((a1 ≤ a0) ∧ (a0 ≤ a2)) := by omega
theorem oz1 {a0 a1 a2 : Int} (h0 : a0 < a1) : ¬ ((a2 ≤ a1) ∧ (a1 ≤ a0)) := by omega
theorem oz2 {a0 a1 a2 : Int} (h0 : a0 ≤ a1) (h1 : a1 ≤ a2) : (a0 ≤ a1) ∧ (a1 ≤ a2) := by omega
theorem oz3 {a0 : Int} (h0 : (0 : Int) ≤ a0) : (0 : Int) ≤ a0 := by omega
theorem oz4 {a0 : Int} (h0 : a0 ≤ 8) : a0 < 31 := by omega
theorem oz5 {a0 a1 : Int} (h0 : a0 ≤ 8) : a0 = 18 → (0 : Int) ≤ a1 ∧ a1 ≤ 5 := by omega
theorem oz6 {a0 a1 : Int} (h0 : a0 ≤ 8) : 19 ≤ a0 → a0 ≤ 24 → (0 : Int) ≤ a1 ∧ a1 ≤ 7 := by omega
theorem oz7 {a0 : Int} (h0 : a0 ≤ 8) : a0 < 24 := by omega
theorem oz8 {a0 a1 : Int} (h0 : (0 : Int) ≤ a0) (h1 : a1 = 8) : (-2147483648 : Int) ≤ a1 + a0 := by omega
theorem oz9 {a0 a1 : Int} (h0 : a0 ≤ 8) (h1 : a1 = 8) : a1 + a0 ≤ 2147483647 := by omega
theorem oz10 {a0 a1 a2 : Int} (h0 : (0 : Int) ≤ a0) (h1 : a1 = a2 + a0) (h2 : a2 = 8) : (0 : Int) ≤ a1 := by omega
theorem oz11 {a0 a1 a2 : Int} (h0 : a0 ≤ 8) (h1 : a1 = a2 + a0) (h2 : a2 = 8) : a1 < 24 := by omega
theorem oz12 {a0 a1 : Int} (h0 : (0 : Int) ≤ a0) (h1 : a1 = 1) : (-2147483648 : Int) ≤ a0 + a1 := by omega
theorem oz13 {a0 a1 : Int} (h0 : a0 ≤ 8) (h1 : a1 = 1) : a0 + a1 ≤ 2147483647 := by omega
theorem oz14 {a0 a1 a2 : Int} (h0 : (0 : Int) ≤ a0) (h1 : a1 = a0 + a2) (h2 : a2 = 1) : (0 : Int) ≤ a1 := by omega
theorem oz15 {a0 a1 a2 : Int} (h0 : a0 ≤ 7) (h1 : a1 = a0 + a2) (h2 : a2 = 1) : a1 ≤ 8 := by omega
theorem oz16 {a0 a1 : Int} (h0 : a0 ≠ a1) (h1 : a0 ≤ 8) (h2 : a1 = 8) : a0 ≤ 7 := by omega
theorem oz17 {a0 a1 a2 : Int} (h0 : a0 ≤ a1) (h1 : a1 ≤ a2) (h2 : a0 = 0) (h3 : a2 = 5) : ((0 : Int) ≤ a1) ∧ (a1 ≤ 5) := by omega
theorem oz18 {a0 a1 a2 : Int} (h0 : ¬ ((a0 ≤ a1) ∧ (a1 ≤ a2))) (h1 : a0 = 0) (h2 : a2 = 5) : ¬ (((0 : Int) ≤ a1) ∧ (a1 ≤ 5)) := by omega
theorem oz19 {a0 : Int} (h0 : a0 ≤ 5) : a0 < 6 := by omega
theorem oz20 {a0 a1 : Int} (h0 : (0 : Int) ≤ a0) (h1 : a1 = a0) : (-9223372036854775808 : Int) ≤ 3 * a1 := by omega
theorem oz21 {a0 a1 : Int} (h0 : a0 ≤ 2147483647) (h1 : a1 = a0) : 3 * a1 ≤ 9223372036854775807 := by omega
theorem oz23 {a0 a1 a2 a3 a4 : Int} (h0 : a0 ≤ 2147483647) (h1 : a1 ≤ 2147483647) (h2 : a2 = a0) (h3 : a3 = a1) (h4 : a4 = 3 * a3) : a2 + a4 ≤ 9223372036854775807 := by omega
theorem oz25 {a0 a1 a2 a3 a4 a5 a6 : Int} (h0 : a0 ≤ 2147483647) (h1 : a1 ≤ 2147483647) (h2 : a2 = a0) (h3 : a3 = a1) (h4 : a4 = 3 * a3) (h5 : a5 = a2 + a4) (h6 : a6 = 3) : a5 + a6 ≤ 9223372036854775807 := by omega
theorem oz26 {a0 a1 a2 a3 a4 a5 : Int} (h0 : (-2147483648 : Int) ≤ a0) (h1 : (0 : Int) ≤ a1) (h2 : a2 = a0) (h3 : a3 = a1) (h4 : a4 = 3 * a3) (h5 : a5 = a2 + a4) : (-2147483648 : Int) ≤ a5 := by omega
theorem oz27 {a0 a1 a2 a3 a4 a5 a6 : Int} (h0 : a0 ≤ a1) (h1 : a2 ≤ 60) (h2 : a3 = a4 + a5) (h3 : a6 = a2) (h4 : (0 < a0 ↔ a6 < a3)) (h5 : a1 = 0) (h6 : a5 = 3) : a4 ≤ 2147483647 := by omega
theorem oz28 {a0 : Int} (h0 : (0 : Int) ≤ a0) : (-2147483648 : Int) ≤ 60 * a0 := by omega
theorem oz29 {a0 : Int} (h0 : a0 ≤ 5) : 60 * a0 ≤ 2147483647 := by omega
theorem oz30 {a0 a1 a2 : Int} (h0 : (0 : Int) ≤ a0) (h1 : (0 : Int) ≤ a1) (h2 : a2 = 60 * a0) : (-2147483648 : Int) ≤ a2 + a1 := by omega
theorem oz31 {a0 a1 a2 : Int} (h0 : a0 ≤ 5) (h1 : a1 ≤ 59) (h2 : a2 = 60 * a0) : a2 + a1 ≤ 2147483647 := by omega
theorem oz32 {a0 a1 a2 a3 : Int} (h0 : (0 : Int) ≤ a0) (h1 : (0 : Int) ≤ a1) (h2 : a2 = 60 * a0) (h3 : a3 = a2 + a1) : (0 : Int) ≤ a3 := by omega
theorem oz33 {a0 a1 a2 a3 : Int} (h0 : a0 ≤ 5) (h1 : a1 ≤ 59) (h2 : a2 = 60 * a0) (h3 : a3 = a2 + a1) : a3 < 360 := by omega
theorem oz34 {a0 : Int}  : a0 = a0 := by omega
theorem oz35 {a0 : Int} (h0 : (0 : Int) ≤ a0) (h1 : a0 ≤ 5) : ((0 : Int) ≤ a0) ∧ (a0 ≤ 5) := by omega
theorem oz36 {a0 a1 a2 a3 a4 a5 a6 a7 a8 a9 : Int} (h0 : a0 ≤ a1) (h1 : a2 ≤ a0) (h2 : a3 ≤ 60) (h3 : (a1 < 0 ↔ a4 < a5)) (h4 : a6 = a4 + a7) (h5 : a8 = a3) (h6 : (0 < a2 ↔ a8 < a6)) (h7 : a9 = a4) (h8 : a0 = 0) (h9 : a5 = 0) (h10 : a7 = 3) : ((0 : Int) ≤ a9) ∧ (a9 ≤ 59) := by omega
theorem oz37 {a0 a1 a2 a3 a4 a5 a6 a7 : Int} (h0 : (-2147483648 : Int) ≤ a0) (h1 : (0 : Int) ≤ a1) (h2 : a2 = a0) (h3 : a3 = a1) (h4 : a4 = 3 * a3) (h5 : a5 = a2 + a4) (h6 : a6 = a5) (h7 : a7 = 1) : (-2147483648 : Int) ≤ a6 + a7 := by omega
theorem oz38 {a0 a1 a2 a3 a4 a5 a6 a7 a8 : Int} (h0 : a0 ≤ a1) (h1 : a2 ≤ 60) (h2 : a3 = a4 + a5) (h3 : a6 = a2) (h4 : (0 < a0 ↔ a6 < a3)) (h5 : a7 = a4) (h6 : a1 = 0) (h7 : a5 = 3) (h8 : a8 = 1) : a7 + a8 ≤ 2147483647 := by omega
theorem oz39 {a0 a1 a2 a3 a4 a5 a6 a7 a8 a9 a10 a11 : Int} (h0 : a0 ≤ a1) (h1 : a2 ≤ a0) (h2 : a3 ≤ 60) (h3 : (a1 < 0 ↔ a4 < a5)) (h4 : a6 = a4 + a7) (h5 : a8 = a3) (h6 : (0 < a2 ↔ a8 < a6)) (h7 : a9 = a4) (h8 : a10 = a9 + a11) (h9 : a0 = 0) (h10 : a5 = 0) (h11 : a7 = 3) (h12 : a11 = 1) : ((0 : Int) ≤ a10) ∧ (a10 ≤ 59) := by omega
theorem oz40 {a0 a1 a2 a3 a4 a5 a6 a7 : Int} (h0 : (-2147483648 : Int) ≤ a0) (h1 : (0 : Int) ≤ a1) (h2 : a2 = a0) (h3 : a3 = a1) (h4 : a4 = 3 * a3) (h5 : a5 = a2 + a4) (h6 : a6 = a5) (h7 : a7 = 2) : (-2147483648 : Int) ≤ a6 + a7 := by omega
theorem oz41 {a0 a1 a2 a3 a4 a5 a6 a7 a8 : Int} (h0 : a0 ≤ a1) (h1 : a2 ≤ 60) (h2 : a3 = a4 + a5) (h3 : a6 = a2) (h4 : (0 < a0 ↔ a6 < a3)) (h5 : a7 = a4) (h6 : a1 = 0) (h7 : a5 = 3) (h8 : a8 = 2) : a7 + a8 ≤ 2147483647 := by omega
theorem oz42 {a0 a1 a2 a3 a4 a5 a6 a7 a8 a9 a10 a11 : Int} (h0 : a0 ≤ a1) (h1 : a2 ≤ a0) (h2 : a3 ≤ 60) (h3 : (a1 < 0 ↔ a4 < a5)) (h4 : a6 = a4 + a7) (h5 : a8 = a3) (h6 : (0 < a2 ↔ a8 < a6)) (h7 : a9 = a4) (h8 : a10 = a9 + a11) (h9 : a0 = 0) (h10 : a5 = 0) (h11 : a7 = 3) (h12 : a11 = 2) : ((0 : Int) ≤ a10) ∧ (a10 ≤ 59) := by omega
theorem oz43 {a0 a1 a2 a3 : Int} (h0 : a0 < a1) (h1 : a1 ≤ a2) (h2 : a2 = 8) (h3 : a3 = 1) : a0 + a3 ≤ 2147483647 := by omega
theorem oz44 {a0 a1 a2 a3 : Int} (h0 : a0 = a1 + a2) (h1 : a2 = 1) : (a3 - a0) < (a3 - a1) := by omega
theorem oz45 {a0 a1 : Int} (h0 : a0 < a1) : (1 : Int) ≤ (a1 - a0) := by omega
theorem oz46 {a0 : Int} (h0 : a0 = 0) : (0 : Int) ≤ a0 := by omega
theorem oz47 {a0 a1 : Int} (h0 : (0 : Int) ≤ a0) (h1 : a1 = 1) : (-2147483648 : Int) ≤ a0 - a1 := by omega
theorem oz48 {a0 a1 : Int} (h0 : a0 ≤ 8) (h1 : a1 = 1) : a0 - a1 ≤ 2147483647 := by omega
theorem oz49 {a0 a1 a2 a3 a4 : Int} (h0 : a0 = a1 - a2) (h1 : a3 ≤ a4) (h2 : a4 ≤ a0) (h3 : a2 = 1) (h4 : a3 = 0) : ((0 : Int) ≤ a4) ∧ (a4 < a1) := by omega
theorem oz50 {a0 a1 a2 a3 a4 : Int} (h0 : a0 = a1 - a2) (h1 : ¬ ((a3 ≤ a4) ∧ (a4 ≤ a0))) (h2 : a2 = 1) (h3 : a3 = 0) : ¬ (((0 : Int) ≤ a4) ∧ (a4 < a1)) := by omega
theorem oz51 {a0 a1 a2 a3 a4 : Int} (h0 : a0 ≤ a1) (h1 : a1 ≤ a2) (h2 : (0 : Int) ≤ a3) (h3 : a3 < a4) (h4 : a0 = 0) (h5 : a2 = 3) : (((0 : Int) ≤ a1) ∧ (a1 ≤ 3) ∧ ((0 : Int) ≤ a3) ∧ (a3 < a4)) ∨ (((4 : Int) ≤ a1) ∧ (a1 ≤ 6) ∧ (a3 = 0)) := by omega
theorem oz52 {a0 a1 a2 a3 : Int} (h0 : a0 ≤ a1) (h1 : ¬ (((0 : Int) ≤ a2) ∧ (a2 < a3))) (h2 : a1 = 3) : ¬ ((((0 : Int) ≤ a0) ∧ (a0 ≤ 3) ∧ ((0 : Int) ≤ a2) ∧ (a2 < a3)) ∨ (((4 : Int) ≤ a0) ∧ (a0 ≤ 6) ∧ (a2 = 0))) := by omega
theorem oz53 {a0 a1 a2 a3 a4 : Int} (h0 : a0 ≠ a1) (h1 : a2 ≤ a3) (h2 : a1 = 0) (h3 : a2 = 4) : ¬ ((((0 : Int) ≤ a3) ∧ (a3 ≤ 3) ∧ ((0 : Int) ≤ a0) ∧ (a0 < a4)) ∨ (((4 : Int) ≤ a3) ∧ (a3 ≤ 6) ∧ (a0 = 0))) := by omega
theorem oz54 {a0 a1 a2 a3 a4 a5 : Int} (h0 : a0 = a1) (h1 : a2 ≤ a3) (h2 : a3 ≤ a4) (h3 : a1 = 0) (h4 : a2 = 4) (h5 : a4 = 6) : (((0 : Int) ≤ a3) ∧ (a3 ≤ 3) ∧ ((0 : Int) ≤ a0) ∧ (a0 < a5)) ∨ (((4 : Int) ≤ a3) ∧ (a3 ≤ 6) ∧ (a0 = 0)) := by omega
theorem oz55 {a0 a1 a2 a3 a4 a5 a6 : Int} (h0 : ¬ ((a0 ≤ a1) ∧ (a1 ≤ a2))) (h1 : ¬ ((a3 ≤ a1) ∧ (a1 ≤ a4))) (h2 : a0 = 4) (h3 : a2 = 6) (h4 : a3 = 0) (h5 : a4 = 3) : ¬ ((((0 : Int) ≤ a1) ∧ (a1 ≤ 3) ∧ ((0 : Int) ≤ a5) ∧ (a5 < a6)) ∨ (((4 : Int) ≤ a1) ∧ (a1 ≤ 6) ∧ (a5 = 0))) := by omega
theorem oz56 {a0 a1 : Int} (h0 : a0 = 0) : ((a0 = 4) → (((1 : Int) ≤ a1) ∧ (a1 ≤ 5))) := by omega
theorem oz57 {a0 a1 : Int} (h0 : a0 = 1) : ((a0 = 4) → (((1 : Int) ≤ a1) ∧ (a1 ≤ 5))) := by omega
theorem oz58 {a0 a1 : Int} (h0 : a0 = 2) : ((a0 = 4) → (((1 : Int) ≤ a1) ∧ (a1 ≤ 5))) := by omega
theorem oz59 {a0 a1 : Int} (h0 : a0 = 3) : ((a0 = 4) → (((1 : Int) ≤ a1) ∧ (a1 ≤ 5))) := by omega
theorem oz61 {a0 a1 : Int} (h0 : a0 = 5) : ((a0 = 4) → (((1 : Int) ≤ a1) ∧ (a1 ≤ 5))) := by omega
theorem oz62 {a0 a1 : Int} (h0 : a0 = 6) : ((a0 = 4) → (((1 : Int) ≤ a1) ∧ (a1 ≤ 5))) := by omega
theorem oz65 {a0 : Int} (h0 : a0 ≤ 7) : a0 < 31 := by omega
theorem oz66 {a0 : Int} (h0 : a0 = 1) : (-2147483648 : Int) ≤ 8 * a0 := by omega
theorem oz67 {a0 : Int} (h0 : a0 ≤ 6) : 8 * a0 ≤ 2147483647 := by omega
theorem oz68 {a0 a1 a2 : Int} (h0 : a0 = 8 * a1) (h1 : a1 = 1) (h2 : a2 = 8) : (-2147483648 : Int) ≤ a0 - a2 := by omega
theorem oz69 {a0 a1 a2 : Int} (h0 : a0 ≤ 6) (h1 : a1 = 8 * a0) (h2 : a2 = 8) : a1 - a2 ≤ 2147483647 := by omega
theorem oz70 {a0 a1 a2 a3 a4 : Int} (h0 : (0 : Int) ≤ a0) (h1 : (0 : Int) ≤ a1) (h2 : a2 = 8 * a1) (h3 : a3 = a2 - a4) (h4 : a4 = 8) : (-2147483648 : Int) ≤ a3 + a0 := by omega
theorem oz71 {a0 a1 a2 a3 a4 : Int} (h0 : a0 ≤ 7) (h1 : a1 ≤ 6) (h2 : a2 = 8 * a1) (h3 : a3 = a2 - a4) (h4 : a4 = 8) : a3 + a0 ≤ 2147483647 := by omega
theorem oz72 {a0 a1 a2 a3 a4 a5 : Int} (h0 : (0 : Int) ≤ a0) (h1 : a1 = 8 * a2) (h2 : a3 = a1 - a4) (h3 : a5 = a3 + a0) (h4 : a2 = 1) (h5 : a4 = 8) : (0 : Int) ≤ a5 := by omega
theorem oz73 {a0 a1 a2 a3 a4 a5 : Int} (h0 : a0 ≤ 7) (h1 : a1 = 8 * a2) (h2 : a3 = a1 - a4) (h3 : a5 = a3 + a0) (h4 : a2 = 1) (h5 : a4 = 8) : a5 < 24 := by omega
theorem oz74 {a0 : Int} (h0 : a0 = 2) : (-2147483648 : Int) ≤ 8 * a0 := by omega
theorem oz75 {a0 a1 a2 : Int} (h0 : a0 = 8 * a1) (h1 : a1 = 2) (h2 : a2 = 8) : (-2147483648 : Int) ≤ a0 - a2 := by omega
theorem oz76 {a0 a1 a2 a3 a4 : Int} (h0 : (0 : Int) ≤ a0) (h1 : a1 = 8 * a2) (h2 : a3 = a1 - a4) (h3 : a2 = 2) (h4 : a4 = 8) : (-2147483648 : Int) ≤ a3 + a0 := by omega
theorem oz79 {a0 : Int} (h0 : a0 = 3) : (-2147483648 : Int) ≤ 8 * a0 := by omega
theorem oz80 {a0 a1 a2 : Int} (h0 : a0 = 8 * a1) (h1 : a1 = 3) (h2 : a2 = 8) : (-2147483648 : Int) ≤ a0 - a2 := by omega
theorem oz81 {a0 a1 a2 a3 a4 : Int} (h0 : (0 : Int) ≤ a0) (h1 : a1 = 8 * a2) (h2 : a3 = a1 - a4) (h3 : a2 = 3) (h4 : a4 = 8) : (-2147483648 : Int) ≤ a3 + a0 := by omega
theorem oz82 {a0 a1 a2 a3 a4 a5 : Int} (h0 : (0 : Int) ≤ a0) (h1 : a1 = 8 * a2) (h2 : a3 = a1 - a4) (h3 : a5 = a3 + a0) (h4 : a2 = 3) (h5 : a4 = 8) : (0 : Int) ≤ a5 := by omega
theorem oz83 {a0 a1 a2 a3 a4 a5 : Int} (h0 : a0 ≤ 7) (h1 : a1 = 8 * a2) (h2 : a3 = a1 - a4) (h3 : a5 = a3 + a0) (h4 : a2 = 3) (h5 : a4 = 8) : a5 < 24 := by omega
theorem oz84 {a0 a1 : Int} (h0 : (1 : Int) ≤ a0) (h1 : a0 ≤ 5) : ((a1 = 4) → (((1 : Int) ≤ a0) ∧ (a0 ≤ 5))) := by omega
theorem oz85 {a0 : Int} (h0 : a0 = 8) : (0 : Int) ≤ a0 := by omega
theorem oz86 {a0 : Int} (h0 : a0 = 8) : a0 < 31 := by omega
theorem oz88 {a0 a1 a2 : Int} (h0 : a0 ≤ 8) (h1 : (((0 : Int) ≤ a1) ∧ (a1 ≤ 3) ∧ ((0 : Int) ≤ a2) ∧ (a2 < a0)) ∨ (((4 : Int) ≤ a1) ∧ (a1 ≤ 6) ∧ (a2 = 0))) : ((0 : Int) ≤ a2) ∧ (a2 ≤ 7) := by omega
theorem oz89 {a0 a1 a2 : Int} (h0 : (((0 : Int) ≤ a0) ∧ (a0 ≤ 3) ∧ ((0 : Int) ≤ a1) ∧ (a1 < a2)) ∨ (((4 : Int) ≤ a0) ∧ (a0 ≤ 6) ∧ (a1 = 0))) : ((0 : Int) ≤ a0) ∧ (a0 ≤ 6) := by omega
theorem oz90 {a0 a1 : Int} (h0 : a0 ≤ 7) : a0 = 18 → (0 : Int) ≤ a1 ∧ a1 ≤ 5 := by omega
theorem oz91 {a0 a1 : Int} (h0 : a0 ≤ 7) : 19 ≤ a0 → a0 ≤ 24 → (0 : Int) ≤ a1 ∧ a1 ≤ 7 := by omega
theorem oz96 {a0 a1 : Int} (h0 : ((a0 = 4) → (((1 : Int) ≤ a1) ∧ (a1 ≤ 5)))) (h1 : a0 = 4) : (1 : Int) ≤ a1 := by omega
theorem oz97 {a0 a1 : Int} (h0 : ((a0 = 4) → (((1 : Int) ≤ a1) ∧ (a1 ≤ 5)))) (h1 : a0 = 4) : a1 ≤ 5 := by omega
theorem oz98 {a0 a1 : Int} (h0 : a0 = 8) : a0 = 18 → (0 : Int) ≤ a1 ∧ a1 ≤ 5 := by omega
theorem oz99 {a0 a1 : Int} (h0 : a0 = 8) : 19 ≤ a0 → a0 ≤ 24 → (0 : Int) ≤ a1 ∧ a1 ≤ 7 := by omega
theorem oz101 {a0 : Int} (h0 : (0 : Int) ≤ a0) : (-2147483648 : Int) ≤ 4 * a0 := by omega
theorem oz102 {a0 : Int} (h0 : a0 ≤ 40) : 4 * a0 ≤ 2147483647 := by omega
theorem oz103 {a0 a1 : Int} (h0 : (0 : Int) ≤ a0) (h1 : a1 = 4 * a0) : (0 : Int) ≤ a1 := by omega
theorem oz104 {a0 a1 a2 : Int} (h0 : a0 ≠ a1) (h1 : a0 ≤ 40) (h2 : a2 = 4 * a0) (h3 : a1 = 40) : a2 < 160 := by omega
theorem oz106 {a0 a1 a2 : Int} (h0 : (0 : Int) ≤ a0) (h1 : a1 = 4 * a0) (h2 : a2 = 1) : (-2147483648 : Int) ≤ a1 + a2 := by omega
theorem oz107 {a0 a1 a2 : Int} (h0 : a0 ≤ 40) (h1 : a1 = 4 * a0) (h2 : a2 = 1) : a1 + a2 ≤ 2147483647 := by omega
theorem oz108 {a0 a1 a2 a3 : Int} (h0 : (0 : Int) ≤ a0) (h1 : a1 = 4 * a0) (h2 : a2 = a1 + a3) (h3 : a3 = 1) : (0 : Int) ≤ a2 := by omega
theorem oz109 {a0 a1 a2 a3 a4 : Int} (h0 : a0 ≠ a1) (h1 : a0 ≤ 40) (h2 : a2 = 4 * a0) (h3 : a3 = a2 + a4) (h4 : a1 = 40) (h5 : a4 = 1) : a3 < 160 := by omega
theorem oz112 {a0 a1 a2 : Int} (h0 : (0 : Int) ≤ a0) (h1 : a1 = 4 * a0) (h2 : a2 = 2) : (-2147483648 : Int) ≤ a1 + a2 := by omega
theorem oz113 {a0 a1 a2 : Int} (h0 : a0 ≤ 40) (h1 : a1 = 4 * a0) (h2 : a2 = 2) : a1 + a2 ≤ 2147483647 := by omega
theorem oz114 {a0 a1 a2 a3 : Int} (h0 : (0 : Int) ≤ a0) (h1 : a1 = 4 * a0) (h2 : a2 = a1 + a3) (h3 : a3 = 2) : (0 : Int) ≤ a2 := by omega
theorem oz115 {a0 a1 a2 a3 a4 : Int} (h0 : a0 ≠ a1) (h1 : a0 ≤ 40) (h2 : a2 = 4 * a0) (h3 : a3 = a2 + a4) (h4 : a1 = 40) (h5 : a4 = 2) : a3 < 160 := by omega
theorem oz116 {a0 a1 a2 : Int} (h0 : (0 : Int) ≤ a0) (h1 : a1 = 4 * a0) (h2 : a2 = 3) : (-2147483648 : Int) ≤ a1 + a2 := by omega
theorem oz117 {a0 a1 a2 : Int} (h0 : a0 ≤ 40) (h1 : a1 = 4 * a0) (h2 : a2 = 3) : a1 + a2 ≤ 2147483647 := by omega
theorem oz118 {a0 a1 a2 a3 : Int} (h0 : (0 : Int) ≤ a0) (h1 : a1 = 4 * a0) (h2 : a2 = a1 + a3) (h3 : a3 = 3) : (0 : Int) ≤ a2 := by omega
theorem oz119 {a0 a1 a2 a3 a4 : Int} (h0 : a0 ≠ a1) (h1 : a0 ≤ 40) (h2 : a2 = 4 * a0) (h3 : a3 = a2 + a4) (h4 : a1 = 40) (h5 : a4 = 3) : a3 < 160 := by omega
theorem oz120 {a0 a1 : Int} (h0 : a0 ≤ 40) (h1 : a1 = 1) : a0 + a1 ≤ 2147483647 := by omega
theorem oz121 {a0 a1 a2 a3 a4 : Int} (h0 : a0 ≠ a1) (h1 : a0 ≤ 40) (h2 : a2 = 4 * a0) (h3 : a3 = a0 + a4) (h4 : a1 = 40) (h5 : a4 = 1) : a3 ≤ 40 := by omega
theorem oz122 {a0 : Int}  : a0 ≤ a0 := by omega
theorem oz123 {a0 a1 : Int} (h0 : a0 = 4 * a1) : a0 = 4 * a1 := by omega
theorem oz124 {a0 a1 a2 a3 : Int} (h0 : a0 = 4 * a1) (h1 : a2 = a0 + a3) (h2 : a3 = 1) : a2 = 4 * a1 + 1 := by omega
theorem oz125 {a0 a1 a2 a3 : Int} (h0 : a0 = 4 * a1) (h1 : a2 = a0 + a3) (h2 : a3 = 2) : a2 = 4 * a1 + 2 := by omega
theorem oz126 {a0 a1 a2 a3 : Int} (h0 : a0 = 4 * a1) (h1 : a2 = a0 + a3) (h2 : a3 = 3) : a2 = 4 * a1 + 3 := by omega
theorem oz128 {a0 a1 a2 : Int} (h0 : a0 ≠ a1) (h1 : a0 ≤ 40) (h2 : a2 = 4 * a0) (h3 : a1 = 40) : a0 ≤ 39 := by omega
theorem oz129 {a0 a1 a2 a3 : Int} (h0 : a0 = a1) (h1 : a2 = a0) (h2 : a1 = 40) (h3 : a3 = 1) : (-2147483648 : Int) ≤ a2 - a3 := by omega
theorem oz130 {a0 a1 : Int} (h0 : a0 ≤ 40) (h1 : a1 = 1) : a0 - a1 ≤ 2147483647 := by omega
theorem oz131 {a0 a1 a2 a3 a4 : Int} (h0 : a0 = a1) (h1 : a2 = a0) (h2 : a3 = a2 - a4) (h3 : a1 = 40) (h4 : a4 = 1) : (0 : Int) ≤ a3 := by omega
theorem oz132 {a0 a1 a2 : Int} (h0 : a0 ≤ 40) (h1 : a1 = a0 - a2) (h2 : a2 = 1) : a1 ≤ 40 := by omega
theorem oz133 {a0 a1 a2 : Int} (h0 : (0 : Int) ≤ a0) (h1 : a1 = a0 - a2) (h2 : a2 = 1) : (-2147483648 : Int) ≤ 4 * a1 := by omega
theorem oz134 {a0 a1 a2 : Int} (h0 : a0 ≤ 40) (h1 : a1 = a0 - a2) (h2 : a2 = 1) : 4 * a1 ≤ 2147483647 := by omega
theorem oz135 {a0 a1 a2 a3 a4 a5 : Int} (h0 : a0 = a1) (h1 : a2 = a0) (h2 : a3 = a2 - a4) (h3 : a5 = 4 * a3) (h4 : a1 = 40) (h5 : a4 = 1) : (0 : Int) ≤ a5 := by omega
theorem oz136 {a0 a1 a2 a3 : Int} (h0 : a0 ≤ 40) (h1 : a1 = a0 - a2) (h2 : a3 = 4 * a1) (h3 : a2 = 1) : a3 < 160 := by omega
theorem oz137 {a0 a1 a2 a3 a4 a5 : Int} (h0 : a0 = a1) (h1 : a2 = a0) (h2 : a3 = a2 - a4) (h3 : a5 = 4 * a3) (h4 : a1 = 40) (h5 : a4 = 1) : (-2147483648 : Int) ≤ a5 + a4 := by omega
theorem oz138 {a0 a1 a2 a3 : Int} (h0 : a0 ≤ 40) (h1 : a1 = a0 - a2) (h2 : a3 = 4 * a1) (h3 : a2 = 1) : a3 + a2 ≤ 2147483647 := by omega
theorem oz139 {a0 a1 a2 a3 a4 a5 a6 : Int} (h0 : a0 = a1) (h1 : a2 = a0) (h2 : a3 = a2 - a4) (h3 : a5 = 4 * a3) (h4 : a6 = a5 + a4) (h5 : a1 = 40) (h6 : a4 = 1) : (0 : Int) ≤ a6 := by omega
theorem oz140 {a0 a1 a2 a3 a4 : Int} (h0 : a0 ≤ 40) (h1 : a1 = a0 - a2) (h2 : a3 = 4 * a1) (h3 : a4 = a3 + a2) (h4 : a2 = 1) : a4 < 160 := by omega
theorem oz141 {a0 a1 a2 a3 a4 a5 a6 a7 : Int} (h0 : a0 = a1) (h1 : a2 = a0) (h2 : a2 ≤ 40) (h3 : a3 = a2 - a4) (h4 : a5 = 4 * a3) (h5 : a6 = a5 + a4) (h6 : a1 = 40) (h7 : a4 = 1) : (a6 % 4) = 0 → (0 : Int) ≤ a7 ∧ a7 ≤ 7 := by omega
theorem oz142 {a0 a1 a2 a3 a4 a5 a6 : Int} (h0 : a0 = a1) (h1 : a2 = a0) (h2 : a3 = a2 - a4) (h3 : a5 = 4 * a3) (h4 : a1 = 40) (h5 : a4 = 1) (h6 : a6 = 2) : (-2147483648 : Int) ≤ a5 + a6 := by omega
theorem oz143 {a0 a1 a2 a3 a4 : Int} (h0 : a0 ≤ 40) (h1 : a1 = a0 - a2) (h2 : a3 = 4 * a1) (h3 : a2 = 1) (h4 : a4 = 2) : a3 + a4 ≤ 2147483647 := by omega
theorem oz144 {a0 a1 a2 a3 a4 a5 a6 a7 : Int} (h0 : a0 = a1) (h1 : a2 = a0) (h2 : a3 = a2 - a4) (h3 : a5 = 4 * a3) (h4 : a6 = a5 + a7) (h5 : a1 = 40) (h6 : a4 = 1) (h7 : a7 = 2) : (0 : Int) ≤ a6 := by omega
theorem oz145 {a0 a1 a2 a3 a4 a5 : Int} (h0 : a0 ≤ 40) (h1 : a1 = a0 - a2) (h2 : a3 = 4 * a1) (h3 : a4 = a3 + a5) (h4 : a2 = 1) (h5 : a5 = 2) : a4 < 160 := by omega
theorem oz146 {a0 a1 a2 a3 a4 a5 a6 a7 a8 : Int} (h0 : a0 = a1) (h1 : a2 = a0) (h2 : a2 ≤ 40) (h3 : a3 = a2 - a4) (h4 : a5 = 4 * a3) (h5 : a6 = a5 + a7) (h6 : a1 = 40) (h7 : a4 = 1) (h8 : a7 = 2) : (a6 % 4) = 0 → (0 : Int) ≤ a8 ∧ a8 ≤ 7 := by omega
theorem oz147 {a0 a1 a2 a3 a4 a5 a6 a7 a8 : Int} (h0 : a0 = a1) (h1 : a2 = a0) (h2 : a2 ≤ 40) (h3 : a3 = a2 - a4) (h4 : a5 = 4 * a3) (h5 : a6 = a5 + a7) (h6 : a1 = 40) (h7 : a4 = 1) (h8 : a7 = 2) : (a6 % 4) = 1 → (0 : Int) ≤ a8 ∧ a8 ≤ 6 := by omega
theorem oz148 {a0 a1 a2 a3 a4 a5 a6 : Int} (h0 : a0 = a1) (h1 : a2 = a0) (h2 : a3 = a2 - a4) (h3 : a5 = 4 * a3) (h4 : a1 = 40) (h5 : a4 = 1) (h6 : a6 = 3) : (-2147483648 : Int) ≤ a5 + a6 := by omega
theorem oz149 {a0 a1 a2 a3 a4 : Int} (h0 : a0 ≤ 40) (h1 : a1 = a0 - a2) (h2 : a3 = 4 * a1) (h3 : a2 = 1) (h4 : a4 = 3) : a3 + a4 ≤ 2147483647 := by omega
theorem oz150 {a0 a1 a2 a3 a4 a5 a6 a7 : Int} (h0 : a0 = a1) (h1 : a2 = a0) (h2 : a3 = a2 - a4) (h3 : a5 = 4 * a3) (h4 : a6 = a5 + a7) (h5 : a1 = 40) (h6 : a4 = 1) (h7 : a7 = 3) : (0 : Int) ≤ a6 := by omega
theorem oz151 {a0 a1 a2 a3 a4 a5 : Int} (h0 : a0 ≤ 40) (h1 : a1 = a0 - a2) (h2 : a3 = 4 * a1) (h3 : a4 = a3 + a5) (h4 : a2 = 1) (h5 : a5 = 3) : a4 < 160 := by omega
theorem oz152 {a0 a1 a2 a3 a4 a5 a6 a7 a8 : Int} (h0 : a0 = a1) (h1 : a2 = a0) (h2 : a2 ≤ 40) (h3 : a3 = a2 - a4) (h4 : a5 = 4 * a3) (h5 : a6 = a5 + a7) (h6 : a1 = 40) (h7 : a4 = 1) (h8 : a7 = 3) : (a6 % 4) = 0 → (0 : Int) ≤ a8 ∧ a8 ≤ 7 := by omega
theorem oz153 {a0 a1 a2 a3 a4 a5 a6 a7 a8 : Int} (h0 : a0 = a1) (h1 : a2 = a0) (h2 : a2 ≤ 40) (h3 : a3 = a2 - a4) (h4 : a5 = 4 * a3) (h5 : a6 = a5 + a7) (h6 : a1 = 40) (h7 : a4 = 1) (h8 : a7 = 3) : (a6 % 4) = 1 → (0 : Int) ≤ a8 ∧ a8 ≤ 6 := by omega
theorem oz154 {a0 a1 a2 : Int} (h0 : (0 : Int) ≤ a0) (h1 : a1 = a0 - a2) (h2 : a2 = 1) : (-2147483648 : Int) ≤ a1 + a2 := by omega
theorem oz155 {a0 a1 a2 a3 : Int} (h0 : a0 ≤ 40) (h1 : a1 = a0 - a2) (h2 : a3 = 4 * a1) (h3 : a2 = 1) : a1 + a2 ≤ 2147483647 := by omega
theorem oz156 {a0 a1 a2 a3 : Int} (h0 : (0 : Int) ≤ a0) (h1 : a1 = a0 - a2) (h2 : a3 = a1 + a2) (h3 : a2 = 1) : (0 : Int) ≤ a3 := by omega
theorem oz157 {a0 a1 a2 a3 a4 : Int} (h0 : a0 ≤ 40) (h1 : a1 = a0 - a2) (h2 : a3 = 4 * a1) (h3 : a4 = a1 + a2) (h4 : a2 = 1) : a4 ≤ 40 := by omega
theorem oz158 {a0 a1 : Int} (h0 : a0 ≤ a1) (h1 : a1 ≤ 156) (h2 : a0 = 156) : a1 = 156 := by omega
theorem oz159 {a0 a1 a2 a3 : Int} (h0 : a0 ≤ 40) (h1 : a1 = a0 - a2) (h2 : a3 = 4 * a1) (h3 : a2 = 1) : a1 ≤ 39 := by omega
theorem oz160 {a0 a1 : Int} (h0 : (0 : Int) ≤ a0) (h1 : a1 = 4) : (-2147483648 : Int) ≤ a0 + a1 := by omega
theorem oz161 {a0 a1 : Int} (h0 : a0 ≤ 156) (h1 : a1 = 4) : a0 + a1 ≤ 2147483647 := by omega
theorem oz162 {a0 a1 a2 : Int} (h0 : (0 : Int) ≤ a0) (h1 : a1 = a0 + a2) (h2 : a2 = 4) : (0 : Int) ≤ a1 := by omega
theorem oz163 {a0 a1 a2 a3 : Int} (h0 : a0 < a1) (h1 : a2 = a0 + a3) (h2 : a1 = 156) (h3 : a3 = 4) : a2 < 160 := by omega
theorem oz164 {a0 : Int} (h0 : a0 ≤ 156) : a0 < 160 := by omega
theorem oz165 {a0 a1 : Int} (h0 : a0 ≤ 156) (h1 : a1 = 1) : a0 + a1 ≤ 2147483647 := by omega
theorem oz166 {a0 a1 a2 a3 : Int} (h0 : a0 < a1) (h1 : (0 : Int) ≤ a0) (h2 : a2 = a0 + a3) (h3 : a1 = 156) (h4 : a3 = 1) : ((0 : Int) ≤ a2) ∧ (a2 ≤ 156) := by omega
theorem oz167 {a0 a1 : Int} (h0 : a0 < a1) (h1 : a1 = 156) : a0 < 156 := by omega
theorem oz168 {a0 a1 a2 : Int} (h0 : a0 = a1 + a2) (h1 : a2 = 4) : a0 = a1 + 4 := by omega
theorem oz169 {a0 a1 a2 : Int} (h0 : a0 = a1 + a2) (h1 : a2 = 1) : a0 = a1 + 1 := by omega
theorem oz170 {a0 a1 a2 : Int} (h0 : a0 = a1 + a2) (h1 : a2 = 1) : (156 - a0) < (156 - a1) := by omega
theorem oz171 {a0 a1 : Int} (h0 : a0 < a1) (h1 : a1 = 156) : (1 : Int) ≤ (156 - a0) := by omega
theorem oz172 {a0 : Int} (h0 : a0 = 0) : ((0 : Int) ≤ a0) ∧ (a0 ≤ 156) := by omega
theorem oz173 {a0 a1 : Int} (h0 : a0 ≤ a1) : a0 ≤ a1 := by omega
theorem oz174 {a0 a1 a2 a3 : Int} (h0 : a0 ≠ a1) (h1 : (0 : Int) ≤ a0) (h2 : a2 = a0 - a3) (h3 : a1 = 0) (h4 : a3 = 1) : (0 : Int) ≤ a2 := by omega
theorem oz175 {a0 a1 a2 a3 a4 : Int} (h0 : a0 ≠ a1) (h1 : (0 : Int) ≤ a0) (h2 : a2 = a0 - a3) (h3 : a4 = 4 * a2) (h4 : a1 = 0) (h5 : a3 = 1) : (0 : Int) ≤ a4 := by omega
theorem oz176 {a0 a1 a2 a3 a4 : Int} (h0 : a0 ≠ a1) (h1 : (0 : Int) ≤ a0) (h2 : a2 = a0 - a3) (h3 : a4 = 4 * a2) (h4 : a1 = 0) (h5 : a3 = 1) : (-2147483648 : Int) ≤ a4 + a3 := by omega
theorem oz177 {a0 a1 a2 a3 a4 a5 : Int} (h0 : a0 ≠ a1) (h1 : (0 : Int) ≤ a0) (h2 : a2 = a0 - a3) (h3 : a4 = 4 * a2) (h4 : a5 = a4 + a3) (h5 : a1 = 0) (h6 : a3 = 1) : (0 : Int) ≤ a5 := by omega
theorem oz178 {a0 a1 a2 a3 a4 a5 : Int} (h0 : a0 ≠ a1) (h1 : (0 : Int) ≤ a0) (h2 : a2 = a0 - a3) (h3 : a4 = 4 * a2) (h4 : a1 = 0) (h5 : a3 = 1) (h6 : a5 = 2) : (-2147483648 : Int) ≤ a4 + a5 := by omega
theorem oz179 {a0 a1 a2 a3 a4 a5 a6 : Int} (h0 : a0 ≠ a1) (h1 : (0 : Int) ≤ a0) (h2 : a2 = a0 - a3) (h3 : a4 = 4 * a2) (h4 : a5 = a4 + a6) (h5 : a1 = 0) (h6 : a3 = 1) (h7 : a6 = 2) : (0 : Int) ≤ a5 := by omega
theorem oz180 {a0 a1 a2 a3 a4 : Int} (h0 : a0 ≠ a1) (h1 : (0 : Int) ≤ a0) (h2 : a2 = a0 - a3) (h3 : a4 = 4 * a2) (h4 : a1 = 0) (h5 : a3 = 1) : (0 : Int) ≤ a2 := by omega
theorem oz181 {a0 : Int} (h0 : (0 : Int) ≤ a0) (h1 : a0 ≤ 7) : ((0 : Int) ≤ a0) ∧ (a0 ≤ 7) := by omega
theorem oz182 {a0 : Int} (h0 : (0 : Int) ≤ a0) (h1 : a0 ≤ 6) : ((0 : Int) ≤ a0) ∧ (a0 ≤ 6) := by omega
theorem oz183 {a0 a1 : Int} (h0 : (a0 = 4 → (1 : Int) ≤ a1 ∧ a1 ≤ 5)) : ((a0 = 4) → (((1 : Int) ≤ a1) ∧ (a1 ≤ 5))) := by omega
theorem oz184 {a0 a1 a2 a3 a4 a5 : Int} (h0 : a0 = a1) (h1 : a2 = a3) (h2 : a4 ≤ a1) (h3 : a3 = a4 - a5) (h4 : a5 = 1) : a2 ≤ a0 := by omega
theorem oz185 {a0 a1 a2 : Int} (h0 : a0 ≠ a1) (h1 : a1 ≤ 40) (h2 : a0 ≤ a1) (h3 : a2 = 4 * a0) : a2 < 160 := by omega
theorem oz186 {a0 a1 a2 a3 a4 : Int} (h0 : a0 ≠ a1) (h1 : a1 ≤ 40) (h2 : a0 ≤ a1) (h3 : a2 = 4 * a0) (h4 : a3 = a2 + a4) (h5 : a4 = 1) : a3 < 160 := by omega
theorem oz187 {a0 a1 a2 a3 a4 : Int} (h0 : a0 ≠ a1) (h1 : a1 ≤ 40) (h2 : a0 ≤ a1) (h3 : a2 = 4 * a0) (h4 : a3 = a2 + a4) (h5 : a4 = 3) : a3 < 160 := by omega
theorem oz188 {a0 a1 a2 a3 a4 a5 : Int} (h0 : a0 ≠ a1) (h1 : a2 = a0) (h2 : a1 ≤ 40) (h3 : a0 ≤ a1) (h4 : a3 = a2 + a4) (h5 : a5 = 4 * a0) (h6 : a4 = 1) : a3 ≤ 40 := by omega
theorem oz189 {a0 a1 a2 a3 : Int} (h0 : (0 : Int) ≤ a0) (h1 : a1 ≤ 40) (h2 : a2 = a1 + a3) (h3 : a3 = 1) : (-2147483648 : Int) ≤ a0 - a2 := by omega
theorem oz190 {a0 a1 a2 a3 : Int} (h0 : a0 ≤ 40) (h1 : (0 : Int) ≤ a1) (h2 : a2 = a1 + a3) (h3 : a3 = 1) : a0 - a2 ≤ 2147483647 := by omega
theorem oz191 {a0 a1 a2 a3 a4 a5 : Int} (h0 : a0 ≠ a1) (h1 : a2 = a1) (h2 : a3 = a0) (h3 : a0 ≤ a1) (h4 : a4 = a3 + a5) (h5 : a5 = 1) : a4 ≤ a2 := by omega
theorem oz192 {a0 a1 : Int} (h0 : a0 ≤ 120) (h1 : a1 = 1) : a0 + a1 ≤ 2147483647 := by omega
theorem oz193 {a0 a1 a2 a3 : Int} (h0 : a0 ≠ a1) (h1 : a0 ≤ 120) (h2 : a2 = a0 + a3) (h3 : a1 = 120) (h4 : a3 = 1) : a2 ≤ 120 := by omega
theorem oz194 {a0 a1 : Int} (h0 : a0 ≠ a1) (h1 : a0 ≤ 120) (h2 : a1 = 120) : a0 < 120 := by omega
theorem oz195 {a0 : Int} (h0 : a0 = 18) : (0 : Int) ≤ a0 := by omega
theorem oz196 {a0 : Int} (h0 : a0 = 18) : a0 < 31 := by omega
theorem oz197 {a0 a1 : Int} (h0 : a0 ≤ a1) (h1 : a0 = 0) : (-2147483648 : Int) ≤ 6 * a1 := by omega
theorem oz198 {a0 a1 : Int} (h0 : a0 ≤ a1) (h1 : a1 = 1) : 6 * a0 ≤ 2147483647 := by omega
theorem oz199 {a0 a1 a2 a3 : Int} (h0 : a0 = 6 * a1) (h1 : a2 ≤ a1) (h2 : a2 = 0) (h3 : a3 = 19) : (-2147483648 : Int) ≤ a3 + a0 := by omega
theorem oz200 {a0 a1 a2 a3 : Int} (h0 : a0 = 6 * a1) (h1 : a1 ≤ a2) (h2 : a2 = 1) (h3 : a3 = 19) : a3 + a0 ≤ 2147483647 := by omega
theorem oz201 {a0 a1 a2 a3 a4 a5 : Int} (h0 : a0 ≤ a1) (h1 : a2 = 6 * a3) (h2 : a4 = a5 + a2) (h3 : a0 ≤ a3) (h4 : a0 = 0) (h5 : a5 = 19) : (-2147483648 : Int) ≤ a4 + a1 := by omega
theorem oz202 {a0 a1 a2 a3 a4 a5 a6 : Int} (h0 : a0 < a1) (h1 : a1 ≤ 5) (h2 : a2 = 6 * a3) (h3 : a4 = a5 + a2) (h4 : a3 ≤ a6) (h5 : a5 = 19) (h6 : a6 = 1) : a4 + a0 ≤ 2147483647 := by omega
theorem oz205 {a0 : Int} (h0 : a0 = 0) : (a0 < 0) ∨ (a0 = 0) := by omega
theorem oz206 {a0 : Int} (h0 : a0 = (-12)) : (a0 < 0) ∨ (a0 = 0) := by omega
theorem oz207 {a0 : Int} (h0 : a0 = (-11)) : (a0 < 0) ∨ (a0 = 0) := by omega
theorem oz208 {a0 : Int} (h0 : a0 = 0) : a0 ≤ 21 := by omega
theorem oz211 {a0 : Int} (h0 : (0 : Int) ≤ a0) (h1 : a0 ≤ 21) : ((0 : Int) ≤ a0) ∧ (a0 ≤ 59) := by omega
theorem oz213 {a0 a1 a2 : Int} (h0 : a0 = a1) (h1 : (0 : Int) ≤ a0) (h2 : a2 = a1) : (0 : Int) ≤ a2 := by omega
theorem oz214 {a0 a1 a2 a3 : Int} (h0 : a0 ≤ 8) (h1 : a1 = a2) (h2 : a1 < a0) (h3 : a3 = a2) : a3 ≤ 7 := by omega
theorem oz215 {a0 a1 : Int} (h0 : a0 ≤ 21) (h1 : a1 = 1) : a0 + a1 ≤ 2147483647 := by omega
theorem oz218 {a0 a1 a2 : Int} (h0 : a0 = a1 + a2) (h1 : a2 = 1) : (20 - a0) < (20 - a1) := by omega
theorem oz220 {a0 : Int} (h0 : a0 = 0) : a0 ≤ 20 := by omega
theorem oz221 {a0 : Int} (h0 : a0 ≤ 20) : a0 ≤ 20 := by omega
theorem oz222 {a0 : Int} (h0 : a0 ≤ 20) : a0 < 21 := by omega
theorem oz223 {a0 a1 a2 : Int} (h0 : a0 ≤ 20) (h1 : a1 = a0 + a2) (h2 : a2 = 1) : a1 ≤ 21 := by omega
theorem oz224 {a0 a1 a2 a3 : Int} (h0 : a0 < a1) (h1 : a2 = a0 + a3) (h2 : a1 = 20) (h3 : a3 = 1) : a2 ≤ 20 := by omega
theorem oz225 {a0 a1 : Int} (h0 : a0 < a1) (h1 : a1 = 20) : (1 : Int) ≤ (20 - a0) := by omega
theorem oz226 {a0 a1 : Int} (h0 : a0 = 0) (h1 : (0 : Int) ≤ a1) : (-2147483648 : Int) ≤ a0 + a1 := by omega
theorem oz227 {a0 a1 a2 : Int} (h0 : a0 < a1) (h1 : a2 = 0) (h2 : a1 = 31) : a2 + a0 ≤ 2147483647 := by omega
theorem oz228 {a0 a1 : Int} (h0 : a0 < a1) (h1 : a1 = 31) : a0 < 31 := by omega
theorem oz229 {a0 a1 a2 : Int} (h0 : a0 = 0) (h1 : (0 : Int) ≤ a1) (h2 : a2 = a0 + a1) : (0 : Int) ≤ a2 := by omega
theorem oz230 {a0 a1 a2 a3 : Int} (h0 : a0 < a1) (h1 : a2 = 0) (h2 : a3 = a2 + a0) (h3 : a1 = 31) : a3 < 31 := by omega
theorem oz231 {a0 a1 a2 a3 : Int} (h0 : a0 = 0) (h1 : (a1 = 18 → (0 : Int) ≤ a2 ∧ a2 ≤ 5)) (h2 : a3 = a0 + a1) : a3 = 18 → (0 : Int) ≤ a2 ∧ a2 ≤ 5 := by omega
theorem oz232 {a0 a1 a2 a3 : Int} (h0 : a0 = 0) (h1 : (19 ≤ a1 → a1 ≤ 24 → (0 : Int) ≤ a2 ∧ a2 ≤ 7)) (h2 : a3 = a0 + a1) : 19 ≤ a3 → a3 ≤ 24 → (0 : Int) ≤ a2 ∧ a2 ≤ 7 := by omega
theorem oz233 {a0 a1 a2 : Int} (h0 : a0 < a1) (h1 : a1 = 31) (h2 : a2 = 1) : a0 + a2 ≤ 2147483647 := by omega
theorem oz234 {a0 a1 a2 : Int} (h0 : a0 = a1 + a2) (h1 : a2 = 1) : (31 - a0) < (31 - a1) := by omega
theorem oz235 {a0 a1 : Int} (h0 : a0 < a1) (h1 : a1 = 31) : (1 : Int) ≤ (31 - a0) := by omega
theorem oz236 {a0 : Int} (h0 : a0 = 0) : a0 = 0 := by omega
theorem oz237 {a0 a1 : Int} (h0 : a0 < a1) (h1 : a1 = 64) : a0 < 64 := by omega
theorem oz238 {a0 a1 a2 : Int} (h0 : a0 < a1) (h1 : a1 = 64) (h2 : a2 = 1) : a0 + a2 ≤ 2147483647 := by omega
theorem oz239 {a0 a1 a2 : Int} (h0 : a0 = a1 + a2) (h1 : a2 = 1) : (64 - a0) < (64 - a1) := by omega
theorem oz240 {a0 a1 : Int} (h0 : a0 < a1) (h1 : a1 = 64) : (1 : Int) ≤ (64 - a0) := by omega
theorem oz241 {a0 a1 : Int} (h0 : a0 < a1) (h1 : a1 ≤ 21) : a0 < 21 := by omega
theorem oz242 {a0 a1 : Int} (h0 : (0 : Int) ≤ a0) (h1 : a1 = 16) : (-2147483648 : Int) ≤ a1 + a0 := by omega
theorem oz243 {a0 a1 : Int} (h0 : a0 ≤ 7) (h1 : a1 = 16) : a1 + a0 ≤ 2147483647 := by omega
theorem oz244 {a0 a1 a2 : Int} (h0 : (0 : Int) ≤ a0) (h1 : a1 = a2 + a0) (h2 : a2 = 16) : (0 : Int) ≤ a1 := by omega
theorem oz245 {a0 a1 a2 : Int} (h0 : a0 ≤ 7) (h1 : a1 = a2 + a0) (h2 : a2 = 16) : a1 < 24 := by omega
theorem oz246 {a0 : Int} (h0 : a0 = 1) : (0 : Int) ≤ a0 := by omega
theorem oz247 {a0 : Int} (h0 : a0 = 1) : a0 < 6 := by omega
theorem oz248 {a0 : Int} (h0 : a0 ≤ 7) : a0 < 24 := by omega
theorem oz249 {a0 a1 : Int} (h0 : a0 ≤ 7) (h1 : a1 = 8) : a1 + a0 ≤ 2147483647 := by omega
theorem oz250 {a0 a1 a2 : Int} (h0 : a0 ≤ 7) (h1 : a1 = a2 + a0) (h2 : a2 = 8) : a1 < 24 := by omega
theorem oz251 {a0 a1 : Int} (h0 : (0 : Int) ≤ a0) (h1 : a1 = 10) : (-2147483648 : Int) ≤ a1 + a0 := by omega
theorem oz252 {a0 a1 : Int} (h0 : a0 ≤ 7) (h1 : a1 = 10) : a1 + a0 ≤ 2147483647 := by omega
theorem oz253 {a0 a1 a2 : Int} (h0 : (0 : Int) ≤ a0) (h1 : a1 = a2 + a0) (h2 : a2 = 10) : (0 : Int) ≤ a1 := by omega
theorem oz254 {a0 a1 a2 : Int} (h0 : a0 ≤ 7) (h1 : a1 = a2 + a0) (h2 : a2 = 10) : a1 < 31 := by omega
theorem oz255 {a0 : Int} (h0 : a0 = 0) : a0 < 6 := by omega
theorem oz256 {a0 : Int} (h0 : a0 = 2) : (0 : Int) ≤ a0 := by omega
theorem oz257 {a0 : Int} (h0 : a0 = 2) : a0 < 6 := by omega
theorem oz258 {a0 : Int} (h0 : a0 = 9) : (0 : Int) ≤ a0 := by omega
theorem oz259 {a0 : Int} (h0 : a0 = 9) : a0 < 31 := by omega
theorem oz260 {a0 : Int} (h0 : a0 = 3) : (0 : Int) ≤ a0 := by omega
theorem oz261 {a0 : Int} (h0 : a0 = 3) : a0 < 6 := by omega
theorem oz262 {a0 : Int} (h0 : a0 = 4) : (0 : Int) ≤ a0 := by omega
theorem oz263 {a0 : Int} (h0 : a0 = 4) : a0 < 6 := by omega
theorem oz264 {a0 : Int} (h0 : a0 = 5) : (0 : Int) ≤ a0 := by omega
theorem oz265 {a0 : Int} (h0 : a0 = 5) : a0 < 6 := by omega
theorem oz266 {a0 a1 : Int} (h0 : a0 < a1) (h1 : a1 ≤ 60) : a0 < 60 := by omega
theorem oz267 {a0 : Int} (h0 : a0 = 0) : a0 < 200 := by omega
theorem oz268 {a0 a1 : Int} (h0 : (0 : Int) ≤ a0) (h1 : a0 ≤ a1) : (0 : Int) ≤ a1 := by omega
theorem oz269 {a0 a1 : Int} (h0 : a0 < a1) (h1 : a1 ≤ 200) : a0 < 200 := by omega
theorem oz270 {a0 a1 : Int} (h0 : a0 < a1) : a0 < a1 := by omega
theorem oz271 {a0 a1 : Int} (h0 : a0 ≤ 200) (h1 : a1 = 1) : a0 + a1 ≤ 2147483647 := by omega
theorem oz272 {a0 a1 : Int} (h0 : a0 ≤ a1) (h1 : a1 < a0) (h2 : a0 = 18) : False := by omega
theorem oz273 {a0 a1 : Int} (h0 : a0 ≤ a1) (h1 : a0 = 18) : (-2147483648 : Int) ≤ a1 - a0 := by omega
theorem oz274 {a0 a1 : Int} (h0 : a0 ≤ 2147483647) (h1 : a1 = 18) : a0 - a1 ≤ 2147483647 := by omega
theorem oz275 {a0 a1 a2 : Int} (h0 : a0 < a1) (h1 : a1 ≤ 200) (h2 : a2 ≤ a0) : a2 < 200 := by omega
theorem oz276 {a0 a1 a2 : Int} (h0 : (0 : Int) ≤ a0) (h1 : a0 ≤ a1) (h2 : a2 = 1) : (-2147483648 : Int) ≤ a1 + a2 := by omega
theorem oz277 {a0 a1 a2 : Int} (h0 : a0 < a1) (h1 : a1 ≤ 200) (h2 : a2 = 1) : a0 + a2 ≤ 2147483647 := by omega
theorem oz278 {a0 a1 a2 a3 : Int} (h0 : a0 ≤ a1) (h1 : a2 = a1 + a3) (h2 : a3 = 1) : a0 ≤ a2 := by omega
theorem oz279 {a0 a1 a2 a3 a4 : Int} (h0 : a0 < a1) (h1 : a1 ≤ 200) (h2 : (0 : Int) ≤ a2) (h3 : a3 = a2 + a4) (h4 : a2 ≤ a0) (h5 : a4 = 1) : ((0 : Int) ≤ a3) ∧ (a3 ≤ 200) := by omega
theorem oz280 {a0 a1 a2 a3 a4 : Int} (h0 : a0 ≤ a1) (h1 : a2 = a3 + a4) (h2 : a0 = 18) (h3 : a4 = 1) : ((18 ≤ a1 ∨ a1 ≤ 5) → a2 = a3 + 1) ∧ ((a1 = 16 ∨ a1 = 17) → a2 = a3) ∧ ((6 ≤ a1 ∧ a1 ≤ 15) → a2 = a3 - 1) := by omega
theorem oz281 {a0 a1 : Int} (h0 : a0 ≤ 200) (h1 : a1 = 1) : a0 - a1 ≤ 2147483647 := by omega
theorem oz282 {a0 a1 a2 a3 a4 a5 : Int} (h0 : a0 < a1) (h1 : a0 = a2) (h2 : a3 = a4 - a5) (h3 : ((a0 = 16 ∨ a0 = 17) → (1 : Int) ≤ a4)) (h4 : a1 = 18) (h5 : a2 = 16) (h6 : a5 = 1) : (0 : Int) ≤ a3 := by omega
theorem oz283 {a0 a1 a2 : Int} (h0 : a0 ≤ 200) (h1 : a1 = a0 - a2) (h2 : a2 = 1) : a1 < 200 := by omega
theorem oz284 {a0 : Int} (h0 : (0 : Int) ≤ a0) (h1 : a0 ≤ 200) : ((0 : Int) ≤ a0) ∧ (a0 ≤ 200) := by omega
theorem oz285 {a0 a1 a2 a3 : Int} (h0 : a0 < a1) (h1 : a0 = a2) (h2 : a1 = 18) (h3 : a2 = 16) : ((18 ≤ a0 ∨ a0 ≤ 5) → a3 = a3 + 1) ∧ ((a0 = 16 ∨ a0 = 17) → a3 = a3) ∧ ((6 ≤ a0 ∧ a0 ≤ 15) → a3 = a3 - 1) := by omega
theorem oz286 {a0 a1 a2 : Int} (h0 : a0 = a1) (h1 : a0 = a2) (h2 : a1 = 16) (h3 : a2 = 17) : False := by omega
theorem oz287 {a0 a1 : Int} (h0 : (0 : Int) ≤ a0) (h1 : a1 = (-1)) : (-2147483648 : Int) ≤ a0 + a1 := by omega
theorem oz288 {a0 a1 : Int} (h0 : a0 ≤ 200) (h1 : a1 = (-1)) : a0 + a1 ≤ 2147483647 := by omega
theorem oz289 {a0 a1 a2 a3 : Int} (h0 : (0 : Int) ≤ a0) (h1 : a1 = a0 + a2) (h2 : a2 = (-1)) (h3 : a3 = 1) : (-2147483648 : Int) ≤ a1 - a3 := by omega
theorem oz290 {a0 a1 a2 a3 : Int} (h0 : a0 ≤ 200) (h1 : a1 = a0 + a2) (h2 : a2 = (-1)) (h3 : a3 = 1) : a1 - a3 ≤ 2147483647 := by omega
theorem oz291 {a0 a1 a2 a3 a4 a5 a6 a7 a8 a9 : Int} (h0 : a0 < a1) (h1 : a2 < a0) (h2 : a0 ≠ a3) (h3 : a0 ≠ a4) (h4 : a5 = a6 + a7) (h5 : a8 = a5 - a9) (h6 : ((6 ≤ a0 ∧ a0 ≤ 15) → (2 : Int) ≤ a6)) (h7 : a1 = 18) (h8 : a2 = 5) (h9 : a3 = 16) (h10 : a4 = 17) (h11 : a7 = (-1)) (h12 : a9 = 1) : (0 : Int) ≤ a8 := by omega
theorem oz292 {a0 a1 a2 a3 a4 : Int} (h0 : a0 ≤ 200) (h1 : a1 = a0 + a2) (h2 : a3 = a1 - a4) (h3 : a2 = (-1)) (h4 : a4 = 1) : a3 < 200 := by omega
theorem oz293 {a0 a1 a2 a3 a4 a5 : Int} (h0 : a0 < a1) (h1 : a2 < a0) (h2 : a3 = a4 + a5) (h3 : ((a0 = 16 ∨ a0 = 17) → (1 : Int) ≤ a4)) (h4 : ((6 ≤ a0 ∧ a0 ≤ 15) → (2 : Int) ≤ a4)) (h5 : a1 = 18) (h6 : a2 = 5) (h7 : a5 = (-1)) : (0 : Int) ≤ a3 := by omega
theorem oz294 {a0 a1 a2 : Int} (h0 : a0 ≤ 200) (h1 : a1 = a0 + a2) (h2 : a2 = (-1)) : a1 < 200 := by omega
theorem oz295 {a0 a1 : Int} (h0 : a0 ≠ a1) (h1 : a1 = 0) : a0 ≠ 0 := by omega
theorem oz296 {a0 : Int} (h0 : ¬ (a0 = 6)) (h1 : ¬ (a0 = 7)) (h2 : ¬ (a0 = 8)) (h3 : ¬ (a0 = 9)) (h4 : ¬ (a0 = 10)) (h5 : ¬ (a0 = 11)) (h6 : ¬ (a0 = 12)) (h7 : ¬ (a0 = 13)) (h8 : ¬ (a0 = 14)) : a0 < 6 ∨ 14 < a0 := by omega
theorem oz297 {a0 a1 a2 a3 a4 a5 : Int} (h0 : a0 < a1) (h1 : a2 < a0) (h2 : a3 ≤ 200) (h3 : a4 = a3 + a5) (h4 : ((a0 = 16 ∨ a0 = 17) → (1 : Int) ≤ a3)) (h5 : ((6 ≤ a0 ∧ a0 ≤ 15) → (2 : Int) ≤ a3)) (h6 : a1 = 18) (h7 : a2 = 5) (h8 : a5 = (-1)) : ((0 : Int) ≤ a4) ∧ (a4 ≤ 200) := by omega
theorem oz298 {a0 a1 a2 a3 a4 a5 a6 a7 : Int} (h0 : a0 < a1) (h1 : a2 < a0) (h2 : a0 ≠ a3) (h3 : a0 ≠ a4) (h4 : a5 = a6 + a7) (h5 : a1 = 18) (h6 : a2 = 5) (h7 : a3 = 16) (h8 : a4 = 17) (h9 : a7 = (-1)) : ((18 ≤ a0 ∨ a0 ≤ 5) → a5 = a6 + 1) ∧ ((a0 = 16 ∨ a0 = 17) → a5 = a6) ∧ ((6 ≤ a0 ∧ a0 ≤ 15) → a5 = a6 - 1) := by omega
theorem oz299 {a0 a1 a2 : Int} (h0 : a0 < a1) (h1 : a0 = a2) (h2 : a0 ≠ a2) (h3 : a1 = 18) (h4 : a2 = 17) : False := by omega
theorem oz300 {a0 a1 a2 a3 a4 a5 : Int} (h0 : a0 < a1) (h1 : a0 = a2) (h2 : a3 = a4 - a5) (h3 : ((a0 = 16 ∨ a0 = 17) → (1 : Int) ≤ a4)) (h4 : a1 = 18) (h5 : a2 = 17) (h6 : a5 = 1) : (0 : Int) ≤ a3 := by omega
theorem oz301 {a0 a1 a2 a3 : Int} (h0 : a0 < a1) (h1 : a0 = a2) (h2 : a1 = 18) (h3 : a2 = 17) : ((18 ≤ a0 ∨ a0 ≤ 5) → a3 = a3 + 1) ∧ ((a0 = 16 ∨ a0 = 17) → a3 = a3) ∧ ((6 ≤ a0 ∧ a0 ≤ 15) → a3 = a3 - 1) := by omega
theorem oz302 {a0 a1 : Int} (h0 : a0 ≤ a1) (h1 : a1 = 5) : a0 < 6 := by omega
theorem oz303 {a0 a1 a2 a3 a4 : Int} (h0 : a0 ≤ a1) (h1 : a2 = a3 + a4) (h2 : a1 = 5) (h3 : a4 = 1) : ((18 ≤ a0 ∨ a0 ≤ 5) → a2 = a3 + 1) ∧ ((a0 = 16 ∨ a0 = 17) → a2 = a3) ∧ ((6 ≤ a0 ∧ a0 ≤ 15) → a2 = a3 - 1) := by omega
theorem oz304 {a0 a1 : Int} (h0 : a0 < a1) (h1 : a1 ≤ a0) (h2 : a1 = 18) : False := by omega
theorem oz305 {a0 : Int} (h0 : a0 = 0) : ((0 : Int) ≤ a0) ∧ (a0 ≤ 200) := by omega
theorem oz306 {a0 a1 a2 : Int} (h0 : a0 < a1) (h1 : a2 = a1) : a0 < a2 := by omega
theorem oz307 {a0 a1 a2 : Int} (h0 : a0 < a1) (h1 : a1 ≤ 60) (h2 : a2 = 1) : a0 + a2 ≤ 2147483647 := by omega
theorem oz308 {a0 a1 a2 a3 a4 : Int} (h0 : a0 = a1) (h1 : a2 = a3 + a4) (h2 : a4 = 1) : (a0 - a2) < (a1 - a3) := by omega
theorem oz309 {a0 a1 : Int} (h0 : (0 : Int) ≤ a0) (h1 : a1 = 19) : (-2147483648 : Int) ≤ a1 + a0 := by omega
theorem oz310 {a0 a1 : Int} (h0 : a0 ≤ 5) (h1 : a1 = 19) : a1 + a0 ≤ 2147483647 := by omega
theorem oz311 {a0 a1 a2 : Int} (h0 : (0 : Int) ≤ a0) (h1 : a1 = a2 + a0) (h2 : a2 = 19) : (0 : Int) ≤ a1 := by omega
theorem oz312 {a0 a1 a2 : Int} (h0 : a0 ≤ 5) (h1 : a1 = a2 + a0) (h2 : a2 = 19) : a1 < 31 := by omega
theorem oz313 {a0 a1 a2 a3 : Int} (h0 : (0 : Int) ≤ a0) (h1 : a1 = a2 + a0) (h2 : a2 = 19) : a1 = 18 → (0 : Int) ≤ a3 ∧ a3 ≤ 5 := by omega
theorem oz314 {a0 a1 : Int} (h0 : (0 : Int) ≤ a0) (h1 : a0 ≤ 7) : 19 ≤ a1 → a1 ≤ 24 → (0 : Int) ≤ a0 ∧ a0 ≤ 7 := by omega
theorem oz315 {a0 a1 a2 a3 : Int} (h0 : (0 : Int) ≤ a0) (h1 : a1 = a2 + a0) (h2 : a2 = 19) (h3 : a3 = 18) : a3 ≠ a1 := by omega
theorem oz316 {a0 a1 : Int} (h0 : (0 : Int) ≤ a0) (h1 : a1 = 25) : (-2147483648 : Int) ≤ a1 + a0 := by omega
theorem oz317 {a0 a1 : Int} (h0 : a0 ≤ 5) (h1 : a1 = 25) : a1 + a0 ≤ 2147483647 := by omega
theorem oz318 {a0 a1 a2 : Int} (h0 : (0 : Int) ≤ a0) (h1 : a1 = a2 + a0) (h2 : a2 = 25) : (0 : Int) ≤ a1 := by omega
theorem oz319 {a0 a1 a2 : Int} (h0 : a0 ≤ 5) (h1 : a1 = a2 + a0) (h2 : a2 = 25) : a1 < 31 := by omega
theorem oz320 {a0 a1 a2 a3 : Int} (h0 : (0 : Int) ≤ a0) (h1 : a1 = a2 + a0) (h2 : a2 = 25) : a1 = 18 → (0 : Int) ≤ a3 ∧ a3 ≤ 5 := by omega
theorem oz321 {a0 a1 a2 a3 : Int} (h0 : (0 : Int) ≤ a0) (h1 : a1 = a2 + a0) (h2 : a2 = 25) : 19 ≤ a1 → a1 ≤ 24 → (0 : Int) ≤ a3 ∧ a3 ≤ 7 := by omega
theorem oz322 {a0 a1 a2 a3 : Int} (h0 : (0 : Int) ≤ a0) (h1 : a1 = a2 + a0) (h2 : a2 = 25) (h3 : a3 = 18) : a3 ≠ a1 := by omega
theorem oz323 {a0 a1 : Int} (h0 : a0 ≤ 5) (h1 : a1 = 1) : a0 + a1 ≤ 2147483647 := by omega
theorem oz324 {a0 a1 a2 a3 a4 a5 a6 a7 : Int} (h0 : a0 < a1) (h1 : a1 ≤ 5) (h2 : (0 : Int) ≤ a2) (h3 : a3 = a2 + a4) (h4 : a5 = a0) (h5 : a6 = a5) (h6 : a2 = a6) (h7 : a4 = 1) (h8 : a7 = 18) : a7 = 18 → (0 : Int) ≤ a3 ∧ a3 ≤ 5 := by omega
theorem oz325 {a0 a1 : Int} (h0 : a0 = 18) : 19 ≤ a0 → a0 ≤ 24 → (0 : Int) ≤ a1 ∧ a1 ≤ 7 := by omega
theorem oz326 {a0 a1 a2 a3 : Int} (h0 : (0 : Int) ≤ a0) (h1 : a1 = a2 + a0) (h2 : a2 = 19) (h3 : a3 = 9) : a3 ≠ a1 := by omega
theorem oz327 {a0 a1 a2 a3 : Int} (h0 : (0 : Int) ≤ a0) (h1 : a1 = a2 + a0) (h2 : a2 = 25) (h3 : a3 = 9) : a3 ≠ a1 := by omega
theorem oz328 {a0 a1 : Int} (h0 : a0 = 9) (h1 : a1 = 18) : a0 ≠ a1 := by omega
theorem oz329 {a0 a1 : Int} (h0 : a0 = 9) : a0 = 18 → (0 : Int) ≤ a1 ∧ a1 ≤ 5 := by omega
theorem oz330 {a0 a1 : Int} (h0 : a0 = 9) : 19 ≤ a0 → a0 ≤ 24 → (0 : Int) ≤ a1 ∧ a1 ≤ 7 := by omega
theorem oz331 {a0 a1 a2 a3 a4 a5 : Int} (h0 : a0 ≤ 7) (h1 : (0 : Int) ≤ a1) (h2 : a2 = a3 + a1) (h3 : a4 = a5 + a0) (h4 : a3 = 19) (h5 : a5 = 10) : a4 ≠ a2 := by omega
theorem oz332 {a0 a1 a2 a3 a4 a5 : Int} (h0 : a0 ≤ 7) (h1 : (0 : Int) ≤ a1) (h2 : a2 = a3 + a1) (h3 : a4 = a5 + a0) (h4 : a3 = 25) (h5 : a5 = 10) : a4 ≠ a2 := by omega
theorem oz333 {a0 a1 a2 a3 : Int} (h0 : a0 ≤ 7) (h1 : a1 = a2 + a0) (h2 : a2 = 10) (h3 : a3 = 18) : a1 ≠ a3 := by omega
theorem oz334 {a0 a1 a2 a3 : Int} (h0 : (0 : Int) ≤ a0) (h1 : a1 = a2 + a0) (h2 : a2 = 10) (h3 : a3 = 9) : a1 ≠ a3 := by omega
theorem oz335 {a0 a1 a2 a3 : Int} (h0 : a0 ≤ 7) (h1 : a1 = a2 + a0) (h2 : a2 = 10) : a1 = 18 → (0 : Int) ≤ a3 ∧ a3 ≤ 5 := by omega
theorem oz336 {a0 a1 a2 a3 : Int} (h0 : a0 ≤ 7) (h1 : a1 = a2 + a0) (h2 : a2 = 10) : 19 ≤ a1 → a1 ≤ 24 → (0 : Int) ≤ a3 ∧ a3 ≤ 7 := by omega
theorem oz337 {a0 : Int} (h0 : a0 = 19) : (0 : Int) ≤ a0 := by omega
theorem oz338 {a0 : Int} (h0 : a0 = 19) : a0 < 31 := by omega
theorem oz339 {a0 : Int} (h0 : a0 = 25) : (0 : Int) ≤ a0 := by omega
theorem oz340 {a0 : Int} (h0 : a0 = 25) : a0 < 31 := by omega
theorem oz341 {a0 a1 : Int} (h0 : (1 : Int) ≤ a0) (h1 : a1 = 1) : (-2147483648 : Int) ≤ a0 - a1 := by omega
theorem oz342 {a0 a1 : Int} (h0 : a0 ≤ 5) (h1 : a1 = 1) : a0 - a1 ≤ 2147483647 := by omega
theorem oz343 {a0 a1 a2 a3 : Int} (h0 : (1 : Int) ≤ a0) (h1 : a0 ≤ 5) (h2 : a1 = a0 - a2) (h3 : a2 = 1) (h4 : a3 = 18) : a3 = 18 → (0 : Int) ≤ a1 ∧ a1 ≤ 5 := by omega
theorem oz345 {a0 : Int} (h0 : (0 : Int) ≤ a0) : (-2147483648 : Int) ≤ 8 * a0 := by omega
theorem oz346 {a0 : Int} (h0 : a0 ≤ 7) : 8 * a0 ≤ 2147483647 := by omega
theorem oz347 {a0 a1 a2 : Int} (h0 : (0 : Int) ≤ a0) (h1 : (0 : Int) ≤ a1) (h2 : a2 = 8 * a1) : (-2147483648 : Int) ≤ a2 + a0 := by omega
theorem oz348 {a0 a1 a2 : Int} (h0 : a0 ≤ 7) (h1 : a1 ≤ 7) (h2 : a2 = 8 * a1) : a2 + a0 ≤ 2147483647 := by omega
theorem oz349 {a0 a1 a2 a3 : Int} (h0 : (0 : Int) ≤ a0) (h1 : (0 : Int) ≤ a1) (h2 : a2 = 8 * a1) (h3 : a3 = a2 + a0) : (0 : Int) ≤ a3 := by omega
theorem oz350 {a0 a1 a2 a3 : Int} (h0 : a0 ≤ 7) (h1 : a1 ≤ 7) (h2 : a2 = 8 * a1) (h3 : a3 = a2 + a0) : a3 < 64 := by omega
theorem oz351 {a0 a1 : Int} (h0 : a0 ≠ a1) : a1 ≠ a0 := by omega
theorem oz352 {a0 a1 : Int} (h0 : a0 ≤ 7) (h1 : a1 = 18) : a1 ≠ a0 := by omega
theorem oz355 {a0 a1 a2 : Int} (h0 : a0 < a1) (h1 : a1 ≤ 5) (h2 : a2 = 19) : a2 + a0 ≤ 2147483647 := by omega
theorem oz356 {a0 a1 : Int} (h0 : (0 : Int) ≤ a0) (h1 : a1 = 20) : (-2147483648 : Int) ≤ a1 + a0 := by omega
theorem oz357 {a0 a1 a2 : Int} (h0 : a0 < a1) (h1 : a1 ≤ 5) (h2 : a2 = 20) : a2 + a0 ≤ 2147483647 := by omega
theorem oz358 {a0 a1 a2 : Int} (h0 : (0 : Int) ≤ a0) (h1 : a1 = a2 + a0) (h2 : a2 = 20) : (0 : Int) ≤ a1 := by omega
theorem oz359 {a0 a1 a2 a3 : Int} (h0 : a0 < a1) (h1 : a1 ≤ 5) (h2 : a2 = a3 + a0) (h3 : a3 = 20) : a2 < 31 := by omega
theorem oz361 {a0 a1 a2 a3 : Int} (h0 : a0 < a1) (h1 : a1 ≤ 5) (h2 : a2 = a3 + a0) (h3 : a3 = 19) : a2 < 31 := by omega
theorem oz363 {a0 a1 a2 : Int} (h0 : a0 < a1) (h1 : a1 ≤ 5) (h2 : a2 = 25) : a2 + a0 ≤ 2147483647 := by omega
theorem oz364 {a0 a1 : Int} (h0 : (0 : Int) ≤ a0) (h1 : a1 = 26) : (-2147483648 : Int) ≤ a1 + a0 := by omega
theorem oz365 {a0 a1 a2 : Int} (h0 : a0 < a1) (h1 : a1 ≤ 5) (h2 : a2 = 26) : a2 + a0 ≤ 2147483647 := by omega
theorem oz366 {a0 a1 a2 : Int} (h0 : (0 : Int) ≤ a0) (h1 : a1 = a2 + a0) (h2 : a2 = 26) : (0 : Int) ≤ a1 := by omega
theorem oz367 {a0 a1 a2 a3 : Int} (h0 : a0 < a1) (h1 : a1 ≤ 5) (h2 : a2 = a3 + a0) (h3 : a3 = 26) : a2 < 31 := by omega
theorem oz368 {a0 a1 a2 a3 a4 : Int} (h0 : a0 = a1 + a2) (h1 : a3 = a4 + a2) (h2 : a1 = 19) (h3 : a4 = 26) : a3 ≠ a0 := by omega
theorem oz369 {a0 a1 a2 a3 : Int} (h0 : a0 < a1) (h1 : a1 ≤ 5) (h2 : a2 = a3 + a0) (h3 : a3 = 25) : a2 < 31 := by omega
theorem oz370 {a0 a1 a2 : Int} (h0 : a0 < a1) (h1 : a1 ≤ 5) (h2 : a2 = 1) : a0 + a2 ≤ 2147483647 := by omega
theorem oz372 {a0 a1 a2 : Int} (h0 : a0 = a1 + a2) (h1 : a2 = 1) : (5 - a0) < (5 - a1) := by omega
theorem oz373 {a0 a1 : Int} (h0 : a0 < a1) (h1 : a1 ≤ 5) : (1 : Int) ≤ (5 - a0) := by omega
theorem oz374 {a0 a1 a2 a3 : Int} (h0 : a0 = a1 - a2) (h1 : a3 = a0) (h2 : a2 = 1) : a3 = (a1 - 1) := by omega
theorem oz375 {a0 a1 a2 a3 a4 : Int} (h0 : a0 = (a1 - 1)) (h1 : a2 = a0) (h2 : a3 = a2) (h3 : a4 = a3) : a4 = (a1 - 1) := by omega
theorem oz376 {a0 a1 : Int} (h0 : a0 = (a1 - 1)) : a0 = (a1 - 1) := by omega
theorem oz377 {a0 a1 a2 a3 a4 a5 : Int} (h0 : a0 < a1) (h1 : (0 : Int) ≤ a0) (h2 : (19 ≤ a2 → a2 ≤ 24 → (0 : Int) ≤ a3 ∧ a3 ≤ 7)) (h3 : a1 ≤ 5) (h4 : a2 = a4 + a0) (h5 : a4 = 20) : 19 ≤ a5 → a5 ≤ 24 → (0 : Int) ≤ a3 ∧ a3 ≤ 7 := by omega
theorem oz378 {a0 a1 a2 a3 : Int} (h0 : a0 = (a1 - 1)) (h1 : a2 = a0) (h2 : a3 = a2) : a3 = (a1 - 1) := by omega
theorem oz379 {a0 a1 : Int} (h0 : a0 ≤ a1) (h1 : (1 : Int) ≤ a0) : (1 : Int) ≤ a1 := by omega
theorem oz380 {a0 a1 : Int} (h0 : a0 = (a1 - 1)) : a0 < a1 := by omega
theorem oz381 {a0 a1 a2 : Int} (h0 : a0 < a1) (h1 : a1 ≤ 21) (h2 : a2 = 1) : a0 + a2 ≤ 2147483647 := by omega
theorem oz382 {a0 a1 a2 a3 a4 : Int} (h0 : a0 ≠ a1) (h1 : a0 ≠ a2) (h2 : a0 ≠ a3) (h3 : a0 ≠ a4) (h4 : a1 ≤ a0) (h5 : a0 ≤ a4) (h6 : a1 = 0) (h7 : a2 = 1) (h8 : a3 = 2) (h9 : a4 = 3) : False := by omega
theorem oz383 {a0 a1 a2 a3 : Int} (h0 : a0 = 0) (h1 : (a1 = 18 → (0 : Int) ≤ a2 ∧ a2 ≤ 5)) (h2 : a1 = a0 + a3) : a3 = 18 → (0 : Int) ≤ a2 ∧ a2 ≤ 5 := by omega
theorem oz384 {a0 a1 a2 a3 : Int} (h0 : a0 = 0) (h1 : (19 ≤ a1 → a1 ≤ 24 → (0 : Int) ≤ a2 ∧ a2 ≤ 7)) (h2 : a1 = a0 + a3) : 19 ≤ a3 → a3 ≤ 24 → (0 : Int) ≤ a2 ∧ a2 ≤ 7 := by omega
theorem oz385 {a0 a1 : Int} (h0 : a0 ≤ 8) (h1 : a1 < a0) : a1 < 31 := by omega
theorem oz386 {a0 a1 a2 : Int} (h0 : a0 = a1) (h1 : a0 = a2) (h2 : a1 = 3) (h3 : a2 = 2) : False := by omega
theorem oz387 {a0 a1 a2 : Int} (h0 : a0 = a1) (h1 : a0 = a2) (h2 : a1 = 3) (h3 : a2 = 1) : False := by omega
theorem oz388 {a0 a1 a2 : Int} (h0 : a0 = a1) (h1 : a0 = a2) (h2 : a1 = 3) (h3 : a2 = 0) : False := by omega
theorem oz389 {a0 a1 : Int} (h0 : a0 ≤ a1) (h1 : a0 = 0) : (0 : Int) ≤ a1 := by omega
set_option maxRecDepth 100000 in
theorem kc131 {i : Nat → Int32} {a : Nat → List Int32} {q : Nat → List Int64} {r : Nat → Nat} (hI : kI i a q) (hr : kr r) (x1 : Int32) (x2 : Int32) (x3 : Int32) : km 1 131 [.int x1, .int x2, .int x3] (ks i a q r) (kPI (ks i a q r) (fun v => (v = 1 ∧ ((x2.toInt ≤ x1.toInt) ∧ (x1.toInt ≤ x3.toInt))) ∨ (v = 0 ∧ (¬ ((x2.toInt ≤ x1.toInt) ∧ (x1.toInt ≤ x3.toInt)))))) := by
  have hG := kG_self kW0 hI hr
  refine km_ofPI (q := (mi_h131, mi_c131)) rfl (by decide) (Nat.le_of_ble_eq_true rfl) ?_
  intro P hP
  refine ft_go mi_k131 2 2 [(0, .int x1), (1, .int x2), (2, .int x3)] [.int x2, .int x1] i a q r (by rfl) ?_
  refine ft_if mi_k131 (decide (x1 < x2)) 14 5 [(0, .int x1), (1, .int x2), (2, .int x3)] [] (by rfl) (fun c => ?_) (fun c => ?_)
  ·
    have c1 : x1.toInt < x2.toInt := kd_lt c; clear c
    refine ft_go mi_k131 1 15 [(0, .int x1), (1, .int x2), (2, .int x3)] [.int 0] i a q r (by rfl) ?_
    exact ft_ret mi_k131 (by rfl) (hP 0 (Or.inr ⟨rfl, (oz0 c1)⟩))
  ·
    have c2 : x2.toInt ≤ x1.toInt := kd_ltF c; clear c
    refine ft_go mi_k131 2 7 [(0, .int x1), (1, .int x2), (2, .int x3)] [.int x3, .int x1] i a q r (by rfl) ?_
    refine ft_if mi_k131 (decide (x3 < x1)) 14 10 [(0, .int x1), (1, .int x2), (2, .int x3)] [] (by rfl) (fun c => ?_) (fun c => ?_)
    ·
      have c3 : x3.toInt < x1.toInt := kd_lt c; clear c
      refine ft_go mi_k131 1 15 [(0, .int x1), (1, .int x2), (2, .int x3)] [.int 0] i a q r (by rfl) ?_
      exact ft_ret mi_k131 (by rfl) (hP 0 (Or.inr ⟨rfl, (oz1 c3)⟩))
    ·
      have c4 : x1.toInt ≤ x3.toInt := kd_ltF c; clear c
      refine ft_go mi_k131 2 15 [(0, .int x1), (1, .int x2), (2, .int x3)] [.int 1] i a q r (by rfl) ?_
      exact ft_ret mi_k131 (by rfl) (hP 1 (Or.inl ⟨rfl, (oz2 c2 c4)⟩))
set_option maxRecDepth 100000 in
theorem kc133 {i : Nat → Int32} {a : Nat → List Int32} {q : Nat → List Int64} {r : Nat → Nat} (hI : kI i a q) (hr : kr r) (x1 : Int32) : km 3 133 [.int x1] (ks i a q r) (kPI (ks i a q r) (fun v => (v = 1 ∧ (((0 : Int) ≤ x1.toInt) ∧ (x1.toInt ≤ 5))) ∨ (v = 0 ∧ (¬ (((0 : Int) ≤ x1.toInt) ∧ (x1.toInt ≤ 5)))))) := by
  have hG := kG_self kW0 hI hr
  refine km_ofPI (q := (mi_h133, mi_c133)) rfl (by decide) (Nat.le_of_ble_eq_true rfl) ?_
  intro P hP
  refine ft_go mi_k133 3 3 [(0, .int x1)] [.int 5, .int 0, .int x1] i a q r (by rfl) ?_
  refine ko_callPI mi_k133.1 (pc := 3) (ls := [(0, .int x1)]) (st := [.int 5, .int 0, .int x1]) (h := ks i a q r) (i := (.invokestatic 119, 3, 131, 0, 9, 0, 379)) (mi_k133.2 _ _ (by rfl)) (ft_invS mi_pq131 (by rfl)) (cy := mi_c131) mi_pq131 rfl (kc131 hG.I hG.R x1 0 5) (by decide) ?_
  intro vg1 hg1
  rcases hg1 with ⟨eg1, hg1⟩ | ⟨eg1, hg1⟩
  ·
    subst eg1
    have z2 : ((0 : Int32).toInt ≤ x1.toInt) ∧ (x1.toInt ≤ (5 : Int32).toInt) := hg1
    exact ft_ret mi_k133 (by rfl) (hP 1 (Or.inl ⟨rfl, (oz17 z2.1 z2.2 kn0 kn5)⟩))
  ·
    subst eg1
    have z3 : ¬ (((0 : Int32).toInt ≤ x1.toInt) ∧ (x1.toInt ≤ (5 : Int32).toInt)) := hg1
    exact ft_ret mi_k133 (by rfl) (hP 0 (Or.inr ⟨rfl, (oz18 z3 kn0 kn5)⟩))
set_option maxRecDepth 100000 in
theorem kc137_116 {i : Nat → Int32} {a : Nat → List Int32} {q : Nat → List Int64} {r : Nat → Nat} (hI : kI i a q) (hr : kr r) (x1 : Int32) (x2 : Int32) (hp0 : ((0 : Int) ≤ x1.toInt) ∧ (x1.toInt ≤ 5)) (hp1 : ((0 : Int) ≤ x2.toInt) ∧ (x2.toInt ≤ 59)) : km 1 137 [.ref 116, .int x1, .int x2] (ks i a q r) (kPI (ks i a q r) (fun v => v.toInt = (((q 138).getD ((60 * x1) + x2).toNatClampNeg 0).toInt32).toInt)) := by
  have hG := kG_self kW0 hI hr
  refine km_ofPI (q := (mi_h137, mi_c137)) rfl (by decide) (Nat.le_of_ble_eq_true rfl) ?_
  intro P hP
  have s1 : (60 * x1).toInt = 60 * x1.toInt := kd_cmul 60 kn60 (oz28 hp0.1) (oz29 hp0.2)
  have s2 : ((60 * x1) + x2).toInt = (60 * x1).toInt + x2.toInt := kd_add (oz30 hp0.1 hp1.1 s1) (oz31 hp0.2 hp1.2 s1)
  refine ft_go mi_k137 7 10 [(0, .ref 116), (1, .int x1), (2, .int x2)] [.int ((60 * x1) + x2), .ref 138] i a q r (by rfl) ?_
  refine ko_lald2 mi_k137.1 (l := q 138) (n := 360) (c := 360) (ax := (0, 0, 0, 0, 0)) (mi_k137.2 _ _ (by rfl)) (by rfl) (by rfl) (hG.I.2.2.2 138) rfl (oz32 hp0.1 hp1.1 s1 s2) (oz33 hp0.2 hp1.2 s1 s2) ?_
  refine ft_go mi_k137 1 12 [(0, .ref 116), (1, .int x1), (2, .int x2)] [.int (((q 138).getD ((60 * x1) + x2).toNatClampNeg 0).toInt32)] i a q r (by rfl) ?_
  exact ft_ret mi_k137 (by rfl) (hP (((q 138).getD ((60 * x1) + x2).toNatClampNeg 0).toInt32) oz34)
set_option maxRecDepth 100000 in
theorem kc132_116 {i : Nat → Int32} {a : Nat → List Int32} {q : Nat → List Int64} {r : Nat → Nat} (hI : kI i a q) (hr : kr r) (x1 : Int32) : km 3 132 [.ref 116, .int x1] (ks i a q r) (kPI (ks i a q r) (fun v => (v = 1 ∧ (((0 : Int) ≤ x1.toInt) ∧ (x1.toInt < (i 7424).toInt))) ∨ (v = 0 ∧ (¬ (((0 : Int) ≤ x1.toInt) ∧ (x1.toInt < (i 7424).toInt)))))) := by
  have hG := kG_self kW0 hI hr
  refine km_ofPI (q := (mi_h132, mi_c132)) rfl (by decide) (Nat.le_of_ble_eq_true rfl) ?_
  intro P hP
  have fi_7424 : ((0 : Int) ≤ (i 7424).toInt) ∧ ((i 7424).toInt ≤ 8) := hG.I.1 7424
  have s1 : ((i 7424) - 1).toInt = (i 7424).toInt - (1 : Int32).toInt := kd_sub (oz47 fi_7424.1 kn1) (oz48 fi_7424.2 kn1)
  refine ft_go mi_k132 6 8 [(0, .ref 116), (1, .int x1)] [.int ((i 7424) - 1), .int 0, .int x1] i a q r (by rfl) ?_
  refine ko_callPI mi_k132.1 (pc := 8) (ls := [(0, .ref 116), (1, .int x1)]) (st := [.int ((i 7424) - 1), .int 0, .int x1]) (h := ks i a q r) (i := (.invokestatic 119, 3, 131, 0, 9, 0, 379)) (mi_k132.2 _ _ (by rfl)) (ft_invS mi_pq131 (by rfl)) (cy := mi_c131) mi_pq131 rfl (kc131 hG.I hG.R x1 0 ((i 7424) - 1)) (by decide) ?_
  intro vg2 hg2
  rcases hg2 with ⟨eg2, hg2⟩ | ⟨eg2, hg2⟩
  ·
    subst eg2
    have z3 : ((0 : Int32).toInt ≤ x1.toInt) ∧ (x1.toInt ≤ ((i 7424) - 1).toInt) := hg2
    exact ft_ret mi_k132 (by rfl) (hP 1 (Or.inl ⟨rfl, (oz49 s1 z3.1 z3.2 kn1 kn0)⟩))
  ·
    subst eg2
    have z4 : ¬ (((0 : Int32).toInt ≤ x1.toInt) ∧ (x1.toInt ≤ ((i 7424) - 1).toInt)) := hg2
    exact ft_ret mi_k132 (by rfl) (hP 0 (Or.inr ⟨rfl, (oz50 s1 z4 kn1 kn0)⟩))
set_option maxRecDepth 100000 in
theorem kc138_116 {i : Nat → Int32} {a : Nat → List Int32} {q : Nat → List Int64} {r : Nat → Nat} (hI : kI i a q) (hr : kr r) (x1 : Int32) (x2 : Int32) : km 5 138 [.ref 116, .int x1, .int x2] (ks i a q r) (kPI (ks i a q r) (fun v => (v = 1 ∧ ((((0 : Int) ≤ x2.toInt) ∧ (x2.toInt ≤ 3) ∧ ((0 : Int) ≤ x1.toInt) ∧ (x1.toInt < (i 7424).toInt)) ∨ (((4 : Int) ≤ x2.toInt) ∧ (x2.toInt ≤ 6) ∧ (x1.toInt = 0)))) ∨ (v = 0 ∧ (¬ ((((0 : Int) ≤ x2.toInt) ∧ (x2.toInt ≤ 3) ∧ ((0 : Int) ≤ x1.toInt) ∧ (x1.toInt < (i 7424).toInt)) ∨ (((4 : Int) ≤ x2.toInt) ∧ (x2.toInt ≤ 6) ∧ (x1.toInt = 0))))))) := by
  have hG := kG_self kW0 hI hr
  refine km_ofPI (q := (mi_h138, mi_c138)) rfl (by decide) (Nat.le_of_ble_eq_true rfl) ?_
  intro P hP
  refine ft_go mi_k138 3 3 [(0, .ref 116), (1, .int x1), (2, .int x2)] [.int 3, .int 0, .int x2] i a q r (by rfl) ?_
  refine ko_callPI mi_k138.1 (pc := 3) (ls := [(0, .ref 116), (1, .int x1), (2, .int x2)]) (st := [.int 3, .int 0, .int x2]) (h := ks i a q r) (i := (.invokestatic 119, 3, 131, 0, 9, 0, 379)) (mi_k138.2 _ _ (by rfl)) (ft_invS mi_pq131 (by rfl)) (cy := mi_c131) mi_pq131 rfl (kc131 hG.I hG.R x2 0 3) (by decide) ?_
  intro vg1 hg1
  rcases hg1 with ⟨eg1, hg1⟩ | ⟨eg1, hg1⟩
  ·
    subst eg1
    have z2 : ((0 : Int32).toInt ≤ x2.toInt) ∧ (x2.toInt ≤ (3 : Int32).toInt) := hg1
    refine ft_go mi_k138 3 11 [(0, .ref 116), (1, .int x1), (2, .int x2)] [.int x1, .ref 116] i a q r (by rfl) ?_
    refine ko_callPI mi_k138.1 (pc := 11) (ls := [(0, .ref 116), (1, .int x1), (2, .int x2)]) (st := [.int x1, .ref 116]) (h := ks i a q r) (i := (.invokevirtual 137, 3, 132, 0, 9, 0, 387)) (mi_k138.2 _ _ (by rfl)) (ft_invS mi_pq132 (by rfl)) (cy := mi_c132) mi_pq132 rfl (kc132_116 hG.I hG.R x1) (by decide) ?_
    intro vg3 hg3
    rcases hg3 with ⟨eg3, hg3⟩ | ⟨eg3, hg3⟩
    ·
      subst eg3
      have z4 : ((0 : Int) ≤ x1.toInt) ∧ (x1.toInt < (i 7424).toInt) := hg3
      refine ft_go mi_k138 1 36 [(0, .ref 116), (1, .int x1), (2, .int x2)] [.int 1] i a q r (by rfl) ?_
      exact ft_ret mi_k138 (by rfl) (hP 1 (Or.inl ⟨rfl, (oz51 z2.1 z2.2 z4.1 z4.2 kn0 kn3)⟩))
    ·
      subst eg3
      have z5 : ¬ (((0 : Int) ≤ x1.toInt) ∧ (x1.toInt < (i 7424).toInt)) := hg3
      refine ft_go mi_k138 1 36 [(0, .ref 116), (1, .int x1), (2, .int x2)] [.int 0] i a q r (by rfl) ?_
      exact ft_ret mi_k138 (by rfl) (hP 0 (Or.inr ⟨rfl, (oz52 z2.2 z5 kn3)⟩))
  ·
    subst eg1
    have z6 : ¬ (((0 : Int32).toInt ≤ x2.toInt) ∧ (x2.toInt ≤ (3 : Int32).toInt)) := hg1
    refine ft_go mi_k138 4 21 [(0, .ref 116), (1, .int x1), (2, .int x2)] [.int 6, .int 4, .int x2] i a q r (by rfl) ?_
    refine ko_callPI mi_k138.1 (pc := 21) (ls := [(0, .ref 116), (1, .int x1), (2, .int x2)]) (st := [.int 6, .int 4, .int x2]) (h := ks i a q r) (i := (.invokestatic 119, 3, 131, 0, 9, 0, 379)) (mi_k138.2 _ _ (by rfl)) (ft_invS mi_pq131 (by rfl)) (cy := mi_c131) mi_pq131 rfl (kc131 hG.I hG.R x2 4 6) (by decide) ?_
    intro vg7 hg7
    rcases hg7 with ⟨eg7, hg7⟩ | ⟨eg7, hg7⟩
    ·
      subst eg7
      have z8 : ((4 : Int32).toInt ≤ x2.toInt) ∧ (x2.toInt ≤ (6 : Int32).toInt) := hg7
      refine ft_go mi_k138 2 28 [(0, .ref 116), (1, .int x1), (2, .int x2)] [.int x1] i a q r (by rfl) ?_
      refine ft_if mi_k138 (x1 != 0) 35 31 [(0, .ref 116), (1, .int x1), (2, .int x2)] [] (by rfl) (fun c => ?_) (fun c => ?_)
      ·
        have c9 : x1.toInt ≠ (0 : Int32).toInt := kd_ne c; clear c
        refine ft_go mi_k138 1 36 [(0, .ref 116), (1, .int x1), (2, .int x2)] [.int 0] i a q r (by rfl) ?_
        exact ft_ret mi_k138 (by rfl) (hP 0 (Or.inr ⟨rfl, (oz53 c9 z8.1 kn0 kn4)⟩))
      ·
        have c10 : x1.toInt = (0 : Int32).toInt := kd_neF c; clear c
        refine ft_go mi_k138 2 36 [(0, .ref 116), (1, .int x1), (2, .int x2)] [.int 1] i a q r (by rfl) ?_
        exact ft_ret mi_k138 (by rfl) (hP 1 (Or.inl ⟨rfl, (oz54 c10 z8.1 z8.2 kn0 kn4 kn6)⟩))
    ·
      subst eg7
      have z11 : ¬ (((4 : Int32).toInt ≤ x2.toInt) ∧ (x2.toInt ≤ (6 : Int32).toInt)) := hg7
      refine ft_go mi_k138 2 36 [(0, .ref 116), (1, .int x1), (2, .int x2)] [.int 0] i a q r (by rfl) ?_
      exact ft_ret mi_k138 (by rfl) (hP 0 (Or.inr ⟨rfl, (oz55 z11 z6 kn4 kn6 kn0 kn3)⟩))
set_option maxRecDepth 100000 in
theorem kc173_116 {i : Nat → Int32} {a : Nat → List Int32} {q : Nat → List Int64} {r : Nat → Nat} (hI : kI i a q) (hr : kr r) (x1 : Int32) (hp0 : ((0 : Int) ≤ x1.toInt) ∧ (x1.toInt ≤ 5)) : km 1 173 [.ref 116, .int x1] (ks i a q r) (kPI (ks i a q r) (fun v => (v.toInt < 0) ∨ (v.toInt = 0))) := by
  have hG := kG_self kW0 hI hr
  refine km_ofPI (q := (mi_h173, mi_c173)) rfl (by decide) (Nat.le_of_ble_eq_true rfl) ?_
  intro P hP
  refine ft_go mi_k173 3 5 [(0, .ref 116), (1, .int x1)] [.int x1, .ref 136] i a q r (by rfl) ?_
  refine ko_iald3 mi_k173.1 (n := 6) (c := 6) (ax := (0, 0, 0, 0, 0)) (mi_k173.2 _ _ (by rfl)) (by rfl) (ksG136 _ _ _ _) (hG.I.2.1 136) rfl (oz3 hp0.1) (oz19 hp0.2) ?_
  have r1 : ((-1 : Int) ≤ ((a 136).getD x1.toNatClampNeg 0).toInt) ∧ (((a 136).getD x1.toNatClampNeg 0).toInt ≤ 59) := hG.I.2.2.1 136 (x1.toNatClampNeg)
  refine ft_go mi_k173 1 7 [(0, .ref 116), (1, .int x1)] [.int (-1), .int ((a 136).getD x1.toNatClampNeg 0)] i a q r (by rfl) ?_
  refine ft_if mi_k173 (((a 136).getD x1.toNatClampNeg 0) != (-1)) 15 10 [(0, .ref 116), (1, .int x1)] [] (by rfl) (fun c => ?_) (fun c => ?_)
  ·
    have c2 : ((a 136).getD x1.toNatClampNeg 0).toInt ≠ ((-1) : Int32).toInt := kd_ne c; clear c
    refine ft_go mi_k173 3 20 [(0, .ref 116), (1, .int x1)] [.int x1, .ref 136] i a q r (by rfl) ?_
    refine ko_iald3 mi_k173.1 (n := 6) (c := 6) (ax := (0, 0, 0, 0, 0)) (mi_k173.2 _ _ (by rfl)) (by rfl) (ksG136 _ _ _ _) (hG.I.2.1 136) rfl (oz3 hp0.1) (oz19 hp0.2) ?_
    refine ft_if mi_k173 (((a 136).getD x1.toNatClampNeg 0) == 0) 29 24 [(0, .ref 116), (1, .int x1)] [] (by rfl) (fun c => ?_) (fun c => ?_)
    ·
      have c3 : ((a 136).getD x1.toNatClampNeg 0).toInt = (0 : Int32).toInt := kd_eq c; clear c
      refine ft_go mi_k173 1 30 [(0, .ref 116), (1, .int x1)] [.int 0] i a q r (by rfl) ?_
      exact ft_ret mi_k173 (by rfl) (hP 0 (oz205 kn0))
    ·
      have c4 : ((a 136).getD x1.toNatClampNeg 0).toInt ≠ (0 : Int32).toInt := kd_eqF c; clear c
      refine ft_go mi_k173 2 30 [(0, .ref 116), (1, .int x1)] [.int (-12)] i a q r (by rfl) ?_
      exact ft_ret mi_k173 (by rfl) (hP (-12) (oz206 knm12))
  ·
    have c5 : ((a 136).getD x1.toNatClampNeg 0).toInt = ((-1) : Int32).toInt := kd_neF c; clear c
    refine ft_go mi_k173 2 30 [(0, .ref 116), (1, .int x1)] [.int (-11)] i a q r (by rfl) ?_
    exact ft_ret mi_k173 (by rfl) (hP (-11) (oz207 knm11))
def w174_116 : kW := ([7469], [142], [], [])
def w174_116_L5 : kW := ([7469], [142], [], [])
set_option maxRecDepth 100000 in
theorem kc174_116 {i : Nat → Int32} {a : Nat → List Int32} {q : Nat → List Int64} {r : Nat → Nat} (hI : kI i a q) (hr : kr r) (x1 : Int32) (hp0 : ((0 : Int) ≤ x1.toInt) ∧ (x1.toInt ≤ 5)) : km 5 174 [.ref 116, .int x1] (ks i a q r) (kVN w174_116 i a q r (fun i1 a1 q1 r1 => (i1 7469).toInt ≤ 20)) := by
  have hG := kG_self w174_116 hI hr
  refine km_ofN (q := (mi_h174, mi_c174)) rfl (by decide) (Nat.le_of_ble_eq_true rfl) ?_
  intro P hP
  have hJ1 := kG_i hG 7469 rfl (v := 0) ⟨(oz46 kn0), (oz208 kn0)⟩
  refine ft_go mi_k174 3 5 [(0, .ref 116), (1, .int x1)] [] (ku i 7469 0) a q r (by rfl) ?_
  have lp2 : ∀ (nz : Nat) (i2 : Nat → Int32) (a2 : Nat → List Int32) (q2 : Nat → List Int64) (r2 : Nat → Nat), kG w174_116_L5 (ku i 7469 0) a q r i2 a2 q2 r2 → (i2 7469).toInt ≤ 20 → ((20 - (i2 7469).toInt)).toNat < nz → ko 5 (mi_h174, mi_c174) P (5, [(0, .ref 116), (1, .int x1)], [], (0, 0), ks i2 a2 q2 r2) := by
    intro nz
    induction nz with
    | zero =>
      intro _ _ _ _ _ _ hm
      exact absurd hm (Nat.not_lt_zero _)
    | succ nz ih2 =>
      intro i2 a2 q2 r2 hL2 p2_0 hm2
      have fi2_7469 : ((0 : Int) ≤ (i2 7469).toInt) ∧ ((i2 7469).toInt ≤ 21) := hL2.I.1 7469
      refine ft_go mi_k174 3 11 [(0, .ref 116), (1, .int x1)] [.int 20, .int (i2 7469)] i2 a2 q2 r2 (by rfl) ?_
      refine ft_if mi_k174 (decide (20 ≤ (i2 7469))) 74 14 [(0, .ref 116), (1, .int x1)] [] (by rfl) (fun c => ?_) (fun c => ?_)
      ·
        have c3 : (20 : Int32).toInt ≤ (i2 7469).toInt := kd_le c; clear c
        have hG4 := kG_call hJ1 hL2 (by decide +kernel)
        exact ft_ret mi_k174 (by rfl) (hP  _ _ _ _ hG4 (oz221 p2_0))
      ·
        have c5 : (i2 7469).toInt < (20 : Int32).toInt := kd_leF c; clear c
        refine ft_go mi_k174 5 23 [(0, .ref 116), (1, .int x1)] [.int x1, .ref 137, .int (i2 7469)] i2 a2 q2 r2 (by rfl) ?_
        refine ko_iald3 mi_k174.1 (n := 6) (c := 6) (ax := (0, 0, 0, 0, 0)) (mi_k174.2 _ _ (by rfl)) (by rfl) (ksG137 _ _ _ _) (hL2.I.2.1 137) rfl (oz3 hp0.1) (oz19 hp0.2) ?_
        have r6 : ((0 : Int) ≤ ((a2 137).getD x1.toNatClampNeg 0).toInt) ∧ (((a2 137).getD x1.toNatClampNeg 0).toInt ≤ 60) := hL2.I.2.2.1 137 (x1.toNatClampNeg)
        refine ft_if mi_k174 (decide (((a2 137).getD x1.toNatClampNeg 0) ≤ (i2 7469))) 74 27 [(0, .ref 116), (1, .int x1)] [] (by rfl) (fun c => ?_) (fun c => ?_)
        ·
          have c7 : ((a2 137).getD x1.toNatClampNeg 0).toInt ≤ (i2 7469).toInt := kd_le c; clear c
          have hG8 := kG_call hJ1 hL2 (by decide +kernel)
          exact ft_ret mi_k174 (by rfl) (hP  _ _ _ _ hG8 (oz221 p2_0))
        ·
          have c9 : (i2 7469).toInt < ((a2 137).getD x1.toNatClampNeg 0).toInt := kd_leF c; clear c
          refine ft_go mi_k174 5 34 [(0, .ref 116), (1, .int x1)] [.int (i2 7469), .int x1, .ref 116, .ref 116] i2 a2 q2 r2 (by rfl) ?_
          refine ko_callPI mi_k174.1 (pc := 34) (ls := [(0, .ref 116), (1, .int x1)]) (st := [.int (i2 7469), .int x1, .ref 116, .ref 116]) (h := ks i2 a2 q2 r2) (i := (.invokevirtual 133, 3, 137, 0, 9, 0, 384)) (mi_k174.2 _ _ (by rfl)) (ft_invS mi_pq137 (by rfl)) (cy := mi_c137) mi_pq137 rfl (kc137_116 hL2.I hL2.R x1 (i2 7469) (oz35 hp0.1 hp0.2) (oz211 fi2_7469.1 fi2_7469.2)) (by decide) ?_
          intro vg10 hg10
          have z11 : vg10.toInt = (((q2 138).getD ((60 * x1) + (i2 7469)).toNatClampNeg 0).toInt32).toInt := hg10
          refine ko_callPI mi_k174.1 (pc := 37) (ls := [(0, .ref 116), (1, .int x1)]) (st := [.int vg10, .ref 116]) (h := ks i2 a2 q2 r2) (i := (.invokevirtual 137, 3, 132, 0, 9, 0, 387)) (mi_k174.2 _ _ (by rfl)) (ft_invS mi_pq132 (by rfl)) (cy := mi_c132) mi_pq132 rfl (kc132_116 hL2.I hL2.R vg10) (by decide) ?_
          intro vg12 hg12
          rcases hg12 with ⟨eg12, hg12⟩ | ⟨eg12, hg12⟩
          ·
            subst eg12
            have fi2_7424 : ((0 : Int) ≤ (i2 7424).toInt) ∧ ((i2 7424).toInt ≤ 8) := hL2.I.1 7424
            have z13 : ((0 : Int) ≤ vg10.toInt) ∧ (vg10.toInt < (i2 7424).toInt) := hg12
            refine ft_go mi_k174 9 57 [(0, .ref 116), (1, .int x1)] [.int (i2 7469), .int x1, .ref 116, .int (i2 7469), .ref 142] i2 a2 q2 r2 (by rfl) ?_
            refine ko_callPI mi_k174.1 (pc := 57) (ls := [(0, .ref 116), (1, .int x1)]) (st := [.int (i2 7469), .int x1, .ref 116, .int (i2 7469), .ref 142]) (h := ks i2 a2 q2 r2) (i := (.invokevirtual 133, 3, 137, 0, 9, 0, 384)) (mi_k174.2 _ _ (by rfl)) (ft_invS mi_pq137 (by rfl)) (cy := mi_c137) mi_pq137 rfl (kc137_116 hL2.I hL2.R x1 (i2 7469) (oz35 hp0.1 hp0.2) (oz211 fi2_7469.1 fi2_7469.2)) (by decide) ?_
            intro vg14 hg14
            have z15 : vg14.toInt = (((q2 138).getD ((60 * x1) + (i2 7469)).toNatClampNeg 0).toInt32).toInt := hg14
            refine ko_iast3 mi_k174.1 (n := 21) (c := 21) (ax := (0, 0, 0, 0, 0)) (mi_k174.2 _ _ (by rfl)) (by rfl) (ksG142 _ _ _ _) (ksA142 _ _ _ _) (hL2.I.2.1 142) rfl (oz3 fi2_7469.1) (oz222 p2_0) ?_
            intro a16 ea16 fa16
            have hJ16 := kG_a3 hL2 142 rfl ea16 fa16 ⟨(oz213 z11 z13.1 z15), (oz214 fi2_7424.2 z11 z13.2 z15)⟩
            have s17 : ((i2 7469) + 1).toInt = (i2 7469).toInt + (1 : Int32).toInt := kd_add (oz12 fi2_7469.1 kn1) (oz215 fi2_7469.2 kn1)
            have hJ18 := kG_i hJ16 7469 rfl (v := ((i2 7469) + 1)) ⟨(oz14 fi2_7469.1 s17 kn1), (oz223 p2_0 s17 kn1)⟩
            refine ft_go mi_k174 7 5 [(0, .ref 116), (1, .int x1)] [] (ku i2 7469 ((i2 7469) + 1)) a16 q2 r2 (by rfl) ?_
            exact ih2 _ _ _ _ hJ18 (oz224 c5 s17 kn20 kn1) (kj_meas (oz218 s17 kn1) (oz225 c5 kn20) hm2)
          ·
            subst eg12
            refine ft_go mi_k174 1 74 [(0, .ref 116), (1, .int x1)] [] i2 a2 q2 r2 (by rfl) ?_
            have hG20 := kG_call hJ1 hL2 (by decide +kernel)
            exact ft_ret mi_k174 (by rfl) (hP  _ _ _ _ hG20 (oz221 p2_0))
  exact lp2 _ _ _ _ _ (kG_self _ hJ1.I hJ1.R) (oz220 kn0) (Nat.lt_succ_self _)
set_option maxRecDepth 100000 in
theorem kc160 {i : Nat → Int32} {a : Nat → List Int32} {q : Nat → List Int64} {r : Nat → Nat} (hI : kI i a q) (hr : kr r) (x1 : Int32) (x2 : Int32) (x3 : Int32) : km 1 160 [.int x1, .int x2, .int x3] (ks i a q r) (kPI (ks i a q r) (fun v => True)) := by
  have hG := kG_self kW0 hI hr
  refine km_ofPI (q := (mi_h160, mi_c160)) rfl (by decide) (Nat.le_of_ble_eq_true rfl) ?_
  intro P hP
  refine ft_go mi_k160 1 1 [(0, .int x1), (1, .int x2), (2, .int x3)] [.int x1] i a q r (by rfl) ?_
  by_cases w1 : x1.toInt = 6
  ·
    refine ft_swx mi_k160 (pc := 1) (v := 6) (t := 52) (kj_eq w1 (by decide) : x1 = 6) (by decide +kernel) ?_
    refine ft_go mi_k160 1 53 [(0, .int x1), (1, .int x2), (2, .int x3)] [.int x2] i a q r (by rfl) ?_
    refine ft_if mi_k160 (x2 != 0) 60 56 [(0, .int x1), (1, .int x2), (2, .int x3)] [] (by rfl) (fun c => ?_) (fun c => ?_)
    ·
      have c2 : x2.toInt ≠ (0 : Int32).toInt := kd_ne c; clear c
      refine ft_go mi_k160 2 65 [(0, .int x1), (1, .int x2), (2, .int x3)] [.int 1] i a q r (by rfl) ?_
      exact ft_ret mi_k160 (by rfl) (hP 1 trivial)
    ·
      have c3 : x2.toInt = (0 : Int32).toInt := kd_neF c; clear c
      refine ft_go mi_k160 1 57 [(0, .int x1), (1, .int x2), (2, .int x3)] [.int x3] i a q r (by rfl) ?_
      refine ft_if mi_k160 (x3 == 0) 64 60 [(0, .int x1), (1, .int x2), (2, .int x3)] [] (by rfl) (fun c => ?_) (fun c => ?_)
      ·
        have c4 : x3.toInt = (0 : Int32).toInt := kd_eq c; clear c
        refine ft_go mi_k160 1 65 [(0, .int x1), (1, .int x2), (2, .int x3)] [.int 0] i a q r (by rfl) ?_
        exact ft_ret mi_k160 (by rfl) (hP 0 trivial)
      ·
        have c5 : x3.toInt ≠ (0 : Int32).toInt := kd_eqF c; clear c
        refine ft_go mi_k160 2 65 [(0, .int x1), (1, .int x2), (2, .int x3)] [.int 1] i a q r (by rfl) ?_
        exact ft_ret mi_k160 (by rfl) (hP 1 trivial)
  by_cases w6 : x1.toInt = 7
  ·
    refine ft_swx mi_k160 (pc := 1) (v := 7) (t := 66) (kj_eq w6 (by decide) : x1 = 7) (by decide +kernel) ?_
    refine ft_go mi_k160 1 67 [(0, .int x1), (1, .int x2), (2, .int x3)] [.int x2] i a q r (by rfl) ?_
    refine ft_if mi_k160 (x2 == 0) 78 70 [(0, .int x1), (1, .int x2), (2, .int x3)] [] (by rfl) (fun c => ?_) (fun c => ?_)
    ·
      have c7 : x2.toInt = (0 : Int32).toInt := kd_eq c; clear c
      refine ft_go mi_k160 1 79 [(0, .int x1), (1, .int x2), (2, .int x3)] [.int 0] i a q r (by rfl) ?_
      exact ft_ret mi_k160 (by rfl) (hP 0 trivial)
    ·
      have c8 : x2.toInt ≠ (0 : Int32).toInt := kd_eqF c; clear c
      refine ft_go mi_k160 1 71 [(0, .int x1), (1, .int x2), (2, .int x3)] [.int x3] i a q r (by rfl) ?_
      refine ft_if mi_k160 (x3 == 0) 78 74 [(0, .int x1), (1, .int x2), (2, .int x3)] [] (by rfl) (fun c => ?_) (fun c => ?_)
      ·
        have c9 : x3.toInt = (0 : Int32).toInt := kd_eq c; clear c
        refine ft_go mi_k160 1 79 [(0, .int x1), (1, .int x2), (2, .int x3)] [.int 0] i a q r (by rfl) ?_
        exact ft_ret mi_k160 (by rfl) (hP 0 trivial)
      ·
        have c10 : x3.toInt ≠ (0 : Int32).toInt := kd_eqF c; clear c
        refine ft_go mi_k160 2 79 [(0, .int x1), (1, .int x2), (2, .int x3)] [.int 1] i a q r (by rfl) ?_
        exact ft_ret mi_k160 (by rfl) (hP 1 trivial)
  by_cases w11 : x1.toInt = 8
  ·
    refine ft_swx mi_k160 (pc := 1) (v := 8) (t := 80) (kj_eq w11 (by decide) : x1 = 8) (by decide +kernel) ?_
    refine ft_go mi_k160 2 82 [(0, .int x1), (1, .int x2), (2, .int x3)] [.int x3, .int x2] i a q r (by rfl) ?_
    refine ft_if mi_k160 (decide (x3 ≤ x2)) 89 85 [(0, .int x1), (1, .int x2), (2, .int x3)] [] (by rfl) (fun c => ?_) (fun c => ?_)
    ·
      have c12 : x3.toInt ≤ x2.toInt := kd_le c; clear c
      refine ft_go mi_k160 1 90 [(0, .int x1), (1, .int x2), (2, .int x3)] [.int 0] i a q r (by rfl) ?_
      exact ft_ret mi_k160 (by rfl) (hP 0 trivial)
    ·
      have c13 : x2.toInt < x3.toInt := kd_leF c; clear c
      refine ft_go mi_k160 2 90 [(0, .int x1), (1, .int x2), (2, .int x3)] [.int 1] i a q r (by rfl) ?_
      exact ft_ret mi_k160 (by rfl) (hP 1 trivial)
  by_cases w14 : x1.toInt = 9
  ·
    refine ft_swx mi_k160 (pc := 1) (v := 9) (t := 91) (kj_eq w14 (by decide) : x1 = 9) (by decide +kernel) ?_
    refine ft_go mi_k160 2 93 [(0, .int x1), (1, .int x2), (2, .int x3)] [.int x3, .int x2] i a q r (by rfl) ?_
    refine ft_if mi_k160 (x2 != x3) 100 96 [(0, .int x1), (1, .int x2), (2, .int x3)] [] (by rfl) (fun c => ?_) (fun c => ?_)
    ·
      have c15 : x2.toInt ≠ x3.toInt := kd_ne c; clear c
      refine ft_go mi_k160 1 101 [(0, .int x1), (1, .int x2), (2, .int x3)] [.int 0] i a q r (by rfl) ?_
      exact ft_ret mi_k160 (by rfl) (hP 0 trivial)
    ·
      have c16 : x2.toInt = x3.toInt := kd_neF c; clear c
      refine ft_go mi_k160 2 101 [(0, .int x1), (1, .int x2), (2, .int x3)] [.int 1] i a q r (by rfl) ?_
      exact ft_ret mi_k160 (by rfl) (hP 1 trivial)
  by_cases w17 : x1.toInt = 10
  ·
    refine ft_swx mi_k160 (pc := 1) (v := 10) (t := 102) (kj_eq w17 (by decide) : x1 = 10) (by decide +kernel) ?_
    refine ft_go mi_k160 2 104 [(0, .int x1), (1, .int x2), (2, .int x3)] [.int x3, .int x2] i a q r (by rfl) ?_
    refine ft_if mi_k160 (decide (x2 ≤ x3)) 111 107 [(0, .int x1), (1, .int x2), (2, .int x3)] [] (by rfl) (fun c => ?_) (fun c => ?_)
    ·
      have c18 : x2.toInt ≤ x3.toInt := kd_le c; clear c
      refine ft_go mi_k160 1 112 [(0, .int x1), (1, .int x2), (2, .int x3)] [.int 0] i a q r (by rfl) ?_
      exact ft_ret mi_k160 (by rfl) (hP 0 trivial)
    ·
      have c19 : x3.toInt < x2.toInt := kd_leF c; clear c
      refine ft_go mi_k160 2 112 [(0, .int x1), (1, .int x2), (2, .int x3)] [.int 1] i a q r (by rfl) ?_
      exact ft_ret mi_k160 (by rfl) (hP 1 trivial)
  by_cases w20 : x1.toInt = 11
  ·
    refine ko_eq (x1 := (1, [(0, .int x1), (1, .int x2), (2, .int x3)], [.int 11], (0, 0), ks i a q r)) (by rw [(kj_eq w20 (by decide) : x1 = 11)]) ?_
    have b21 : ((-2147483648 : Int) ≤ x2.toInt) ∧ (x2.toInt ≤ 2147483647) := kd_bd x2
    have b22 : ((-2147483648 : Int) ≤ x3.toInt) ∧ (x3.toInt ≤ 2147483647) := kd_bd x3
    refine ft_go mi_k160 4 116 [(0, .int x1), (1, .int x2), (2, .int x3)] [.int (x2 + x3)] i a q r (by rfl) ?_
    exact ft_ret mi_k160 (by rfl) (hP (x2 + x3) trivial)
  by_cases w23 : x1.toInt = 12
  ·
    refine ko_eq (x1 := (1, [(0, .int x1), (1, .int x2), (2, .int x3)], [.int 12], (0, 0), ks i a q r)) (by rw [(kj_eq w23 (by decide) : x1 = 12)]) ?_
    have b24 : ((-2147483648 : Int) ≤ x2.toInt) ∧ (x2.toInt ≤ 2147483647) := kd_bd x2
    have b25 : ((-2147483648 : Int) ≤ x3.toInt) ∧ (x3.toInt ≤ 2147483647) := kd_bd x3
    refine ft_go mi_k160 4 120 [(0, .int x1), (1, .int x2), (2, .int x3)] [.int (x2 - x3)] i a q r (by rfl) ?_
    exact ft_ret mi_k160 (by rfl) (hP (x2 - x3) trivial)
  by_cases w26 : x1.toInt = 13
  ·
    refine ft_swx mi_k160 (pc := 1) (v := 13) (t := 121) (kj_eq w26 (by decide) : x1 = 13) (by decide +kernel) ?_
    refine ft_go mi_k160 3 124 [(0, .int x1), (1, .int x2), (2, .int x3)] [.int (x2 * x3)] i a q r (by rfl) ?_
    exact ft_ret mi_k160 (by rfl) (hP (x2 * x3) trivial)
  by_cases w27 : x1.toInt = 14
  ·
    refine ft_swx mi_k160 (pc := 1) (v := 14) (t := 125) (kj_eq w27 (by decide) : x1 = 14) (by decide +kernel) ?_
    refine ft_go mi_k160 1 126 [(0, .int x1), (1, .int x2), (2, .int x3)] [.int x3] i a q r (by rfl) ?_
    refine ft_if mi_k160 (x3 != 0) 133 129 [(0, .int x1), (1, .int x2), (2, .int x3)] [] (by rfl) (fun c => ?_) (fun c => ?_)
    ·
      have c28 : x3.toInt ≠ (0 : Int32).toInt := kd_ne c; clear c
      refine ft_go mi_k160 2 135 [(0, .int x1), (1, .int x2), (2, .int x3)] [.int x3, .int x2] i a q r (by rfl) ?_
      refine ko_idiv mi_k160.1 (ax := (0, 0, 0, 0, 0)) (mi_k160.2 _ _ (by rfl)) (oz295 c28 kn0) ?_
      exact ft_ret mi_k160 (by rfl) (hP (x2 / x3) trivial)
    ·
      have c29 : x3.toInt = (0 : Int32).toInt := kd_neF c; clear c
      refine ft_go mi_k160 2 136 [(0, .int x1), (1, .int x2), (2, .int x3)] [.int 0] i a q r (by rfl) ?_
      exact ft_ret mi_k160 (by rfl) (hP 0 trivial)
  refine ko_sw (ls := [(0, .int x1), (1, .int x2), (2, .int x3)]) (r := []) (h := ks i a q r) mi_in160 (v := x1) (i := (.tableswitch 136 6 14 #[51, 65, 79, 90, 101, 112, 116, 120, 124], 51, 0, 0, 0, 0, 0)) (by rfl) rfl (oz296 w1 w6 w11 w14 w17 w20 w23 w26 w27) 137 (by rfl) ?_
  refine ft_go mi_k160 1 138 [(0, .int x1), (1, .int x2), (2, .int x3)] [.int x3] i a q r (by rfl) ?_
  refine ft_if mi_k160 (x3 != 0) 145 141 [(0, .int x1), (1, .int x2), (2, .int x3)] [] (by rfl) (fun c => ?_) (fun c => ?_)
  ·
    have c30 : x3.toInt ≠ (0 : Int32).toInt := kd_ne c; clear c
    refine ft_go mi_k160 2 147 [(0, .int x1), (1, .int x2), (2, .int x3)] [.int x3, .int x2] i a q r (by rfl) ?_
    refine ko_irem mi_k160.1 (ax := (0, 0, 0, 0, 0)) (mi_k160.2 _ _ (by rfl)) (oz295 c30 kn0) ?_
    exact ft_ret mi_k160 (by rfl) (hP (x2 - x2 / x3 * x3) trivial)
  ·
    have c31 : x3.toInt = (0 : Int32).toInt := kd_neF c; clear c
    refine ft_go mi_k160 2 148 [(0, .int x1), (1, .int x2), (2, .int x3)] [.int 0] i a q r (by rfl) ?_
    exact ft_ret mi_k160 (by rfl) (hP 0 trivial)
def w161_116 : kW := ([], [128], [], [])
def w161_116_L5 : kW := ([], [128], [], [])
set_option maxRecDepth 100000 in
theorem kc161_116 {i : Nat → Int32} {a : Nat → List Int32} {q : Nat → List Int64} {r : Nat → Nat} (hI : kI i a q) (hr : kr r) (x1 : Int32) (x2 : Int32) (hS : kSeg (a 123) x1.toInt x2.toInt) : km 3 161 [.ref 116, .int x1, .int x2] (ks i a q r) (kVI w161_116 i a q r (fun v i1 a1 q1 r1 => True)) := by
  have hG := kG_self w161_116 hI hr
  refine km_ofI (q := (mi_h161, mi_c161)) rfl (by decide) (Nat.le_of_ble_eq_true rfl) ?_
  intro P hP
  have hs1 : (0 : Int) ≤ x1.toInt := hS.1
  have hs2 : x1.toInt ≤ x2.toInt := hS.2.1
  have hs3 : x2.toInt ≤ 200 := hS.2.2.1
  refine ft_go mi_k161 4 5 [(4, .int x1), (3, .int 0), (0, .ref 116), (1, .int x1), (2, .int x2)] [] i a q r (by rfl) ?_
  have lp4 : ∀ (nz : Nat) (i4 : Nat → Int32) (a4 : Nat → List Int32) (q4 : Nat → List Int64) (r4 : Nat → Nat) (l4_4 : Int32) (l3_4 : Int32), kG w161_116_L5 i a q r i4 a4 q4 r4 → x1.toInt ≤ l4_4.toInt → ((0 : Int) ≤ l3_4.toInt) ∧ (l3_4.toInt ≤ 200) → kWk (a4 123) x1.toInt l4_4.toInt l3_4.toInt → ((x2.toInt - l4_4.toInt)).toNat < nz → ko 3 (mi_h161, mi_c161) P (5, [(4, .int l4_4), (3, .int l3_4), (0, .ref 116), (1, .int x1), (2, .int x2)], [], (0, 0), ks i4 a4 q4 r4) := by
    intro nz
    induction nz with
    | zero =>
      intro _ _ _ _ _ _ _ _ _ _ hm
      exact absurd hm (Nat.not_lt_zero _)
    | succ nz ih4 =>
      intro i4 a4 q4 r4 l4_4 l3_4 hL4 p4_0 p4_1 O4_0 hm4
      have hS5 : kSeg (a4 123) x1.toInt x2.toInt := kSeg_cast hS (hL4.fa 123 rfl)
      refine ft_go mi_k161 2 8 [(4, .int l4_4), (3, .int l3_4), (0, .ref 116), (1, .int x1), (2, .int x2)] [.int x2, .int l4_4] i4 a4 q4 r4 (by rfl) ?_
      refine ft_if mi_k161 (decide (x2 ≤ l4_4)) 163 11 [(4, .int l4_4), (3, .int l3_4), (0, .ref 116), (1, .int x1), (2, .int x2)] [] (by rfl) (fun c => ?_) (fun c => ?_)
      ·
        have c6 : x2.toInt ≤ l4_4.toInt := kd_le c; clear c
        have hG7 := kG_call hG hL4 (by decide +kernel)
        refine ft_go mi_k161 3 168 [(4, .int l4_4), (3, .int l3_4), (0, .ref 116), (1, .int x1), (2, .int x2)] [.int 0, .ref 128] i4 a4 q4 r4 (by rfl) ?_
        refine ko_iald3 mi_k161.1 (n := 200) (c := 200) (ax := (0, 0, 0, 0, 0)) (mi_k161.2 _ _ (by rfl)) (by rfl) (ksG128 _ _ _ _) (hG7.I.2.1 128) rfl (oz46 kn0) (oz267 kn0) ?_
        exact ft_ret mi_k161 (by rfl) (hP ((a4 128).getD (0 : Int32).toNatClampNeg 0) _ _ _ _ hG7 trivial)
      ·
        have c8 : l4_4.toInt < x2.toInt := kd_leF c; clear c
        refine ft_go mi_k161 3 17 [(4, .int l4_4), (3, .int l3_4), (0, .ref 116), (1, .int x1), (2, .int x2)] [.int l4_4, .ref 123] i4 a4 q4 r4 (by rfl) ?_
        refine ko_iald3 mi_k161.1 (n := 200) (c := 200) (ax := (0, 0, 0, 0, 0)) (mi_k161.2 _ _ (by rfl)) (by rfl) (ksG123 _ _ _ _) (hL4.I.2.1 123) rfl (oz268 hs1 p4_0) (oz269 c8 hs3) ?_
        have wf9 : ((0 : Int) ≤ ((a4 123).getD l4_4.toNatClampNeg 0).toInt) ∧ (((((a4 123).getD l4_4.toNatClampNeg 0).toInt = 16 ∨ ((a4 123).getD l4_4.toNatClampNeg 0).toInt = 17) → (1 : Int) ≤ l3_4.toInt)) ∧ (((6 ≤ ((a4 123).getD l4_4.toNatClampNeg 0).toInt ∧ ((a4 123).getD l4_4.toNatClampNeg 0).toInt ≤ 15) → (2 : Int) ≤ l3_4.toInt)) ∧ (l3_4.toInt ≤ l4_4.toInt) := kWk_facts hS5 O4_0 rfl (oz270 c8)
        refine ft_go mi_k161 3 24 [(5, .int ((a4 123).getD l4_4.toNatClampNeg 0)), (4, .int l4_4), (3, .int l3_4), (0, .ref 116), (1, .int x1), (2, .int x2)] [.int 18, .int ((a4 123).getD l4_4.toNatClampNeg 0)] i4 a4 q4 r4 (by rfl) ?_
        refine ft_if mi_k161 (decide (18 ≤ ((a4 123).getD l4_4.toNatClampNeg 0))) 33 27 [(5, .int ((a4 123).getD l4_4.toNatClampNeg 0)), (4, .int l4_4), (3, .int l3_4), (0, .ref 116), (1, .int x1), (2, .int x2)] [] (by rfl) (fun c => ?_) (fun c => ?_)
        ·
          have c10 : (18 : Int32).toInt ≤ ((a4 123).getD l4_4.toNatClampNeg 0).toInt := kd_le c; clear c
          have s11 : (l3_4 + 1).toInt = l3_4.toInt + (1 : Int32).toInt := kd_add (oz12 p4_1.1 kn1) (oz271 p4_1.2 kn1)
          refine ft_go mi_k161 6 45 [(3, .int (l3_4 + 1)), (5, .int ((a4 123).getD l4_4.toNatClampNeg 0)), (4, .int l4_4), (0, .ref 116), (1, .int x1), (2, .int x2)] [.int 18, .int ((a4 123).getD l4_4.toNatClampNeg 0), .int l3_4, .ref 128] i4 a4 q4 r4 (by rfl) ?_
          refine ft_if mi_k161 (decide (((a4 123).getD l4_4.toNatClampNeg 0) < 18)) 56 48 [(3, .int (l3_4 + 1)), (5, .int ((a4 123).getD l4_4.toNatClampNeg 0)), (4, .int l4_4), (0, .ref 116), (1, .int x1), (2, .int x2)] [.int l3_4, .ref 128] (by rfl) (fun c => ?_) (fun c => ?_)
          ·
            have c12 : ((a4 123).getD l4_4.toNatClampNeg 0).toInt < (18 : Int32).toInt := kd_lt c; clear c
            exact (oz272 c10 c12 kn18).elim
          ·
            have c13 : (18 : Int32).toInt ≤ ((a4 123).getD l4_4.toNatClampNeg 0).toInt := kd_ltF c; clear c
            have b14 : ((-2147483648 : Int) ≤ ((a4 123).getD l4_4.toNatClampNeg 0).toInt) ∧ (((a4 123).getD l4_4.toNatClampNeg 0).toInt ≤ 2147483647) := kd_bd ((a4 123).getD l4_4.toNatClampNeg 0)
            have s15 : (((a4 123).getD l4_4.toNatClampNeg 0) - 18).toInt = ((a4 123).getD l4_4.toNatClampNeg 0).toInt - (18 : Int32).toInt := kd_sub (oz273 c10 kn18) (oz274 b14.2 kn18)
            refine ft_go mi_k161 4 63 [(3, .int (l3_4 + 1)), (5, .int ((a4 123).getD l4_4.toNatClampNeg 0)), (4, .int l4_4), (0, .ref 116), (1, .int x1), (2, .int x2)] [.int (((a4 123).getD l4_4.toNatClampNeg 0) - 18), .int l3_4, .ref 128] i4 a4 q4 r4 (by rfl) ?_
            refine ko_iast3 mi_k161.1 (n := 200) (c := 200) (ax := (0, 0, 0, 0, 0)) (mi_k161.2 _ _ (by rfl)) (by rfl) (ksG128 _ _ _ _) (ksA128 _ _ _ _) (hL4.I.2.1 128) rfl (oz3 p4_1.1) (oz275 c8 hs3 wf9.2.2.2) ?_
            intro a16 ea16 fa16
            have hJ16 := kG_a3 hL4 128 rfl ea16 fa16 (kd_bd _)
            have s17 : (l4_4 + 1).toInt = l4_4.toInt + (1 : Int32).toInt := kd_add (oz276 hs1 p4_0 kn1) (oz277 c8 hs3 kn1)
            refine ft_go mi_k161 3 5 [(4, .int (l4_4 + 1)), (3, .int (l3_4 + 1)), (5, .int ((a4 123).getD l4_4.toNatClampNeg 0)), (0, .ref 116), (1, .int x1), (2, .int x2)] [] i4 a16 q4 r4 (by rfl) ?_
            refine ko_perm [(4, .int (l4_4 + 1)), (3, .int (l3_4 + 1)), (0, .ref 116), (1, .int x1), (2, .int x2)] (List.forall_mem_cons.mpr ⟨(List.Mem.head _), (List.forall_mem_cons.mpr ⟨(List.Mem.tail _ (List.Mem.head _)), (List.forall_mem_cons.mpr ⟨(List.Mem.tail _ (List.Mem.tail _ (List.Mem.tail _ (List.Mem.head _)))), (List.forall_mem_cons.mpr ⟨(List.Mem.tail _ (List.Mem.tail _ (List.Mem.tail _ (List.Mem.tail _ (List.Mem.head _))))), (List.forall_mem_cons.mpr ⟨(List.Mem.tail _ (List.Mem.tail _ (List.Mem.tail _ (List.Mem.tail _ (List.Mem.tail _ (List.Mem.head _)))))), (fun _ h => absurd h List.not_mem_nil)⟩)⟩)⟩)⟩)⟩) ?_
            exact ih4 _ _ _ _ _ _ hJ16 (oz278 p4_0 s17 kn1) (oz279 c8 hs3 p4_1.1 s11 wf9.2.2.2 kn1) (kWk_cast (kWk_next hS5 O4_0 rfl (oz270 c8) (oz169 s17 kn1) (oz280 c10 s11 kn18 kn1)) (fa16 123 (by decide))) (kj_meas (oz44 s17 kn1) (oz45 c8) hm4)
        ·
          have c18 : ((a4 123).getD l4_4.toNatClampNeg 0).toInt < (18 : Int32).toInt := kd_leF c; clear c
          refine ft_go mi_k161 2 30 [(5, .int ((a4 123).getD l4_4.toNatClampNeg 0)), (4, .int l4_4), (3, .int l3_4), (0, .ref 116), (1, .int x1), (2, .int x2)] [.int 5, .int ((a4 123).getD l4_4.toNatClampNeg 0)] i4 a4 q4 r4 (by rfl) ?_
          refine ft_if mi_k161 (decide (5 < ((a4 123).getD l4_4.toNatClampNeg 0))) 67 33 [(5, .int ((a4 123).getD l4_4.toNatClampNeg 0)), (4, .int l4_4), (3, .int l3_4), (0, .ref 116), (1, .int x1), (2, .int x2)] [] (by rfl) (fun c => ?_) (fun c => ?_)
          ·
            have c19 : (5 : Int32).toInt < ((a4 123).getD l4_4.toNatClampNeg 0).toInt := kd_lt c; clear c
            refine ft_go mi_k161 2 71 [(5, .int ((a4 123).getD l4_4.toNatClampNeg 0)), (4, .int l4_4), (3, .int l3_4), (0, .ref 116), (1, .int x1), (2, .int x2)] [.int 16, .int ((a4 123).getD l4_4.toNatClampNeg 0)] i4 a4 q4 r4 (by rfl) ?_
            refine ft_if mi_k161 (((a4 123).getD l4_4.toNatClampNeg 0) == 16) 81 74 [(5, .int ((a4 123).getD l4_4.toNatClampNeg 0)), (4, .int l4_4), (3, .int l3_4), (0, .ref 116), (1, .int x1), (2, .int x2)] [] (by rfl) (fun c => ?_) (fun c => ?_)
            ·
              have c20 : ((a4 123).getD l4_4.toNatClampNeg 0).toInt = (16 : Int32).toInt := kd_eq c; clear c
              have s21 : (l3_4 - 1).toInt = l3_4.toInt - (1 : Int32).toInt := kd_sub (oz47 p4_1.1 kn1) (oz281 p4_1.2 kn1)
              refine ft_go mi_k161 7 92 [(5, .int ((a4 123).getD l4_4.toNatClampNeg 0)), (4, .int l4_4), (3, .int l3_4), (0, .ref 116), (1, .int x1), (2, .int x2)] [.int 17, .int ((a4 123).getD l4_4.toNatClampNeg 0), .int (l3_4 - 1), .ref 128] i4 a4 q4 r4 (by rfl) ?_
              refine ft_if mi_k161 (((a4 123).getD l4_4.toNatClampNeg 0) != 17) 107 95 [(5, .int ((a4 123).getD l4_4.toNatClampNeg 0)), (4, .int l4_4), (3, .int l3_4), (0, .ref 116), (1, .int x1), (2, .int x2)] [.int (l3_4 - 1), .ref 128] (by rfl) (fun c => ?_) (fun c => ?_)
              ·
                have c22 : ((a4 123).getD l4_4.toNatClampNeg 0).toInt ≠ (17 : Int32).toInt := kd_ne c; clear c
                refine ft_go mi_k161 5 114 [(5, .int ((a4 123).getD l4_4.toNatClampNeg 0)), (4, .int l4_4), (3, .int l3_4), (0, .ref 116), (1, .int x1), (2, .int x2)] [.int (l3_4 - 1), .ref 128, .int (l3_4 - 1), .ref 128] i4 a4 q4 r4 (by rfl) ?_
                refine ko_iald3 mi_k161.1 (n := 200) (c := 200) (ax := (0, 0, 0, 0, 0)) (mi_k161.2 _ _ (by rfl)) (by rfl) (ksG128 _ _ _ _) (hL4.I.2.1 128) rfl (oz282 c18 c20 s21 wf9.2.1 kn18 kn16 kn1) (oz283 p4_1.2 s21 kn1) ?_
                refine ft_if mi_k161 (((a4 128).getD (l3_4 - 1).toNatClampNeg 0) != 0) 122 118 [(5, .int ((a4 123).getD l4_4.toNatClampNeg 0)), (4, .int l4_4), (3, .int l3_4), (0, .ref 116), (1, .int x1), (2, .int x2)] [.int (l3_4 - 1), .ref 128] (by rfl) (fun c => ?_) (fun c => ?_)
                ·
                  have c23 : ((a4 128).getD (l3_4 - 1).toNatClampNeg 0).toInt ≠ (0 : Int32).toInt := kd_ne c; clear c
                  refine ft_go mi_k161 1 123 [(5, .int ((a4 123).getD l4_4.toNatClampNeg 0)), (4, .int l4_4), (3, .int l3_4), (0, .ref 116), (1, .int x1), (2, .int x2)] [.int 0, .int (l3_4 - 1), .ref 128] i4 a4 q4 r4 (by rfl) ?_
                  refine ko_iast3 mi_k161.1 (n := 200) (c := 200) (ax := (0, 0, 0, 0, 0)) (mi_k161.2 _ _ (by rfl)) (by rfl) (ksG128 _ _ _ _) (ksA128 _ _ _ _) (hL4.I.2.1 128) rfl (oz282 c18 c20 s21 wf9.2.1 kn18 kn16 kn1) (oz283 p4_1.2 s21 kn1) ?_
                  intro a24 ea24 fa24
                  have hJ24 := kG_a3 hL4 128 rfl ea24 fa24 (kd_bd _)
                  have s25 : (l4_4 + 1).toInt = l4_4.toInt + (1 : Int32).toInt := kd_add (oz276 hs1 p4_0 kn1) (oz277 c8 hs3 kn1)
                  refine ft_go mi_k161 3 5 [(4, .int (l4_4 + 1)), (5, .int ((a4 123).getD l4_4.toNatClampNeg 0)), (3, .int l3_4), (0, .ref 116), (1, .int x1), (2, .int x2)] [] i4 a24 q4 r4 (by rfl) ?_
                  refine ko_perm [(4, .int (l4_4 + 1)), (3, .int l3_4), (0, .ref 116), (1, .int x1), (2, .int x2)] (List.forall_mem_cons.mpr ⟨(List.Mem.head _), (List.forall_mem_cons.mpr ⟨(List.Mem.tail _ (List.Mem.tail _ (List.Mem.head _))), (List.forall_mem_cons.mpr ⟨(List.Mem.tail _ (List.Mem.tail _ (List.Mem.tail _ (List.Mem.head _)))), (List.forall_mem_cons.mpr ⟨(List.Mem.tail _ (List.Mem.tail _ (List.Mem.tail _ (List.Mem.tail _ (List.Mem.head _))))), (List.forall_mem_cons.mpr ⟨(List.Mem.tail _ (List.Mem.tail _ (List.Mem.tail _ (List.Mem.tail _ (List.Mem.tail _ (List.Mem.head _)))))), (fun _ h => absurd h List.not_mem_nil)⟩)⟩)⟩)⟩)⟩) ?_
                  exact ih4 _ _ _ _ _ _ hJ24 (oz278 p4_0 s25 kn1) (oz284 p4_1.1 p4_1.2) (kWk_cast (kWk_next hS5 O4_0 rfl (oz270 c8) (oz169 s25 kn1) (oz285 c18 c20 kn18 kn16)) (fa24 123 (by decide))) (kj_meas (oz44 s25 kn1) (oz45 c8) hm4)
                ·
                  have c26 : ((a4 128).getD (l3_4 - 1).toNatClampNeg 0).toInt = (0 : Int32).toInt := kd_neF c; clear c
                  refine ft_go mi_k161 2 123 [(5, .int ((a4 123).getD l4_4.toNatClampNeg 0)), (4, .int l4_4), (3, .int l3_4), (0, .ref 116), (1, .int x1), (2, .int x2)] [.int 1, .int (l3_4 - 1), .ref 128] i4 a4 q4 r4 (by rfl) ?_
                  refine ko_iast3 mi_k161.1 (n := 200) (c := 200) (ax := (0, 0, 0, 0, 0)) (mi_k161.2 _ _ (by rfl)) (by rfl) (ksG128 _ _ _ _) (ksA128 _ _ _ _) (hL4.I.2.1 128) rfl (oz282 c18 c20 s21 wf9.2.1 kn18 kn16 kn1) (oz283 p4_1.2 s21 kn1) ?_
                  intro a27 ea27 fa27
                  have hJ27 := kG_a3 hL4 128 rfl ea27 fa27 (kd_bd _)
                  have s28 : (l4_4 + 1).toInt = l4_4.toInt + (1 : Int32).toInt := kd_add (oz276 hs1 p4_0 kn1) (oz277 c8 hs3 kn1)
                  refine ft_go mi_k161 3 5 [(4, .int (l4_4 + 1)), (5, .int ((a4 123).getD l4_4.toNatClampNeg 0)), (3, .int l3_4), (0, .ref 116), (1, .int x1), (2, .int x2)] [] i4 a27 q4 r4 (by rfl) ?_
                  refine ko_perm [(4, .int (l4_4 + 1)), (3, .int l3_4), (0, .ref 116), (1, .int x1), (2, .int x2)] (List.forall_mem_cons.mpr ⟨(List.Mem.head _), (List.forall_mem_cons.mpr ⟨(List.Mem.tail _ (List.Mem.tail _ (List.Mem.head _))), (List.forall_mem_cons.mpr ⟨(List.Mem.tail _ (List.Mem.tail _ (List.Mem.tail _ (List.Mem.head _)))), (List.forall_mem_cons.mpr ⟨(List.Mem.tail _ (List.Mem.tail _ (List.Mem.tail _ (List.Mem.tail _ (List.Mem.head _))))), (List.forall_mem_cons.mpr ⟨(List.Mem.tail _ (List.Mem.tail _ (List.Mem.tail _ (List.Mem.tail _ (List.Mem.tail _ (List.Mem.head _)))))), (fun _ h => absurd h List.not_mem_nil)⟩)⟩)⟩)⟩)⟩) ?_
                  exact ih4 _ _ _ _ _ _ hJ27 (oz278 p4_0 s28 kn1) (oz284 p4_1.1 p4_1.2) (kWk_cast (kWk_next hS5 O4_0 rfl (oz270 c8) (oz169 s28 kn1) (oz285 c18 c20 kn18 kn16)) (fa27 123 (by decide))) (kj_meas (oz44 s28 kn1) (oz45 c8) hm4)
              ·
                have c29 : ((a4 123).getD l4_4.toNatClampNeg 0).toInt = (17 : Int32).toInt := kd_neF c; clear c
                exact (oz286 c20 c29 kn16 kn17).elim
            ·
              have c30 : ((a4 123).getD l4_4.toNatClampNeg 0).toInt ≠ (16 : Int32).toInt := kd_eqF c; clear c
              refine ft_go mi_k161 2 78 [(5, .int ((a4 123).getD l4_4.toNatClampNeg 0)), (4, .int l4_4), (3, .int l3_4), (0, .ref 116), (1, .int x1), (2, .int x2)] [.int 17, .int ((a4 123).getD l4_4.toNatClampNeg 0)] i4 a4 q4 r4 (by rfl) ?_
              refine ft_if mi_k161 (((a4 123).getD l4_4.toNatClampNeg 0) != 17) 127 81 [(5, .int ((a4 123).getD l4_4.toNatClampNeg 0)), (4, .int l4_4), (3, .int l3_4), (0, .ref 116), (1, .int x1), (2, .int x2)] [] (by rfl) (fun c => ?_) (fun c => ?_)
              ·
                have c31 : ((a4 123).getD l4_4.toNatClampNeg 0).toInt ≠ (17 : Int32).toInt := kd_ne c; clear c
                have s32 : (l3_4 + (-1)).toInt = l3_4.toInt + ((-1) : Int32).toInt := kd_add (oz287 p4_1.1 knm1) (oz288 p4_1.2 knm1)
                have s33 : ((l3_4 + (-1)) - 1).toInt = (l3_4 + (-1)).toInt - (1 : Int32).toInt := kd_sub (oz289 p4_1.1 s32 knm1 kn1) (oz290 p4_1.2 s32 knm1 kn1)
                refine ft_go mi_k161 12 146 [(3, .int (l3_4 + (-1))), (5, .int ((a4 123).getD l4_4.toNatClampNeg 0)), (4, .int l4_4), (0, .ref 116), (1, .int x1), (2, .int x2)] [.int ((l3_4 + (-1)) - 1), .ref 128, .int ((a4 123).getD l4_4.toNatClampNeg 0), .int ((l3_4 + (-1)) - 1), .ref 128] i4 a4 q4 r4 (by rfl) ?_
                refine ko_iald3 mi_k161.1 (n := 200) (c := 200) (ax := (0, 0, 0, 0, 0)) (mi_k161.2 _ _ (by rfl)) (by rfl) (ksG128 _ _ _ _) (hL4.I.2.1 128) rfl (oz291 c18 c19 c30 c31 s32 s33 wf9.2.2.1 kn18 kn5 kn16 kn17 knm1 kn1) (oz292 p4_1.2 s32 s33 knm1 kn1) ?_
                refine ft_go mi_k161 3 152 [(3, .int (l3_4 + (-1))), (5, .int ((a4 123).getD l4_4.toNatClampNeg 0)), (4, .int l4_4), (0, .ref 116), (1, .int x1), (2, .int x2)] [.int (l3_4 + (-1)), .ref 128, .int ((a4 128).getD ((l3_4 + (-1)) - 1).toNatClampNeg 0), .int ((a4 123).getD l4_4.toNatClampNeg 0), .int ((l3_4 + (-1)) - 1), .ref 128] i4 a4 q4 r4 (by rfl) ?_
                refine ko_iald3 mi_k161.1 (n := 200) (c := 200) (ax := (0, 0, 0, 0, 0)) (mi_k161.2 _ _ (by rfl)) (by rfl) (ksG128 _ _ _ _) (hL4.I.2.1 128) rfl (oz293 c18 c19 s32 wf9.2.1 wf9.2.2.1 kn18 kn5 knm1) (oz294 p4_1.2 s32 knm1) ?_
                refine ko_callPI mi_k161.1 (pc := 153) (ls := [(3, .int (l3_4 + (-1))), (5, .int ((a4 123).getD l4_4.toNatClampNeg 0)), (4, .int l4_4), (0, .ref 116), (1, .int x1), (2, .int x2)]) (st := [.int ((a4 128).getD (l3_4 + (-1)).toNatClampNeg 0), .int ((a4 128).getD ((l3_4 + (-1)) - 1).toNatClampNeg 0), .int ((a4 123).getD l4_4.toNatClampNeg 0), .int ((l3_4 + (-1)) - 1), .ref 128]) (h := ks i4 a4 q4 r4) (i := (.invokestatic 221, 3, 160, 0, 9, 0, 421)) (mi_k161.2 _ _ (by rfl)) (ft_invS mi_pq160 (by rfl)) (cy := mi_c160) mi_pq160 rfl (kc160 hL4.I hL4.R ((a4 123).getD l4_4.toNatClampNeg 0) ((a4 128).getD ((l3_4 + (-1)) - 1).toNatClampNeg 0) ((a4 128).getD (l3_4 + (-1)).toNatClampNeg 0)) (by decide) ?_
                intro vg34 hg34
                refine ko_iast3 mi_k161.1 (n := 200) (c := 200) (ax := (0, 0, 0, 0, 0)) (mi_k161.2 _ _ (by rfl)) (by rfl) (ksG128 _ _ _ _) (ksA128 _ _ _ _) (hL4.I.2.1 128) rfl (oz291 c18 c19 c30 c31 s32 s33 wf9.2.2.1 kn18 kn5 kn16 kn17 knm1 kn1) (oz292 p4_1.2 s32 s33 knm1 kn1) ?_
                intro a35 ea35 fa35
                have hJ35 := kG_a3 hL4 128 rfl ea35 fa35 (kd_bd _)
                have s36 : (l4_4 + 1).toInt = l4_4.toInt + (1 : Int32).toInt := kd_add (oz276 hs1 p4_0 kn1) (oz277 c8 hs3 kn1)
                refine ft_go mi_k161 2 5 [(4, .int (l4_4 + 1)), (3, .int (l3_4 + (-1))), (5, .int ((a4 123).getD l4_4.toNatClampNeg 0)), (0, .ref 116), (1, .int x1), (2, .int x2)] [] i4 a35 q4 r4 (by rfl) ?_
                refine ko_perm [(4, .int (l4_4 + 1)), (3, .int (l3_4 + (-1))), (0, .ref 116), (1, .int x1), (2, .int x2)] (List.forall_mem_cons.mpr ⟨(List.Mem.head _), (List.forall_mem_cons.mpr ⟨(List.Mem.tail _ (List.Mem.head _)), (List.forall_mem_cons.mpr ⟨(List.Mem.tail _ (List.Mem.tail _ (List.Mem.tail _ (List.Mem.head _)))), (List.forall_mem_cons.mpr ⟨(List.Mem.tail _ (List.Mem.tail _ (List.Mem.tail _ (List.Mem.tail _ (List.Mem.head _))))), (List.forall_mem_cons.mpr ⟨(List.Mem.tail _ (List.Mem.tail _ (List.Mem.tail _ (List.Mem.tail _ (List.Mem.tail _ (List.Mem.head _)))))), (fun _ h => absurd h List.not_mem_nil)⟩)⟩)⟩)⟩)⟩) ?_
                exact ih4 _ _ _ _ _ _ hJ35 (oz278 p4_0 s36 kn1) (oz297 c18 c19 p4_1.2 s32 wf9.2.1 wf9.2.2.1 kn18 kn5 knm1) (kWk_cast (kWk_next hS5 O4_0 rfl (oz270 c8) (oz169 s36 kn1) (oz298 c18 c19 c30 c31 s32 kn18 kn5 kn16 kn17 knm1)) (fa35 123 (by decide))) (kj_meas (oz44 s36 kn1) (oz45 c8) hm4)
              ·
                have c37 : ((a4 123).getD l4_4.toNatClampNeg 0).toInt = (17 : Int32).toInt := kd_neF c; clear c
                have s38 : (l3_4 - 1).toInt = l3_4.toInt - (1 : Int32).toInt := kd_sub (oz47 p4_1.1 kn1) (oz281 p4_1.2 kn1)
                refine ft_go mi_k161 7 92 [(5, .int ((a4 123).getD l4_4.toNatClampNeg 0)), (4, .int l4_4), (3, .int l3_4), (0, .ref 116), (1, .int x1), (2, .int x2)] [.int 17, .int ((a4 123).getD l4_4.toNatClampNeg 0), .int (l3_4 - 1), .ref 128] i4 a4 q4 r4 (by rfl) ?_
                refine ft_if mi_k161 (((a4 123).getD l4_4.toNatClampNeg 0) != 17) 107 95 [(5, .int ((a4 123).getD l4_4.toNatClampNeg 0)), (4, .int l4_4), (3, .int l3_4), (0, .ref 116), (1, .int x1), (2, .int x2)] [.int (l3_4 - 1), .ref 128] (by rfl) (fun c => ?_) (fun c => ?_)
                ·
                  have c39 : ((a4 123).getD l4_4.toNatClampNeg 0).toInt ≠ (17 : Int32).toInt := kd_ne c; clear c
                  exact (oz299 c18 c37 c39 kn18 kn17).elim
                ·
                  have c40 : ((a4 123).getD l4_4.toNatClampNeg 0).toInt = (17 : Int32).toInt := kd_neF c; clear c
                  refine ft_go mi_k161 5 102 [(5, .int ((a4 123).getD l4_4.toNatClampNeg 0)), (4, .int l4_4), (3, .int l3_4), (0, .ref 116), (1, .int x1), (2, .int x2)] [.int (l3_4 - 1), .ref 128, .int (l3_4 - 1), .ref 128] i4 a4 q4 r4 (by rfl) ?_
                  refine ko_iald3 mi_k161.1 (n := 200) (c := 200) (ax := (0, 0, 0, 0, 0)) (mi_k161.2 _ _ (by rfl)) (by rfl) (ksG128 _ _ _ _) (hL4.I.2.1 128) rfl (oz300 c18 c37 s38 wf9.2.1 kn18 kn17 kn1) (oz283 p4_1.2 s38 kn1) ?_
                  refine ft_go mi_k161 2 123 [(5, .int ((a4 123).getD l4_4.toNatClampNeg 0)), (4, .int l4_4), (3, .int l3_4), (0, .ref 116), (1, .int x1), (2, .int x2)] [.int (-((a4 128).getD (l3_4 - 1).toNatClampNeg 0)), .int (l3_4 - 1), .ref 128] i4 a4 q4 r4 (by rfl) ?_
                  refine ko_iast3 mi_k161.1 (n := 200) (c := 200) (ax := (0, 0, 0, 0, 0)) (mi_k161.2 _ _ (by rfl)) (by rfl) (ksG128 _ _ _ _) (ksA128 _ _ _ _) (hL4.I.2.1 128) rfl (oz300 c18 c37 s38 wf9.2.1 kn18 kn17 kn1) (oz283 p4_1.2 s38 kn1) ?_
                  intro a41 ea41 fa41
                  have hJ41 := kG_a3 hL4 128 rfl ea41 fa41 (kd_bd _)
                  have s42 : (l4_4 + 1).toInt = l4_4.toInt + (1 : Int32).toInt := kd_add (oz276 hs1 p4_0 kn1) (oz277 c8 hs3 kn1)
                  refine ft_go mi_k161 3 5 [(4, .int (l4_4 + 1)), (5, .int ((a4 123).getD l4_4.toNatClampNeg 0)), (3, .int l3_4), (0, .ref 116), (1, .int x1), (2, .int x2)] [] i4 a41 q4 r4 (by rfl) ?_
                  refine ko_perm [(4, .int (l4_4 + 1)), (3, .int l3_4), (0, .ref 116), (1, .int x1), (2, .int x2)] (List.forall_mem_cons.mpr ⟨(List.Mem.head _), (List.forall_mem_cons.mpr ⟨(List.Mem.tail _ (List.Mem.tail _ (List.Mem.head _))), (List.forall_mem_cons.mpr ⟨(List.Mem.tail _ (List.Mem.tail _ (List.Mem.tail _ (List.Mem.head _)))), (List.forall_mem_cons.mpr ⟨(List.Mem.tail _ (List.Mem.tail _ (List.Mem.tail _ (List.Mem.tail _ (List.Mem.head _))))), (List.forall_mem_cons.mpr ⟨(List.Mem.tail _ (List.Mem.tail _ (List.Mem.tail _ (List.Mem.tail _ (List.Mem.tail _ (List.Mem.head _)))))), (fun _ h => absurd h List.not_mem_nil)⟩)⟩)⟩)⟩)⟩) ?_
                  exact ih4 _ _ _ _ _ _ hJ41 (oz278 p4_0 s42 kn1) (oz284 p4_1.1 p4_1.2) (kWk_cast (kWk_next hS5 O4_0 rfl (oz270 c8) (oz169 s42 kn1) (oz301 c18 c37 kn18 kn17)) (fa41 123 (by decide))) (kj_meas (oz44 s42 kn1) (oz45 c8) hm4)
          ·
            have c43 : ((a4 123).getD l4_4.toNatClampNeg 0).toInt ≤ (5 : Int32).toInt := kd_ltF c; clear c
            have s44 : (l3_4 + 1).toInt = l3_4.toInt + (1 : Int32).toInt := kd_add (oz12 p4_1.1 kn1) (oz271 p4_1.2 kn1)
            refine ft_go mi_k161 6 45 [(3, .int (l3_4 + 1)), (5, .int ((a4 123).getD l4_4.toNatClampNeg 0)), (4, .int l4_4), (0, .ref 116), (1, .int x1), (2, .int x2)] [.int 18, .int ((a4 123).getD l4_4.toNatClampNeg 0), .int l3_4, .ref 128] i4 a4 q4 r4 (by rfl) ?_
            refine ft_if mi_k161 (decide (((a4 123).getD l4_4.toNatClampNeg 0) < 18)) 56 48 [(3, .int (l3_4 + 1)), (5, .int ((a4 123).getD l4_4.toNatClampNeg 0)), (4, .int l4_4), (0, .ref 116), (1, .int x1), (2, .int x2)] [.int l3_4, .ref 128] (by rfl) (fun c => ?_) (fun c => ?_)
            ·
              have c45 : ((a4 123).getD l4_4.toNatClampNeg 0).toInt < (18 : Int32).toInt := kd_lt c; clear c
              refine ft_go mi_k161 3 62 [(3, .int (l3_4 + 1)), (5, .int ((a4 123).getD l4_4.toNatClampNeg 0)), (4, .int l4_4), (0, .ref 116), (1, .int x1), (2, .int x2)] [.int ((a4 123).getD l4_4.toNatClampNeg 0), .ref 129, .int l3_4, .ref 128] i4 a4 q4 r4 (by rfl) ?_
              refine ko_iald3 mi_k161.1 (n := 6) (c := 6) (ax := (0, 0, 0, 0, 0)) (mi_k161.2 _ _ (by rfl)) (by rfl) (ksG129 _ _ _ _) (hL4.I.2.1 129) rfl (oz3 wf9.1) (oz302 c43 kn5) ?_
              refine ko_iast3 mi_k161.1 (n := 200) (c := 200) (ax := (0, 0, 0, 0, 0)) (mi_k161.2 _ _ (by rfl)) (by rfl) (ksG128 _ _ _ _) (ksA128 _ _ _ _) (hL4.I.2.1 128) rfl (oz3 p4_1.1) (oz275 c8 hs3 wf9.2.2.2) ?_
              intro a46 ea46 fa46
              have hJ46 := kG_a3 hL4 128 rfl ea46 fa46 (kd_bd _)
              have s47 : (l4_4 + 1).toInt = l4_4.toInt + (1 : Int32).toInt := kd_add (oz276 hs1 p4_0 kn1) (oz277 c8 hs3 kn1)
              refine ft_go mi_k161 3 5 [(4, .int (l4_4 + 1)), (3, .int (l3_4 + 1)), (5, .int ((a4 123).getD l4_4.toNatClampNeg 0)), (0, .ref 116), (1, .int x1), (2, .int x2)] [] i4 a46 q4 r4 (by rfl) ?_
              refine ko_perm [(4, .int (l4_4 + 1)), (3, .int (l3_4 + 1)), (0, .ref 116), (1, .int x1), (2, .int x2)] (List.forall_mem_cons.mpr ⟨(List.Mem.head _), (List.forall_mem_cons.mpr ⟨(List.Mem.tail _ (List.Mem.head _)), (List.forall_mem_cons.mpr ⟨(List.Mem.tail _ (List.Mem.tail _ (List.Mem.tail _ (List.Mem.head _)))), (List.forall_mem_cons.mpr ⟨(List.Mem.tail _ (List.Mem.tail _ (List.Mem.tail _ (List.Mem.tail _ (List.Mem.head _))))), (List.forall_mem_cons.mpr ⟨(List.Mem.tail _ (List.Mem.tail _ (List.Mem.tail _ (List.Mem.tail _ (List.Mem.tail _ (List.Mem.head _)))))), (fun _ h => absurd h List.not_mem_nil)⟩)⟩)⟩)⟩)⟩) ?_
              exact ih4 _ _ _ _ _ _ hJ46 (oz278 p4_0 s47 kn1) (oz279 c8 hs3 p4_1.1 s44 wf9.2.2.2 kn1) (kWk_cast (kWk_next hS5 O4_0 rfl (oz270 c8) (oz169 s47 kn1) (oz303 c43 s44 kn5 kn1)) (fa46 123 (by decide))) (kj_meas (oz44 s47 kn1) (oz45 c8) hm4)
            ·
              have c48 : (18 : Int32).toInt ≤ ((a4 123).getD l4_4.toNatClampNeg 0).toInt := kd_ltF c; clear c
              exact (oz304 c18 c48 kn18).elim
  exact lp4 _ _ _ _ _ _ _ (kG_self _ hG.I hG.R) oz122 (oz305 kn0) (kWk_begin hS rfl rfl kn0) (Nat.lt_succ_self _)
def w162_116 : kW := ([], [128, 129], [], [])
def w162_116_L70 : kW := ([], [128], [], [])
set_option maxRecDepth 100000 in
theorem kc162_116 {i : Nat → Int32} {a : Nat → List Int32} {q : Nat → List Int64} {r : Nat → Nat} (hI : kI i a q) (hr : kr r) (x1 : Int32) (hp0 : ((0 : Int) ≤ x1.toInt) ∧ (x1.toInt ≤ 7)) (hE_code : kCode i a) : km 5 162 [.ref 116, .int x1] (ks i a q r) (kVI w162_116 i a q r (fun v i1 a1 q1 r1 => True)) := by
  have hG := kG_self w162_116 hI hr
  refine km_ofI (q := (mi_h162, mi_c162)) rfl (by decide) (Nat.le_of_ble_eq_true rfl) ?_
  intro P hP
  refine ft_go mi_k162 6 10 [(0, .ref 116), (1, .int x1)] [.int x1, .ref 117, .int 0, .ref 129] i a q r (by rfl) ?_
  refine ko_iald3 mi_k162.1 (n := 24) (c := 24) (ax := (0, 0, 0, 0, 0)) (mi_k162.2 _ _ (by rfl)) (by rfl) (ksG117 _ _ _ _) (hG.I.2.1 117) rfl (oz3 hp0.1) (oz248 hp0.2) ?_
  refine ko_iast3 mi_k162.1 (n := 6) (c := 6) (ax := (0, 0, 0, 0, 0)) (mi_k162.2 _ _ (by rfl)) (by rfl) (ksG129 _ _ _ _) (ksA129 _ _ _ _) (hG.I.2.1 129) rfl (oz46 kn0) (oz255 kn0) ?_
  intro a1 ea1 fa1
  have hJ1 := kG_a3 hG 129 rfl ea1 fa1 (kd_bd _)
  have s2 : (8 + x1).toInt = (8 : Int32).toInt + x1.toInt := kd_add (oz8 hp0.1 kn8) (oz249 hp0.2 kn8)
  refine ft_go mi_k162 8 25 [(0, .ref 116), (1, .int x1)] [.int (8 + x1), .ref 117, .int 2, .ref 129] i a1 q r (by rfl) ?_
  refine ko_iald3 mi_k162.1 (n := 24) (c := 24) (ax := (0, 0, 0, 0, 0)) (mi_k162.2 _ _ (by rfl)) (by rfl) (ksG117 _ _ _ _) (hJ1.I.2.1 117) rfl (oz10 hp0.1 s2 kn8) (oz250 hp0.2 s2 kn8) ?_
  refine ko_iast3 mi_k162.1 (n := 6) (c := 6) (ax := (0, 0, 0, 0, 0)) (mi_k162.2 _ _ (by rfl)) (by rfl) (ksG129 _ _ _ _) (ksA129 _ _ _ _) (hJ1.I.2.1 129) rfl (oz256 kn2) (oz257 kn2) ?_
  intro a3 ea3 fa3
  have hJ3 := kG_a3 hJ1 129 rfl ea3 fa3 (kd_bd _)
  refine ft_go mi_k162 6 38 [(0, .ref 116), (1, .int x1)] [.int 9, .ref 118, .int 3, .ref 129] i a3 q r (by rfl) ?_
  refine ko_iald3 mi_k162.1 (n := 31) (c := 31) (ax := (0, 0, 0, 0, 0)) (mi_k162.2 _ _ (by rfl)) (by rfl) (ksG118 _ _ _ _) (hJ3.I.2.1 118) rfl (oz258 kn9) (oz259 kn9) ?_
  have u4 : ((a1 118).getD (9 : Int32).toNatClampNeg 0).toInt = ((a 118).getD (9 : Int32).toNatClampNeg 0).toInt := congrArg (fun z : List Int32 => (z.getD (9 : Int32).toNatClampNeg 0).toInt) (fa1 118 (by decide))
  have u5 : ((a3 118).getD (9 : Int32).toNatClampNeg 0).toInt = ((a1 118).getD (9 : Int32).toNatClampNeg 0).toInt := congrArg (fun z : List Int32 => (z.getD (9 : Int32).toNatClampNeg 0).toInt) (fa3 118 (by decide))
  refine ko_iast3 mi_k162.1 (n := 6) (c := 6) (ax := (0, 0, 0, 0, 0)) (mi_k162.2 _ _ (by rfl)) (by rfl) (ksG129 _ _ _ _) (ksA129 _ _ _ _) (hJ3.I.2.1 129) rfl (oz260 kn3) (oz261 kn3) ?_
  intro a6 ea6 fa6
  have hJ6 := kG_a3 hJ3 129 rfl ea6 fa6 (kd_bd _)
  have s7 : (10 + x1).toInt = (10 : Int32).toInt + x1.toInt := kd_add (oz251 hp0.1 kn10) (oz252 hp0.2 kn10)
  refine ft_go mi_k162 8 53 [(0, .ref 116), (1, .int x1)] [.int (10 + x1), .ref 118, .int 4, .ref 129] i a6 q r (by rfl) ?_
  refine ko_iald3 mi_k162.1 (n := 31) (c := 31) (ax := (0, 0, 0, 0, 0)) (mi_k162.2 _ _ (by rfl)) (by rfl) (ksG118 _ _ _ _) (hJ6.I.2.1 118) rfl (oz253 hp0.1 s7 kn10) (oz254 hp0.2 s7 kn10) ?_
  have r8 : (((10 + x1).toInt = 18 → (0 : Int) ≤ ((a6 118).getD (10 + x1).toNatClampNeg 0).toInt ∧ ((a6 118).getD (10 + x1).toNatClampNeg 0).toInt ≤ 5)) ∧ ((19 ≤ (10 + x1).toInt → (10 + x1).toInt ≤ 24 → (0 : Int) ≤ ((a6 118).getD (10 + x1).toNatClampNeg 0).toInt ∧ ((a6 118).getD (10 + x1).toNatClampNeg 0).toInt ≤ 7)) := kE_ncond (p := 118) hJ6.I (by decide) (j := (10 + x1)) (oz253 hp0.1 s7 kn10)
  have u9 : ((a1 118).getD (10 + x1).toNatClampNeg 0).toInt = ((a 118).getD (10 + x1).toNatClampNeg 0).toInt := congrArg (fun z : List Int32 => (z.getD (10 + x1).toNatClampNeg 0).toInt) (fa1 118 (by decide))
  have u10 : ((a3 118).getD (10 + x1).toNatClampNeg 0).toInt = ((a1 118).getD (10 + x1).toNatClampNeg 0).toInt := congrArg (fun z : List Int32 => (z.getD (10 + x1).toNatClampNeg 0).toInt) (fa3 118 (by decide))
  have u11 : ((a6 118).getD (10 + x1).toNatClampNeg 0).toInt = ((a3 118).getD (10 + x1).toNatClampNeg 0).toInt := congrArg (fun z : List Int32 => (z.getD (10 + x1).toNatClampNeg 0).toInt) (fa6 118 (by decide))
  refine ko_iast3 mi_k162.1 (n := 6) (c := 6) (ax := (0, 0, 0, 0, 0)) (mi_k162.2 _ _ (by rfl)) (by rfl) (ksG129 _ _ _ _) (ksA129 _ _ _ _) (hJ6.I.2.1 129) rfl (oz262 kn4) (oz263 kn4) ?_
  intro a12 ea12 fa12
  have hJ12 := kG_a3 hJ6 129 rfl ea12 fa12 (kd_bd _)
  refine ft_go mi_k162 6 66 [(0, .ref 116), (1, .int x1)] [.int 8, .ref 118, .int 5, .ref 129] i a12 q r (by rfl) ?_
  refine ko_iald3 mi_k162.1 (n := 31) (c := 31) (ax := (0, 0, 0, 0, 0)) (mi_k162.2 _ _ (by rfl)) (by rfl) (ksG118 _ _ _ _) (hJ12.I.2.1 118) rfl (oz85 kn8) (oz86 kn8) ?_
  have u13 : ((a1 118).getD (8 : Int32).toNatClampNeg 0).toInt = ((a 118).getD (8 : Int32).toNatClampNeg 0).toInt := congrArg (fun z : List Int32 => (z.getD (8 : Int32).toNatClampNeg 0).toInt) (fa1 118 (by decide))
  have u14 : ((a3 118).getD (8 : Int32).toNatClampNeg 0).toInt = ((a1 118).getD (8 : Int32).toNatClampNeg 0).toInt := congrArg (fun z : List Int32 => (z.getD (8 : Int32).toNatClampNeg 0).toInt) (fa3 118 (by decide))
  have u15 : ((a6 118).getD (8 : Int32).toNatClampNeg 0).toInt = ((a3 118).getD (8 : Int32).toNatClampNeg 0).toInt := congrArg (fun z : List Int32 => (z.getD (8 : Int32).toNatClampNeg 0).toInt) (fa6 118 (by decide))
  have u16 : ((a12 118).getD (8 : Int32).toNatClampNeg 0).toInt = ((a6 118).getD (8 : Int32).toNatClampNeg 0).toInt := congrArg (fun z : List Int32 => (z.getD (8 : Int32).toNatClampNeg 0).toInt) (fa12 118 (by decide))
  refine ko_iast3 mi_k162.1 (n := 6) (c := 6) (ax := (0, 0, 0, 0, 0)) (mi_k162.2 _ _ (by rfl)) (by rfl) (ksG129 _ _ _ _) (ksA129 _ _ _ _) (hJ12.I.2.1 129) rfl (oz264 kn5) (oz265 kn5) ?_
  intro a17 ea17 fa17
  have hJ17 := kG_a3 hJ12 129 rfl ea17 fa17 (kd_bd _)
  refine ft_go mi_k162 2 70 [(2, .int 0), (0, .ref 116), (1, .int x1)] [] i a17 q r (by rfl) ?_
  have lp18 : ∀ (nz : Nat) (i18 : Nat → Int32) (a18 : Nat → List Int32) (q18 : Nat → List Int64) (r18 : Nat → Nat) (l2_18 : Int32), kG w162_116_L70 i a17 q r i18 a18 q18 r18 → (0 : Int) ≤ l2_18.toInt → (((i18 7432).toInt - l2_18.toInt)).toNat < nz → ko 5 (mi_h162, mi_c162) P (70, [(2, .int l2_18), (0, .ref 116), (1, .int x1)], [], (0, 0), ks i18 a18 q18 r18) := by
    intro nz
    induction nz with
    | zero =>
      intro _ _ _ _ _ _ _ hm
      exact absurd hm (Nat.not_lt_zero _)
    | succ nz ih18 =>
      intro i18 a18 q18 r18 l2_18 hL18 p18_0 hm18
      have fi18_7432 : ((0 : Int) ≤ (i18 7432).toInt) ∧ ((i18 7432).toInt ≤ 60) := hL18.I.1 7432
      refine ft_go mi_k162 3 75 [(2, .int l2_18), (0, .ref 116), (1, .int x1)] [.int (i18 7432), .int l2_18] i18 a18 q18 r18 (by rfl) ?_
      refine ft_if mi_k162 (decide ((i18 7432) ≤ l2_18)) 138 78 [(2, .int l2_18), (0, .ref 116), (1, .int x1)] [] (by rfl) (fun c => ?_) (fun c => ?_)
      ·
        have c19 : (i18 7432).toInt ≤ l2_18.toInt := kd_le c; clear c
        have hG20 := kG_call hJ17 hL18 (by decide +kernel)
        refine ft_go mi_k162 1 139 [(2, .int l2_18), (0, .ref 116), (1, .int x1)] [.int 0] i18 a18 q18 r18 (by rfl) ?_
        exact ft_ret mi_k162 (by rfl) (hP 0 _ _ _ _ hG20 trivial)
      ·
        have c21 : l2_18.toInt < (i18 7432).toInt := kd_leF c; clear c
        refine ft_go mi_k162 3 83 [(2, .int l2_18), (0, .ref 116), (1, .int x1)] [.int l2_18, .ref 121] i18 a18 q18 r18 (by rfl) ?_
        refine ko_iald3 mi_k162.1 (n := 60) (c := 60) (ax := (0, 0, 0, 0, 0)) (mi_k162.2 _ _ (by rfl)) (by rfl) (ksG121 _ _ _ _) (hL18.I.2.1 121) rfl (oz3 p18_0) (oz266 c21 fi18_7432.2) ?_
        refine ft_go mi_k162 3 89 [(2, .int l2_18), (0, .ref 116), (1, .int x1)] [.int l2_18, .ref 120, .int ((a18 121).getD l2_18.toNatClampNeg 0)] i18 a18 q18 r18 (by rfl) ?_
        refine ko_iald3 mi_k162.1 (n := 60) (c := 60) (ax := (0, 0, 0, 0, 0)) (mi_k162.2 _ _ (by rfl)) (by rfl) (ksG120 _ _ _ _) (hL18.I.2.1 120) rfl (oz3 p18_0) (oz266 c21 fi18_7432.2) ?_
        refine ft_if mi_k162 (decide (((a18 121).getD l2_18.toNatClampNeg 0) ≤ ((a18 120).getD l2_18.toNatClampNeg 0))) 115 93 [(2, .int l2_18), (0, .ref 116), (1, .int x1)] [] (by rfl) (fun c => ?_) (fun c => ?_)
        ·
          have c22 : ((a18 121).getD l2_18.toNatClampNeg 0).toInt ≤ ((a18 120).getD l2_18.toNatClampNeg 0).toInt := kd_le c; clear c
          have hG23 := kG_call hJ17 hL18 (by decide +kernel)
          refine ft_go mi_k162 4 121 [(2, .int l2_18), (0, .ref 116), (1, .int x1)] [.int l2_18, .ref 121, .ref 116] i18 a18 q18 r18 (by rfl) ?_
          refine ko_iald3 mi_k162.1 (n := 60) (c := 60) (ax := (0, 0, 0, 0, 0)) (mi_k162.2 _ _ (by rfl)) (by rfl) (ksG121 _ _ _ _) (hG23.I.2.1 121) rfl (oz3 p18_0) (oz266 c21 fi18_7432.2) ?_
          refine ft_go mi_k162 3 127 [(2, .int l2_18), (0, .ref 116), (1, .int x1)] [.int l2_18, .ref 122, .int ((a18 121).getD l2_18.toNatClampNeg 0), .ref 116] i18 a18 q18 r18 (by rfl) ?_
          refine ko_iald3 mi_k162.1 (n := 60) (c := 60) (ax := (0, 0, 0, 0, 0)) (mi_k162.2 _ _ (by rfl)) (by rfl) (ksG122 _ _ _ _) (hG23.I.2.1 122) rfl (oz3 p18_0) (oz266 c21 fi18_7432.2) ?_
          refine ko_callI mi_k162.1 (pc := 128) (ls := [(2, .int l2_18), (0, .ref 116), (1, .int x1)]) (st := [.int ((a18 122).getD l2_18.toNatClampNeg 0), .int ((a18 121).getD l2_18.toNatClampNeg 0), .ref 116]) (h := ks i18 a18 q18 r18) (i := (.invokevirtual 224, 3, 161, 0, 9, 0, 420)) (mi_k162.2 _ _ (by rfl)) (ft_invS mi_pq161 (by rfl)) (cy := mi_c161) mi_pq161 rfl (kc161_116 hG23.I hG23.R ((a18 121).getD l2_18.toNatClampNeg 0) ((a18 122).getD l2_18.toNatClampNeg 0) (kCode_l2 (kCode_of (i1 := i18) hE_code (hG23.fi 7432 rfl) (hG23.fa 120 rfl) (hG23.fa 121 rfl) (hG23.fa 122 rfl) (hG23.fa 123 rfl)) (oz3 p18_0) (oz270 c21))) (by decide) ?_
          intro vg24 ig24 ag24 qg24 rg24 kg24 hg24
          have hGg24 := kG_call hG23 kg24 (by decide +kernel)
          exact ft_ret mi_k162 (by rfl) (hP vg24 _ _ _ _ hGg24 trivial)
        ·
          have c25 : ((a18 120).getD l2_18.toNatClampNeg 0).toInt < ((a18 121).getD l2_18.toNatClampNeg 0).toInt := kd_leF c; clear c
          refine ft_go mi_k162 4 99 [(2, .int l2_18), (0, .ref 116), (1, .int x1)] [.int l2_18, .ref 120, .ref 116] i18 a18 q18 r18 (by rfl) ?_
          refine ko_iald3 mi_k162.1 (n := 60) (c := 60) (ax := (0, 0, 0, 0, 0)) (mi_k162.2 _ _ (by rfl)) (by rfl) (ksG120 _ _ _ _) (hL18.I.2.1 120) rfl (oz3 p18_0) (oz266 c21 fi18_7432.2) ?_
          refine ft_go mi_k162 3 105 [(2, .int l2_18), (0, .ref 116), (1, .int x1)] [.int l2_18, .ref 121, .int ((a18 120).getD l2_18.toNatClampNeg 0), .ref 116] i18 a18 q18 r18 (by rfl) ?_
          refine ko_iald3 mi_k162.1 (n := 60) (c := 60) (ax := (0, 0, 0, 0, 0)) (mi_k162.2 _ _ (by rfl)) (by rfl) (ksG121 _ _ _ _) (hL18.I.2.1 121) rfl (oz3 p18_0) (oz266 c21 fi18_7432.2) ?_
          have hG26 := kG_call hJ17 hL18 (by decide +kernel)
          refine ko_callI mi_k162.1 (pc := 106) (ls := [(2, .int l2_18), (0, .ref 116), (1, .int x1)]) (st := [.int ((a18 121).getD l2_18.toNatClampNeg 0), .int ((a18 120).getD l2_18.toNatClampNeg 0), .ref 116]) (h := ks i18 a18 q18 r18) (i := (.invokevirtual 224, 3, 161, 0, 9, 0, 420)) (mi_k162.2 _ _ (by rfl)) (ft_invS mi_pq161 (by rfl)) (cy := mi_c161) mi_pq161 rfl (kc161_116 hL18.I hL18.R ((a18 120).getD l2_18.toNatClampNeg 0) ((a18 121).getD l2_18.toNatClampNeg 0) (kCode_l1 (kCode_of (i1 := i18) hE_code (hG26.fi 7432 rfl) (hG26.fa 120 rfl) (hG26.fa 121 rfl) (hG26.fa 122 rfl) (hG26.fa 123 rfl)) (oz3 p18_0) (oz270 c21) (oz270 c25))) (by decide) ?_
          intro vg27 ig27 ag27 qg27 rg27 kg27 hg27
          have hGg27 := kG_call hL18 kg27 (by decide +kernel)
          refine ft_if mi_k162 (vg27 != 0) 115 112 [(2, .int l2_18), (0, .ref 116), (1, .int x1)] [] (by rfl) (fun c => ?_) (fun c => ?_)
          ·
            have c28 : vg27.toInt ≠ (0 : Int32).toInt := kd_ne c; clear c
            have hG29 := kG_call hJ17 hGg27 (by decide +kernel)
            refine ft_go mi_k162 4 121 [(2, .int l2_18), (0, .ref 116), (1, .int x1)] [.int l2_18, .ref 121, .ref 116] ig27 ag27 qg27 rg27 (by rfl) ?_
            refine ko_iald3 mi_k162.1 (n := 60) (c := 60) (ax := (0, 0, 0, 0, 0)) (mi_k162.2 _ _ (by rfl)) (by rfl) (ksG121 _ _ _ _) (hG29.I.2.1 121) rfl (oz3 p18_0) (oz266 c21 fi18_7432.2) ?_
            refine ft_go mi_k162 3 127 [(2, .int l2_18), (0, .ref 116), (1, .int x1)] [.int l2_18, .ref 122, .int ((ag27 121).getD l2_18.toNatClampNeg 0), .ref 116] ig27 ag27 qg27 rg27 (by rfl) ?_
            refine ko_iald3 mi_k162.1 (n := 60) (c := 60) (ax := (0, 0, 0, 0, 0)) (mi_k162.2 _ _ (by rfl)) (by rfl) (ksG122 _ _ _ _) (hG29.I.2.1 122) rfl (oz3 p18_0) (oz266 c21 fi18_7432.2) ?_
            have efig27_7432 : (ig27 7432).toInt = (i18 7432).toInt := kg27.ti 7432 rfl
            refine ko_callI mi_k162.1 (pc := 128) (ls := [(2, .int l2_18), (0, .ref 116), (1, .int x1)]) (st := [.int ((ag27 122).getD l2_18.toNatClampNeg 0), .int ((ag27 121).getD l2_18.toNatClampNeg 0), .ref 116]) (h := ks ig27 ag27 qg27 rg27) (i := (.invokevirtual 224, 3, 161, 0, 9, 0, 420)) (mi_k162.2 _ _ (by rfl)) (ft_invS mi_pq161 (by rfl)) (cy := mi_c161) mi_pq161 rfl (kc161_116 hG29.I hG29.R ((ag27 121).getD l2_18.toNatClampNeg 0) ((ag27 122).getD l2_18.toNatClampNeg 0) (kCode_l2 (kCode_of (i1 := ig27) hE_code (hG29.fi 7432 rfl) (hG29.fa 120 rfl) (hG29.fa 121 rfl) (hG29.fa 122 rfl) (hG29.fa 123 rfl)) (oz3 p18_0) (oz306 c21 efig27_7432))) (by decide) ?_
            intro vg30 ig30 ag30 qg30 rg30 kg30 hg30
            have hGg30 := kG_call hG29 kg30 (by decide +kernel)
            exact ft_ret mi_k162 (by rfl) (hP vg30 _ _ _ _ hGg30 trivial)
          ·
            have c31 : vg27.toInt = (0 : Int32).toInt := kd_neF c; clear c
            have s32 : (l2_18 + 1).toInt = l2_18.toInt + (1 : Int32).toInt := kd_add (oz12 p18_0 kn1) (oz307 c21 fi18_7432.2 kn1)
            refine ft_go mi_k162 3 70 [(2, .int (l2_18 + 1)), (0, .ref 116), (1, .int x1)] [] ig27 ag27 qg27 rg27 (by rfl) ?_
            have efig27_7432 : (ig27 7432).toInt = (i18 7432).toInt := kg27.ti 7432 rfl
            exact ih18 _ _ _ _ _ hGg27 (oz14 p18_0 s32 kn1) (kj_meas (oz308 efig27_7432 s32 kn1) (oz45 c21) hm18)
  exact lp18 _ _ _ _ _ _ (kG_self _ hJ17.I hJ17.R) (oz46 kn0) (Nat.lt_succ_self _)
def w163_116 : kW := ([], [128, 129], [], [])
set_option maxRecDepth 100000 in
theorem kc163_116 {i : Nat → Int32} {a : Nat → List Int32} {q : Nat → List Int64} {r : Nat → Nat} (hI : kI i a q) (hr : kr r) (x1 : Int32) (x2 : Int32) (hp0 : ((0 : Int) ≤ x1.toInt) ∧ (x1.toInt ≤ 7)) (hE_code : kCode i a) : km 7 163 [.ref 116, .int x1, .int x2] (ks i a q r) (kVI w163_116 i a q r (fun v i1 a1 q1 r1 => True)) := by
  have hG := kG_self w163_116 hI hr
  refine km_ofI (q := (mi_h163, mi_c163)) rfl (by decide) (Nat.le_of_ble_eq_true rfl) ?_
  intro P hP
  refine ft_go mi_k163 4 6 [(0, .ref 116), (1, .int x1), (2, .int x2)] [.int x2, .int 1, .ref 129] i a q r (by rfl) ?_
  refine ko_iast3 mi_k163.1 (n := 6) (c := 6) (ax := (0, 0, 0, 0, 0)) (mi_k163.2 _ _ (by rfl)) (by rfl) (ksG129 _ _ _ _) (ksA129 _ _ _ _) (hG.I.2.1 129) rfl (oz246 kn1) (oz247 kn1) ?_
  intro a1 ea1 fa1
  have hJ1 := kG_a3 hG 129 rfl ea1 fa1 (kd_bd _)
  refine ft_go mi_k163 2 11 [(0, .ref 116), (1, .int x1), (2, .int x2)] [.int (i 7431)] i a1 q r (by rfl) ?_
  refine ft_if mi_k163 ((i 7431) == 0) 22 14 [(0, .ref 116), (1, .int x1), (2, .int x2)] [] (by rfl) (fun c => ?_) (fun c => ?_)
  ·
    have c2 : (i 7431).toInt = (0 : Int32).toInt := kd_eq c; clear c
    refine ft_go mi_k163 4 28 [(0, .ref 116), (1, .int x1), (2, .int x2)] [.int x1, .ref 117, .int 5] i a1 q r (by rfl) ?_
    refine ko_iald3 mi_k163.1 (n := 24) (c := 24) (ax := (0, 0, 0, 0, 0)) (mi_k163.2 _ _ (by rfl)) (by rfl) (ksG117 _ _ _ _) (hJ1.I.2.1 117) rfl (oz3 hp0.1) (oz248 hp0.2) ?_
    have b3 : ((-2147483648 : Int) ≤ ((a1 117).getD x1.toNatClampNeg 0).toInt) ∧ (((a1 117).getD x1.toNatClampNeg 0).toInt ≤ 2147483647) := kd_bd ((a1 117).getD x1.toNatClampNeg 0)
    have s4 : (8 + x1).toInt = (8 : Int32).toInt + x1.toInt := kd_add (oz8 hp0.1 kn8) (oz249 hp0.2 kn8)
    refine ft_go mi_k163 6 38 [(0, .ref 116), (1, .int x1), (2, .int x2)] [.int (8 + x1), .ref 117, .int (5 * ((a1 117).getD x1.toNatClampNeg 0))] i a1 q r (by rfl) ?_
    refine ko_iald3 mi_k163.1 (n := 24) (c := 24) (ax := (0, 0, 0, 0, 0)) (mi_k163.2 _ _ (by rfl)) (by rfl) (ksG117 _ _ _ _) (hJ1.I.2.1 117) rfl (oz10 hp0.1 s4 kn8) (oz250 hp0.2 s4 kn8) ?_
    have b5 : ((-2147483648 : Int) ≤ (5 * ((a1 117).getD x1.toNatClampNeg 0)).toInt) ∧ ((5 * ((a1 117).getD x1.toNatClampNeg 0)).toInt ≤ 2147483647) := kd_bd (5 * ((a1 117).getD x1.toNatClampNeg 0))
    have b6 : ((-2147483648 : Int) ≤ ((a1 117).getD (8 + x1).toNatClampNeg 0).toInt) ∧ (((a1 117).getD (8 + x1).toNatClampNeg 0).toInt ≤ 2147483647) := kd_bd ((a1 117).getD (8 + x1).toNatClampNeg 0)
    have s7 : (10 + x1).toInt = (10 : Int32).toInt + x1.toInt := kd_add (oz251 hp0.1 kn10) (oz252 hp0.2 kn10)
    refine ft_go mi_k163 7 49 [(0, .ref 116), (1, .int x1), (2, .int x2)] [.int (10 + x1), .ref 118, .int 2, .int ((5 * ((a1 117).getD x1.toNatClampNeg 0)) + ((a1 117).getD (8 + x1).toNatClampNeg 0))] i a1 q r (by rfl) ?_
    refine ko_iald3 mi_k163.1 (n := 31) (c := 31) (ax := (0, 0, 0, 0, 0)) (mi_k163.2 _ _ (by rfl)) (by rfl) (ksG118 _ _ _ _) (hJ1.I.2.1 118) rfl (oz253 hp0.1 s7 kn10) (oz254 hp0.2 s7 kn10) ?_
    have r8 : (((10 + x1).toInt = 18 → (0 : Int) ≤ ((a1 118).getD (10 + x1).toNatClampNeg 0).toInt ∧ ((a1 118).getD (10 + x1).toNatClampNeg 0).toInt ≤ 5)) ∧ ((19 ≤ (10 + x1).toInt → (10 + x1).toInt ≤ 24 → (0 : Int) ≤ ((a1 118).getD (10 + x1).toNatClampNeg 0).toInt ∧ ((a1 118).getD (10 + x1).toNatClampNeg 0).toInt ≤ 7)) := kE_ncond (p := 118) hJ1.I (by decide) (j := (10 + x1)) (oz253 hp0.1 s7 kn10)
    have u9 : ((a1 118).getD (10 + x1).toNatClampNeg 0).toInt = ((a 118).getD (10 + x1).toNatClampNeg 0).toInt := congrArg (fun z : List Int32 => (z.getD (10 + x1).toNatClampNeg 0).toInt) (fa1 118 (by decide))
    have b10 : ((-2147483648 : Int) ≤ ((a1 118).getD (10 + x1).toNatClampNeg 0).toInt) ∧ (((a1 118).getD (10 + x1).toNatClampNeg 0).toInt ≤ 2147483647) := kd_bd ((a1 118).getD (10 + x1).toNatClampNeg 0)
    have b11 : ((-2147483648 : Int) ≤ ((5 * ((a1 117).getD x1.toNatClampNeg 0)) + ((a1 117).getD (8 + x1).toNatClampNeg 0)).toInt) ∧ (((5 * ((a1 117).getD x1.toNatClampNeg 0)) + ((a1 117).getD (8 + x1).toNatClampNeg 0)).toInt ≤ 2147483647) := kd_bd ((5 * ((a1 117).getD x1.toNatClampNeg 0)) + ((a1 117).getD (8 + x1).toNatClampNeg 0))
    have b12 : ((-2147483648 : Int) ≤ (2 * ((a1 118).getD (10 + x1).toNatClampNeg 0)).toInt) ∧ ((2 * ((a1 118).getD (10 + x1).toNatClampNeg 0)).toInt ≤ 2147483647) := kd_bd (2 * ((a1 118).getD (10 + x1).toNatClampNeg 0))
    refine ft_go mi_k163 6 57 [(3, .int (((5 * ((a1 117).getD x1.toNatClampNeg 0)) + ((a1 117).getD (8 + x1).toNatClampNeg 0)) - (2 * ((a1 118).getD (10 + x1).toNatClampNeg 0)))), (0, .ref 116), (1, .int x1), (2, .int x2)] [.int (((5 * ((a1 117).getD x1.toNatClampNeg 0)) + ((a1 117).getD (8 + x1).toNatClampNeg 0)) - (2 * ((a1 118).getD (10 + x1).toNatClampNeg 0))), .int 99, .int 0] i a1 q r (by rfl) ?_
    have m14 : (((bif decide ((((5 * ((a1 117).getD x1.toNatClampNeg 0)) + ((a1 117).getD (8 + x1).toNatClampNeg 0)) - (2 * ((a1 118).getD (10 + x1).toNatClampNeg 0))) < 99) then (((5 * ((a1 117).getD x1.toNatClampNeg 0)) + ((a1 117).getD (8 + x1).toNatClampNeg 0)) - (2 * ((a1 118).getD (10 + x1).toNatClampNeg 0))) else 99).toInt ≤ (99 : Int32).toInt) ∧ ((bif decide ((((5 * ((a1 117).getD x1.toNatClampNeg 0)) + ((a1 117).getD (8 + x1).toNatClampNeg 0)) - (2 * ((a1 118).getD (10 + x1).toNatClampNeg 0))) < 99) then (((5 * ((a1 117).getD x1.toNatClampNeg 0)) + ((a1 117).getD (8 + x1).toNatClampNeg 0)) - (2 * ((a1 118).getD (10 + x1).toNatClampNeg 0))) else 99).toInt ≤ (((5 * ((a1 117).getD x1.toNatClampNeg 0)) + ((a1 117).getD (8 + x1).toNatClampNeg 0)) - (2 * ((a1 118).getD (10 + x1).toNatClampNeg 0))).toInt)) ∧ ((bif decide ((((5 * ((a1 117).getD x1.toNatClampNeg 0)) + ((a1 117).getD (8 + x1).toNatClampNeg 0)) - (2 * ((a1 118).getD (10 + x1).toNatClampNeg 0))) < 99) then (((5 * ((a1 117).getD x1.toNatClampNeg 0)) + ((a1 117).getD (8 + x1).toNatClampNeg 0)) - (2 * ((a1 118).getD (10 + x1).toNatClampNeg 0))) else 99).toInt = (99 : Int32).toInt ∨ (bif decide ((((5 * ((a1 117).getD x1.toNatClampNeg 0)) + ((a1 117).getD (8 + x1).toNatClampNeg 0)) - (2 * ((a1 118).getD (10 + x1).toNatClampNeg 0))) < 99) then (((5 * ((a1 117).getD x1.toNatClampNeg 0)) + ((a1 117).getD (8 + x1).toNatClampNeg 0)) - (2 * ((a1 118).getD (10 + x1).toNatClampNeg 0))) else 99).toInt = (((5 * ((a1 117).getD x1.toNatClampNeg 0)) + ((a1 117).getD (8 + x1).toNatClampNeg 0)) - (2 * ((a1 118).getD (10 + x1).toNatClampNeg 0))).toInt) := kd_min
    refine ft_go mi_k163 1 60 [(3, .int (((5 * ((a1 117).getD x1.toNatClampNeg 0)) + ((a1 117).getD (8 + x1).toNatClampNeg 0)) - (2 * ((a1 118).getD (10 + x1).toNatClampNeg 0)))), (0, .ref 116), (1, .int x1), (2, .int x2)] [.int (bif decide ((((5 * ((a1 117).getD x1.toNatClampNeg 0)) + ((a1 117).getD (8 + x1).toNatClampNeg 0)) - (2 * ((a1 118).getD (10 + x1).toNatClampNeg 0))) < 99) then (((5 * ((a1 117).getD x1.toNatClampNeg 0)) + ((a1 117).getD (8 + x1).toNatClampNeg 0)) - (2 * ((a1 118).getD (10 + x1).toNatClampNeg 0))) else 99), .int 0] i a1 q r (by rfl) ?_
    generalize (bif decide ((((5 * ((a1 117).getD x1.toNatClampNeg 0)) + ((a1 117).getD (8 + x1).toNatClampNeg 0)) - (2 * ((a1 118).getD (10 + x1).toNatClampNeg 0))) < 99) then (((5 * ((a1 117).getD x1.toNatClampNeg 0)) + ((a1 117).getD (8 + x1).toNatClampNeg 0)) - (2 * ((a1 118).getD (10 + x1).toNatClampNeg 0))) else 99) = m13 at m14 ⊢
    have m16 : (((0 : Int32).toInt ≤ (bif decide (0 < m13) then m13 else 0).toInt) ∧ (m13.toInt ≤ (bif decide (0 < m13) then m13 else 0).toInt)) ∧ ((bif decide (0 < m13) then m13 else 0).toInt = (0 : Int32).toInt ∨ (bif decide (0 < m13) then m13 else 0).toInt = m13.toInt) := kd_max
    refine ft_go mi_k163 1 63 [(3, .int (((5 * ((a1 117).getD x1.toNatClampNeg 0)) + ((a1 117).getD (8 + x1).toNatClampNeg 0)) - (2 * ((a1 118).getD (10 + x1).toNatClampNeg 0)))), (0, .ref 116), (1, .int x1), (2, .int x2)] [.int (bif decide (0 < m13) then m13 else 0)] i a1 q r (by rfl) ?_
    generalize (bif decide (0 < m13) then m13 else 0) = m15 at m16 ⊢
    exact ft_ret mi_k163 (by rfl) (hP m15 _ _ _ _ hJ1 trivial)
  ·
    have c17 : (i 7431).toInt ≠ (0 : Int32).toInt := kd_eqF c; clear c
    refine ft_go mi_k163 2 16 [(0, .ref 116), (1, .int x1), (2, .int x2)] [.int x1, .ref 116] i a1 q r (by rfl) ?_
    refine ko_callI mi_k163.1 (pc := 16) (ls := [(0, .ref 116), (1, .int x1), (2, .int x2)]) (st := [.int x1, .ref 116]) (h := ks i a1 q r) (i := (.invokevirtual 227, 3, 162, 0, 9, 0, 419)) (mi_k163.2 _ _ (by rfl)) (ft_invS mi_pq162 (by rfl)) (cy := mi_c162) mi_pq162 rfl (kc162_116 hJ1.I hJ1.R x1 (oz181 hp0.1 hp0.2) (kCode_of (i1 := i) hE_code (hJ1.fi 7432 rfl) (hJ1.fa 120 rfl) (hJ1.fa 121 rfl) (hJ1.fa 122 rfl) (hJ1.fa 123 rfl))) (by decide) ?_
    intro vg18 ig18 ag18 qg18 rg18 kg18 hg18
    have hGg18 := kG_call hJ1 kg18 (by decide +kernel)
    refine ft_go mi_k163 5 57 [(3, .int vg18), (0, .ref 116), (1, .int x1), (2, .int x2)] [.int vg18, .int 99, .int 0] ig18 ag18 qg18 rg18 (by rfl) ?_
    have m20 : (((bif decide (vg18 < 99) then vg18 else 99).toInt ≤ (99 : Int32).toInt) ∧ ((bif decide (vg18 < 99) then vg18 else 99).toInt ≤ vg18.toInt)) ∧ ((bif decide (vg18 < 99) then vg18 else 99).toInt = (99 : Int32).toInt ∨ (bif decide (vg18 < 99) then vg18 else 99).toInt = vg18.toInt) := kd_min
    refine ft_go mi_k163 1 60 [(3, .int vg18), (0, .ref 116), (1, .int x1), (2, .int x2)] [.int (bif decide (vg18 < 99) then vg18 else 99), .int 0] ig18 ag18 qg18 rg18 (by rfl) ?_
    generalize (bif decide (vg18 < 99) then vg18 else 99) = m19 at m20 ⊢
    have m22 : (((0 : Int32).toInt ≤ (bif decide (0 < m19) then m19 else 0).toInt) ∧ (m19.toInt ≤ (bif decide (0 < m19) then m19 else 0).toInt)) ∧ ((bif decide (0 < m19) then m19 else 0).toInt = (0 : Int32).toInt ∨ (bif decide (0 < m19) then m19 else 0).toInt = m19.toInt) := kd_max
    refine ft_go mi_k163 1 63 [(3, .int vg18), (0, .ref 116), (1, .int x1), (2, .int x2)] [.int (bif decide (0 < m19) then m19 else 0)] ig18 ag18 qg18 rg18 (by rfl) ?_
    generalize (bif decide (0 < m19) then m19 else 0) = m21 at m22 ⊢
    exact ft_ret mi_k163 (by rfl) (hP m21 _ _ _ _ hGg18 trivial)
def w165_116 : kW := ([7464, 7465, 7467], [118, 141], [], [])
def w165_116_L30 : kW := ([], [118], [], [])
set_option maxRecDepth 100000 in
theorem kc165_116 {i : Nat → Int32} {a : Nat → List Int32} {q : Nat → List Int64} {r : Nat → Nat} (hI : kI i a q) (hr : kr r) (x1 : Int32) (hp0 : ((0 : Int) ≤ x1.toInt) ∧ (x1.toInt ≤ 7)) (hp1 : (1 : Int) ≤ ((a 118).getD (18 : Int32).toNatClampNeg 0).toInt) : km 1 165 [.ref 116, .int x1] (ks i a q r) (kVN w165_116 i a q r (fun i1 a1 q1 r1 => ((a1 118).getD (18 : Int32).toNatClampNeg 0).toInt = (((a 118).getD (18 : Int32).toNatClampNeg 0).toInt - 1))) := by
  have hG := kG_self w165_116 hI hr
  refine km_ofN (q := (mi_h165, mi_c165)) rfl (by decide) (Nat.le_of_ble_eq_true rfl) ?_
  intro P hP
  have r1 : ((0 : Int) ≤ ((a 118).getD (18 : Int32).toNatClampNeg 0).toInt) ∧ (((a 118).getD (18 : Int32).toNatClampNeg 0).toInt ≤ 5) := kE_n18 (p := 118) hG.I (by decide)
  refine ft_go mi_k165 3 6 [(0, .ref 116), (1, .int x1)] [.int 19, .ref 118] i a q r (by rfl) ?_
  refine ko_iald3 mi_k165.1 (n := 31) (c := 31) (ax := (0, 0, 0, 0, 0)) (mi_k165.2 _ _ (by rfl)) (by rfl) (ksG118 _ _ _ _) (hG.I.2.1 118) rfl (oz337 kn19) (oz338 kn19) ?_
  have r2 : ((0 : Int) ≤ ((a 118).getD (19 : Int32).toNatClampNeg 0).toInt) ∧ (((a 118).getD (19 : Int32).toNatClampNeg 0).toInt ≤ 7) := kE_nwho (p := 118) hG.I (by decide) (j := 19) (by decide) (by decide)
  refine ft_go mi_k165 4 14 [(2, .int ((a 118).getD (19 : Int32).toNatClampNeg 0)), (0, .ref 116), (1, .int x1)] [.int 25, .ref 118] i a q r (by rfl) ?_
  refine ko_iald3 mi_k165.1 (n := 31) (c := 31) (ax := (0, 0, 0, 0, 0)) (mi_k165.2 _ _ (by rfl)) (by rfl) (ksG118 _ _ _ _) (hG.I.2.1 118) rfl (oz339 kn25) (oz340 kn25) ?_
  refine ft_go mi_k165 5 23 [(3, .int ((a 118).getD (25 : Int32).toNatClampNeg 0)), (2, .int ((a 118).getD (19 : Int32).toNatClampNeg 0)), (0, .ref 116), (1, .int x1)] [.int 18, .ref 118, .int 18, .ref 118] i a q r (by rfl) ?_
  refine ko_iald3 mi_k165.1 (n := 31) (c := 31) (ax := (0, 0, 0, 0, 0)) (mi_k165.2 _ _ (by rfl)) (by rfl) (ksG118 _ _ _ _) (hG.I.2.1 118) rfl (oz195 kn18) (oz196 kn18) ?_
  have s3 : (((a 118).getD (18 : Int32).toNatClampNeg 0) - 1).toInt = ((a 118).getD (18 : Int32).toNatClampNeg 0).toInt - (1 : Int32).toInt := kd_sub (oz341 hp1 kn1) (oz342 r1.2 kn1)
  refine ft_go mi_k165 2 26 [(3, .int ((a 118).getD (25 : Int32).toNatClampNeg 0)), (2, .int ((a 118).getD (19 : Int32).toNatClampNeg 0)), (0, .ref 116), (1, .int x1)] [.int (((a 118).getD (18 : Int32).toNatClampNeg 0) - 1), .int 18, .ref 118] i a q r (by rfl) ?_
  refine ko_iast3 mi_k165.1 (n := 31) (c := 31) (ax := (0, 0, 0, 0, 0)) (mi_k165.2 _ _ (by rfl)) (by rfl) (ksG118 _ _ _ _) (ksA118 _ _ _ _) (hG.I.2.1 118) rfl (oz195 kn18) (oz196 kn18) ?_
  intro a4 ea4 fa4
  have hJ4 := kG_a3 hG 118 rfl ea4 fa4 (kE_nset (p := 118) (by decide) (oz195 kn18) (oz343 hp1 r1.2 s3 kn1 kn18) (oz325 kn18))
  refine ft_go mi_k165 2 30 [(4, .int 0), (3, .int ((a 118).getD (25 : Int32).toNatClampNeg 0)), (2, .int ((a 118).getD (19 : Int32).toNatClampNeg 0)), (0, .ref 116), (1, .int x1)] [] i a4 q r (by rfl) ?_
  have lp5 : ∀ (nz : Nat) (i5 : Nat → Int32) (a5 : Nat → List Int32) (q5 : Nat → List Int64) (r5 : Nat → Nat) (l4_5 : Int32), kG w165_116_L30 i a4 q r i5 a5 q5 r5 → (0 : Int) ≤ l4_5.toInt → ((a5 118).getD (18 : Int32).toNatClampNeg 0).toInt = (((a 118).getD (18 : Int32).toNatClampNeg 0).toInt - 1) → ((5 - l4_5.toInt)).toNat < nz → ko 1 (mi_h165, mi_c165) P (30, [(4, .int l4_5), (3, .int ((a 118).getD (25 : Int32).toNatClampNeg 0)), (2, .int ((a 118).getD (19 : Int32).toNatClampNeg 0)), (0, .ref 116), (1, .int x1)], [], (0, 0), ks i5 a5 q5 r5) := by
    intro nz
    induction nz with
    | zero =>
      intro _ _ _ _ _ _ _ _ hm
      exact absurd hm (Nat.not_lt_zero _)
    | succ nz ih5 =>
      intro i5 a5 q5 r5 l4_5 hL5 p5_0 p5_1 hm5
      have r8 : ((0 : Int) ≤ ((a5 118).getD (18 : Int32).toNatClampNeg 0).toInt) ∧ (((a5 118).getD (18 : Int32).toNatClampNeg 0).toInt ≤ 5) := kE_n18 (p := 118) hL5.I (by decide)
      refine ft_go mi_k165 4 38 [(4, .int l4_5), (3, .int ((a 118).getD (25 : Int32).toNatClampNeg 0)), (2, .int ((a 118).getD (19 : Int32).toNatClampNeg 0)), (0, .ref 116), (1, .int x1)] [.int 18, .ref 118, .int l4_5] i5 a5 q5 r5 (by rfl) ?_
      refine ko_iald3 mi_k165.1 (n := 31) (c := 31) (ax := (0, 0, 0, 0, 0)) (mi_k165.2 _ _ (by rfl)) (by rfl) (ksG118 _ _ _ _) (hL5.I.2.1 118) rfl (oz195 kn18) (oz196 kn18) ?_
      refine ft_if mi_k165 (decide (((a5 118).getD (18 : Int32).toNatClampNeg 0) ≤ l4_5)) 88 42 [(4, .int l4_5), (3, .int ((a 118).getD (25 : Int32).toNatClampNeg 0)), (2, .int ((a 118).getD (19 : Int32).toNatClampNeg 0)), (0, .ref 116), (1, .int x1)] [] (by rfl) (fun c => ?_) (fun c => ?_)
      ·
        have c9 : ((a5 118).getD (18 : Int32).toNatClampNeg 0).toInt ≤ l4_5.toInt := kd_le c; clear c
        have hG10 := kG_call hJ4 hL5 (by decide +kernel)
        refine ft_go mi_k165 3 94 [(4, .int l4_5), (3, .int ((a 118).getD (25 : Int32).toNatClampNeg 0)), (2, .int ((a 118).getD (19 : Int32).toNatClampNeg 0)), (0, .ref 116), (1, .int x1)] [.int 8, .int (i5 7464)] i5 a5 q5 r5 (by rfl) ?_
        refine ft_if mi_k165 ((i5 7464) != 8) 102 97 [(4, .int l4_5), (3, .int ((a 118).getD (25 : Int32).toNatClampNeg 0)), (2, .int ((a 118).getD (19 : Int32).toNatClampNeg 0)), (0, .ref 116), (1, .int x1)] [] (by rfl) (fun c => ?_) (fun c => ?_)
        ·
          have c11 : (i5 7464).toInt ≠ (8 : Int32).toInt := kd_ne c; clear c
          refine ft_go mi_k165 2 104 [(4, .int l4_5), (3, .int ((a 118).getD (25 : Int32).toNatClampNeg 0)), (2, .int ((a 118).getD (19 : Int32).toNatClampNeg 0)), (0, .ref 116), (1, .int x1)] [.int x1, .int ((a 118).getD (19 : Int32).toNatClampNeg 0)] i5 a5 q5 r5 (by rfl) ?_
          refine ft_if mi_k165 (((a 118).getD (19 : Int32).toNatClampNeg 0) != x1) 108 107 [(4, .int l4_5), (3, .int ((a 118).getD (25 : Int32).toNatClampNeg 0)), (2, .int ((a 118).getD (19 : Int32).toNatClampNeg 0)), (0, .ref 116), (1, .int x1)] [] (by rfl) (fun c => ?_) (fun c => ?_)
          ·
            have c12 : ((a 118).getD (19 : Int32).toNatClampNeg 0).toInt ≠ x1.toInt := kd_ne c; clear c
            refine ft_go mi_k165 4 114 [(4, .int l4_5), (3, .int ((a 118).getD (25 : Int32).toNatClampNeg 0)), (2, .int ((a 118).getD (19 : Int32).toNatClampNeg 0)), (0, .ref 116), (1, .int x1)] [.int ((a 118).getD (19 : Int32).toNatClampNeg 0), .ref 118, .int ((a 118).getD (25 : Int32).toNatClampNeg 0)] i5 a5 q5 r5 (by rfl) ?_
            refine ko_iald3 mi_k165.1 (n := 31) (c := 31) (ax := (0, 0, 0, 0, 0)) (mi_k165.2 _ _ (by rfl)) (by rfl) (ksG118 _ _ _ _) (hG10.I.2.1 118) rfl (oz3 r2.1) (oz65 r2.2) ?_
            have r13 : ((((a 118).getD (19 : Int32).toNatClampNeg 0).toInt = 18 → (0 : Int) ≤ ((a5 118).getD ((a 118).getD (19 : Int32).toNatClampNeg 0).toNatClampNeg 0).toInt ∧ ((a5 118).getD ((a 118).getD (19 : Int32).toNatClampNeg 0).toNatClampNeg 0).toInt ≤ 5)) ∧ ((19 ≤ ((a 118).getD (19 : Int32).toNatClampNeg 0).toInt → ((a 118).getD (19 : Int32).toNatClampNeg 0).toInt ≤ 24 → (0 : Int) ≤ ((a5 118).getD ((a 118).getD (19 : Int32).toNatClampNeg 0).toNatClampNeg 0).toInt ∧ ((a5 118).getD ((a 118).getD (19 : Int32).toNatClampNeg 0).toNatClampNeg 0).toInt ≤ 7)) := kE_ncond (p := 118) hG10.I (by decide) (j := ((a 118).getD (19 : Int32).toNatClampNeg 0)) (oz3 r2.1)
            have m15 : (((bif decide (((a5 118).getD ((a 118).getD (19 : Int32).toNatClampNeg 0).toNatClampNeg 0) < ((a 118).getD (25 : Int32).toNatClampNeg 0)) then ((a5 118).getD ((a 118).getD (19 : Int32).toNatClampNeg 0).toNatClampNeg 0) else ((a 118).getD (25 : Int32).toNatClampNeg 0)).toInt ≤ ((a 118).getD (25 : Int32).toNatClampNeg 0).toInt) ∧ ((bif decide (((a5 118).getD ((a 118).getD (19 : Int32).toNatClampNeg 0).toNatClampNeg 0) < ((a 118).getD (25 : Int32).toNatClampNeg 0)) then ((a5 118).getD ((a 118).getD (19 : Int32).toNatClampNeg 0).toNatClampNeg 0) else ((a 118).getD (25 : Int32).toNatClampNeg 0)).toInt ≤ ((a5 118).getD ((a 118).getD (19 : Int32).toNatClampNeg 0).toNatClampNeg 0).toInt)) ∧ ((bif decide (((a5 118).getD ((a 118).getD (19 : Int32).toNatClampNeg 0).toNatClampNeg 0) < ((a 118).getD (25 : Int32).toNatClampNeg 0)) then ((a5 118).getD ((a 118).getD (19 : Int32).toNatClampNeg 0).toNatClampNeg 0) else ((a 118).getD (25 : Int32).toNatClampNeg 0)).toInt = ((a 118).getD (25 : Int32).toNatClampNeg 0).toInt ∨ (bif decide (((a5 118).getD ((a 118).getD (19 : Int32).toNatClampNeg 0).toNatClampNeg 0) < ((a 118).getD (25 : Int32).toNatClampNeg 0)) then ((a5 118).getD ((a 118).getD (19 : Int32).toNatClampNeg 0).toNatClampNeg 0) else ((a 118).getD (25 : Int32).toNatClampNeg 0)).toInt = ((a5 118).getD ((a 118).getD (19 : Int32).toNatClampNeg 0).toNatClampNeg 0).toInt) := kd_min
            refine ft_go mi_k165 1 118 [(4, .int l4_5), (3, .int ((a 118).getD (25 : Int32).toNatClampNeg 0)), (2, .int ((a 118).getD (19 : Int32).toNatClampNeg 0)), (0, .ref 116), (1, .int x1)] [.int (bif decide (((a5 118).getD ((a 118).getD (19 : Int32).toNatClampNeg 0).toNatClampNeg 0) < ((a 118).getD (25 : Int32).toNatClampNeg 0)) then ((a5 118).getD ((a 118).getD (19 : Int32).toNatClampNeg 0).toNatClampNeg 0) else ((a 118).getD (25 : Int32).toNatClampNeg 0))] i5 a5 q5 r5 (by rfl) ?_
            generalize (bif decide (((a5 118).getD ((a 118).getD (19 : Int32).toNatClampNeg 0).toNatClampNeg 0) < ((a 118).getD (25 : Int32).toNatClampNeg 0)) then ((a5 118).getD ((a 118).getD (19 : Int32).toNatClampNeg 0).toNatClampNeg 0) else ((a 118).getD (25 : Int32).toNatClampNeg 0)) = m14 at m15 ⊢
            have b16 : ((-2147483648 : Int) ≤ ((a 118).getD (25 : Int32).toNatClampNeg 0).toInt) ∧ (((a 118).getD (25 : Int32).toNatClampNeg 0).toInt ≤ 2147483647) := kd_bd ((a 118).getD (25 : Int32).toNatClampNeg 0)
            have b17 : ((-2147483648 : Int) ≤ m14.toInt) ∧ (m14.toInt ≤ 2147483647) := kd_bd m14
            have b18 : ((-2147483648 : Int) ≤ (i5 7467).toInt) ∧ ((i5 7467).toInt ≤ 2147483647) := kd_bd (i5 7467)
            have b19 : ((-2147483648 : Int) ≤ (((a 118).getD (25 : Int32).toNatClampNeg 0) - m14).toInt) ∧ ((((a 118).getD (25 : Int32).toNatClampNeg 0) - m14).toInt ≤ 2147483647) := kd_bd (((a 118).getD (25 : Int32).toNatClampNeg 0) - m14)
            have hJ20 := kG_i hG10 7467 rfl (v := ((i5 7467) + (((a 118).getD (25 : Int32).toNatClampNeg 0) - m14))) (kd_bd _)
            have b21 : ((-2147483648 : Int) ≤ (i5 7465).toInt) ∧ ((i5 7465).toInt ≤ 2147483647) := kd_bd (i5 7465)
            have hJ22 := kG_i hJ20 7465 rfl (v := ((i5 7465) + m14)) (kd_bd _)
            have s23 : (8 * ((a 118).getD (19 : Int32).toNatClampNeg 0)).toInt = 8 * ((a 118).getD (19 : Int32).toNatClampNeg 0).toInt := kd_cmul 8 kn8 (oz345 r2.1) (oz346 r2.2)
            have s24 : ((8 * ((a 118).getD (19 : Int32).toNatClampNeg 0)) + x1).toInt = (8 * ((a 118).getD (19 : Int32).toNatClampNeg 0)).toInt + x1.toInt := kd_add (oz347 hp0.1 r2.1 s23) (oz348 hp0.2 r2.2 s23)
            refine ft_go mi_k165 23 155 [(4, .int m14), (3, .int ((a 118).getD (25 : Int32).toNatClampNeg 0)), (2, .int ((a 118).getD (19 : Int32).toNatClampNeg 0)), (0, .ref 116), (1, .int x1)] [.int ((8 * ((a 118).getD (19 : Int32).toNatClampNeg 0)) + x1), .ref 141, .int ((8 * ((a 118).getD (19 : Int32).toNatClampNeg 0)) + x1), .ref 141] (ku (ku i5 7467 ((i5 7467) + (((a 118).getD (25 : Int32).toNatClampNeg 0) - m14))) 7465 ((i5 7465) + m14)) a5 q5 r5 (by rfl) ?_
            refine ko_iald3 mi_k165.1 (n := 64) (c := 64) (ax := (0, 0, 0, 0, 0)) (mi_k165.2 _ _ (by rfl)) (by rfl) (ksG141 _ _ _ _) (hJ22.I.2.1 141) rfl (oz349 hp0.1 r2.1 s23 s24) (oz350 hp0.2 r2.2 s23 s24) ?_
            have b25 : ((-2147483648 : Int) ≤ ((a5 141).getD ((8 * ((a 118).getD (19 : Int32).toNatClampNeg 0)) + x1).toNatClampNeg 0).toInt) ∧ (((a5 141).getD ((8 * ((a 118).getD (19 : Int32).toNatClampNeg 0)) + x1).toNatClampNeg 0).toInt ≤ 2147483647) := kd_bd ((a5 141).getD ((8 * ((a 118).getD (19 : Int32).toNatClampNeg 0)) + x1).toNatClampNeg 0)
            refine ft_go mi_k165 2 159 [(4, .int m14), (3, .int ((a 118).getD (25 : Int32).toNatClampNeg 0)), (2, .int ((a 118).getD (19 : Int32).toNatClampNeg 0)), (0, .ref 116), (1, .int x1)] [.int (((a5 141).getD ((8 * ((a 118).getD (19 : Int32).toNatClampNeg 0)) + x1).toNatClampNeg 0) + m14), .int ((8 * ((a 118).getD (19 : Int32).toNatClampNeg 0)) + x1), .ref 141] (ku (ku i5 7467 ((i5 7467) + (((a 118).getD (25 : Int32).toNatClampNeg 0) - m14))) 7465 ((i5 7465) + m14)) a5 q5 r5 (by rfl) ?_
            refine ko_iast3 mi_k165.1 (n := 64) (c := 64) (ax := (0, 0, 0, 0, 0)) (mi_k165.2 _ _ (by rfl)) (by rfl) (ksG141 _ _ _ _) (ksA141 _ _ _ _) (hJ22.I.2.1 141) rfl (oz349 hp0.1 r2.1 s23 s24) (oz350 hp0.2 r2.2 s23 s24) ?_
            intro a26 ea26 fa26
            have hJ26 := kG_a3 hJ22 141 rfl ea26 fa26 (kd_bd _)
            refine ft_go mi_k165 4 166 [(4, .int m14), (3, .int ((a 118).getD (25 : Int32).toNatClampNeg 0)), (2, .int ((a 118).getD (19 : Int32).toNatClampNeg 0)), (0, .ref 116), (1, .int x1)] [.int ((a 118).getD (19 : Int32).toNatClampNeg 0), .ref 118, .int ((a 118).getD (19 : Int32).toNatClampNeg 0), .ref 118] (ku (ku i5 7467 ((i5 7467) + (((a 118).getD (25 : Int32).toNatClampNeg 0) - m14))) 7465 ((i5 7465) + m14)) a26 q5 r5 (by rfl) ?_
            refine ko_iald3 mi_k165.1 (n := 31) (c := 31) (ax := (0, 0, 0, 0, 0)) (mi_k165.2 _ _ (by rfl)) (by rfl) (ksG118 _ _ _ _) (hJ26.I.2.1 118) rfl (oz3 r2.1) (oz65 r2.2) ?_
            have r27 : ((((a 118).getD (19 : Int32).toNatClampNeg 0).toInt = 18 → (0 : Int) ≤ ((a26 118).getD ((a 118).getD (19 : Int32).toNatClampNeg 0).toNatClampNeg 0).toInt ∧ ((a26 118).getD ((a 118).getD (19 : Int32).toNatClampNeg 0).toNatClampNeg 0).toInt ≤ 5)) ∧ ((19 ≤ ((a 118).getD (19 : Int32).toNatClampNeg 0).toInt → ((a 118).getD (19 : Int32).toNatClampNeg 0).toInt ≤ 24 → (0 : Int) ≤ ((a26 118).getD ((a 118).getD (19 : Int32).toNatClampNeg 0).toNatClampNeg 0).toInt ∧ ((a26 118).getD ((a 118).getD (19 : Int32).toNatClampNeg 0).toNatClampNeg 0).toInt ≤ 7)) := kE_ncond (p := 118) hJ26.I (by decide) (j := ((a 118).getD (19 : Int32).toNatClampNeg 0)) (oz3 r2.1)
            have u28 : ((a26 118).getD ((a 118).getD (19 : Int32).toNatClampNeg 0).toNatClampNeg 0).toInt = ((a5 118).getD ((a 118).getD (19 : Int32).toNatClampNeg 0).toNatClampNeg 0).toInt := congrArg (fun z : List Int32 => (z.getD ((a 118).getD (19 : Int32).toNatClampNeg 0).toNatClampNeg 0).toInt) (fa26 118 (by decide))
            have b29 : ((-2147483648 : Int) ≤ ((a26 118).getD ((a 118).getD (19 : Int32).toNatClampNeg 0).toNatClampNeg 0).toInt) ∧ (((a26 118).getD ((a 118).getD (19 : Int32).toNatClampNeg 0).toNatClampNeg 0).toInt ≤ 2147483647) := kd_bd ((a26 118).getD ((a 118).getD (19 : Int32).toNatClampNeg 0).toNatClampNeg 0)
            refine ft_go mi_k165 2 170 [(4, .int m14), (3, .int ((a 118).getD (25 : Int32).toNatClampNeg 0)), (2, .int ((a 118).getD (19 : Int32).toNatClampNeg 0)), (0, .ref 116), (1, .int x1)] [.int (((a26 118).getD ((a 118).getD (19 : Int32).toNatClampNeg 0).toNatClampNeg 0) - m14), .int ((a 118).getD (19 : Int32).toNatClampNeg 0), .ref 118] (ku (ku i5 7467 ((i5 7467) + (((a 118).getD (25 : Int32).toNatClampNeg 0) - m14))) 7465 ((i5 7465) + m14)) a26 q5 r5 (by rfl) ?_
            refine ko_iast3 mi_k165.1 (n := 31) (c := 31) (ax := (0, 0, 0, 0, 0)) (mi_k165.2 _ _ (by rfl)) (by rfl) (ksG118 _ _ _ _) (ksA118 _ _ _ _) (hJ26.I.2.1 118) rfl (oz3 r2.1) (oz65 r2.2) ?_
            intro a30 ea30 fa30
            have hJ30 := kG_a3 hJ26 118 rfl ea30 fa30 (kE_nset (p := 118) (by decide) (oz3 r2.1) (oz90 r2.2) (oz91 r2.2))
            refine ft_go mi_k165 7 184 [(4, .int m14), (3, .int ((a 118).getD (25 : Int32).toNatClampNeg 0)), (2, .int ((a 118).getD (19 : Int32).toNatClampNeg 0)), (0, .ref 116), (1, .int x1)] [.int x1, .ref 118, .int 999, .int x1, .ref 118] (ku (ku i5 7467 ((i5 7467) + (((a 118).getD (25 : Int32).toNatClampNeg 0) - m14))) 7465 ((i5 7465) + m14)) a30 q5 r5 (by rfl) ?_
            refine ko_iald3 mi_k165.1 (n := 31) (c := 31) (ax := (0, 0, 0, 0, 0)) (mi_k165.2 _ _ (by rfl)) (by rfl) (ksG118 _ _ _ _) (hJ30.I.2.1 118) rfl (oz3 hp0.1) (oz65 hp0.2) ?_
            have r31 : ((x1.toInt = 18 → (0 : Int) ≤ ((a30 118).getD x1.toNatClampNeg 0).toInt ∧ ((a30 118).getD x1.toNatClampNeg 0).toInt ≤ 5)) ∧ ((19 ≤ x1.toInt → x1.toInt ≤ 24 → (0 : Int) ≤ ((a30 118).getD x1.toNatClampNeg 0).toInt ∧ ((a30 118).getD x1.toNatClampNeg 0).toInt ≤ 7)) := kE_ncond (p := 118) hJ30.I (by decide) (j := x1) (oz3 hp0.1)
            have u32 : ((a26 118).getD x1.toNatClampNeg 0).toInt = ((a5 118).getD x1.toNatClampNeg 0).toInt := congrArg (fun z : List Int32 => (z.getD x1.toNatClampNeg 0).toInt) (fa26 118 (by decide))
            have u33 : ((a30 118).getD x1.toNatClampNeg 0).toInt = ((a26 118).getD x1.toNatClampNeg 0).toInt := congrArg Int32.toInt ((congrArg (fun z : List Int32 => z.getD x1.toNatClampNeg 0) ea30).trans (kgs_ne (oz3 hp0.1) (oz3 r2.1) (oz351 c12)))
            have b34 : ((-2147483648 : Int) ≤ ((a30 118).getD x1.toNatClampNeg 0).toInt) ∧ (((a30 118).getD x1.toNatClampNeg 0).toInt ≤ 2147483647) := kd_bd ((a30 118).getD x1.toNatClampNeg 0)
            refine ft_go mi_k165 2 188 [(4, .int m14), (3, .int ((a 118).getD (25 : Int32).toNatClampNeg 0)), (2, .int ((a 118).getD (19 : Int32).toNatClampNeg 0)), (0, .ref 116), (1, .int x1)] [.int (((a30 118).getD x1.toNatClampNeg 0) + m14), .int 999, .int x1, .ref 118] (ku (ku i5 7467 ((i5 7467) + (((a 118).getD (25 : Int32).toNatClampNeg 0) - m14))) 7465 ((i5 7465) + m14)) a30 q5 r5 (by rfl) ?_
            have m36 : (((bif decide ((((a30 118).getD x1.toNatClampNeg 0) + m14) < 999) then (((a30 118).getD x1.toNatClampNeg 0) + m14) else 999).toInt ≤ (999 : Int32).toInt) ∧ ((bif decide ((((a30 118).getD x1.toNatClampNeg 0) + m14) < 999) then (((a30 118).getD x1.toNatClampNeg 0) + m14) else 999).toInt ≤ (((a30 118).getD x1.toNatClampNeg 0) + m14).toInt)) ∧ ((bif decide ((((a30 118).getD x1.toNatClampNeg 0) + m14) < 999) then (((a30 118).getD x1.toNatClampNeg 0) + m14) else 999).toInt = (999 : Int32).toInt ∨ (bif decide ((((a30 118).getD x1.toNatClampNeg 0) + m14) < 999) then (((a30 118).getD x1.toNatClampNeg 0) + m14) else 999).toInt = (((a30 118).getD x1.toNatClampNeg 0) + m14).toInt) := kd_min
            refine ft_go mi_k165 1 191 [(4, .int m14), (3, .int ((a 118).getD (25 : Int32).toNatClampNeg 0)), (2, .int ((a 118).getD (19 : Int32).toNatClampNeg 0)), (0, .ref 116), (1, .int x1)] [.int (bif decide ((((a30 118).getD x1.toNatClampNeg 0) + m14) < 999) then (((a30 118).getD x1.toNatClampNeg 0) + m14) else 999), .int x1, .ref 118] (ku (ku i5 7467 ((i5 7467) + (((a 118).getD (25 : Int32).toNatClampNeg 0) - m14))) 7465 ((i5 7465) + m14)) a30 q5 r5 (by rfl) ?_
            generalize (bif decide ((((a30 118).getD x1.toNatClampNeg 0) + m14) < 999) then (((a30 118).getD x1.toNatClampNeg 0) + m14) else 999) = m35 at m36 ⊢
            refine ko_iast3 mi_k165.1 (n := 31) (c := 31) (ax := (0, 0, 0, 0, 0)) (mi_k165.2 _ _ (by rfl)) (by rfl) (ksG118 _ _ _ _) (ksA118 _ _ _ _) (hJ30.I.2.1 118) rfl (oz3 hp0.1) (oz65 hp0.2) ?_
            intro a37 ea37 fa37
            have hJ37 := kG_a3 hJ30 118 rfl ea37 fa37 (kE_nset (p := 118) (by decide) (oz3 hp0.1) (oz90 hp0.2) (oz91 hp0.2))
            have r38 : ((0 : Int) ≤ ((a37 118).getD (18 : Int32).toNatClampNeg 0).toInt) ∧ (((a37 118).getD (18 : Int32).toNatClampNeg 0).toInt ≤ 5) := kE_n18 (p := 118) hJ37.I (by decide)
            have u39 : ((a26 118).getD (18 : Int32).toNatClampNeg 0).toInt = ((a5 118).getD (18 : Int32).toNatClampNeg 0).toInt := congrArg (fun z : List Int32 => (z.getD (18 : Int32).toNatClampNeg 0).toInt) (fa26 118 (by decide))
            have u40 : ((a30 118).getD (18 : Int32).toNatClampNeg 0).toInt = ((a26 118).getD (18 : Int32).toNatClampNeg 0).toInt := congrArg Int32.toInt ((congrArg (fun z : List Int32 => z.getD (18 : Int32).toNatClampNeg 0) ea30).trans (kgs_ne (oz195 kn18) (oz3 r2.1) (oz352 r2.2 kn18)))
            have u41 : ((a37 118).getD (18 : Int32).toNatClampNeg 0).toInt = ((a30 118).getD (18 : Int32).toNatClampNeg 0).toInt := congrArg Int32.toInt ((congrArg (fun z : List Int32 => z.getD (18 : Int32).toNatClampNeg 0) ea37).trans (kgs_ne (oz195 kn18) (oz3 hp0.1) (oz352 hp0.2 kn18)))
            exact ft_ret mi_k165 (by rfl) (hP  _ _ _ _ hJ37 (oz375 p5_1 u39 u40 u41))
          ·
            have c42 : ((a 118).getD (19 : Int32).toNatClampNeg 0).toInt = x1.toInt := kd_neF c; clear c
            exact ft_ret mi_k165 (by rfl) (hP  _ _ _ _ hG10 (oz376 p5_1))
        ·
          have c43 : (i5 7464).toInt = (8 : Int32).toInt := kd_neF c; clear c
          have hJ44 := kG_i hG10 7464 rfl (v := ((a 118).getD (19 : Int32).toNatClampNeg 0)) (kd_bd _)
          refine ft_go mi_k165 5 104 [(4, .int l4_5), (3, .int ((a 118).getD (25 : Int32).toNatClampNeg 0)), (2, .int ((a 118).getD (19 : Int32).toNatClampNeg 0)), (0, .ref 116), (1, .int x1)] [.int x1, .int ((a 118).getD (19 : Int32).toNatClampNeg 0)] (ku i5 7464 ((a 118).getD (19 : Int32).toNatClampNeg 0)) a5 q5 r5 (by rfl) ?_
          refine ft_if mi_k165 (((a 118).getD (19 : Int32).toNatClampNeg 0) != x1) 108 107 [(4, .int l4_5), (3, .int ((a 118).getD (25 : Int32).toNatClampNeg 0)), (2, .int ((a 118).getD (19 : Int32).toNatClampNeg 0)), (0, .ref 116), (1, .int x1)] [] (by rfl) (fun c => ?_) (fun c => ?_)
          ·
            have c45 : ((a 118).getD (19 : Int32).toNatClampNeg 0).toInt ≠ x1.toInt := kd_ne c; clear c
            refine ft_go mi_k165 4 114 [(4, .int l4_5), (3, .int ((a 118).getD (25 : Int32).toNatClampNeg 0)), (2, .int ((a 118).getD (19 : Int32).toNatClampNeg 0)), (0, .ref 116), (1, .int x1)] [.int ((a 118).getD (19 : Int32).toNatClampNeg 0), .ref 118, .int ((a 118).getD (25 : Int32).toNatClampNeg 0)] (ku i5 7464 ((a 118).getD (19 : Int32).toNatClampNeg 0)) a5 q5 r5 (by rfl) ?_
            refine ko_iald3 mi_k165.1 (n := 31) (c := 31) (ax := (0, 0, 0, 0, 0)) (mi_k165.2 _ _ (by rfl)) (by rfl) (ksG118 _ _ _ _) (hJ44.I.2.1 118) rfl (oz3 r2.1) (oz65 r2.2) ?_
            have r46 : ((((a 118).getD (19 : Int32).toNatClampNeg 0).toInt = 18 → (0 : Int) ≤ ((a5 118).getD ((a 118).getD (19 : Int32).toNatClampNeg 0).toNatClampNeg 0).toInt ∧ ((a5 118).getD ((a 118).getD (19 : Int32).toNatClampNeg 0).toNatClampNeg 0).toInt ≤ 5)) ∧ ((19 ≤ ((a 118).getD (19 : Int32).toNatClampNeg 0).toInt → ((a 118).getD (19 : Int32).toNatClampNeg 0).toInt ≤ 24 → (0 : Int) ≤ ((a5 118).getD ((a 118).getD (19 : Int32).toNatClampNeg 0).toNatClampNeg 0).toInt ∧ ((a5 118).getD ((a 118).getD (19 : Int32).toNatClampNeg 0).toNatClampNeg 0).toInt ≤ 7)) := kE_ncond (p := 118) hJ44.I (by decide) (j := ((a 118).getD (19 : Int32).toNatClampNeg 0)) (oz3 r2.1)
            have m48 : (((bif decide (((a5 118).getD ((a 118).getD (19 : Int32).toNatClampNeg 0).toNatClampNeg 0) < ((a 118).getD (25 : Int32).toNatClampNeg 0)) then ((a5 118).getD ((a 118).getD (19 : Int32).toNatClampNeg 0).toNatClampNeg 0) else ((a 118).getD (25 : Int32).toNatClampNeg 0)).toInt ≤ ((a 118).getD (25 : Int32).toNatClampNeg 0).toInt) ∧ ((bif decide (((a5 118).getD ((a 118).getD (19 : Int32).toNatClampNeg 0).toNatClampNeg 0) < ((a 118).getD (25 : Int32).toNatClampNeg 0)) then ((a5 118).getD ((a 118).getD (19 : Int32).toNatClampNeg 0).toNatClampNeg 0) else ((a 118).getD (25 : Int32).toNatClampNeg 0)).toInt ≤ ((a5 118).getD ((a 118).getD (19 : Int32).toNatClampNeg 0).toNatClampNeg 0).toInt)) ∧ ((bif decide (((a5 118).getD ((a 118).getD (19 : Int32).toNatClampNeg 0).toNatClampNeg 0) < ((a 118).getD (25 : Int32).toNatClampNeg 0)) then ((a5 118).getD ((a 118).getD (19 : Int32).toNatClampNeg 0).toNatClampNeg 0) else ((a 118).getD (25 : Int32).toNatClampNeg 0)).toInt = ((a 118).getD (25 : Int32).toNatClampNeg 0).toInt ∨ (bif decide (((a5 118).getD ((a 118).getD (19 : Int32).toNatClampNeg 0).toNatClampNeg 0) < ((a 118).getD (25 : Int32).toNatClampNeg 0)) then ((a5 118).getD ((a 118).getD (19 : Int32).toNatClampNeg 0).toNatClampNeg 0) else ((a 118).getD (25 : Int32).toNatClampNeg 0)).toInt = ((a5 118).getD ((a 118).getD (19 : Int32).toNatClampNeg 0).toNatClampNeg 0).toInt) := kd_min
            refine ft_go mi_k165 1 118 [(4, .int l4_5), (3, .int ((a 118).getD (25 : Int32).toNatClampNeg 0)), (2, .int ((a 118).getD (19 : Int32).toNatClampNeg 0)), (0, .ref 116), (1, .int x1)] [.int (bif decide (((a5 118).getD ((a 118).getD (19 : Int32).toNatClampNeg 0).toNatClampNeg 0) < ((a 118).getD (25 : Int32).toNatClampNeg 0)) then ((a5 118).getD ((a 118).getD (19 : Int32).toNatClampNeg 0).toNatClampNeg 0) else ((a 118).getD (25 : Int32).toNatClampNeg 0))] (ku i5 7464 ((a 118).getD (19 : Int32).toNatClampNeg 0)) a5 q5 r5 (by rfl) ?_
            generalize (bif decide (((a5 118).getD ((a 118).getD (19 : Int32).toNatClampNeg 0).toNatClampNeg 0) < ((a 118).getD (25 : Int32).toNatClampNeg 0)) then ((a5 118).getD ((a 118).getD (19 : Int32).toNatClampNeg 0).toNatClampNeg 0) else ((a 118).getD (25 : Int32).toNatClampNeg 0)) = m47 at m48 ⊢
            have b49 : ((-2147483648 : Int) ≤ ((a 118).getD (25 : Int32).toNatClampNeg 0).toInt) ∧ (((a 118).getD (25 : Int32).toNatClampNeg 0).toInt ≤ 2147483647) := kd_bd ((a 118).getD (25 : Int32).toNatClampNeg 0)
            have b50 : ((-2147483648 : Int) ≤ m47.toInt) ∧ (m47.toInt ≤ 2147483647) := kd_bd m47
            have b51 : ((-2147483648 : Int) ≤ (i5 7467).toInt) ∧ ((i5 7467).toInt ≤ 2147483647) := kd_bd (i5 7467)
            have b52 : ((-2147483648 : Int) ≤ (((a 118).getD (25 : Int32).toNatClampNeg 0) - m47).toInt) ∧ ((((a 118).getD (25 : Int32).toNatClampNeg 0) - m47).toInt ≤ 2147483647) := kd_bd (((a 118).getD (25 : Int32).toNatClampNeg 0) - m47)
            have hJ53 := kG_i hJ44 7467 rfl (v := ((i5 7467) + (((a 118).getD (25 : Int32).toNatClampNeg 0) - m47))) (kd_bd _)
            have b54 : ((-2147483648 : Int) ≤ (i5 7465).toInt) ∧ ((i5 7465).toInt ≤ 2147483647) := kd_bd (i5 7465)
            have hJ55 := kG_i hJ53 7465 rfl (v := ((i5 7465) + m47)) (kd_bd _)
            have s56 : (8 * ((a 118).getD (19 : Int32).toNatClampNeg 0)).toInt = 8 * ((a 118).getD (19 : Int32).toNatClampNeg 0).toInt := kd_cmul 8 kn8 (oz345 r2.1) (oz346 r2.2)
            have s57 : ((8 * ((a 118).getD (19 : Int32).toNatClampNeg 0)) + x1).toInt = (8 * ((a 118).getD (19 : Int32).toNatClampNeg 0)).toInt + x1.toInt := kd_add (oz347 hp0.1 r2.1 s56) (oz348 hp0.2 r2.2 s56)
            refine ft_go mi_k165 23 155 [(4, .int m47), (3, .int ((a 118).getD (25 : Int32).toNatClampNeg 0)), (2, .int ((a 118).getD (19 : Int32).toNatClampNeg 0)), (0, .ref 116), (1, .int x1)] [.int ((8 * ((a 118).getD (19 : Int32).toNatClampNeg 0)) + x1), .ref 141, .int ((8 * ((a 118).getD (19 : Int32).toNatClampNeg 0)) + x1), .ref 141] (ku (ku (ku i5 7464 ((a 118).getD (19 : Int32).toNatClampNeg 0)) 7467 ((i5 7467) + (((a 118).getD (25 : Int32).toNatClampNeg 0) - m47))) 7465 ((i5 7465) + m47)) a5 q5 r5 (by rfl) ?_
            refine ko_iald3 mi_k165.1 (n := 64) (c := 64) (ax := (0, 0, 0, 0, 0)) (mi_k165.2 _ _ (by rfl)) (by rfl) (ksG141 _ _ _ _) (hJ55.I.2.1 141) rfl (oz349 hp0.1 r2.1 s56 s57) (oz350 hp0.2 r2.2 s56 s57) ?_
            have b58 : ((-2147483648 : Int) ≤ ((a5 141).getD ((8 * ((a 118).getD (19 : Int32).toNatClampNeg 0)) + x1).toNatClampNeg 0).toInt) ∧ (((a5 141).getD ((8 * ((a 118).getD (19 : Int32).toNatClampNeg 0)) + x1).toNatClampNeg 0).toInt ≤ 2147483647) := kd_bd ((a5 141).getD ((8 * ((a 118).getD (19 : Int32).toNatClampNeg 0)) + x1).toNatClampNeg 0)
            refine ft_go mi_k165 2 159 [(4, .int m47), (3, .int ((a 118).getD (25 : Int32).toNatClampNeg 0)), (2, .int ((a 118).getD (19 : Int32).toNatClampNeg 0)), (0, .ref 116), (1, .int x1)] [.int (((a5 141).getD ((8 * ((a 118).getD (19 : Int32).toNatClampNeg 0)) + x1).toNatClampNeg 0) + m47), .int ((8 * ((a 118).getD (19 : Int32).toNatClampNeg 0)) + x1), .ref 141] (ku (ku (ku i5 7464 ((a 118).getD (19 : Int32).toNatClampNeg 0)) 7467 ((i5 7467) + (((a 118).getD (25 : Int32).toNatClampNeg 0) - m47))) 7465 ((i5 7465) + m47)) a5 q5 r5 (by rfl) ?_
            refine ko_iast3 mi_k165.1 (n := 64) (c := 64) (ax := (0, 0, 0, 0, 0)) (mi_k165.2 _ _ (by rfl)) (by rfl) (ksG141 _ _ _ _) (ksA141 _ _ _ _) (hJ55.I.2.1 141) rfl (oz349 hp0.1 r2.1 s56 s57) (oz350 hp0.2 r2.2 s56 s57) ?_
            intro a59 ea59 fa59
            have hJ59 := kG_a3 hJ55 141 rfl ea59 fa59 (kd_bd _)
            refine ft_go mi_k165 4 166 [(4, .int m47), (3, .int ((a 118).getD (25 : Int32).toNatClampNeg 0)), (2, .int ((a 118).getD (19 : Int32).toNatClampNeg 0)), (0, .ref 116), (1, .int x1)] [.int ((a 118).getD (19 : Int32).toNatClampNeg 0), .ref 118, .int ((a 118).getD (19 : Int32).toNatClampNeg 0), .ref 118] (ku (ku (ku i5 7464 ((a 118).getD (19 : Int32).toNatClampNeg 0)) 7467 ((i5 7467) + (((a 118).getD (25 : Int32).toNatClampNeg 0) - m47))) 7465 ((i5 7465) + m47)) a59 q5 r5 (by rfl) ?_
            refine ko_iald3 mi_k165.1 (n := 31) (c := 31) (ax := (0, 0, 0, 0, 0)) (mi_k165.2 _ _ (by rfl)) (by rfl) (ksG118 _ _ _ _) (hJ59.I.2.1 118) rfl (oz3 r2.1) (oz65 r2.2) ?_
            have r60 : ((((a 118).getD (19 : Int32).toNatClampNeg 0).toInt = 18 → (0 : Int) ≤ ((a59 118).getD ((a 118).getD (19 : Int32).toNatClampNeg 0).toNatClampNeg 0).toInt ∧ ((a59 118).getD ((a 118).getD (19 : Int32).toNatClampNeg 0).toNatClampNeg 0).toInt ≤ 5)) ∧ ((19 ≤ ((a 118).getD (19 : Int32).toNatClampNeg 0).toInt → ((a 118).getD (19 : Int32).toNatClampNeg 0).toInt ≤ 24 → (0 : Int) ≤ ((a59 118).getD ((a 118).getD (19 : Int32).toNatClampNeg 0).toNatClampNeg 0).toInt ∧ ((a59 118).getD ((a 118).getD (19 : Int32).toNatClampNeg 0).toNatClampNeg 0).toInt ≤ 7)) := kE_ncond (p := 118) hJ59.I (by decide) (j := ((a 118).getD (19 : Int32).toNatClampNeg 0)) (oz3 r2.1)
            have u61 : ((a59 118).getD ((a 118).getD (19 : Int32).toNatClampNeg 0).toNatClampNeg 0).toInt = ((a5 118).getD ((a 118).getD (19 : Int32).toNatClampNeg 0).toNatClampNeg 0).toInt := congrArg (fun z : List Int32 => (z.getD ((a 118).getD (19 : Int32).toNatClampNeg 0).toNatClampNeg 0).toInt) (fa59 118 (by decide))
            have b62 : ((-2147483648 : Int) ≤ ((a59 118).getD ((a 118).getD (19 : Int32).toNatClampNeg 0).toNatClampNeg 0).toInt) ∧ (((a59 118).getD ((a 118).getD (19 : Int32).toNatClampNeg 0).toNatClampNeg 0).toInt ≤ 2147483647) := kd_bd ((a59 118).getD ((a 118).getD (19 : Int32).toNatClampNeg 0).toNatClampNeg 0)
            refine ft_go mi_k165 2 170 [(4, .int m47), (3, .int ((a 118).getD (25 : Int32).toNatClampNeg 0)), (2, .int ((a 118).getD (19 : Int32).toNatClampNeg 0)), (0, .ref 116), (1, .int x1)] [.int (((a59 118).getD ((a 118).getD (19 : Int32).toNatClampNeg 0).toNatClampNeg 0) - m47), .int ((a 118).getD (19 : Int32).toNatClampNeg 0), .ref 118] (ku (ku (ku i5 7464 ((a 118).getD (19 : Int32).toNatClampNeg 0)) 7467 ((i5 7467) + (((a 118).getD (25 : Int32).toNatClampNeg 0) - m47))) 7465 ((i5 7465) + m47)) a59 q5 r5 (by rfl) ?_
            refine ko_iast3 mi_k165.1 (n := 31) (c := 31) (ax := (0, 0, 0, 0, 0)) (mi_k165.2 _ _ (by rfl)) (by rfl) (ksG118 _ _ _ _) (ksA118 _ _ _ _) (hJ59.I.2.1 118) rfl (oz3 r2.1) (oz65 r2.2) ?_
            intro a63 ea63 fa63
            have hJ63 := kG_a3 hJ59 118 rfl ea63 fa63 (kE_nset (p := 118) (by decide) (oz3 r2.1) (oz90 r2.2) (oz91 r2.2))
            refine ft_go mi_k165 7 184 [(4, .int m47), (3, .int ((a 118).getD (25 : Int32).toNatClampNeg 0)), (2, .int ((a 118).getD (19 : Int32).toNatClampNeg 0)), (0, .ref 116), (1, .int x1)] [.int x1, .ref 118, .int 999, .int x1, .ref 118] (ku (ku (ku i5 7464 ((a 118).getD (19 : Int32).toNatClampNeg 0)) 7467 ((i5 7467) + (((a 118).getD (25 : Int32).toNatClampNeg 0) - m47))) 7465 ((i5 7465) + m47)) a63 q5 r5 (by rfl) ?_
            refine ko_iald3 mi_k165.1 (n := 31) (c := 31) (ax := (0, 0, 0, 0, 0)) (mi_k165.2 _ _ (by rfl)) (by rfl) (ksG118 _ _ _ _) (hJ63.I.2.1 118) rfl (oz3 hp0.1) (oz65 hp0.2) ?_
            have r64 : ((x1.toInt = 18 → (0 : Int) ≤ ((a63 118).getD x1.toNatClampNeg 0).toInt ∧ ((a63 118).getD x1.toNatClampNeg 0).toInt ≤ 5)) ∧ ((19 ≤ x1.toInt → x1.toInt ≤ 24 → (0 : Int) ≤ ((a63 118).getD x1.toNatClampNeg 0).toInt ∧ ((a63 118).getD x1.toNatClampNeg 0).toInt ≤ 7)) := kE_ncond (p := 118) hJ63.I (by decide) (j := x1) (oz3 hp0.1)
            have u65 : ((a59 118).getD x1.toNatClampNeg 0).toInt = ((a5 118).getD x1.toNatClampNeg 0).toInt := congrArg (fun z : List Int32 => (z.getD x1.toNatClampNeg 0).toInt) (fa59 118 (by decide))
            have u66 : ((a63 118).getD x1.toNatClampNeg 0).toInt = ((a59 118).getD x1.toNatClampNeg 0).toInt := congrArg Int32.toInt ((congrArg (fun z : List Int32 => z.getD x1.toNatClampNeg 0) ea63).trans (kgs_ne (oz3 hp0.1) (oz3 r2.1) (oz351 c45)))
            have b67 : ((-2147483648 : Int) ≤ ((a63 118).getD x1.toNatClampNeg 0).toInt) ∧ (((a63 118).getD x1.toNatClampNeg 0).toInt ≤ 2147483647) := kd_bd ((a63 118).getD x1.toNatClampNeg 0)
            refine ft_go mi_k165 2 188 [(4, .int m47), (3, .int ((a 118).getD (25 : Int32).toNatClampNeg 0)), (2, .int ((a 118).getD (19 : Int32).toNatClampNeg 0)), (0, .ref 116), (1, .int x1)] [.int (((a63 118).getD x1.toNatClampNeg 0) + m47), .int 999, .int x1, .ref 118] (ku (ku (ku i5 7464 ((a 118).getD (19 : Int32).toNatClampNeg 0)) 7467 ((i5 7467) + (((a 118).getD (25 : Int32).toNatClampNeg 0) - m47))) 7465 ((i5 7465) + m47)) a63 q5 r5 (by rfl) ?_
            have m69 : (((bif decide ((((a63 118).getD x1.toNatClampNeg 0) + m47) < 999) then (((a63 118).getD x1.toNatClampNeg 0) + m47) else 999).toInt ≤ (999 : Int32).toInt) ∧ ((bif decide ((((a63 118).getD x1.toNatClampNeg 0) + m47) < 999) then (((a63 118).getD x1.toNatClampNeg 0) + m47) else 999).toInt ≤ (((a63 118).getD x1.toNatClampNeg 0) + m47).toInt)) ∧ ((bif decide ((((a63 118).getD x1.toNatClampNeg 0) + m47) < 999) then (((a63 118).getD x1.toNatClampNeg 0) + m47) else 999).toInt = (999 : Int32).toInt ∨ (bif decide ((((a63 118).getD x1.toNatClampNeg 0) + m47) < 999) then (((a63 118).getD x1.toNatClampNeg 0) + m47) else 999).toInt = (((a63 118).getD x1.toNatClampNeg 0) + m47).toInt) := kd_min
            refine ft_go mi_k165 1 191 [(4, .int m47), (3, .int ((a 118).getD (25 : Int32).toNatClampNeg 0)), (2, .int ((a 118).getD (19 : Int32).toNatClampNeg 0)), (0, .ref 116), (1, .int x1)] [.int (bif decide ((((a63 118).getD x1.toNatClampNeg 0) + m47) < 999) then (((a63 118).getD x1.toNatClampNeg 0) + m47) else 999), .int x1, .ref 118] (ku (ku (ku i5 7464 ((a 118).getD (19 : Int32).toNatClampNeg 0)) 7467 ((i5 7467) + (((a 118).getD (25 : Int32).toNatClampNeg 0) - m47))) 7465 ((i5 7465) + m47)) a63 q5 r5 (by rfl) ?_
            generalize (bif decide ((((a63 118).getD x1.toNatClampNeg 0) + m47) < 999) then (((a63 118).getD x1.toNatClampNeg 0) + m47) else 999) = m68 at m69 ⊢
            refine ko_iast3 mi_k165.1 (n := 31) (c := 31) (ax := (0, 0, 0, 0, 0)) (mi_k165.2 _ _ (by rfl)) (by rfl) (ksG118 _ _ _ _) (ksA118 _ _ _ _) (hJ63.I.2.1 118) rfl (oz3 hp0.1) (oz65 hp0.2) ?_
            intro a70 ea70 fa70
            have hJ70 := kG_a3 hJ63 118 rfl ea70 fa70 (kE_nset (p := 118) (by decide) (oz3 hp0.1) (oz90 hp0.2) (oz91 hp0.2))
            have r71 : ((0 : Int) ≤ ((a70 118).getD (18 : Int32).toNatClampNeg 0).toInt) ∧ (((a70 118).getD (18 : Int32).toNatClampNeg 0).toInt ≤ 5) := kE_n18 (p := 118) hJ70.I (by decide)
            have u72 : ((a59 118).getD (18 : Int32).toNatClampNeg 0).toInt = ((a5 118).getD (18 : Int32).toNatClampNeg 0).toInt := congrArg (fun z : List Int32 => (z.getD (18 : Int32).toNatClampNeg 0).toInt) (fa59 118 (by decide))
            have u73 : ((a63 118).getD (18 : Int32).toNatClampNeg 0).toInt = ((a59 118).getD (18 : Int32).toNatClampNeg 0).toInt := congrArg Int32.toInt ((congrArg (fun z : List Int32 => z.getD (18 : Int32).toNatClampNeg 0) ea63).trans (kgs_ne (oz195 kn18) (oz3 r2.1) (oz352 r2.2 kn18)))
            have u74 : ((a70 118).getD (18 : Int32).toNatClampNeg 0).toInt = ((a63 118).getD (18 : Int32).toNatClampNeg 0).toInt := congrArg Int32.toInt ((congrArg (fun z : List Int32 => z.getD (18 : Int32).toNatClampNeg 0) ea70).trans (kgs_ne (oz195 kn18) (oz3 hp0.1) (oz352 hp0.2 kn18)))
            exact ft_ret mi_k165 (by rfl) (hP  _ _ _ _ hJ70 (oz375 p5_1 u72 u73 u74))
          ·
            have c75 : ((a 118).getD (19 : Int32).toNatClampNeg 0).toInt = x1.toInt := kd_neF c; clear c
            exact ft_ret mi_k165 (by rfl) (hP  _ _ _ _ hJ44 (oz376 p5_1))
      ·
        have c76 : l4_5.toInt < ((a5 118).getD (18 : Int32).toNatClampNeg 0).toInt := kd_leF c; clear c
        have s77 : (19 + l4_5).toInt = (19 : Int32).toInt + l4_5.toInt := kd_add (oz309 p5_0 kn19) (oz355 c76 r8.2 kn19)
        have s78 : (20 + l4_5).toInt = (20 : Int32).toInt + l4_5.toInt := kd_add (oz356 p5_0 kn20) (oz357 c76 r8.2 kn20)
        refine ft_go mi_k165 10 60 [(4, .int l4_5), (3, .int ((a 118).getD (25 : Int32).toNatClampNeg 0)), (2, .int ((a 118).getD (19 : Int32).toNatClampNeg 0)), (0, .ref 116), (1, .int x1)] [.int (20 + l4_5), .ref 118, .int (19 + l4_5), .ref 118] i5 a5 q5 r5 (by rfl) ?_
        refine ko_iald3 mi_k165.1 (n := 31) (c := 31) (ax := (0, 0, 0, 0, 0)) (mi_k165.2 _ _ (by rfl)) (by rfl) (ksG118 _ _ _ _) (hL5.I.2.1 118) rfl (oz358 p5_0 s78 kn20) (oz359 c76 r8.2 s78 kn20) ?_
        have r79 : (((20 + l4_5).toInt = 18 → (0 : Int) ≤ ((a5 118).getD (20 + l4_5).toNatClampNeg 0).toInt ∧ ((a5 118).getD (20 + l4_5).toNatClampNeg 0).toInt ≤ 5)) ∧ ((19 ≤ (20 + l4_5).toInt → (20 + l4_5).toInt ≤ 24 → (0 : Int) ≤ ((a5 118).getD (20 + l4_5).toNatClampNeg 0).toInt ∧ ((a5 118).getD (20 + l4_5).toNatClampNeg 0).toInt ≤ 7)) := kE_ncond (p := 118) hL5.I (by decide) (j := (20 + l4_5)) (oz358 p5_0 s78 kn20)
        refine ko_iast3 mi_k165.1 (n := 31) (c := 31) (ax := (0, 0, 0, 0, 0)) (mi_k165.2 _ _ (by rfl)) (by rfl) (ksG118 _ _ _ _) (ksA118 _ _ _ _) (hL5.I.2.1 118) rfl (oz311 p5_0 s77 kn19) (oz361 c76 r8.2 s77 kn19) ?_
        intro a80 ea80 fa80
        have hJ80 := kG_a3 hL5 118 rfl ea80 fa80 (kE_nset (p := 118) (by decide) (oz311 p5_0 s77 kn19) (oz313 p5_0 s77 kn19) (oz377 c76 p5_0 r79.2 r8.2 s78 kn20))
        have s81 : (25 + l4_5).toInt = (25 : Int32).toInt + l4_5.toInt := kd_add (oz316 p5_0 kn25) (oz363 c76 r8.2 kn25)
        have s82 : (26 + l4_5).toInt = (26 : Int32).toInt + l4_5.toInt := kd_add (oz364 p5_0 kn26) (oz365 c76 r8.2 kn26)
        refine ft_go mi_k165 10 80 [(4, .int l4_5), (3, .int ((a 118).getD (25 : Int32).toNatClampNeg 0)), (2, .int ((a 118).getD (19 : Int32).toNatClampNeg 0)), (0, .ref 116), (1, .int x1)] [.int (26 + l4_5), .ref 118, .int (25 + l4_5), .ref 118] i5 a80 q5 r5 (by rfl) ?_
        refine ko_iald3 mi_k165.1 (n := 31) (c := 31) (ax := (0, 0, 0, 0, 0)) (mi_k165.2 _ _ (by rfl)) (by rfl) (ksG118 _ _ _ _) (hJ80.I.2.1 118) rfl (oz366 p5_0 s82 kn26) (oz367 c76 r8.2 s82 kn26) ?_
        have r83 : (((26 + l4_5).toInt = 18 → (0 : Int) ≤ ((a80 118).getD (26 + l4_5).toNatClampNeg 0).toInt ∧ ((a80 118).getD (26 + l4_5).toNatClampNeg 0).toInt ≤ 5)) ∧ ((19 ≤ (26 + l4_5).toInt → (26 + l4_5).toInt ≤ 24 → (0 : Int) ≤ ((a80 118).getD (26 + l4_5).toNatClampNeg 0).toInt ∧ ((a80 118).getD (26 + l4_5).toNatClampNeg 0).toInt ≤ 7)) := kE_ncond (p := 118) hJ80.I (by decide) (j := (26 + l4_5)) (oz366 p5_0 s82 kn26)
        have u84 : ((a80 118).getD (26 + l4_5).toNatClampNeg 0).toInt = ((a5 118).getD (26 + l4_5).toNatClampNeg 0).toInt := congrArg Int32.toInt ((congrArg (fun z : List Int32 => z.getD (26 + l4_5).toNatClampNeg 0) ea80).trans (kgs_ne (oz366 p5_0 s82 kn26) (oz311 p5_0 s77 kn19) (oz368 s77 s82 kn19 kn26)))
        refine ko_iast3 mi_k165.1 (n := 31) (c := 31) (ax := (0, 0, 0, 0, 0)) (mi_k165.2 _ _ (by rfl)) (by rfl) (ksG118 _ _ _ _) (ksA118 _ _ _ _) (hJ80.I.2.1 118) rfl (oz318 p5_0 s81 kn25) (oz369 c76 r8.2 s81 kn25) ?_
        intro a85 ea85 fa85
        have hJ85 := kG_a3 hJ80 118 rfl ea85 fa85 (kE_nset (p := 118) (by decide) (oz318 p5_0 s81 kn25) (oz320 p5_0 s81 kn25) (oz321 p5_0 s81 kn25))
        have s86 : (l4_5 + 1).toInt = l4_5.toInt + (1 : Int32).toInt := kd_add (oz12 p5_0 kn1) (oz370 c76 r8.2 kn1)
        refine ft_go mi_k165 2 30 [(4, .int (l4_5 + 1)), (3, .int ((a 118).getD (25 : Int32).toNatClampNeg 0)), (2, .int ((a 118).getD (19 : Int32).toNatClampNeg 0)), (0, .ref 116), (1, .int x1)] [] i5 a85 q5 r5 (by rfl) ?_
        have r87 : ((0 : Int) ≤ ((a85 118).getD (18 : Int32).toNatClampNeg 0).toInt) ∧ (((a85 118).getD (18 : Int32).toNatClampNeg 0).toInt ≤ 5) := kE_n18 (p := 118) hJ85.I (by decide)
        have u88 : ((a80 118).getD (18 : Int32).toNatClampNeg 0).toInt = ((a5 118).getD (18 : Int32).toNatClampNeg 0).toInt := congrArg Int32.toInt ((congrArg (fun z : List Int32 => z.getD (18 : Int32).toNatClampNeg 0) ea80).trans (kgs_ne (oz195 kn18) (oz311 p5_0 s77 kn19) (oz315 p5_0 s77 kn19 kn18)))
        have u89 : ((a85 118).getD (18 : Int32).toNatClampNeg 0).toInt = ((a80 118).getD (18 : Int32).toNatClampNeg 0).toInt := congrArg Int32.toInt ((congrArg (fun z : List Int32 => z.getD (18 : Int32).toNatClampNeg 0) ea85).trans (kgs_ne (oz195 kn18) (oz318 p5_0 s81 kn25) (oz322 p5_0 s81 kn25 kn18)))
        exact ih5 _ _ _ _ _ hJ85 (oz14 p5_0 s86 kn1) (oz378 p5_1 u88 u89) (kj_meas (oz372 s86 kn1) (oz373 c76 r8.2) hm5)
  have r90 : ((0 : Int) ≤ ((a4 118).getD (18 : Int32).toNatClampNeg 0).toInt) ∧ (((a4 118).getD (18 : Int32).toNatClampNeg 0).toInt ≤ 5) := kE_n18 (p := 118) hJ4.I (by decide)
  have u91 : ((a4 118).getD (18 : Int32).toNatClampNeg 0).toInt = (((a 118).getD (18 : Int32).toNatClampNeg 0) - 1).toInt := congrArg Int32.toInt ((congrArg (fun z : List Int32 => z.getD (18 : Int32).toNatClampNeg 0) ea4).trans (kgs_eq2 (n := 31) (c := 31) (hG.I.2.1 118) rfl (oz195 kn18) (oz196 kn18)))
  exact lp5 _ _ _ _ _ _ (kG_self _ hJ4.I hJ4.R) (oz46 kn0) (oz374 s3 u91 kn1) (Nat.lt_succ_self _)
def w166_116 : kW := ([7464, 7465, 7466, 7467], [118, 128, 129, 141], [], [])
def w166_116_L45 : kW := ([7464, 7465, 7467], [118, 141], [], [])
set_option maxRecDepth 100000 in
theorem kc166_116 {i : Nat → Int32} {a : Nat → List Int32} {q : Nat → List Int64} {r : Nat → Nat} (hI : kI i a q) (hr : kr r) (x1 : Int32) (hp0 : ((0 : Int) ≤ x1.toInt) ∧ (x1.toInt ≤ 7)) (hE_code : kCode i a) : km 9 166 [.ref 116, .int x1] (ks i a q r) (kVI w166_116 i a q r (fun v i1 a1 q1 r1 => (v = 1 ∧ (True)) ∨ (v = 0 ∧ (True)))) := by
  have hG := kG_self w166_116 hI hr
  refine km_ofI (q := (mi_h166, mi_c166)) rfl (by decide) (Nat.le_of_ble_eq_true rfl) ?_
  intro P hP
  have hJ1 := kG_i hG 7464 rfl (v := 8) (kd_bd _)
  have hJ2 := kG_i hJ1 7465 rfl (v := 0) (kd_bd _)
  have hJ3 := kG_i hJ2 7466 rfl (v := 0) (kd_bd _)
  have s4 : (16 + x1).toInt = (16 : Int32).toInt + x1.toInt := kd_add (oz242 hp0.1 kn16) (oz243 hp0.2 kn16)
  refine ft_go mi_k166 14 24 [(0, .ref 116), (1, .int x1)] [.int (16 + x1), .ref 117] (ku (ku (ku i 7464 8) 7465 0) 7466 0) a q r (by rfl) ?_
  refine ko_iald3 mi_k166.1 (n := 24) (c := 24) (ax := (0, 0, 0, 0, 0)) (mi_k166.2 _ _ (by rfl)) (by rfl) (ksG117 _ _ _ _) (hJ3.I.2.1 117) rfl (oz244 hp0.1 s4 kn16) (oz245 hp0.2 s4 kn16) ?_
  refine ft_go mi_k166 1 26 [(0, .ref 116), (1, .int x1)] [.int 1, .int ((a 117).getD (16 + x1).toNatClampNeg 0)] (ku (ku (ku i 7464 8) 7465 0) 7466 0) a q r (by rfl) ?_
  refine ft_if mi_k166 (((a 117).getD (16 + x1).toNatClampNeg 0) != 1) 38 29 [(0, .ref 116), (1, .int x1)] [] (by rfl) (fun c => ?_) (fun c => ?_)
  ·
    have c5 : ((a 117).getD (16 + x1).toNatClampNeg 0).toInt ≠ (1 : Int32).toInt := kd_ne c; clear c
    refine ft_go mi_k166 3 43 [(0, .ref 116), (1, .int x1)] [.int x1, .ref 118] (ku (ku (ku i 7464 8) 7465 0) 7466 0) a q r (by rfl) ?_
    refine ko_iald3 mi_k166.1 (n := 31) (c := 31) (ax := (0, 0, 0, 0, 0)) (mi_k166.2 _ _ (by rfl)) (by rfl) (ksG118 _ _ _ _) (hJ3.I.2.1 118) rfl (oz3 hp0.1) (oz65 hp0.2) ?_
    have r6 : ((x1.toInt = 18 → (0 : Int) ≤ ((a 118).getD x1.toNatClampNeg 0).toInt ∧ ((a 118).getD x1.toNatClampNeg 0).toInt ≤ 5)) ∧ ((19 ≤ x1.toInt → x1.toInt ≤ 24 → (0 : Int) ≤ ((a 118).getD x1.toNatClampNeg 0).toInt ∧ ((a 118).getD x1.toNatClampNeg 0).toInt ≤ 7)) := kE_ncond (p := 118) hJ3.I (by decide) (j := x1) (oz3 hp0.1)
    refine ft_go mi_k166 1 45 [(2, .int ((a 118).getD x1.toNatClampNeg 0)), (0, .ref 116), (1, .int x1)] [] (ku (ku (ku i 7464 8) 7465 0) 7466 0) a q r (by rfl) ?_
    have lp7 : ∀ (nz : Nat) (i7 : Nat → Int32) (a7 : Nat → List Int32) (q7 : Nat → List Int64) (r7 : Nat → Nat), kG w166_116_L45 (ku (ku (ku i 7464 8) 7465 0) 7466 0) a q r i7 a7 q7 r7 → (((a7 118).getD (18 : Int32).toNatClampNeg 0).toInt).toNat < nz → ko 9 (mi_h166, mi_c166) P (45, [(2, .int ((a 118).getD x1.toNatClampNeg 0)), (0, .ref 116), (1, .int x1)], [], (0, 0), ks i7 a7 q7 r7) := by
      intro nz
      induction nz with
      | zero =>
        intro _ _ _ _ _ hm
        exact absurd hm (Nat.not_lt_zero _)
      | succ nz ih7 =>
        intro i7 a7 q7 r7 hL7 hm7
        have r9 : ((0 : Int) ≤ ((a7 118).getD (18 : Int32).toNatClampNeg 0).toInt) ∧ (((a7 118).getD (18 : Int32).toNatClampNeg 0).toInt ≤ 5) := kE_n18 (p := 118) hL7.I (by decide)
        refine ft_go mi_k166 3 51 [(2, .int ((a 118).getD x1.toNatClampNeg 0)), (0, .ref 116), (1, .int x1)] [.int 18, .ref 118] i7 a7 q7 r7 (by rfl) ?_
        refine ko_iald3 mi_k166.1 (n := 31) (c := 31) (ax := (0, 0, 0, 0, 0)) (mi_k166.2 _ _ (by rfl)) (by rfl) (ksG118 _ _ _ _) (hL7.I.2.1 118) rfl (oz195 kn18) (oz196 kn18) ?_
        have fi7_7426 : ((1 : Int) ≤ (i7 7426).toInt) ∧ ((i7 7426).toInt ≤ 5) := hL7.I.1 7426
        refine ft_go mi_k166 2 56 [(2, .int ((a 118).getD x1.toNatClampNeg 0)), (0, .ref 116), (1, .int x1)] [.int (i7 7426), .int ((a7 118).getD (18 : Int32).toNatClampNeg 0)] i7 a7 q7 r7 (by rfl) ?_
        refine ft_if mi_k166 (decide (((a7 118).getD (18 : Int32).toNatClampNeg 0) < (i7 7426))) 67 59 [(2, .int ((a 118).getD x1.toNatClampNeg 0)), (0, .ref 116), (1, .int x1)] [] (by rfl) (fun c => ?_) (fun c => ?_)
        ·
          have c10 : ((a7 118).getD (18 : Int32).toNatClampNeg 0).toInt < (i7 7426).toInt := kd_lt c; clear c
          have hG11 := kG_call hJ3 hL7 (by decide +kernel)
          refine ft_go mi_k166 4 71 [(2, .int ((a 118).getD x1.toNatClampNeg 0)), (0, .ref 116), (1, .int x1)] [.int ((a 118).getD x1.toNatClampNeg 0), .int x1, .ref 116, .ref 116] i7 a7 q7 r7 (by rfl) ?_
          refine ko_callI mi_k166.1 (pc := 71) (ls := [(2, .int ((a 118).getD x1.toNatClampNeg 0)), (0, .ref 116), (1, .int x1)]) (st := [.int ((a 118).getD x1.toNatClampNeg 0), .int x1, .ref 116, .ref 116]) (h := ks i7 a7 q7 r7) (i := (.invokevirtual 254, 3, 163, 0, 9, 0, 418)) (mi_k166.2 _ _ (by rfl)) (ft_invS mi_pq163 (by rfl)) (cy := mi_c163) mi_pq163 rfl (kc163_116 hG11.I hG11.R x1 ((a 118).getD x1.toNatClampNeg 0) (oz181 hp0.1 hp0.2) (kCode_of (i1 := i7) hE_code (hG11.fi 7432 rfl) (hG11.fa 120 rfl) (hG11.fa 121 rfl) (hG11.fa 122 rfl) (hG11.fa 123 rfl))) (by decide) ?_
          intro vg12 ig12 ag12 qg12 rg12 kg12 hg12
          have hGg12 := kG_call hG11 kg12 (by decide +kernel)
          have hJ13 := kG_i hGg12 7466 rfl (v := vg12) (kd_bd _)
          refine ft_go mi_k166 7 89 [(2, .int ((a 118).getD x1.toNatClampNeg 0)), (0, .ref 116), (1, .int x1)] [.int 18, .ref 118, .int 19, .ref 118] (ku ig12 7466 vg12) ag12 qg12 rg12 (by rfl) ?_
          refine ko_iald3 mi_k166.1 (n := 31) (c := 31) (ax := (0, 0, 0, 0, 0)) (mi_k166.2 _ _ (by rfl)) (by rfl) (ksG118 _ _ _ _) (hJ13.I.2.1 118) rfl (oz195 kn18) (oz196 kn18) ?_
          have r14 : ((0 : Int) ≤ ((ag12 118).getD (18 : Int32).toNatClampNeg 0).toInt) ∧ (((ag12 118).getD (18 : Int32).toNatClampNeg 0).toInt ≤ 5) := kE_n18 (p := 118) hJ13.I (by decide)
          have u15 : ((ag12 118).getD (18 : Int32).toNatClampNeg 0).toInt = ((a7 118).getD (18 : Int32).toNatClampNeg 0).toInt := congrArg (fun z : List Int32 => (z.getD (18 : Int32).toNatClampNeg 0).toInt) (kg12.fa 118 rfl)
          have s16 : (19 + ((ag12 118).getD (18 : Int32).toNatClampNeg 0)).toInt = (19 : Int32).toInt + ((ag12 118).getD (18 : Int32).toNatClampNeg 0).toInt := kd_add (oz309 r14.1 kn19) (oz310 r14.2 kn19)
          refine ft_go mi_k166 2 92 [(2, .int ((a 118).getD x1.toNatClampNeg 0)), (0, .ref 116), (1, .int x1)] [.int x1, .int (19 + ((ag12 118).getD (18 : Int32).toNatClampNeg 0)), .ref 118] (ku ig12 7466 vg12) ag12 qg12 rg12 (by rfl) ?_
          refine ko_iast3 mi_k166.1 (n := 31) (c := 31) (ax := (0, 0, 0, 0, 0)) (mi_k166.2 _ _ (by rfl)) (by rfl) (ksG118 _ _ _ _) (ksA118 _ _ _ _) (hJ13.I.2.1 118) rfl (oz311 r14.1 s16 kn19) (oz312 r14.2 s16 kn19) ?_
          intro a17 ea17 fa17
          have hJ17 := kG_a3 hJ13 118 rfl ea17 fa17 (kE_nset (p := 118) (by decide) (oz311 r14.1 s16 kn19) (oz313 r14.1 s16 kn19) (oz314 hp0.1 hp0.2))
          refine ft_go mi_k166 6 105 [(2, .int ((a 118).getD x1.toNatClampNeg 0)), (0, .ref 116), (1, .int x1)] [.int 18, .ref 118, .int 25, .ref 118] (ku ig12 7466 vg12) a17 qg12 rg12 (by rfl) ?_
          refine ko_iald3 mi_k166.1 (n := 31) (c := 31) (ax := (0, 0, 0, 0, 0)) (mi_k166.2 _ _ (by rfl)) (by rfl) (ksG118 _ _ _ _) (hJ17.I.2.1 118) rfl (oz195 kn18) (oz196 kn18) ?_
          have r18 : ((0 : Int) ≤ ((a17 118).getD (18 : Int32).toNatClampNeg 0).toInt) ∧ (((a17 118).getD (18 : Int32).toNatClampNeg 0).toInt ≤ 5) := kE_n18 (p := 118) hJ17.I (by decide)
          have u19 : ((a17 118).getD (18 : Int32).toNatClampNeg 0).toInt = ((ag12 118).getD (18 : Int32).toNatClampNeg 0).toInt := congrArg Int32.toInt ((congrArg (fun z : List Int32 => z.getD (18 : Int32).toNatClampNeg 0) ea17).trans (kgs_ne (oz195 kn18) (oz311 r14.1 s16 kn19) (oz315 r14.1 s16 kn19 kn18)))
          have s20 : (25 + ((a17 118).getD (18 : Int32).toNatClampNeg 0)).toInt = (25 : Int32).toInt + ((a17 118).getD (18 : Int32).toNatClampNeg 0).toInt := kd_add (oz316 r18.1 kn25) (oz317 r18.2 kn25)
          refine ft_go mi_k166 3 111 [(2, .int ((a 118).getD x1.toNatClampNeg 0)), (0, .ref 116), (1, .int x1)] [.int vg12, .int (25 + ((a17 118).getD (18 : Int32).toNatClampNeg 0)), .ref 118] (ku ig12 7466 vg12) a17 qg12 rg12 (by rfl) ?_
          refine ko_iast3 mi_k166.1 (n := 31) (c := 31) (ax := (0, 0, 0, 0, 0)) (mi_k166.2 _ _ (by rfl)) (by rfl) (ksG118 _ _ _ _) (ksA118 _ _ _ _) (hJ17.I.2.1 118) rfl (oz318 r18.1 s20 kn25) (oz319 r18.2 s20 kn25) ?_
          intro a21 ea21 fa21
          have hJ21 := kG_a3 hJ17 118 rfl ea21 fa21 (kE_nset (p := 118) (by decide) (oz318 r18.1 s20 kn25) (oz320 r18.1 s20 kn25) (oz321 r18.1 s20 kn25))
          refine ft_go mi_k166 4 119 [(2, .int ((a 118).getD x1.toNatClampNeg 0)), (0, .ref 116), (1, .int x1)] [.int 18, .ref 118, .int 18, .ref 118] (ku ig12 7466 vg12) a21 qg12 rg12 (by rfl) ?_
          refine ko_iald3 mi_k166.1 (n := 31) (c := 31) (ax := (0, 0, 0, 0, 0)) (mi_k166.2 _ _ (by rfl)) (by rfl) (ksG118 _ _ _ _) (hJ21.I.2.1 118) rfl (oz195 kn18) (oz196 kn18) ?_
          have r22 : ((0 : Int) ≤ ((a21 118).getD (18 : Int32).toNatClampNeg 0).toInt) ∧ (((a21 118).getD (18 : Int32).toNatClampNeg 0).toInt ≤ 5) := kE_n18 (p := 118) hJ21.I (by decide)
          have u23 : ((a21 118).getD (18 : Int32).toNatClampNeg 0).toInt = ((a17 118).getD (18 : Int32).toNatClampNeg 0).toInt := congrArg Int32.toInt ((congrArg (fun z : List Int32 => z.getD (18 : Int32).toNatClampNeg 0) ea21).trans (kgs_ne (oz195 kn18) (oz318 r18.1 s20 kn25) (oz322 r18.1 s20 kn25 kn18)))
          have s24 : (((a21 118).getD (18 : Int32).toNatClampNeg 0) + 1).toInt = ((a21 118).getD (18 : Int32).toNatClampNeg 0).toInt + (1 : Int32).toInt := kd_add (oz12 r22.1 kn1) (oz323 r22.2 kn1)
          refine ft_go mi_k166 2 122 [(2, .int ((a 118).getD x1.toNatClampNeg 0)), (0, .ref 116), (1, .int x1)] [.int (((a21 118).getD (18 : Int32).toNatClampNeg 0) + 1), .int 18, .ref 118] (ku ig12 7466 vg12) a21 qg12 rg12 (by rfl) ?_
          refine ko_iast3 mi_k166.1 (n := 31) (c := 31) (ax := (0, 0, 0, 0, 0)) (mi_k166.2 _ _ (by rfl)) (by rfl) (ksG118 _ _ _ _) (ksA118 _ _ _ _) (hJ21.I.2.1 118) rfl (oz195 kn18) (oz196 kn18) ?_
          intro a25 ea25 fa25
          have hJ25 := kG_a3 hJ21 118 rfl ea25 fa25 (kE_nset (p := 118) (by decide) (oz195 kn18) (oz324 c10 fi7_7426.2 r22.1 s24 u15 u19 u23 kn1 kn18) (oz325 kn18))
          refine ft_go mi_k166 4 130 [(2, .int ((a 118).getD x1.toNatClampNeg 0)), (0, .ref 116), (1, .int x1)] [.int 9, .ref 118, .int 9, .ref 118] (ku ig12 7466 vg12) a25 qg12 rg12 (by rfl) ?_
          refine ko_iald3 mi_k166.1 (n := 31) (c := 31) (ax := (0, 0, 0, 0, 0)) (mi_k166.2 _ _ (by rfl)) (by rfl) (ksG118 _ _ _ _) (hJ25.I.2.1 118) rfl (oz258 kn9) (oz259 kn9) ?_
          have u26 : ((ag12 118).getD (9 : Int32).toNatClampNeg 0).toInt = ((a7 118).getD (9 : Int32).toNatClampNeg 0).toInt := congrArg (fun z : List Int32 => (z.getD (9 : Int32).toNatClampNeg 0).toInt) (kg12.fa 118 rfl)
          have u27 : ((a17 118).getD (9 : Int32).toNatClampNeg 0).toInt = ((ag12 118).getD (9 : Int32).toNatClampNeg 0).toInt := congrArg Int32.toInt ((congrArg (fun z : List Int32 => z.getD (9 : Int32).toNatClampNeg 0) ea17).trans (kgs_ne (oz258 kn9) (oz311 r14.1 s16 kn19) (oz326 r14.1 s16 kn19 kn9)))
          have u28 : ((a21 118).getD (9 : Int32).toNatClampNeg 0).toInt = ((a17 118).getD (9 : Int32).toNatClampNeg 0).toInt := congrArg Int32.toInt ((congrArg (fun z : List Int32 => z.getD (9 : Int32).toNatClampNeg 0) ea21).trans (kgs_ne (oz258 kn9) (oz318 r18.1 s20 kn25) (oz327 r18.1 s20 kn25 kn9)))
          have u29 : ((a25 118).getD (9 : Int32).toNatClampNeg 0).toInt = ((a21 118).getD (9 : Int32).toNatClampNeg 0).toInt := congrArg Int32.toInt ((congrArg (fun z : List Int32 => z.getD (9 : Int32).toNatClampNeg 0) ea25).trans (kgs_ne (oz258 kn9) (oz195 kn18) (oz328 kn9 kn18)))
          have b30 : ((-2147483648 : Int) ≤ ((a25 118).getD (9 : Int32).toNatClampNeg 0).toInt) ∧ (((a25 118).getD (9 : Int32).toNatClampNeg 0).toInt ≤ 2147483647) := kd_bd ((a25 118).getD (9 : Int32).toNatClampNeg 0)
          refine ft_go mi_k166 2 133 [(2, .int ((a 118).getD x1.toNatClampNeg 0)), (0, .ref 116), (1, .int x1)] [.int (((a25 118).getD (9 : Int32).toNatClampNeg 0) + 1), .int 9, .ref 118] (ku ig12 7466 vg12) a25 qg12 rg12 (by rfl) ?_
          refine ko_iast3 mi_k166.1 (n := 31) (c := 31) (ax := (0, 0, 0, 0, 0)) (mi_k166.2 _ _ (by rfl)) (by rfl) (ksG118 _ _ _ _) (ksA118 _ _ _ _) (hJ25.I.2.1 118) rfl (oz258 kn9) (oz259 kn9) ?_
          intro a31 ea31 fa31
          have hJ31 := kG_a3 hJ25 118 rfl ea31 fa31 (kE_nset (p := 118) (by decide) (oz258 kn9) (oz329 kn9) (oz330 kn9))
          have s32 : (10 + x1).toInt = (10 : Int32).toInt + x1.toInt := kd_add (oz251 hp0.1 kn10) (oz252 hp0.2 kn10)
          refine ft_go mi_k166 6 143 [(2, .int ((a 118).getD x1.toNatClampNeg 0)), (0, .ref 116), (1, .int x1)] [.int (10 + x1), .ref 118, .int (10 + x1), .ref 118] (ku ig12 7466 vg12) a31 qg12 rg12 (by rfl) ?_
          refine ko_iald3 mi_k166.1 (n := 31) (c := 31) (ax := (0, 0, 0, 0, 0)) (mi_k166.2 _ _ (by rfl)) (by rfl) (ksG118 _ _ _ _) (hJ31.I.2.1 118) rfl (oz253 hp0.1 s32 kn10) (oz254 hp0.2 s32 kn10) ?_
          have r33 : (((10 + x1).toInt = 18 → (0 : Int) ≤ ((a31 118).getD (10 + x1).toNatClampNeg 0).toInt ∧ ((a31 118).getD (10 + x1).toNatClampNeg 0).toInt ≤ 5)) ∧ ((19 ≤ (10 + x1).toInt → (10 + x1).toInt ≤ 24 → (0 : Int) ≤ ((a31 118).getD (10 + x1).toNatClampNeg 0).toInt ∧ ((a31 118).getD (10 + x1).toNatClampNeg 0).toInt ≤ 7)) := kE_ncond (p := 118) hJ31.I (by decide) (j := (10 + x1)) (oz253 hp0.1 s32 kn10)
          have u34 : ((ag12 118).getD (10 + x1).toNatClampNeg 0).toInt = ((a7 118).getD (10 + x1).toNatClampNeg 0).toInt := congrArg (fun z : List Int32 => (z.getD (10 + x1).toNatClampNeg 0).toInt) (kg12.fa 118 rfl)
          have u35 : ((a17 118).getD (10 + x1).toNatClampNeg 0).toInt = ((ag12 118).getD (10 + x1).toNatClampNeg 0).toInt := congrArg Int32.toInt ((congrArg (fun z : List Int32 => z.getD (10 + x1).toNatClampNeg 0) ea17).trans (kgs_ne (oz253 hp0.1 s32 kn10) (oz311 r14.1 s16 kn19) (oz331 hp0.2 r14.1 s16 s32 kn19 kn10)))
          have u36 : ((a21 118).getD (10 + x1).toNatClampNeg 0).toInt = ((a17 118).getD (10 + x1).toNatClampNeg 0).toInt := congrArg Int32.toInt ((congrArg (fun z : List Int32 => z.getD (10 + x1).toNatClampNeg 0) ea21).trans (kgs_ne (oz253 hp0.1 s32 kn10) (oz318 r18.1 s20 kn25) (oz332 hp0.2 r18.1 s20 s32 kn25 kn10)))
          have u37 : ((a25 118).getD (10 + x1).toNatClampNeg 0).toInt = ((a21 118).getD (10 + x1).toNatClampNeg 0).toInt := congrArg Int32.toInt ((congrArg (fun z : List Int32 => z.getD (10 + x1).toNatClampNeg 0) ea25).trans (kgs_ne (oz253 hp0.1 s32 kn10) (oz195 kn18) (oz333 hp0.2 s32 kn10 kn18)))
          have u38 : ((a31 118).getD (10 + x1).toNatClampNeg 0).toInt = ((a25 118).getD (10 + x1).toNatClampNeg 0).toInt := congrArg Int32.toInt ((congrArg (fun z : List Int32 => z.getD (10 + x1).toNatClampNeg 0) ea31).trans (kgs_ne (oz253 hp0.1 s32 kn10) (oz258 kn9) (oz334 hp0.1 s32 kn10 kn9)))
          have b39 : ((-2147483648 : Int) ≤ ((a31 118).getD (10 + x1).toNatClampNeg 0).toInt) ∧ (((a31 118).getD (10 + x1).toNatClampNeg 0).toInt ≤ 2147483647) := kd_bd ((a31 118).getD (10 + x1).toNatClampNeg 0)
          refine ft_go mi_k166 2 146 [(2, .int ((a 118).getD x1.toNatClampNeg 0)), (0, .ref 116), (1, .int x1)] [.int (((a31 118).getD (10 + x1).toNatClampNeg 0) + 1), .int (10 + x1), .ref 118] (ku ig12 7466 vg12) a31 qg12 rg12 (by rfl) ?_
          refine ko_iast3 mi_k166.1 (n := 31) (c := 31) (ax := (0, 0, 0, 0, 0)) (mi_k166.2 _ _ (by rfl)) (by rfl) (ksG118 _ _ _ _) (ksA118 _ _ _ _) (hJ31.I.2.1 118) rfl (oz253 hp0.1 s32 kn10) (oz254 hp0.2 s32 kn10) ?_
          intro a40 ea40 fa40
          have hJ40 := kG_a3 hJ31 118 rfl ea40 fa40 (kE_nset (p := 118) (by decide) (oz253 hp0.1 s32 kn10) (oz335 hp0.2 s32 kn10) (oz336 hp0.2 s32 kn10))
          refine ft_go mi_k166 1 148 [(2, .int ((a 118).getD x1.toNatClampNeg 0)), (0, .ref 116), (1, .int x1)] [.int 1] (ku ig12 7466 vg12) a40 qg12 rg12 (by rfl) ?_
          exact ft_ret mi_k166 (by rfl) (hP 1 _ _ _ _ hJ40 (Or.inl ⟨rfl, trivial⟩))
        ·
          have c41 : (i7 7426).toInt ≤ ((a7 118).getD (18 : Int32).toNatClampNeg 0).toInt := kd_ltF c; clear c
          refine ft_go mi_k166 2 61 [(2, .int ((a 118).getD x1.toNatClampNeg 0)), (0, .ref 116), (1, .int x1)] [.int x1, .ref 116] i7 a7 q7 r7 (by rfl) ?_
          refine ko_callN mi_k166.1 (pc := 61) (ls := [(2, .int ((a 118).getD x1.toNatClampNeg 0)), (0, .ref 116), (1, .int x1)]) (st := [.int x1, .ref 116]) (h := ks i7 a7 q7 r7) (i := (.invokevirtual 250, 3, 165, 0, 9, 0, 416)) (mi_k166.2 _ _ (by rfl)) (ft_invS mi_pq165 (by rfl)) (cy := mi_c165) mi_pq165 rfl (kc165_116 hL7.I hL7.R x1 (oz181 hp0.1 hp0.2) (oz379 c41 fi7_7426.1)) (by decide) ?_
          intro ig42 ag42 qg42 rg42 kg42 hg42
          have hGg42 := kG_call hL7 kg42 (by decide +kernel)
          have r43 : ((0 : Int) ≤ ((ag42 118).getD (18 : Int32).toNatClampNeg 0).toInt) ∧ (((ag42 118).getD (18 : Int32).toNatClampNeg 0).toInt ≤ 5) := kE_n18 (p := 118) hGg42.I (by decide)
          have z44 : ((ag42 118).getD (18 : Int32).toNatClampNeg 0).toInt = (((a7 118).getD (18 : Int32).toNatClampNeg 0).toInt - 1) := hg42
          refine ft_go mi_k166 1 45 [(2, .int ((a 118).getD x1.toNatClampNeg 0)), (0, .ref 116), (1, .int x1)] [] ig42 ag42 qg42 rg42 (by rfl) ?_
          exact ih7 _ _ _ _ hGg42 (kj_meas (oz380 z44) (oz379 c41 fi7_7426.1) hm7)
    exact lp7 _ _ _ _ _ (kG_self _ hJ3.I hJ3.R) (Nat.lt_succ_self _)
  ·
    have c45 : ((a 117).getD (16 + x1).toNatClampNeg 0).toInt = (1 : Int32).toInt := kd_neF c; clear c
    refine ft_go mi_k166 2 33 [(0, .ref 116), (1, .int x1)] [.int (i 7427)] (ku (ku (ku i 7464 8) 7465 0) 7466 0) a q r (by rfl) ?_
    refine ft_if mi_k166 ((i 7427) != 0) 38 36 [(0, .ref 116), (1, .int x1)] [] (by rfl) (fun c => ?_) (fun c => ?_)
    ·
      have c46 : (i 7427).toInt ≠ (0 : Int32).toInt := kd_ne c; clear c
      refine ft_go mi_k166 3 43 [(0, .ref 116), (1, .int x1)] [.int x1, .ref 118] (ku (ku (ku i 7464 8) 7465 0) 7466 0) a q r (by rfl) ?_
      refine ko_iald3 mi_k166.1 (n := 31) (c := 31) (ax := (0, 0, 0, 0, 0)) (mi_k166.2 _ _ (by rfl)) (by rfl) (ksG118 _ _ _ _) (hJ3.I.2.1 118) rfl (oz3 hp0.1) (oz65 hp0.2) ?_
      have r47 : ((x1.toInt = 18 → (0 : Int) ≤ ((a 118).getD x1.toNatClampNeg 0).toInt ∧ ((a 118).getD x1.toNatClampNeg 0).toInt ≤ 5)) ∧ ((19 ≤ x1.toInt → x1.toInt ≤ 24 → (0 : Int) ≤ ((a 118).getD x1.toNatClampNeg 0).toInt ∧ ((a 118).getD x1.toNatClampNeg 0).toInt ≤ 7)) := kE_ncond (p := 118) hJ3.I (by decide) (j := x1) (oz3 hp0.1)
      refine ft_go mi_k166 1 45 [(2, .int ((a 118).getD x1.toNatClampNeg 0)), (0, .ref 116), (1, .int x1)] [] (ku (ku (ku i 7464 8) 7465 0) 7466 0) a q r (by rfl) ?_
      have lp48 : ∀ (nz : Nat) (i48 : Nat → Int32) (a48 : Nat → List Int32) (q48 : Nat → List Int64) (r48 : Nat → Nat), kG w166_116_L45 (ku (ku (ku i 7464 8) 7465 0) 7466 0) a q r i48 a48 q48 r48 → (((a48 118).getD (18 : Int32).toNatClampNeg 0).toInt).toNat < nz → ko 9 (mi_h166, mi_c166) P (45, [(2, .int ((a 118).getD x1.toNatClampNeg 0)), (0, .ref 116), (1, .int x1)], [], (0, 0), ks i48 a48 q48 r48) := by
        intro nz
        induction nz with
        | zero =>
          intro _ _ _ _ _ hm
          exact absurd hm (Nat.not_lt_zero _)
        | succ nz ih48 =>
          intro i48 a48 q48 r48 hL48 hm48
          have r50 : ((0 : Int) ≤ ((a48 118).getD (18 : Int32).toNatClampNeg 0).toInt) ∧ (((a48 118).getD (18 : Int32).toNatClampNeg 0).toInt ≤ 5) := kE_n18 (p := 118) hL48.I (by decide)
          refine ft_go mi_k166 3 51 [(2, .int ((a 118).getD x1.toNatClampNeg 0)), (0, .ref 116), (1, .int x1)] [.int 18, .ref 118] i48 a48 q48 r48 (by rfl) ?_
          refine ko_iald3 mi_k166.1 (n := 31) (c := 31) (ax := (0, 0, 0, 0, 0)) (mi_k166.2 _ _ (by rfl)) (by rfl) (ksG118 _ _ _ _) (hL48.I.2.1 118) rfl (oz195 kn18) (oz196 kn18) ?_
          have fi48_7426 : ((1 : Int) ≤ (i48 7426).toInt) ∧ ((i48 7426).toInt ≤ 5) := hL48.I.1 7426
          refine ft_go mi_k166 2 56 [(2, .int ((a 118).getD x1.toNatClampNeg 0)), (0, .ref 116), (1, .int x1)] [.int (i48 7426), .int ((a48 118).getD (18 : Int32).toNatClampNeg 0)] i48 a48 q48 r48 (by rfl) ?_
          refine ft_if mi_k166 (decide (((a48 118).getD (18 : Int32).toNatClampNeg 0) < (i48 7426))) 67 59 [(2, .int ((a 118).getD x1.toNatClampNeg 0)), (0, .ref 116), (1, .int x1)] [] (by rfl) (fun c => ?_) (fun c => ?_)
          ·
            have c51 : ((a48 118).getD (18 : Int32).toNatClampNeg 0).toInt < (i48 7426).toInt := kd_lt c; clear c
            have hG52 := kG_call hJ3 hL48 (by decide +kernel)
            refine ft_go mi_k166 4 71 [(2, .int ((a 118).getD x1.toNatClampNeg 0)), (0, .ref 116), (1, .int x1)] [.int ((a 118).getD x1.toNatClampNeg 0), .int x1, .ref 116, .ref 116] i48 a48 q48 r48 (by rfl) ?_
            refine ko_callI mi_k166.1 (pc := 71) (ls := [(2, .int ((a 118).getD x1.toNatClampNeg 0)), (0, .ref 116), (1, .int x1)]) (st := [.int ((a 118).getD x1.toNatClampNeg 0), .int x1, .ref 116, .ref 116]) (h := ks i48 a48 q48 r48) (i := (.invokevirtual 254, 3, 163, 0, 9, 0, 418)) (mi_k166.2 _ _ (by rfl)) (ft_invS mi_pq163 (by rfl)) (cy := mi_c163) mi_pq163 rfl (kc163_116 hG52.I hG52.R x1 ((a 118).getD x1.toNatClampNeg 0) (oz181 hp0.1 hp0.2) (kCode_of (i1 := i48) hE_code (hG52.fi 7432 rfl) (hG52.fa 120 rfl) (hG52.fa 121 rfl) (hG52.fa 122 rfl) (hG52.fa 123 rfl))) (by decide) ?_
            intro vg53 ig53 ag53 qg53 rg53 kg53 hg53
            have hGg53 := kG_call hG52 kg53 (by decide +kernel)
            have hJ54 := kG_i hGg53 7466 rfl (v := vg53) (kd_bd _)
            refine ft_go mi_k166 7 89 [(2, .int ((a 118).getD x1.toNatClampNeg 0)), (0, .ref 116), (1, .int x1)] [.int 18, .ref 118, .int 19, .ref 118] (ku ig53 7466 vg53) ag53 qg53 rg53 (by rfl) ?_
            refine ko_iald3 mi_k166.1 (n := 31) (c := 31) (ax := (0, 0, 0, 0, 0)) (mi_k166.2 _ _ (by rfl)) (by rfl) (ksG118 _ _ _ _) (hJ54.I.2.1 118) rfl (oz195 kn18) (oz196 kn18) ?_
            have r55 : ((0 : Int) ≤ ((ag53 118).getD (18 : Int32).toNatClampNeg 0).toInt) ∧ (((ag53 118).getD (18 : Int32).toNatClampNeg 0).toInt ≤ 5) := kE_n18 (p := 118) hJ54.I (by decide)
            have u56 : ((ag53 118).getD (18 : Int32).toNatClampNeg 0).toInt = ((a48 118).getD (18 : Int32).toNatClampNeg 0).toInt := congrArg (fun z : List Int32 => (z.getD (18 : Int32).toNatClampNeg 0).toInt) (kg53.fa 118 rfl)
            have s57 : (19 + ((ag53 118).getD (18 : Int32).toNatClampNeg 0)).toInt = (19 : Int32).toInt + ((ag53 118).getD (18 : Int32).toNatClampNeg 0).toInt := kd_add (oz309 r55.1 kn19) (oz310 r55.2 kn19)
            refine ft_go mi_k166 2 92 [(2, .int ((a 118).getD x1.toNatClampNeg 0)), (0, .ref 116), (1, .int x1)] [.int x1, .int (19 + ((ag53 118).getD (18 : Int32).toNatClampNeg 0)), .ref 118] (ku ig53 7466 vg53) ag53 qg53 rg53 (by rfl) ?_
            refine ko_iast3 mi_k166.1 (n := 31) (c := 31) (ax := (0, 0, 0, 0, 0)) (mi_k166.2 _ _ (by rfl)) (by rfl) (ksG118 _ _ _ _) (ksA118 _ _ _ _) (hJ54.I.2.1 118) rfl (oz311 r55.1 s57 kn19) (oz312 r55.2 s57 kn19) ?_
            intro a58 ea58 fa58
            have hJ58 := kG_a3 hJ54 118 rfl ea58 fa58 (kE_nset (p := 118) (by decide) (oz311 r55.1 s57 kn19) (oz313 r55.1 s57 kn19) (oz314 hp0.1 hp0.2))
            refine ft_go mi_k166 6 105 [(2, .int ((a 118).getD x1.toNatClampNeg 0)), (0, .ref 116), (1, .int x1)] [.int 18, .ref 118, .int 25, .ref 118] (ku ig53 7466 vg53) a58 qg53 rg53 (by rfl) ?_
            refine ko_iald3 mi_k166.1 (n := 31) (c := 31) (ax := (0, 0, 0, 0, 0)) (mi_k166.2 _ _ (by rfl)) (by rfl) (ksG118 _ _ _ _) (hJ58.I.2.1 118) rfl (oz195 kn18) (oz196 kn18) ?_
            have r59 : ((0 : Int) ≤ ((a58 118).getD (18 : Int32).toNatClampNeg 0).toInt) ∧ (((a58 118).getD (18 : Int32).toNatClampNeg 0).toInt ≤ 5) := kE_n18 (p := 118) hJ58.I (by decide)
            have u60 : ((a58 118).getD (18 : Int32).toNatClampNeg 0).toInt = ((ag53 118).getD (18 : Int32).toNatClampNeg 0).toInt := congrArg Int32.toInt ((congrArg (fun z : List Int32 => z.getD (18 : Int32).toNatClampNeg 0) ea58).trans (kgs_ne (oz195 kn18) (oz311 r55.1 s57 kn19) (oz315 r55.1 s57 kn19 kn18)))
            have s61 : (25 + ((a58 118).getD (18 : Int32).toNatClampNeg 0)).toInt = (25 : Int32).toInt + ((a58 118).getD (18 : Int32).toNatClampNeg 0).toInt := kd_add (oz316 r59.1 kn25) (oz317 r59.2 kn25)
            refine ft_go mi_k166 3 111 [(2, .int ((a 118).getD x1.toNatClampNeg 0)), (0, .ref 116), (1, .int x1)] [.int vg53, .int (25 + ((a58 118).getD (18 : Int32).toNatClampNeg 0)), .ref 118] (ku ig53 7466 vg53) a58 qg53 rg53 (by rfl) ?_
            refine ko_iast3 mi_k166.1 (n := 31) (c := 31) (ax := (0, 0, 0, 0, 0)) (mi_k166.2 _ _ (by rfl)) (by rfl) (ksG118 _ _ _ _) (ksA118 _ _ _ _) (hJ58.I.2.1 118) rfl (oz318 r59.1 s61 kn25) (oz319 r59.2 s61 kn25) ?_
            intro a62 ea62 fa62
            have hJ62 := kG_a3 hJ58 118 rfl ea62 fa62 (kE_nset (p := 118) (by decide) (oz318 r59.1 s61 kn25) (oz320 r59.1 s61 kn25) (oz321 r59.1 s61 kn25))
            refine ft_go mi_k166 4 119 [(2, .int ((a 118).getD x1.toNatClampNeg 0)), (0, .ref 116), (1, .int x1)] [.int 18, .ref 118, .int 18, .ref 118] (ku ig53 7466 vg53) a62 qg53 rg53 (by rfl) ?_
            refine ko_iald3 mi_k166.1 (n := 31) (c := 31) (ax := (0, 0, 0, 0, 0)) (mi_k166.2 _ _ (by rfl)) (by rfl) (ksG118 _ _ _ _) (hJ62.I.2.1 118) rfl (oz195 kn18) (oz196 kn18) ?_
            have r63 : ((0 : Int) ≤ ((a62 118).getD (18 : Int32).toNatClampNeg 0).toInt) ∧ (((a62 118).getD (18 : Int32).toNatClampNeg 0).toInt ≤ 5) := kE_n18 (p := 118) hJ62.I (by decide)
            have u64 : ((a62 118).getD (18 : Int32).toNatClampNeg 0).toInt = ((a58 118).getD (18 : Int32).toNatClampNeg 0).toInt := congrArg Int32.toInt ((congrArg (fun z : List Int32 => z.getD (18 : Int32).toNatClampNeg 0) ea62).trans (kgs_ne (oz195 kn18) (oz318 r59.1 s61 kn25) (oz322 r59.1 s61 kn25 kn18)))
            have s65 : (((a62 118).getD (18 : Int32).toNatClampNeg 0) + 1).toInt = ((a62 118).getD (18 : Int32).toNatClampNeg 0).toInt + (1 : Int32).toInt := kd_add (oz12 r63.1 kn1) (oz323 r63.2 kn1)
            refine ft_go mi_k166 2 122 [(2, .int ((a 118).getD x1.toNatClampNeg 0)), (0, .ref 116), (1, .int x1)] [.int (((a62 118).getD (18 : Int32).toNatClampNeg 0) + 1), .int 18, .ref 118] (ku ig53 7466 vg53) a62 qg53 rg53 (by rfl) ?_
            refine ko_iast3 mi_k166.1 (n := 31) (c := 31) (ax := (0, 0, 0, 0, 0)) (mi_k166.2 _ _ (by rfl)) (by rfl) (ksG118 _ _ _ _) (ksA118 _ _ _ _) (hJ62.I.2.1 118) rfl (oz195 kn18) (oz196 kn18) ?_
            intro a66 ea66 fa66
            have hJ66 := kG_a3 hJ62 118 rfl ea66 fa66 (kE_nset (p := 118) (by decide) (oz195 kn18) (oz324 c51 fi48_7426.2 r63.1 s65 u56 u60 u64 kn1 kn18) (oz325 kn18))
            refine ft_go mi_k166 4 130 [(2, .int ((a 118).getD x1.toNatClampNeg 0)), (0, .ref 116), (1, .int x1)] [.int 9, .ref 118, .int 9, .ref 118] (ku ig53 7466 vg53) a66 qg53 rg53 (by rfl) ?_
            refine ko_iald3 mi_k166.1 (n := 31) (c := 31) (ax := (0, 0, 0, 0, 0)) (mi_k166.2 _ _ (by rfl)) (by rfl) (ksG118 _ _ _ _) (hJ66.I.2.1 118) rfl (oz258 kn9) (oz259 kn9) ?_
            have u67 : ((ag53 118).getD (9 : Int32).toNatClampNeg 0).toInt = ((a48 118).getD (9 : Int32).toNatClampNeg 0).toInt := congrArg (fun z : List Int32 => (z.getD (9 : Int32).toNatClampNeg 0).toInt) (kg53.fa 118 rfl)
            have u68 : ((a58 118).getD (9 : Int32).toNatClampNeg 0).toInt = ((ag53 118).getD (9 : Int32).toNatClampNeg 0).toInt := congrArg Int32.toInt ((congrArg (fun z : List Int32 => z.getD (9 : Int32).toNatClampNeg 0) ea58).trans (kgs_ne (oz258 kn9) (oz311 r55.1 s57 kn19) (oz326 r55.1 s57 kn19 kn9)))
            have u69 : ((a62 118).getD (9 : Int32).toNatClampNeg 0).toInt = ((a58 118).getD (9 : Int32).toNatClampNeg 0).toInt := congrArg Int32.toInt ((congrArg (fun z : List Int32 => z.getD (9 : Int32).toNatClampNeg 0) ea62).trans (kgs_ne (oz258 kn9) (oz318 r59.1 s61 kn25) (oz327 r59.1 s61 kn25 kn9)))
            have u70 : ((a66 118).getD (9 : Int32).toNatClampNeg 0).toInt = ((a62 118).getD (9 : Int32).toNatClampNeg 0).toInt := congrArg Int32.toInt ((congrArg (fun z : List Int32 => z.getD (9 : Int32).toNatClampNeg 0) ea66).trans (kgs_ne (oz258 kn9) (oz195 kn18) (oz328 kn9 kn18)))
            have b71 : ((-2147483648 : Int) ≤ ((a66 118).getD (9 : Int32).toNatClampNeg 0).toInt) ∧ (((a66 118).getD (9 : Int32).toNatClampNeg 0).toInt ≤ 2147483647) := kd_bd ((a66 118).getD (9 : Int32).toNatClampNeg 0)
            refine ft_go mi_k166 2 133 [(2, .int ((a 118).getD x1.toNatClampNeg 0)), (0, .ref 116), (1, .int x1)] [.int (((a66 118).getD (9 : Int32).toNatClampNeg 0) + 1), .int 9, .ref 118] (ku ig53 7466 vg53) a66 qg53 rg53 (by rfl) ?_
            refine ko_iast3 mi_k166.1 (n := 31) (c := 31) (ax := (0, 0, 0, 0, 0)) (mi_k166.2 _ _ (by rfl)) (by rfl) (ksG118 _ _ _ _) (ksA118 _ _ _ _) (hJ66.I.2.1 118) rfl (oz258 kn9) (oz259 kn9) ?_
            intro a72 ea72 fa72
            have hJ72 := kG_a3 hJ66 118 rfl ea72 fa72 (kE_nset (p := 118) (by decide) (oz258 kn9) (oz329 kn9) (oz330 kn9))
            have s73 : (10 + x1).toInt = (10 : Int32).toInt + x1.toInt := kd_add (oz251 hp0.1 kn10) (oz252 hp0.2 kn10)
            refine ft_go mi_k166 6 143 [(2, .int ((a 118).getD x1.toNatClampNeg 0)), (0, .ref 116), (1, .int x1)] [.int (10 + x1), .ref 118, .int (10 + x1), .ref 118] (ku ig53 7466 vg53) a72 qg53 rg53 (by rfl) ?_
            refine ko_iald3 mi_k166.1 (n := 31) (c := 31) (ax := (0, 0, 0, 0, 0)) (mi_k166.2 _ _ (by rfl)) (by rfl) (ksG118 _ _ _ _) (hJ72.I.2.1 118) rfl (oz253 hp0.1 s73 kn10) (oz254 hp0.2 s73 kn10) ?_
            have r74 : (((10 + x1).toInt = 18 → (0 : Int) ≤ ((a72 118).getD (10 + x1).toNatClampNeg 0).toInt ∧ ((a72 118).getD (10 + x1).toNatClampNeg 0).toInt ≤ 5)) ∧ ((19 ≤ (10 + x1).toInt → (10 + x1).toInt ≤ 24 → (0 : Int) ≤ ((a72 118).getD (10 + x1).toNatClampNeg 0).toInt ∧ ((a72 118).getD (10 + x1).toNatClampNeg 0).toInt ≤ 7)) := kE_ncond (p := 118) hJ72.I (by decide) (j := (10 + x1)) (oz253 hp0.1 s73 kn10)
            have u75 : ((ag53 118).getD (10 + x1).toNatClampNeg 0).toInt = ((a48 118).getD (10 + x1).toNatClampNeg 0).toInt := congrArg (fun z : List Int32 => (z.getD (10 + x1).toNatClampNeg 0).toInt) (kg53.fa 118 rfl)
            have u76 : ((a58 118).getD (10 + x1).toNatClampNeg 0).toInt = ((ag53 118).getD (10 + x1).toNatClampNeg 0).toInt := congrArg Int32.toInt ((congrArg (fun z : List Int32 => z.getD (10 + x1).toNatClampNeg 0) ea58).trans (kgs_ne (oz253 hp0.1 s73 kn10) (oz311 r55.1 s57 kn19) (oz331 hp0.2 r55.1 s57 s73 kn19 kn10)))
            have u77 : ((a62 118).getD (10 + x1).toNatClampNeg 0).toInt = ((a58 118).getD (10 + x1).toNatClampNeg 0).toInt := congrArg Int32.toInt ((congrArg (fun z : List Int32 => z.getD (10 + x1).toNatClampNeg 0) ea62).trans (kgs_ne (oz253 hp0.1 s73 kn10) (oz318 r59.1 s61 kn25) (oz332 hp0.2 r59.1 s61 s73 kn25 kn10)))
            have u78 : ((a66 118).getD (10 + x1).toNatClampNeg 0).toInt = ((a62 118).getD (10 + x1).toNatClampNeg 0).toInt := congrArg Int32.toInt ((congrArg (fun z : List Int32 => z.getD (10 + x1).toNatClampNeg 0) ea66).trans (kgs_ne (oz253 hp0.1 s73 kn10) (oz195 kn18) (oz333 hp0.2 s73 kn10 kn18)))
            have u79 : ((a72 118).getD (10 + x1).toNatClampNeg 0).toInt = ((a66 118).getD (10 + x1).toNatClampNeg 0).toInt := congrArg Int32.toInt ((congrArg (fun z : List Int32 => z.getD (10 + x1).toNatClampNeg 0) ea72).trans (kgs_ne (oz253 hp0.1 s73 kn10) (oz258 kn9) (oz334 hp0.1 s73 kn10 kn9)))
            have b80 : ((-2147483648 : Int) ≤ ((a72 118).getD (10 + x1).toNatClampNeg 0).toInt) ∧ (((a72 118).getD (10 + x1).toNatClampNeg 0).toInt ≤ 2147483647) := kd_bd ((a72 118).getD (10 + x1).toNatClampNeg 0)
            refine ft_go mi_k166 2 146 [(2, .int ((a 118).getD x1.toNatClampNeg 0)), (0, .ref 116), (1, .int x1)] [.int (((a72 118).getD (10 + x1).toNatClampNeg 0) + 1), .int (10 + x1), .ref 118] (ku ig53 7466 vg53) a72 qg53 rg53 (by rfl) ?_
            refine ko_iast3 mi_k166.1 (n := 31) (c := 31) (ax := (0, 0, 0, 0, 0)) (mi_k166.2 _ _ (by rfl)) (by rfl) (ksG118 _ _ _ _) (ksA118 _ _ _ _) (hJ72.I.2.1 118) rfl (oz253 hp0.1 s73 kn10) (oz254 hp0.2 s73 kn10) ?_
            intro a81 ea81 fa81
            have hJ81 := kG_a3 hJ72 118 rfl ea81 fa81 (kE_nset (p := 118) (by decide) (oz253 hp0.1 s73 kn10) (oz335 hp0.2 s73 kn10) (oz336 hp0.2 s73 kn10))
            refine ft_go mi_k166 1 148 [(2, .int ((a 118).getD x1.toNatClampNeg 0)), (0, .ref 116), (1, .int x1)] [.int 1] (ku ig53 7466 vg53) a81 qg53 rg53 (by rfl) ?_
            exact ft_ret mi_k166 (by rfl) (hP 1 _ _ _ _ hJ81 (Or.inl ⟨rfl, trivial⟩))
          ·
            have c82 : (i48 7426).toInt ≤ ((a48 118).getD (18 : Int32).toNatClampNeg 0).toInt := kd_ltF c; clear c
            refine ft_go mi_k166 2 61 [(2, .int ((a 118).getD x1.toNatClampNeg 0)), (0, .ref 116), (1, .int x1)] [.int x1, .ref 116] i48 a48 q48 r48 (by rfl) ?_
            refine ko_callN mi_k166.1 (pc := 61) (ls := [(2, .int ((a 118).getD x1.toNatClampNeg 0)), (0, .ref 116), (1, .int x1)]) (st := [.int x1, .ref 116]) (h := ks i48 a48 q48 r48) (i := (.invokevirtual 250, 3, 165, 0, 9, 0, 416)) (mi_k166.2 _ _ (by rfl)) (ft_invS mi_pq165 (by rfl)) (cy := mi_c165) mi_pq165 rfl (kc165_116 hL48.I hL48.R x1 (oz181 hp0.1 hp0.2) (oz379 c82 fi48_7426.1)) (by decide) ?_
            intro ig83 ag83 qg83 rg83 kg83 hg83
            have hGg83 := kG_call hL48 kg83 (by decide +kernel)
            have r84 : ((0 : Int) ≤ ((ag83 118).getD (18 : Int32).toNatClampNeg 0).toInt) ∧ (((ag83 118).getD (18 : Int32).toNatClampNeg 0).toInt ≤ 5) := kE_n18 (p := 118) hGg83.I (by decide)
            have z85 : ((ag83 118).getD (18 : Int32).toNatClampNeg 0).toInt = (((a48 118).getD (18 : Int32).toNatClampNeg 0).toInt - 1) := hg83
            refine ft_go mi_k166 1 45 [(2, .int ((a 118).getD x1.toNatClampNeg 0)), (0, .ref 116), (1, .int x1)] [] ig83 ag83 qg83 rg83 (by rfl) ?_
            exact ih48 _ _ _ _ hGg83 (kj_meas (oz380 z85) (oz379 c82 fi48_7426.1) hm48)
      exact lp48 _ _ _ _ _ (kG_self _ hJ3.I hJ3.R) (Nat.lt_succ_self _)
    ·
      have c86 : (i 7427).toInt = (0 : Int32).toInt := kd_neF c; clear c
      refine ft_go mi_k166 1 37 [(0, .ref 116), (1, .int x1)] [.int 0] (ku (ku (ku i 7464 8) 7465 0) 7466 0) a q r (by rfl) ?_
      exact ft_ret mi_k166 (by rfl) (hP 0 _ _ _ _ hJ3 (Or.inr ⟨rfl, trivial⟩))
def w170_116 : kW := ([7464, 7465, 7466, 7467], [118, 128, 129, 141, 143, 144, 145], [], [])
def w170_116_L2 : kW := ([7464, 7465, 7466, 7467], [118, 128, 129, 141, 143, 144, 145], [], [])
set_option maxRecDepth 100000 in
theorem kc170_116 {i : Nat → Int32} {a : Nat → List Int32} {q : Nat → List Int64} {r : Nat → Nat} (hI : kI i a q) (hr : kr r) (hE_code : kCode i a) : km 11 170 [.ref 116] (ks i a q r) (kVN w170_116 i a q r (fun i1 a1 q1 r1 => True)) := by
  have hG := kG_self w170_116 hI hr
  refine km_ofN (q := (mi_h170, mi_c170)) rfl (by decide) (Nat.le_of_ble_eq_true rfl) ?_
  intro P hP
  refine ft_go mi_k170 2 2 [(1, .int 0), (0, .ref 116)] [] i a q r (by rfl) ?_
  have lp1 : ∀ (nz : Nat) (i1 : Nat → Int32) (a1 : Nat → List Int32) (q1 : Nat → List Int64) (r1 : Nat → Nat) (l1_1 : Int32), kG w170_116_L2 i a q r i1 a1 q1 r1 → (0 : Int) ≤ l1_1.toInt → (((i1 7469).toInt - l1_1.toInt)).toNat < nz → ko 11 (mi_h170, mi_c170) P (2, [(1, .int l1_1), (0, .ref 116)], [], (0, 0), ks i1 a1 q1 r1) := by
    intro nz
    induction nz with
    | zero =>
      intro _ _ _ _ _ _ _ hm
      exact absurd hm (Nat.not_lt_zero _)
    | succ nz ih1 =>
      intro i1 a1 q1 r1 l1_1 hL1 p1_0 hm1
      have fi1_7469 : ((0 : Int) ≤ (i1 7469).toInt) ∧ ((i1 7469).toInt ≤ 21) := hL1.I.1 7469
      refine ft_go mi_k170 3 7 [(1, .int l1_1), (0, .ref 116)] [.int (i1 7469), .int l1_1] i1 a1 q1 r1 (by rfl) ?_
      refine ft_if mi_k170 (decide ((i1 7469) ≤ l1_1)) 57 10 [(1, .int l1_1), (0, .ref 116)] [] (by rfl) (fun c => ?_) (fun c => ?_)
      ·
        have c2 : (i1 7469).toInt ≤ l1_1.toInt := kd_le c; clear c
        have hG3 := kG_call hG hL1 (by decide +kernel)
        exact ft_ret mi_k170 (by rfl) (hP  _ _ _ _ hG3 trivial)
      ·
        have c4 : l1_1.toInt < (i1 7469).toInt := kd_leF c; clear c
        refine ft_go mi_k170 4 16 [(1, .int l1_1), (0, .ref 116)] [.int l1_1, .ref 142, .ref 116] i1 a1 q1 r1 (by rfl) ?_
        refine ko_iald3 mi_k170.1 (n := 21) (c := 21) (ax := (0, 0, 0, 0, 0)) (mi_k170.2 _ _ (by rfl)) (by rfl) (ksG142 _ _ _ _) (hL1.I.2.1 142) rfl (oz3 p1_0) (oz241 c4 fi1_7469.2) ?_
        have r5 : ((0 : Int) ≤ ((a1 142).getD l1_1.toNatClampNeg 0).toInt) ∧ (((a1 142).getD l1_1.toNatClampNeg 0).toInt ≤ 7) := hL1.I.2.2.1 142 (l1_1.toNatClampNeg)
        have hG6 := kG_call hG hL1 (by decide +kernel)
        refine ko_callI mi_k170.1 (pc := 17) (ls := [(1, .int l1_1), (0, .ref 116)]) (st := [.int ((a1 142).getD l1_1.toNatClampNeg 0), .ref 116]) (h := ks i1 a1 q1 r1) (i := (.invokevirtual 260, 3, 166, 0, 9, 0, 415)) (mi_k170.2 _ _ (by rfl)) (ft_invS mi_pq166 (by rfl)) (cy := mi_c166) mi_pq166 rfl (kc166_116 hL1.I hL1.R ((a1 142).getD l1_1.toNatClampNeg 0) (oz181 r5.1 r5.2) (kCode_of (i1 := i1) hE_code (hG6.fi 7432 rfl) (hG6.fa 120 rfl) (hG6.fa 121 rfl) (hG6.fa 122 rfl) (hG6.fa 123 rfl))) (by decide) ?_
        intro vg7 ig7 ag7 qg7 rg7 kg7 hg7
        have hGg7 := kG_call hL1 kg7 (by decide +kernel)
        rcases hg7 with ⟨eg7, hg7⟩ | ⟨eg7, hg7⟩
        ·
          subst eg7
          refine ft_go mi_k170 6 30 [(1, .int l1_1), (0, .ref 116)] [.int (ig7 7464), .int l1_1, .ref 143] ig7 ag7 qg7 rg7 (by rfl) ?_
          refine ko_iast3 mi_k170.1 (n := 21) (c := 21) (ax := (0, 0, 0, 0, 0)) (mi_k170.2 _ _ (by rfl)) (by rfl) (ksG143 _ _ _ _) (ksA143 _ _ _ _) (hGg7.I.2.1 143) rfl (oz3 p1_0) (oz241 c4 fi1_7469.2) ?_
          intro a8 ea8 fa8
          have hJ8 := kG_a3 hGg7 143 rfl ea8 fa8 (kd_bd _)
          refine ft_go mi_k170 5 40 [(1, .int l1_1), (0, .ref 116)] [.int (ig7 7465), .int l1_1, .ref 144] ig7 a8 qg7 rg7 (by rfl) ?_
          refine ko_iast3 mi_k170.1 (n := 21) (c := 21) (ax := (0, 0, 0, 0, 0)) (mi_k170.2 _ _ (by rfl)) (by rfl) (ksG144 _ _ _ _) (ksA144 _ _ _ _) (hJ8.I.2.1 144) rfl (oz3 p1_0) (oz241 c4 fi1_7469.2) ?_
          intro a9 ea9 fa9
          have hJ9 := kG_a3 hJ8 144 rfl ea9 fa9 (kd_bd _)
          refine ft_go mi_k170 5 50 [(1, .int l1_1), (0, .ref 116)] [.int (ig7 7466), .int l1_1, .ref 145] ig7 a9 qg7 rg7 (by rfl) ?_
          refine ko_iast3 mi_k170.1 (n := 21) (c := 21) (ax := (0, 0, 0, 0, 0)) (mi_k170.2 _ _ (by rfl)) (by rfl) (ksG145 _ _ _ _) (ksA145 _ _ _ _) (hJ9.I.2.1 145) rfl (oz3 p1_0) (oz241 c4 fi1_7469.2) ?_
          intro a10 ea10 fa10
          have hJ10 := kG_a3 hJ9 145 rfl ea10 fa10 (kd_bd _)
          have s11 : (l1_1 + 1).toInt = l1_1.toInt + (1 : Int32).toInt := kd_add (oz12 p1_0 kn1) (oz381 c4 fi1_7469.2 kn1)
          refine ft_go mi_k170 2 2 [(1, .int (l1_1 + 1)), (0, .ref 116)] [] ig7 a10 qg7 rg7 (by rfl) ?_
          have efig7_7469 : (ig7 7469).toInt = (i1 7469).toInt := kg7.ti 7469 rfl
          exact ih1 _ _ _ _ _ hJ10 (oz14 p1_0 s11 kn1) (kj_meas (oz308 efig7_7469 s11 kn1) (oz45 c4) hm1)
        ·
          subst eg7
          refine ft_go mi_k170 6 30 [(1, .int l1_1), (0, .ref 116)] [.int (ig7 7464), .int l1_1, .ref 143] ig7 ag7 qg7 rg7 (by rfl) ?_
          refine ko_iast3 mi_k170.1 (n := 21) (c := 21) (ax := (0, 0, 0, 0, 0)) (mi_k170.2 _ _ (by rfl)) (by rfl) (ksG143 _ _ _ _) (ksA143 _ _ _ _) (hGg7.I.2.1 143) rfl (oz3 p1_0) (oz241 c4 fi1_7469.2) ?_
          intro a12 ea12 fa12
          have hJ12 := kG_a3 hGg7 143 rfl ea12 fa12 (kd_bd _)
          refine ft_go mi_k170 5 40 [(1, .int l1_1), (0, .ref 116)] [.int (ig7 7465), .int l1_1, .ref 144] ig7 a12 qg7 rg7 (by rfl) ?_
          refine ko_iast3 mi_k170.1 (n := 21) (c := 21) (ax := (0, 0, 0, 0, 0)) (mi_k170.2 _ _ (by rfl)) (by rfl) (ksG144 _ _ _ _) (ksA144 _ _ _ _) (hJ12.I.2.1 144) rfl (oz3 p1_0) (oz241 c4 fi1_7469.2) ?_
          intro a13 ea13 fa13
          have hJ13 := kG_a3 hJ12 144 rfl ea13 fa13 (kd_bd _)
          refine ft_go mi_k170 5 50 [(1, .int l1_1), (0, .ref 116)] [.int (ig7 7466), .int l1_1, .ref 145] ig7 a13 qg7 rg7 (by rfl) ?_
          refine ko_iast3 mi_k170.1 (n := 21) (c := 21) (ax := (0, 0, 0, 0, 0)) (mi_k170.2 _ _ (by rfl)) (by rfl) (ksG145 _ _ _ _) (ksA145 _ _ _ _) (hJ13.I.2.1 145) rfl (oz3 p1_0) (oz241 c4 fi1_7469.2) ?_
          intro a14 ea14 fa14
          have hJ14 := kG_a3 hJ13 145 rfl ea14 fa14 (kd_bd _)
          have s15 : (l1_1 + 1).toInt = l1_1.toInt + (1 : Int32).toInt := kd_add (oz12 p1_0 kn1) (oz381 c4 fi1_7469.2 kn1)
          refine ft_go mi_k170 2 2 [(1, .int (l1_1 + 1)), (0, .ref 116)] [] ig7 a14 qg7 rg7 (by rfl) ?_
          have efig7_7469 : (ig7 7469).toInt = (i1 7469).toInt := kg7.ti 7469 rfl
          exact ih1 _ _ _ _ _ hJ14 (oz14 p1_0 s15 kn1) (kj_meas (oz308 efig7_7469 s15 kn1) (oz45 c4) hm1)
  exact lp1 _ _ _ _ _ _ (kG_self _ hG.I hG.R) (oz46 kn0) (Nat.lt_succ_self _)
