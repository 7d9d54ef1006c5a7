/-! LINEAR LEMMAS, by program: what callers need of numbers -/
theorem knm2000000000 : ((-2000000000) : Int32).toInt = (-2000000000) := by decide
theorem knm14 : ((-14) : Int32).toInt = (-14) := by decide
theorem knm13 : ((-13) : Int32).toInt = (-13) := by decide
theorem knm12 : ((-12) : Int32).toInt = (-12) := by decide
theorem knm11 : ((-11) : Int32).toInt = (-11) := by decide
theorem knm5 : ((-5) : Int32).toInt = (-5) := by decide
theorem knm3 : ((-3) : Int32).toInt = (-3) := by decide
theorem knm2 : ((-2) : Int32).toInt = (-2) := by decide
theorem knm1 : ((-1) : Int32).toInt = (-1) := by decide
theorem kn0 : (0 : Int32).toInt = 0 := by decide
theorem kn1 : (1 : Int32).toInt = 1 := by decide
theorem kn2 : (2 : Int32).toInt = 2 := by decide
theorem kn3 : (3 : Int32).toInt = 3 := by decide
theorem kn4 : (4 : Int32).toInt = 4 := by decide
theorem kn5 : (5 : Int32).toInt = 5 := by decide
theorem kn6 : (6 : Int32).toInt = 6 := by decide
theorem kn7 : (7 : Int32).toInt = 7 := by decide
theorem kn8 : (8 : Int32).toInt = 8 := by decide
theorem kn9 : (9 : Int32).toInt = 9 := by decide
theorem kn10 : (10 : Int32).toInt = 10 := by decide
theorem kn12 : (12 : Int32).toInt = 12 := by decide
theorem kn16 : (16 : Int32).toInt = 16 := by decide
theorem kn18 : (18 : Int32).toInt = 18 := by decide
theorem kn19 : (19 : Int32).toInt = 19 := by decide
theorem kn20 : (20 : Int32).toInt = 20 := by decide
theorem kn24 : (24 : Int32).toInt = 24 := by decide
theorem kn25 : (25 : Int32).toInt = 25 := by decide
theorem kn26 : (26 : Int32).toInt = 26 := by decide
theorem kn30 : (30 : Int32).toInt = 30 := by decide
theorem kn31 : (31 : Int32).toInt = 31 := by decide
theorem kn32 : (32 : Int32).toInt = 32 := by decide
theorem kn33 : (33 : Int32).toInt = 33 := by decide
theorem kn37 : (37 : Int32).toInt = 37 := by decide
theorem kn38 : (38 : Int32).toInt = 38 := by decide
theorem kn39 : (39 : Int32).toInt = 39 := by decide
theorem kn40 : (40 : Int32).toInt = 40 := by decide
theorem kn42 : (42 : Int32).toInt = 42 := by decide
theorem kn43 : (43 : Int32).toInt = 43 := by decide
theorem kn45 : (45 : Int32).toInt = 45 := by decide
theorem kn47 : (47 : Int32).toInt = 47 := by decide
theorem kn50 : (50 : Int32).toInt = 50 := by decide
theorem kn60 : (60 : Int32).toInt = 60 := by decide
theorem kn61 : (61 : Int32).toInt = 61 := by decide
theorem kn62 : (62 : Int32).toInt = 62 := by decide
theorem kn63 : (63 : Int32).toInt = 63 := by decide
theorem kn64 : (64 : Int32).toInt = 64 := by decide
theorem kn99 : (99 : Int32).toInt = 99 := by decide
theorem kn100 : (100 : Int32).toInt = 100 := by decide
theorem kn120 : (120 : Int32).toInt = 120 := by decide
theorem kn121 : (121 : Int32).toInt = 121 := by decide
theorem kn124 : (124 : Int32).toInt = 124 := by decide
theorem kn126 : (126 : Int32).toInt = 126 := by decide
theorem kn255 : (255 : Int32).toInt = 255 := by decide
theorem kn999 : (999 : Int32).toInt = 999 := by decide
theorem kn1000 : (1000 : Int32).toInt = 1000 := by decide
theorem kn10000 : (10000 : Int32).toInt = 10000 := by decide
theorem kn12345 : (12345 : Int32).toInt = 12345 := by decide
theorem kn252645135 : (252645135 : Int32).toInt = 252645135 := by decide
theorem kn858993459 : (858993459 : Int32).toInt = 858993459 := by decide
theorem kn1103515245 : (1103515245 : Int32).toInt = 1103515245 := by decide
theorem kn1431655765 : (1431655765 : Int32).toInt = 1431655765 := by decide
theorem knL0 : (0 : Int64).toInt = 0 := by decide
theorem knL3 : (3 : Int64).toInt = 3 := by decide
theorem oz0 {a0 a1 a2 : Int} (h0 : a0 < a1) : ¬ ((a1 ≤ a0) ∧ (a0 ≤ a2)) := by omega
theorem oz1 {a0 a1 a2 : Int} (h0 : a0 < a1) : ¬ ((a2 ≤ a1) ∧ (a1 ≤ a0)) := by omega
theorem oz2 {a0 a1 a2 : Int} (h0 : a0 ≤ a1) (h1 : a1 ≤ a2) : (a0 ≤ a1) ∧ (a1 ≤ a2) := by omega
theorem oz3 {a0 : Int} (h0 : (0 : Int) ≤ a0) : (0 : Int) ≤ a0 := by omega
theorem oz4 {a0 : Int} (h0 : a0 ≤ 8) : a0 < 31 := by omega
theorem oz5 {a0 a1 : Int} (h0 : a0 ≤ 8) : a0 = 18 → (0 : Int) ≤ a1 ∧ a1 ≤ 5 := by omega
theorem oz6 {a0 a1 : Int} (h0 : a0 ≤ 8) : 19 ≤ a0 → a0 ≤ 24 → (0 : Int) ≤ a1 ∧ a1 ≤ 7 := by omega
theorem oz7 {a0 : Int} (h0 : a0 ≤ 8) : a0 < 24 := by omega
theorem oz8 {a0 a1 : Int} (h0 : (0 : Int) ≤ a0) (h1 : a1 = 8) : (-2147483648 : Int) ≤ a1 + a0 := by omega
theorem oz9 {a0 a1 : Int} (h0 : a0 ≤ 8) (h1 : a1 = 8) : a1 + a0 ≤ 2147483647 := by omega
theorem oz10 {a0 a1 a2 : Int} (h0 : (0 : Int) ≤ a0) (h1 : a1 = a2 + a0) (h2 : a2 = 8) : (0 : Int) ≤ a1 := by omega
theorem oz11 {a0 a1 a2 : Int} (h0 : a0 ≤ 8) (h1 : a1 = a2 + a0) (h2 : a2 = 8) : a1 < 24 := by omega
theorem oz12 {a0 a1 : Int} (h0 : (0 : Int) ≤ a0) (h1 : a1 = 1) : (-2147483648 : Int) ≤ a0 + a1 := by omega
theorem oz13 {a0 a1 : Int} (h0 : a0 ≤ 8) (h1 : a1 = 1) : a0 + a1 ≤ 2147483647 := by omega
theorem oz14 {a0 a1 a2 : Int} (h0 : (0 : Int) ≤ a0) (h1 : a1 = a0 + a2) (h2 : a2 = 1) : (0 : Int) ≤ a1 := by omega
theorem oz15 {a0 a1 a2 : Int} (h0 : a0 ≤ 7) (h1 : a1 = a0 + a2) (h2 : a2 = 1) : a1 ≤ 8 := by omega
theorem oz16 {a0 a1 : Int} (h0 : a0 ≠ a1) (h1 : a0 ≤ 8) (h2 : a1 = 8) : a0 ≤ 7 := by omega
theorem oz17 {a0 a1 a2 : Int} (h0 : a0 ≤ a1) (h1 : a1 ≤ a2) (h2 : a0 = 0) (h3 : a2 = 5) : ((0 : Int) ≤ a1) ∧ (a1 ≤ 5) := by omega
theorem oz18 {a0 a1 a2 : Int} (h0 : ¬ ((a0 ≤ a1) ∧ (a1 ≤ a2))) (h1 : a0 = 0) (h2 : a2 = 5) : ¬ (((0 : Int) ≤ a1) ∧ (a1 ≤ 5)) := by omega
theorem oz19 {a0 : Int} (h0 : a0 ≤ 5) : a0 < 6 := by omega
theorem oz20 {a0 a1 : Int} (h0 : (0 : Int) ≤ a0) (h1 : a1 = a0) : (-9223372036854775808 : Int) ≤ 3 * a1 := by omega
theorem oz21 {a0 a1 : Int} (h0 : a0 ≤ 2147483647) (h1 : a1 = a0) : 3 * a1 ≤ 9223372036854775807 := by omega
theorem oz22 {a0 a1 a2 a3 a4 : Int} (h0 : (-2147483648 : Int) ≤ a0) (h1 : (0 : Int) ≤ a1) (h2 : a2 = a0) (h3 : a3 = a1) (h4 : a4 = 3 * a3) : (-9223372036854775808 : Int) ≤ a2 + a4 := by omega
theorem oz23 {a0 a1 a2 a3 a4 : Int} (h0 : a0 ≤ 2147483647) (h1 : a1 ≤ 2147483647) (h2 : a2 = a0) (h3 : a3 = a1) (h4 : a4 = 3 * a3) : a2 + a4 ≤ 9223372036854775807 := by omega
theorem oz24 {a0 a1 a2 a3 a4 a5 a6 : Int} (h0 : (-2147483648 : Int) ≤ a0) (h1 : (0 : Int) ≤ a1) (h2 : a2 = a0) (h3 : a3 = a1) (h4 : a4 = 3 * a3) (h5 : a5 = a2 + a4) (h6 : a6 = 3) : (-9223372036854775808 : Int) ≤ a5 + a6 := by omega
theorem oz25 {a0 a1 a2 a3 a4 a5 a6 : Int} (h0 : a0 ≤ 2147483647) (h1 : a1 ≤ 2147483647) (h2 : a2 = a0) (h3 : a3 = a1) (h4 : a4 = 3 * a3) (h5 : a5 = a2 + a4) (h6 : a6 = 3) : a5 + a6 ≤ 9223372036854775807 := by omega
theorem oz26 {a0 a1 a2 a3 a4 a5 : Int} (h0 : (-2147483648 : Int) ≤ a0) (h1 : (0 : Int) ≤ a1) (h2 : a2 = a0) (h3 : a3 = a1) (h4 : a4 = 3 * a3) (h5 : a5 = a2 + a4) : (-2147483648 : Int) ≤ a5 := by omega
theorem oz27 {a0 a1 a2 a3 a4 a5 a6 : Int} (h0 : a0 ≤ a1) (h1 : a2 ≤ 60) (h2 : a3 = a4 + a5) (h3 : a6 = a2) (h4 : (0 < a0 ↔ a6 < a3)) (h5 : a1 = 0) (h6 : a5 = 3) : a4 ≤ 2147483647 := by omega
theorem oz28 {a0 : Int} (h0 : (0 : Int) ≤ a0) : (-2147483648 : Int) ≤ 60 * a0 := by omega
theorem oz29 {a0 : Int} (h0 : a0 ≤ 5) : 60 * a0 ≤ 2147483647 := by omega
theorem oz30 {a0 a1 a2 : Int} (h0 : (0 : Int) ≤ a0) (h1 : (0 : Int) ≤ a1) (h2 : a2 = 60 * a0) : (-2147483648 : Int) ≤ a2 + a1 := by omega
theorem oz31 {a0 a1 a2 : Int} (h0 : a0 ≤ 5) (h1 : a1 ≤ 59) (h2 : a2 = 60 * a0) : a2 + a1 ≤ 2147483647 := by omega
theorem oz32 {a0 a1 a2 a3 : Int} (h0 : (0 : Int) ≤ a0) (h1 : (0 : Int) ≤ a1) (h2 : a2 = 60 * a0) (h3 : a3 = a2 + a1) : (0 : Int) ≤ a3 := by omega
theorem oz33 {a0 a1 a2 a3 : Int} (h0 : a0 ≤ 5) (h1 : a1 ≤ 59) (h2 : a2 = 60 * a0) (h3 : a3 = a2 + a1) : a3 < 360 := by omega
theorem oz34 {a0 : Int}  : a0 = a0 := by omega
theorem oz35 {a0 : Int} (h0 : (0 : Int) ≤ a0) (h1 : a0 ≤ 5) : ((0 : Int) ≤ a0) ∧ (a0 ≤ 5) := by omega
theorem oz36 {a0 a1 a2 a3 a4 a5 a6 a7 a8 a9 : Int} (h0 : a0 ≤ a1) (h1 : a2 ≤ a0) (h2 : a3 ≤ 60) (h3 : (a1 < 0 ↔ a4 < a5)) (h4 : a6 = a4 + a7) (h5 : a8 = a3) (h6 : (0 < a2 ↔ a8 < a6)) (h7 : a9 = a4) (h8 : a0 = 0) (h9 : a5 = 0) (h10 : a7 = 3) : ((0 : Int) ≤ a9) ∧ (a9 ≤ 59) := by omega
theorem oz37 {a0 a1 a2 a3 a4 a5 a6 a7 : Int} (h0 : (-2147483648 : Int) ≤ a0) (h1 : (0 : Int) ≤ a1) (h2 : a2 = a0) (h3 : a3 = a1) (h4 : a4 = 3 * a3) (h5 : a5 = a2 + a4) (h6 : a6 = a5) (h7 : a7 = 1) : (-2147483648 : Int) ≤ a6 + a7 := by omega
theorem oz38 {a0 a1 a2 a3 a4 a5 a6 a7 a8 : Int} (h0 : a0 ≤ a1) (h1 : a2 ≤ 60) (h2 : a3 = a4 + a5) (h3 : a6 = a2) (h4 : (0 < a0 ↔ a6 < a3)) (h5 : a7 = a4) (h6 : a1 = 0) (h7 : a5 = 3) (h8 : a8 = 1) : a7 + a8 ≤ 2147483647 := by omega
theorem oz39 {a0 a1 a2 a3 a4 a5 a6 a7 a8 a9 a10 a11 : Int} (h0 : a0 ≤ a1) (h1 : a2 ≤ a0) (h2 : a3 ≤ 60) (h3 : (a1 < 0 ↔ a4 < a5)) (h4 : a6 = a4 + a7) (h5 : a8 = a3) (h6 : (0 < a2 ↔ a8 < a6)) (h7 : a9 = a4) (h8 : a10 = a9 + a11) (h9 : a0 = 0) (h10 : a5 = 0) (h11 : a7 = 3) (h12 : a11 = 1) : ((0 : Int) ≤ a10) ∧ (a10 ≤ 59) := by omega
theorem oz40 {a0 a1 a2 a3 a4 a5 a6 a7 : Int} (h0 : (-2147483648 : Int) ≤ a0) (h1 : (0 : Int) ≤ a1) (h2 : a2 = a0) (h3 : a3 = a1) (h4 : a4 = 3 * a3) (h5 : a5 = a2 + a4) (h6 : a6 = a5) (h7 : a7 = 2) : (-2147483648 : Int) ≤ a6 + a7 := by omega
theorem oz41 {a0 a1 a2 a3 a4 a5 a6 a7 a8 : Int} (h0 : a0 ≤ a1) (h1 : a2 ≤ 60) (h2 : a3 = a4 + a5) (h3 : a6 = a2) (h4 : (0 < a0 ↔ a6 < a3)) (h5 : a7 = a4) (h6 : a1 = 0) (h7 : a5 = 3) (h8 : a8 = 2) : a7 + a8 ≤ 2147483647 := by omega
theorem oz42 {a0 a1 a2 a3 a4 a5 a6 a7 a8 a9 a10 a11 : Int} (h0 : a0 ≤ a1) (h1 : a2 ≤ a0) (h2 : a3 ≤ 60) (h3 : (a1 < 0 ↔ a4 < a5)) (h4 : a6 = a4 + a7) (h5 : a8 = a3) (h6 : (0 < a2 ↔ a8 < a6)) (h7 : a9 = a4) (h8 : a10 = a9 + a11) (h9 : a0 = 0) (h10 : a5 = 0) (h11 : a7 = 3) (h12 : a11 = 2) : ((0 : Int) ≤ a10) ∧ (a10 ≤ 59) := by omega
theorem oz43 {a0 a1 a2 a3 : Int} (h0 : a0 < a1) (h1 : a1 ≤ a2) (h2 : a2 = 8) (h3 : a3 = 1) : a0 + a3 ≤ 2147483647 := by omega
theorem oz44 {a0 a1 a2 a3 : Int} (h0 : a0 = a1 + a2) (h1 : a2 = 1) : (a3 - a0) < (a3 - a1) := by omega
theorem oz45 {a0 a1 : Int} (h0 : a0 < a1) : (1 : Int) ≤ (a1 - a0) := by omega
theorem oz46 {a0 : Int} (h0 : a0 = 0) : (0 : Int) ≤ a0 := by omega
theorem oz47 {a0 a1 : Int} (h0 : (0 : Int) ≤ a0) (h1 : a1 = 1) : (-2147483648 : Int) ≤ a0 - a1 := by omega
theorem oz48 {a0 a1 : Int} (h0 : a0 ≤ 8) (h1 : a1 = 1) : a0 - a1 ≤ 2147483647 := by omega
theorem oz49 {a0 a1 a2 a3 a4 : Int} (h0 : a0 = a1 - a2) (h1 : a3 ≤ a4) (h2 : a4 ≤ a0) (h3 : a2 = 1) (h4 : a3 = 0) : ((0 : Int) ≤ a4) ∧ (a4 < a1) := by omega
theorem oz50 {a0 a1 a2 a3 a4 : Int} (h0 : a0 = a1 - a2) (h1 : ¬ ((a3 ≤ a4) ∧ (a4 ≤ a0))) (h2 : a2 = 1) (h3 : a3 = 0) : ¬ (((0 : Int) ≤ a4) ∧ (a4 < a1)) := by omega
theorem oz51 {a0 a1 a2 a3 a4 : Int} (h0 : a0 ≤ a1) (h1 : a1 ≤ a2) (h2 : (0 : Int) ≤ a3) (h3 : a3 < a4) (h4 : a0 = 0) (h5 : a2 = 3) : (((0 : Int) ≤ a1) ∧ (a1 ≤ 3) ∧ ((0 : Int) ≤ a3) ∧ (a3 < a4)) ∨ (((4 : Int) ≤ a1) ∧ (a1 ≤ 6) ∧ (a3 = 0)) := by omega
theorem oz52 {a0 a1 a2 a3 : Int} (h0 : a0 ≤ a1) (h1 : ¬ (((0 : Int) ≤ a2) ∧ (a2 < a3))) (h2 : a1 = 3) : ¬ ((((0 : Int) ≤ a0) ∧ (a0 ≤ 3) ∧ ((0 : Int) ≤ a2) ∧ (a2 < a3)) ∨ (((4 : Int) ≤ a0) ∧ (a0 ≤ 6) ∧ (a2 = 0))) := by omega
theorem oz53 {a0 a1 a2 a3 a4 : Int} (h0 : a0 ≠ a1) (h1 : a2 ≤ a3) (h2 : a1 = 0) (h3 : a2 = 4) : ¬ ((((0 : Int) ≤ a3) ∧ (a3 ≤ 3) ∧ ((0 : Int) ≤ a0) ∧ (a0 < a4)) ∨ (((4 : Int) ≤ a3) ∧ (a3 ≤ 6) ∧ (a0 = 0))) := by omega
theorem oz54 {a0 a1 a2 a3 a4 a5 : Int} (h0 : a0 = a1) (h1 : a2 ≤ a3) (h2 : a3 ≤ a4) (h3 : a1 = 0) (h4 : a2 = 4) (h5 : a4 = 6) : (((0 : Int) ≤ a3) ∧ (a3 ≤ 3) ∧ ((0 : Int) ≤ a0) ∧ (a0 < a5)) ∨ (((4 : Int) ≤ a3) ∧ (a3 ≤ 6) ∧ (a0 = 0)) := by omega
theorem oz55 {a0 a1 a2 a3 a4 a5 a6 : Int} (h0 : ¬ ((a0 ≤ a1) ∧ (a1 ≤ a2))) (h1 : ¬ ((a3 ≤ a1) ∧ (a1 ≤ a4))) (h2 : a0 = 4) (h3 : a2 = 6) (h4 : a3 = 0) (h5 : a4 = 3) : ¬ ((((0 : Int) ≤ a1) ∧ (a1 ≤ 3) ∧ ((0 : Int) ≤ a5) ∧ (a5 < a6)) ∨ (((4 : Int) ≤ a1) ∧ (a1 ≤ 6) ∧ (a5 = 0))) := by omega
theorem oz56 {a0 : Int} (h0 : a0 ≤ 7) : a0 < 31 := by omega
theorem oz57 {a0 a1 : Int} (h0 : a0 = 0) : ((a0 = 4) → (((1 : Int) ≤ a1) ∧ (a1 ≤ 5))) := by omega
theorem oz58 {a0 : Int} (h0 : a0 = 1) : (-2147483648 : Int) ≤ 8 * a0 := by omega
theorem oz59 {a0 : Int} (h0 : a0 ≤ 6) : 8 * a0 ≤ 2147483647 := by omega
theorem oz60 {a0 a1 a2 : Int} (h0 : a0 = 8 * a1) (h1 : a1 = 1) (h2 : a2 = 8) : (-2147483648 : Int) ≤ a0 - a2 := by omega
theorem oz61 {a0 a1 a2 : Int} (h0 : a0 ≤ 6) (h1 : a1 = 8 * a0) (h2 : a2 = 8) : a1 - a2 ≤ 2147483647 := by omega
theorem oz62 {a0 a1 a2 a3 a4 : Int} (h0 : (0 : Int) ≤ a0) (h1 : (0 : Int) ≤ a1) (h2 : a2 = 8 * a1) (h3 : a3 = a2 - a4) (h4 : a4 = 8) : (-2147483648 : Int) ≤ a3 + a0 := by omega
theorem oz63 {a0 a1 a2 a3 a4 : Int} (h0 : a0 ≤ 7) (h1 : a1 ≤ 6) (h2 : a2 = 8 * a1) (h3 : a3 = a2 - a4) (h4 : a4 = 8) : a3 + a0 ≤ 2147483647 := by omega
theorem oz64 {a0 a1 a2 a3 a4 a5 : Int} (h0 : (0 : Int) ≤ a0) (h1 : a1 = 8 * a2) (h2 : a3 = a1 - a4) (h3 : a5 = a3 + a0) (h4 : a2 = 1) (h5 : a4 = 8) : (0 : Int) ≤ a5 := by omega
theorem oz65 {a0 a1 a2 a3 a4 a5 : Int} (h0 : a0 ≤ 7) (h1 : a1 = 8 * a2) (h2 : a3 = a1 - a4) (h3 : a5 = a3 + a0) (h4 : a2 = 1) (h5 : a4 = 8) : a5 < 24 := by omega
theorem oz66 {a0 a1 : Int} (h0 : a0 = 1) : ((a0 = 4) → (((1 : Int) ≤ a1) ∧ (a1 ≤ 5))) := by omega
theorem oz67 {a0 : Int} (h0 : a0 = 2) : (-2147483648 : Int) ≤ 8 * a0 := by omega
theorem oz68 {a0 a1 a2 : Int} (h0 : a0 = 8 * a1) (h1 : a1 = 2) (h2 : a2 = 8) : (-2147483648 : Int) ≤ a0 - a2 := by omega
theorem oz69 {a0 a1 a2 a3 a4 : Int} (h0 : (0 : Int) ≤ a0) (h1 : a1 = 8 * a2) (h2 : a3 = a1 - a4) (h3 : a2 = 2) (h4 : a4 = 8) : (-2147483648 : Int) ≤ a3 + a0 := by omega
theorem oz70 {a0 a1 a2 a3 a4 a5 : Int} (h0 : (0 : Int) ≤ a0) (h1 : a1 = a2 + a0) (h2 : a3 = 8 * a4) (h3 : a2 = a3 - a5) (h4 : a4 = 2) (h5 : a5 = 8) : (0 : Int) ≤ a1 := by omega
theorem oz71 {a0 a1 a2 a3 a4 a5 : Int} (h0 : a0 ≤ 7) (h1 : a1 = a2 + a0) (h2 : a3 = 8 * a4) (h3 : a2 = a3 - a5) (h4 : a4 = 2) (h5 : a5 = 8) : a1 < 24 := by omega
theorem oz72 {a0 a1 : Int} (h0 : a0 = 2) : ((a0 = 4) → (((1 : Int) ≤ a1) ∧ (a1 ≤ 5))) := by omega
theorem oz73 {a0 : Int} (h0 : a0 = 3) : (-2147483648 : Int) ≤ 8 * a0 := by omega
theorem oz74 {a0 a1 a2 : Int} (h0 : a0 = 8 * a1) (h1 : a1 = 3) (h2 : a2 = 8) : (-2147483648 : Int) ≤ a0 - a2 := by omega
theorem oz75 {a0 a1 a2 a3 a4 : Int} (h0 : (0 : Int) ≤ a0) (h1 : a1 = 8 * a2) (h2 : a3 = a1 - a4) (h3 : a2 = 3) (h4 : a4 = 8) : (-2147483648 : Int) ≤ a3 + a0 := by omega
theorem oz76 {a0 a1 a2 a3 a4 a5 : Int} (h0 : (0 : Int) ≤ a0) (h1 : a1 = 8 * a2) (h2 : a3 = a1 - a4) (h3 : a5 = a3 + a0) (h4 : a2 = 3) (h5 : a4 = 8) : (0 : Int) ≤ a5 := by omega
theorem oz77 {a0 a1 a2 a3 a4 a5 : Int} (h0 : a0 ≤ 7) (h1 : a1 = 8 * a2) (h2 : a3 = a1 - a4) (h3 : a5 = a3 + a0) (h4 : a2 = 3) (h5 : a4 = 8) : a5 < 24 := by omega
theorem oz78 {a0 a1 : Int} (h0 : a0 = 3) : ((a0 = 4) → (((1 : Int) ≤ a1) ∧ (a1 ≤ 5))) := by omega
theorem oz79 {a0 a1 : Int} (h0 : (1 : Int) ≤ a0) (h1 : a0 ≤ 5) : ((a1 = 4) → (((1 : Int) ≤ a0) ∧ (a0 ≤ 5))) := by omega
theorem oz80 {a0 a1 : Int} (h0 : a0 = 5) : ((a0 = 4) → (((1 : Int) ≤ a1) ∧ (a1 ≤ 5))) := by omega
theorem oz81 {a0 : Int} (h0 : a0 = 8) : (0 : Int) ≤ a0 := by omega
theorem oz82 {a0 : Int} (h0 : a0 = 8) : a0 < 31 := by omega
theorem oz83 {a0 a1 : Int} (h0 : a0 = 6) : ((a0 = 4) → (((1 : Int) ≤ a1) ∧ (a1 ≤ 5))) := by omega
theorem oz84 {a0 : Int} (h0 : (0 : Int) ≤ a0) (h1 : a0 ≤ 6) (h2 : ¬ (a0 = 0)) (h3 : ¬ (a0 = 3)) (h4 : ¬ (a0 = 4)) (h5 : ¬ (a0 = 5)) (h6 : ¬ (a0 = 6)) (h7 : ¬ (a0 = 1)) (h8 : ¬ (a0 = 2)) : False := by omega
theorem oz85 {a0 a1 a2 : Int} (h0 : a0 ≤ 8) (h1 : (((0 : Int) ≤ a1) ∧ (a1 ≤ 3) ∧ ((0 : Int) ≤ a2) ∧ (a2 < a0)) ∨ (((4 : Int) ≤ a1) ∧ (a1 ≤ 6) ∧ (a2 = 0))) : ((0 : Int) ≤ a2) ∧ (a2 ≤ 7) := by omega
theorem oz86 {a0 a1 a2 : Int} (h0 : (((0 : Int) ≤ a0) ∧ (a0 ≤ 3) ∧ ((0 : Int) ≤ a1) ∧ (a1 < a2)) ∨ (((4 : Int) ≤ a0) ∧ (a0 ≤ 6) ∧ (a1 = 0))) : ((0 : Int) ≤ a0) ∧ (a0 ≤ 6) := by omega
theorem oz87 {a0 a1 : Int} (h0 : a0 ≤ 120) (h1 : a1 = 1) : a0 + a1 ≤ 2147483647 := by omega
theorem oz88 {a0 a1 a2 a3 : Int} (h0 : a0 ≠ a1) (h1 : a0 ≤ 120) (h2 : a2 = a0 + a3) (h3 : a1 = 120) (h4 : a3 = 1) : a2 ≤ 120 := by omega
theorem oz89 {a0 a1 : Int} (h0 : a0 ≠ a1) (h1 : a0 ≤ 120) (h2 : a1 = 120) : a0 < 120 := by omega
theorem oz90 {a0 : Int} (h0 : a0 = 18) : (0 : Int) ≤ a0 := by omega
theorem oz91 {a0 : Int} (h0 : a0 = 18) : a0 < 31 := by omega
theorem oz92 {a0 a1 : Int} (h0 : a0 ≤ a1) (h1 : a0 = 0) : (-2147483648 : Int) ≤ 6 * a1 := by omega
theorem oz93 {a0 a1 : Int} (h0 : a0 ≤ a1) (h1 : a1 = 1) : 6 * a0 ≤ 2147483647 := by omega
theorem oz94 {a0 a1 a2 a3 : Int} (h0 : a0 = 6 * a1) (h1 : a2 ≤ a1) (h2 : a2 = 0) (h3 : a3 = 19) : (-2147483648 : Int) ≤ a3 + a0 := by omega
theorem oz95 {a0 a1 a2 a3 : Int} (h0 : a0 = 6 * a1) (h1 : a1 ≤ a2) (h2 : a2 = 1) (h3 : a3 = 19) : a3 + a0 ≤ 2147483647 := by omega
theorem oz96 {a0 a1 a2 a3 a4 a5 : Int} (h0 : a0 ≤ a1) (h1 : a2 = 6 * a3) (h2 : a4 = a5 + a2) (h3 : a0 ≤ a3) (h4 : a0 = 0) (h5 : a5 = 19) : (-2147483648 : Int) ≤ a4 + a1 := by omega
theorem oz97 {a0 a1 a2 a3 a4 a5 a6 : Int} (h0 : a0 < a1) (h1 : a1 ≤ 5) (h2 : a2 = 6 * a3) (h3 : a4 = a5 + a2) (h4 : a3 ≤ a6) (h5 : a5 = 19) (h6 : a6 = 1) : a4 + a0 ≤ 2147483647 := by omega
theorem oz98 {a0 a1 a2 a3 a4 a5 a6 : Int} (h0 : a0 ≤ a1) (h1 : a2 = 6 * a3) (h2 : a4 = a5 + a2) (h3 : a6 = a4 + a1) (h4 : a0 ≤ a3) (h5 : a0 = 0) (h6 : a5 = 19) : (0 : Int) ≤ a6 := by omega
theorem oz99 {a0 a1 a2 a3 a4 a5 a6 a7 : Int} (h0 : a0 < a1) (h1 : a1 ≤ 5) (h2 : a2 = 6 * a3) (h3 : a4 = a5 + a2) (h4 : a6 = a4 + a0) (h5 : a3 ≤ a7) (h6 : a5 = 19) (h7 : a7 = 1) : a6 < 31 := by omega
theorem oz100 {a0 : Int} (h0 : a0 = 0) : (a0 < 0) ∨ (a0 = 0) := by omega
theorem oz101 {a0 : Int} (h0 : a0 = (-12)) : (a0 < 0) ∨ (a0 = 0) := by omega
theorem oz102 {a0 : Int} (h0 : a0 = (-11)) : (a0 < 0) ∨ (a0 = 0) := by omega
theorem oz103 {a0 : Int} (h0 : a0 = 0) : a0 ≤ 21 := by omega
theorem oz104 {a0 a1 a2 : Int} (h0 : a0 ≤ a1) (h1 : a1 = a2) (h2 : a0 = 20) (h3 : a2 = 0) : False := by omega
theorem oz105 {a0 a1 : Int} (h0 : a0 = a1) (h1 : a1 = 0) : a0 ≤ 20 := by omega
theorem oz106 {a0 : Int} (h0 : (0 : Int) ≤ a0) (h1 : a0 ≤ 21) : ((0 : Int) ≤ a0) ∧ (a0 ≤ 59) := by omega
theorem oz107 {a0 a1 : Int} (h0 : a0 = a1) (h1 : a1 = 0) : a0 < 21 := by omega
theorem oz108 {a0 a1 a2 : Int} (h0 : a0 = a1) (h1 : (0 : Int) ≤ a0) (h2 : a2 = a1) : (0 : Int) ≤ a2 := by omega
theorem oz109 {a0 a1 a2 a3 : Int} (h0 : a0 ≤ 8) (h1 : a1 = a2) (h2 : a1 < a0) (h3 : a3 = a2) : a3 ≤ 7 := by omega
theorem oz110 {a0 a1 : Int} (h0 : a0 ≤ 21) (h1 : a1 = 1) : a0 + a1 ≤ 2147483647 := by omega
theorem oz111 {a0 a1 a2 a3 : Int} (h0 : a0 = a1) (h1 : a2 = a0 + a3) (h2 : a1 = 0) (h3 : a3 = 1) : a2 ≤ 21 := by omega
theorem oz112 {a0 a1 a2 a3 : Int} (h0 : a0 = a1) (h1 : a2 = a0 + a3) (h2 : a1 = 0) (h3 : a3 = 1) : a2 ≤ 20 := by omega
theorem oz113 {a0 a1 a2 : Int} (h0 : a0 = a1 + a2) (h1 : a2 = 1) : (20 - a0) < (20 - a1) := by omega
theorem oz114 {a0 a1 : Int} (h0 : a0 = a1) (h1 : a1 = 0) : (1 : Int) ≤ (20 - a0) := by omega
theorem oz115 {a0 : Int} (h0 : a0 = 0) : a0 ≤ 20 := by omega
theorem oz116 {a0 : Int} (h0 : a0 ≤ 20) : a0 ≤ 20 := by omega
theorem oz117 {a0 : Int} (h0 : a0 ≤ 20) : a0 < 21 := by omega
theorem oz118 {a0 a1 a2 : Int} (h0 : a0 ≤ 20) (h1 : a1 = a0 + a2) (h2 : a2 = 1) : a1 ≤ 21 := by omega
theorem oz119 {a0 a1 a2 a3 : Int} (h0 : a0 < a1) (h1 : a2 = a0 + a3) (h2 : a1 = 20) (h3 : a3 = 1) : a2 ≤ 20 := by omega
theorem oz120 {a0 a1 : Int} (h0 : a0 < a1) (h1 : a1 = 20) : (1 : Int) ≤ (20 - a0) := by omega
theorem oz121 {a0 a1 : Int} (h0 : a0 = 0) (h1 : (0 : Int) ≤ a1) : (-2147483648 : Int) ≤ a0 + a1 := by omega
theorem oz122 {a0 a1 a2 : Int} (h0 : a0 < a1) (h1 : a2 = 0) (h2 : a1 = 31) : a2 + a0 ≤ 2147483647 := by omega
theorem oz123 {a0 a1 : Int} (h0 : a0 < a1) (h1 : a1 = 31) : a0 < 31 := by omega
theorem oz124 {a0 a1 a2 : Int} (h0 : a0 = 0) (h1 : (0 : Int) ≤ a1) (h2 : a2 = a0 + a1) : (0 : Int) ≤ a2 := by omega
theorem oz125 {a0 a1 a2 a3 : Int} (h0 : a0 < a1) (h1 : a2 = 0) (h2 : a3 = a2 + a0) (h3 : a1 = 31) : a3 < 31 := by omega
theorem oz126 {a0 a1 a2 a3 : Int} (h0 : a0 = 0) (h1 : (a1 = 18 → (0 : Int) ≤ a2 ∧ a2 ≤ 5)) (h2 : a3 = a0 + a1) : a3 = 18 → (0 : Int) ≤ a2 ∧ a2 ≤ 5 := by omega
theorem oz127 {a0 a1 a2 a3 : Int} (h0 : a0 = 0) (h1 : (19 ≤ a1 → a1 ≤ 24 → (0 : Int) ≤ a2 ∧ a2 ≤ 7)) (h2 : a3 = a0 + a1) : 19 ≤ a3 → a3 ≤ 24 → (0 : Int) ≤ a2 ∧ a2 ≤ 7 := by omega
theorem oz128 {a0 a1 a2 : Int} (h0 : a0 < a1) (h1 : a1 = 31) (h2 : a2 = 1) : a0 + a2 ≤ 2147483647 := by omega
theorem oz129 {a0 a1 a2 : Int} (h0 : a0 = a1 + a2) (h1 : a2 = 1) : (31 - a0) < (31 - a1) := by omega
theorem oz130 {a0 a1 : Int} (h0 : a0 < a1) (h1 : a1 = 31) : (1 : Int) ≤ (31 - a0) := by omega
theorem oz131 {a0 : Int} (h0 : a0 = 0) : a0 = 0 := by omega
theorem oz132 {a0 a1 : Int} (h0 : a0 < a1) (h1 : a1 = 64) : a0 < 64 := by omega
theorem oz133 {a0 a1 a2 : Int} (h0 : a0 < a1) (h1 : a1 = 64) (h2 : a2 = 1) : a0 + a2 ≤ 2147483647 := by omega
theorem oz134 {a0 a1 a2 : Int} (h0 : a0 = a1 + a2) (h1 : a2 = 1) : (64 - a0) < (64 - a1) := by omega
theorem oz135 {a0 a1 : Int} (h0 : a0 < a1) (h1 : a1 = 64) : (1 : Int) ≤ (64 - a0) := by omega
theorem oz136 {a0 a1 : Int} (h0 : a0 < a1) (h1 : a1 ≤ 21) : a0 < 21 := by omega
theorem oz137 {a0 a1 : Int} (h0 : (0 : Int) ≤ a0) (h1 : a1 = 16) : (-2147483648 : Int) ≤ a1 + a0 := by omega
theorem oz138 {a0 a1 : Int} (h0 : a0 ≤ 7) (h1 : a1 = 16) : a1 + a0 ≤ 2147483647 := by omega
theorem oz139 {a0 a1 a2 : Int} (h0 : (0 : Int) ≤ a0) (h1 : a1 = a2 + a0) (h2 : a2 = 16) : (0 : Int) ≤ a1 := by omega
theorem oz140 {a0 a1 a2 : Int} (h0 : a0 ≤ 7) (h1 : a1 = a2 + a0) (h2 : a2 = 16) : a1 < 24 := by omega
theorem oz141 {a0 : Int} (h0 : a0 = 1) : (0 : Int) ≤ a0 := by omega
theorem oz142 {a0 : Int} (h0 : a0 = 1) : a0 < 6 := by omega
theorem oz143 {a0 : Int} (h0 : a0 ≤ 7) : a0 < 24 := by omega
theorem oz144 {a0 a1 : Int} (h0 : a0 ≤ 7) (h1 : a1 = 8) : a1 + a0 ≤ 2147483647 := by omega
theorem oz145 {a0 a1 a2 : Int} (h0 : a0 ≤ 7) (h1 : a1 = a2 + a0) (h2 : a2 = 8) : a1 < 24 := by omega
theorem oz146 {a0 a1 : Int} (h0 : (0 : Int) ≤ a0) (h1 : a1 = 10) : (-2147483648 : Int) ≤ a1 + a0 := by omega
theorem oz147 {a0 a1 : Int} (h0 : a0 ≤ 7) (h1 : a1 = 10) : a1 + a0 ≤ 2147483647 := by omega
theorem oz148 {a0 a1 a2 : Int} (h0 : (0 : Int) ≤ a0) (h1 : a1 = a2 + a0) (h2 : a2 = 10) : (0 : Int) ≤ a1 := by omega
theorem oz149 {a0 a1 a2 : Int} (h0 : a0 ≤ 7) (h1 : a1 = a2 + a0) (h2 : a2 = 10) : a1 < 31 := by omega
theorem oz150 {a0 : Int} (h0 : (0 : Int) ≤ a0) (h1 : a0 ≤ 7) : ((0 : Int) ≤ a0) ∧ (a0 ≤ 7) := by omega
theorem oz151 {a0 a1 : Int} (h0 : (0 : Int) ≤ a0) (h1 : a1 = 19) : (-2147483648 : Int) ≤ a1 + a0 := by omega
theorem oz152 {a0 a1 : Int} (h0 : a0 ≤ 5) (h1 : a1 = 19) : a1 + a0 ≤ 2147483647 := by omega
theorem oz153 {a0 a1 a2 : Int} (h0 : (0 : Int) ≤ a0) (h1 : a1 = a2 + a0) (h2 : a2 = 19) : (0 : Int) ≤ a1 := by omega
theorem oz154 {a0 a1 a2 : Int} (h0 : a0 ≤ 5) (h1 : a1 = a2 + a0) (h2 : a2 = 19) : a1 < 31 := by omega
theorem oz155 {a0 a1 a2 a3 : Int} (h0 : (0 : Int) ≤ a0) (h1 : a1 = a2 + a0) (h2 : a2 = 19) : a1 = 18 → (0 : Int) ≤ a3 ∧ a3 ≤ 5 := by omega
theorem oz156 {a0 a1 : Int} (h0 : (0 : Int) ≤ a0) (h1 : a0 ≤ 7) : 19 ≤ a1 → a1 ≤ 24 → (0 : Int) ≤ a0 ∧ a0 ≤ 7 := by omega
theorem oz157 {a0 a1 a2 a3 : Int} (h0 : (0 : Int) ≤ a0) (h1 : a1 = a2 + a0) (h2 : a2 = 19) (h3 : a3 = 18) : a3 ≠ a1 := by omega
theorem oz158 {a0 a1 : Int} (h0 : (0 : Int) ≤ a0) (h1 : a1 = 25) : (-2147483648 : Int) ≤ a1 + a0 := by omega
theorem oz159 {a0 a1 : Int} (h0 : a0 ≤ 5) (h1 : a1 = 25) : a1 + a0 ≤ 2147483647 := by omega
theorem oz160 {a0 a1 a2 : Int} (h0 : (0 : Int) ≤ a0) (h1 : a1 = a2 + a0) (h2 : a2 = 25) : (0 : Int) ≤ a1 := by omega
theorem oz161 {a0 a1 a2 : Int} (h0 : a0 ≤ 5) (h1 : a1 = a2 + a0) (h2 : a2 = 25) : a1 < 31 := by omega
theorem oz162 {a0 a1 a2 a3 : Int} (h0 : (0 : Int) ≤ a0) (h1 : a1 = a2 + a0) (h2 : a2 = 25) : a1 = 18 → (0 : Int) ≤ a3 ∧ a3 ≤ 5 := by omega
theorem oz163 {a0 a1 a2 a3 : Int} (h0 : (0 : Int) ≤ a0) (h1 : a1 = a2 + a0) (h2 : a2 = 25) : 19 ≤ a1 → a1 ≤ 24 → (0 : Int) ≤ a3 ∧ a3 ≤ 7 := by omega
theorem oz164 {a0 a1 a2 a3 : Int} (h0 : (0 : Int) ≤ a0) (h1 : a1 = a2 + a0) (h2 : a2 = 25) (h3 : a3 = 18) : a3 ≠ a1 := by omega
theorem oz165 {a0 a1 : Int} (h0 : a0 ≤ 5) (h1 : a1 = 1) : a0 + a1 ≤ 2147483647 := by omega
theorem oz166 {a0 a1 a2 a3 a4 a5 a6 a7 : Int} (h0 : a0 < a1) (h1 : a1 ≤ 5) (h2 : (0 : Int) ≤ a2) (h3 : a3 = a2 + a4) (h4 : a5 = a0) (h5 : a6 = a5) (h6 : a2 = a6) (h7 : a4 = 1) (h8 : a7 = 18) : a7 = 18 → (0 : Int) ≤ a3 ∧ a3 ≤ 5 := by omega
theorem oz167 {a0 a1 : Int} (h0 : a0 = 18) : 19 ≤ a0 → a0 ≤ 24 → (0 : Int) ≤ a1 ∧ a1 ≤ 7 := by omega
theorem oz168 {a0 : Int} (h0 : a0 = 9) : (0 : Int) ≤ a0 := by omega
theorem oz169 {a0 : Int} (h0 : a0 = 9) : a0 < 31 := by omega
theorem oz170 {a0 a1 a2 a3 : Int} (h0 : (0 : Int) ≤ a0) (h1 : a1 = a2 + a0) (h2 : a2 = 19) (h3 : a3 = 9) : a3 ≠ a1 := by omega
theorem oz171 {a0 a1 a2 a3 : Int} (h0 : (0 : Int) ≤ a0) (h1 : a1 = a2 + a0) (h2 : a2 = 25) (h3 : a3 = 9) : a3 ≠ a1 := by omega
theorem oz172 {a0 a1 : Int} (h0 : a0 = 9) (h1 : a1 = 18) : a0 ≠ a1 := by omega
theorem oz173 {a0 a1 : Int} (h0 : a0 = 9) : a0 = 18 → (0 : Int) ≤ a1 ∧ a1 ≤ 5 := by omega
theorem oz174 {a0 a1 : Int} (h0 : a0 = 9) : 19 ≤ a0 → a0 ≤ 24 → (0 : Int) ≤ a1 ∧ a1 ≤ 7 := by omega
theorem oz175 {a0 a1 a2 a3 a4 a5 : Int} (h0 : a0 ≤ 7) (h1 : (0 : Int) ≤ a1) (h2 : a2 = a3 + a1) (h3 : a4 = a5 + a0) (h4 : a3 = 19) (h5 : a5 = 10) : a4 ≠ a2 := by omega
theorem oz176 {a0 a1 a2 a3 a4 a5 : Int} (h0 : a0 ≤ 7) (h1 : (0 : Int) ≤ a1) (h2 : a2 = a3 + a1) (h3 : a4 = a5 + a0) (h4 : a3 = 25) (h5 : a5 = 10) : a4 ≠ a2 := by omega
theorem oz177 {a0 a1 a2 a3 : Int} (h0 : a0 ≤ 7) (h1 : a1 = a2 + a0) (h2 : a2 = 10) (h3 : a3 = 18) : a1 ≠ a3 := by omega
theorem oz178 {a0 a1 a2 a3 : Int} (h0 : (0 : Int) ≤ a0) (h1 : a1 = a2 + a0) (h2 : a2 = 10) (h3 : a3 = 9) : a1 ≠ a3 := by omega
theorem oz179 {a0 a1 a2 a3 : Int} (h0 : a0 ≤ 7) (h1 : a1 = a2 + a0) (h2 : a2 = 10) : a1 = 18 → (0 : Int) ≤ a3 ∧ a3 ≤ 5 := by omega
theorem oz180 {a0 a1 a2 a3 : Int} (h0 : a0 ≤ 7) (h1 : a1 = a2 + a0) (h2 : a2 = 10) : 19 ≤ a1 → a1 ≤ 24 → (0 : Int) ≤ a3 ∧ a3 ≤ 7 := by omega
theorem oz181 {a0 : Int} (h0 : a0 = 19) : (0 : Int) ≤ a0 := by omega
theorem oz182 {a0 : Int} (h0 : a0 = 19) : a0 < 31 := by omega
theorem oz183 {a0 : Int} (h0 : a0 = 25) : (0 : Int) ≤ a0 := by omega
theorem oz184 {a0 : Int} (h0 : a0 = 25) : a0 < 31 := by omega
theorem oz185 {a0 a1 : Int} (h0 : (1 : Int) ≤ a0) (h1 : a1 = 1) : (-2147483648 : Int) ≤ a0 - a1 := by omega
theorem oz186 {a0 a1 : Int} (h0 : a0 ≤ 5) (h1 : a1 = 1) : a0 - a1 ≤ 2147483647 := by omega
theorem oz187 {a0 a1 a2 a3 : Int} (h0 : (1 : Int) ≤ a0) (h1 : a0 ≤ 5) (h2 : a1 = a0 - a2) (h3 : a2 = 1) (h4 : a3 = 18) : a3 = 18 → (0 : Int) ≤ a1 ∧ a1 ≤ 5 := by omega
theorem oz188 {a0 a1 : Int} (h0 : a0 ≤ 7) (h1 : a1 = 18) : a0 ≠ a1 := by omega
theorem oz189 {a0 : Int} (h0 : (0 : Int) ≤ a0) : (-2147483648 : Int) ≤ 8 * a0 := by omega
theorem oz190 {a0 : Int} (h0 : a0 ≤ 7) : 8 * a0 ≤ 2147483647 := by omega
theorem oz191 {a0 a1 a2 : Int} (h0 : (0 : Int) ≤ a0) (h1 : (0 : Int) ≤ a1) (h2 : a2 = 8 * a1) : (-2147483648 : Int) ≤ a2 + a0 := by omega
theorem oz192 {a0 a1 a2 : Int} (h0 : a0 ≤ 7) (h1 : a1 ≤ 7) (h2 : a2 = 8 * a1) : a2 + a0 ≤ 2147483647 := by omega
theorem oz193 {a0 a1 a2 a3 : Int} (h0 : (0 : Int) ≤ a0) (h1 : (0 : Int) ≤ a1) (h2 : a2 = 8 * a1) (h3 : a3 = a2 + a0) : (0 : Int) ≤ a3 := by omega
theorem oz194 {a0 a1 a2 a3 : Int} (h0 : a0 ≤ 7) (h1 : a1 ≤ 7) (h2 : a2 = 8 * a1) (h3 : a3 = a2 + a0) : a3 < 64 := by omega
theorem oz195 {a0 a1 : Int} (h0 : a0 ≤ 7) : a0 = 18 → (0 : Int) ≤ a1 ∧ a1 ≤ 5 := by omega
theorem oz196 {a0 a1 : Int} (h0 : a0 ≤ 7) : 19 ≤ a0 → a0 ≤ 24 → (0 : Int) ≤ a1 ∧ a1 ≤ 7 := by omega
theorem oz197 {a0 a1 : Int} (h0 : a0 ≠ a1) : a1 ≠ a0 := by omega
theorem oz198 {a0 a1 : Int} (h0 : a0 ≤ 7) (h1 : a1 = 18) : a1 ≠ a0 := by omega
theorem oz199 {a0 a1 a2 a3 a4 a5 a6 a7 : Int} (h0 : a0 = a1 - a2) (h1 : a3 = a0) (h2 : a4 = a3) (h3 : a5 = a4) (h4 : a6 = a5) (h5 : a7 = a6) (h6 : a2 = 1) : a7 = (a1 - 1) := by omega
theorem oz200 {a0 a1 a2 a3 a4 : Int} (h0 : a0 = a1 - a2) (h1 : a3 = a0) (h2 : a4 = a3) (h3 : a2 = 1) : a4 = (a1 - 1) := by omega
theorem oz201 {a0 a1 a2 : Int} (h0 : a0 < a1) (h1 : a1 ≤ 5) (h2 : a2 = 19) : a2 + a0 ≤ 2147483647 := by omega
theorem oz202 {a0 a1 : Int} (h0 : (0 : Int) ≤ a0) (h1 : a1 = 20) : (-2147483648 : Int) ≤ a1 + a0 := by omega
theorem oz203 {a0 a1 a2 : Int} (h0 : a0 < a1) (h1 : a1 ≤ 5) (h2 : a2 = 20) : a2 + a0 ≤ 2147483647 := by omega
theorem oz204 {a0 a1 a2 : Int} (h0 : (0 : Int) ≤ a0) (h1 : a1 = a2 + a0) (h2 : a2 = 20) : (0 : Int) ≤ a1 := by omega
theorem oz205 {a0 a1 a2 a3 : Int} (h0 : a0 < a1) (h1 : a1 ≤ 5) (h2 : a2 = a3 + a0) (h3 : a3 = 20) : a2 < 31 := by omega
theorem oz206 {a0 a1 a2 a3 : Int} (h0 : (0 : Int) ≤ a0) (h1 : a1 = a2 + a0) (h2 : a2 = 20) (h3 : a3 = 18) : a1 ≠ a3 := by omega
theorem oz207 {a0 a1 a2 a3 : Int} (h0 : a0 < a1) (h1 : a1 ≤ 5) (h2 : a2 = a3 + a0) (h3 : a3 = 19) : a2 < 31 := by omega
theorem oz208 {a0 a1 a2 a3 a4 a5 : Int} (h0 : a0 < a1) (h1 : (0 : Int) ≤ a0) (h2 : a1 ≤ 5) (h3 : (19 ≤ a2 → a2 ≤ 24 → (0 : Int) ≤ a3 ∧ a3 ≤ 7)) (h4 : a2 = a4 + a0) (h5 : a4 = 20) : 19 ≤ a5 → a5 ≤ 24 → (0 : Int) ≤ a3 ∧ a3 ≤ 7 := by omega
theorem oz209 {a0 a1 a2 : Int} (h0 : a0 < a1) (h1 : a1 ≤ 5) (h2 : a2 = 25) : a2 + a0 ≤ 2147483647 := by omega
theorem oz210 {a0 a1 : Int} (h0 : (0 : Int) ≤ a0) (h1 : a1 = 26) : (-2147483648 : Int) ≤ a1 + a0 := by omega
theorem oz211 {a0 a1 a2 : Int} (h0 : a0 < a1) (h1 : a1 ≤ 5) (h2 : a2 = 26) : a2 + a0 ≤ 2147483647 := by omega
theorem oz212 {a0 a1 a2 : Int} (h0 : (0 : Int) ≤ a0) (h1 : a1 = a2 + a0) (h2 : a2 = 26) : (0 : Int) ≤ a1 := by omega
theorem oz213 {a0 a1 a2 a3 : Int} (h0 : a0 < a1) (h1 : a1 ≤ 5) (h2 : a2 = a3 + a0) (h3 : a3 = 26) : a2 < 31 := by omega
theorem oz214 {a0 a1 a2 a3 a4 : Int} (h0 : a0 = a1 + a2) (h1 : a3 = a4 + a2) (h2 : a1 = 19) (h3 : a4 = 26) : a3 ≠ a0 := by omega
theorem oz215 {a0 a1 a2 a3 : Int} (h0 : a0 < a1) (h1 : a1 ≤ 5) (h2 : a2 = a3 + a0) (h3 : a3 = 25) : a2 < 31 := by omega
theorem oz216 {a0 a1 a2 : Int} (h0 : a0 < a1) (h1 : a1 ≤ 5) (h2 : a2 = 1) : a0 + a2 ≤ 2147483647 := by omega
theorem oz217 {a0 a1 a2 a3 a4 a5 a6 : Int} (h0 : a0 = a1 - a2) (h1 : a3 = a4) (h2 : a5 = a3) (h3 : a6 = a0) (h4 : a4 = a6) (h5 : a2 = 1) : a5 = (a1 - 1) := by omega
theorem oz218 {a0 a1 a2 : Int} (h0 : a0 = a1 + a2) (h1 : a2 = 1) : (5 - a0) < (5 - a1) := by omega
theorem oz219 {a0 a1 : Int} (h0 : a0 < a1) (h1 : a1 ≤ 5) : (1 : Int) ≤ (5 - a0) := by omega
theorem oz220 {a0 a1 a2 a3 : Int} (h0 : a0 = a1 - a2) (h1 : a3 = a0) (h2 : a2 = 1) : a3 = (a1 - 1) := by omega
theorem oz221 {a0 a1 a2 a3 a4 : Int} (h0 : a0 = (a1 - 1)) (h1 : a2 = a0) (h2 : a3 = a2) (h3 : a4 = a3) : a4 = (a1 - 1) := by omega
theorem oz222 {a0 a1 : Int} (h0 : a0 = (a1 - 1)) : a0 = (a1 - 1) := by omega
theorem oz223 {a0 a1 a2 a3 a4 a5 : Int} (h0 : a0 < a1) (h1 : (0 : Int) ≤ a0) (h2 : (19 ≤ a2 → a2 ≤ 24 → (0 : Int) ≤ a3 ∧ a3 ≤ 7)) (h3 : a1 ≤ 5) (h4 : a2 = a4 + a0) (h5 : a4 = 20) : 19 ≤ a5 → a5 ≤ 24 → (0 : Int) ≤ a3 ∧ a3 ≤ 7 := by omega
theorem oz224 {a0 a1 a2 a3 : Int} (h0 : a0 = (a1 - 1)) (h1 : a2 = a0) (h2 : a3 = a2) : a3 = (a1 - 1) := by omega
theorem oz225 {a0 a1 : Int} (h0 : a0 ≤ a1) (h1 : (1 : Int) ≤ a0) : (1 : Int) ≤ a1 := by omega
theorem oz226 {a0 a1 : Int} (h0 : a0 = (a1 - 1)) : a0 < a1 := by omega
theorem oz227 {a0 a1 a2 : Int} (h0 : a0 < a1) (h1 : a1 ≤ 21) (h2 : a2 = 1) : a0 + a2 ≤ 2147483647 := by omega
theorem oz228 {a0 a1 a2 a3 a4 : Int} (h0 : a0 = a1) (h1 : a2 = a3 + a4) (h2 : a4 = 1) : (a0 - a2) < (a1 - a3) := by omega
theorem oz229 {a0 a1 a2 a3 a4 : Int} (h0 : a0 ≠ a1) (h1 : a0 ≠ a2) (h2 : a0 ≠ a3) (h3 : a0 ≠ a4) (h4 : a1 ≤ a0) (h5 : a0 ≤ a4) (h6 : a1 = 0) (h7 : a2 = 1) (h8 : a3 = 2) (h9 : a4 = 3) : False := by omega
theorem oz230 {a0 a1 a2 a3 : Int} (h0 : a0 = 0) (h1 : (a1 = 18 → (0 : Int) ≤ a2 ∧ a2 ≤ 5)) (h2 : a1 = a0 + a3) : a3 = 18 → (0 : Int) ≤ a2 ∧ a2 ≤ 5 := by omega
theorem oz231 {a0 a1 a2 a3 : Int} (h0 : a0 = 0) (h1 : (19 ≤ a1 → a1 ≤ 24 → (0 : Int) ≤ a2 ∧ a2 ≤ 7)) (h2 : a1 = a0 + a3) : 19 ≤ a3 → a3 ≤ 24 → (0 : Int) ≤ a2 ∧ a2 ≤ 7 := by omega
theorem oz232 {a0 a1 : Int} (h0 : a0 ≤ 8) (h1 : a1 < a0) : a1 < 31 := by omega
theorem oz233 {a0 a1 a2 : Int} (h0 : a0 = a1) (h1 : a0 = a2) (h2 : a1 = 3) (h3 : a2 = 2) : False := by omega
theorem oz234 {a0 a1 a2 : Int} (h0 : a0 = a1) (h1 : a0 = a2) (h2 : a1 = 3) (h3 : a2 = 1) : False := by omega
theorem oz235 {a0 a1 a2 : Int} (h0 : a0 = a1) (h1 : a0 = a2) (h2 : a1 = 3) (h3 : a2 = 0) : False := by omega
theorem oz236 {a0 a1 : Int} (h0 : a0 ≤ a1) (h1 : a0 = 0) : (0 : Int) ≤ a1 := by omega
theorem oz237 {a0 a1 : Int} (h0 : a0 ≠ a1) (h1 : a0 = a1) (h2 : a1 = (-1)) : False := by omega
theorem oz238 {a0 a1 a2 : Int} (h0 : a0 ≤ a1) (h1 : a1 = 0) (h2 : a2 = 1) : a0 + a2 ≤ 2147483647 := by omega
theorem oz239 {a0 a1 : Int} (h0 : a0 = 8) : a0 = 18 → (0 : Int) ≤ a1 ∧ a1 ≤ 5 := by omega
theorem oz240 {a0 a1 : Int} (h0 : a0 = 8) : 19 ≤ a0 → a0 ≤ 24 → (0 : Int) ≤ a1 ∧ a1 ≤ 7 := by omega
theorem oz241 {a0 : Int} (h0 : (9 : Int) ≤ a0) : (0 : Int) ≤ a0 := by omega
theorem oz242 {a0 a1 : Int} (h0 : a0 < a1) (h1 : a1 = 18) : a0 < 31 := by omega
theorem oz243 {a0 a1 a2 : Int} (h0 : a0 < a1) (h1 : a1 = 18) (h2 : a2 = 0) : a0 = 18 → (0 : Int) ≤ a2 ∧ a2 ≤ 5 := by omega
theorem oz244 {a0 a1 a2 : Int} (h0 : a0 < a1) (h1 : a1 = 18) (h2 : a2 = 0) : 19 ≤ a0 → a0 ≤ 24 → (0 : Int) ≤ a2 ∧ a2 ≤ 7 := by omega
theorem oz245 {a0 a1 : Int} (h0 : (9 : Int) ≤ a0) (h1 : a1 = 1) : (-2147483648 : Int) ≤ a0 + a1 := by omega
theorem oz246 {a0 a1 a2 : Int} (h0 : a0 < a1) (h1 : a1 = 18) (h2 : a2 = 1) : a0 + a2 ≤ 2147483647 := by omega
theorem oz247 {a0 a1 a2 : Int} (h0 : (9 : Int) ≤ a0) (h1 : a1 = a0 + a2) (h2 : a2 = 1) : (9 : Int) ≤ a1 := by omega
theorem oz248 {a0 a1 a2 : Int} (h0 : a0 = a1 + a2) (h1 : a2 = 1) : (18 - a0) < (18 - a1) := by omega
theorem oz249 {a0 a1 : Int} (h0 : a0 < a1) (h1 : a1 = 18) : (1 : Int) ≤ (18 - a0) := by omega
theorem oz250 {a0 : Int} (h0 : a0 = 9) : (9 : Int) ≤ a0 := by omega
theorem oz251 {a0 a1 a2 : Int} (h0 : a0 < a1) (h1 : a0 = 0) (h2 : a2 = 1) : (-2147483648 : Int) ≤ a1 + a2 := by omega
theorem oz252 {a0 a1 a2 a3 : Int} (h0 : a0 < a1) (h1 : a1 ≤ a2) (h2 : a2 = 20) (h3 : a3 = 1) : a0 + a3 ≤ 2147483647 := by omega
theorem oz253 {a0 a1 a2 a3 : Int} (h0 : a0 < a1) (h1 : a2 = a1 + a3) (h2 : a0 = 0) (h3 : a3 = 1) : (0 : Int) ≤ a2 := by omega
theorem oz254 {a0 a1 : Int} (h0 : a0 = a1) (h1 : (0 : Int) ≤ a0) (h2 : a1 = (-1)) : False := by omega
theorem oz255 {a0 a1 : Int} (h0 : a0 ≤ a1) (h1 : a1 ≤ 20) : a0 < 21 := by omega
theorem oz256 {a0 : Int} (h0 : a0 ≤ 7) : a0 ≤ 7 := by omega
theorem oz257 {a0 a1 a2 a3 : Int} (h0 : a0 = a1) (h1 : a1 ≤ 20) (h2 : a2 = a0 + a3) (h3 : a3 = 1) : a2 ≤ 21 := by omega
theorem oz258 {a0 a1 a2 a3 : Int} (h0 : a0 = a1) (h1 : a2 = a0 + a3) (h2 : a3 = 1) : a2 = (a1 + 1) := by omega
theorem oz259 {a0 a1 a2 : Int} (h0 : a0 < a1) (h1 : (0 : Int) ≤ a0) (h2 : a2 = 1) : (-2147483648 : Int) ≤ a1 - a2 := by omega
theorem oz260 {a0 a1 a2 a3 : Int} (h0 : a0 = a1) (h1 : a1 ≤ 20) (h2 : a2 ≤ a0) (h3 : a3 = 1) : a2 - a3 ≤ 2147483647 := by omega
theorem oz261 {a0 a1 a2 a3 : Int} (h0 : a0 < a1) (h1 : (0 : Int) ≤ a0) (h2 : a2 = a1 - a3) (h3 : a3 = 1) : (0 : Int) ≤ a2 := by omega
theorem oz262 {a0 a1 a2 a3 a4 : Int} (h0 : a0 = a1) (h1 : a1 ≤ 20) (h2 : a2 ≤ a0) (h3 : a3 = a2 - a4) (h4 : a4 = 1) : a3 < 21 := by omega
theorem oz263 {a0 a1 : Int} (h0 : a0 < a1) (h1 : (0 : Int) ≤ a0) : (0 : Int) ≤ a1 := by omega
theorem oz264 {a0 a1 a2 : Int} (h0 : a0 = a1) (h1 : a1 ≤ 20) (h2 : a2 ≤ a0) : a2 < 21 := by omega
theorem oz265 {a0 a1 a2 : Int} (h0 : a0 < a1) (h1 : (0 : Int) ≤ a0) (h2 : a2 = (-1)) : (-2147483648 : Int) ≤ a1 + a2 := by omega
theorem oz266 {a0 a1 a2 a3 : Int} (h0 : a0 = a1) (h1 : a1 ≤ 20) (h2 : a2 ≤ a0) (h3 : a3 = (-1)) : a2 + a3 ≤ 2147483647 := by omega
theorem oz267 {a0 a1 a2 a3 : Int} (h0 : a0 ≤ a1) (h1 : a2 = a0 + a3) (h2 : a3 = (-1)) : a2 ≤ a1 := by omega
theorem oz268 {a0 a1 a2 a3 : Int} (h0 : a0 < a1) (h1 : a2 = a1 + a3) (h2 : a3 = (-1)) : a0 ≤ a2 := by omega
theorem oz269 {a0 a1 a2 a3 : Int} (h0 : a0 = a1 + a2) (h1 : a2 = (-1)) : (a0 - a3) < (a1 - a3) := by omega
theorem oz270 {a0 : Int}  : a0 ≤ a0 := by omega
theorem oz271 {a0 a1 : Int} (h0 : a0 ≤ a1) : a0 ≤ a1 := by omega
theorem oz272 {a0 a1 a2 : Int} (h0 : a0 ≤ a1) (h1 : a2 = a1) (h2 : (0 : Int) ≤ a0) : ((0 : Int) ≤ a0) ∧ (a0 ≤ a2) := by omega
theorem oz273 {a0 a1 : Int} (h0 : a0 = a1) (h1 : a1 ≤ 19) : a0 ≤ 20 := by omega
theorem oz274 {a0 a1 : Int} (h0 : a0 ≤ 8) (h1 : (0 : Int) ≤ a1) (h2 : a1 < a0) : ((0 : Int) ≤ a1) ∧ (a1 ≤ 7) := by omega
theorem oz275 {a0 a1 : Int} (h0 : a0 ≤ 21) (h1 : a1 = 1) : a0 - a1 ≤ 2147483647 := by omega
theorem oz276 {a0 a1 a2 : Int} (h0 : (1 : Int) ≤ a0) (h1 : a1 = a0 - a2) (h2 : a2 = 1) : (0 : Int) ≤ a1 := by omega
theorem oz277 {a0 a1 a2 : Int} (h0 : a0 ≤ 21) (h1 : a1 = a0 - a2) (h2 : a2 = 1) : a1 ≤ 21 := by omega
theorem oz278 {a0 a1 a2 a3 : Int} (h0 : a0 = a1) (h1 : a1 = a2 - a3) (h2 : a3 = 1) : a0 = (a2 - 1) := by omega
theorem oz279 {a0 a1 a2 a3 a4 a5 : Int} (h0 : a0 < a1) (h1 : a1 = a2) (h2 : a3 ≤ 21) (h3 : a2 = a3 - a4) (h4 : a5 = a0 + a4) (h5 : a4 = 1) : a5 < 21 := by omega
theorem oz280 {a0 a1 a2 : Int} (h0 : a0 = a1) (h1 : (0 : Int) ≤ a2) (h2 : a1 = (a2 + 1)) : (1 : Int) ≤ a0 := by omega
theorem oz281 {a0 a1 a2 : Int} (h0 : a0 ≤ a1) (h1 : a1 ≤ 21) (h2 : a2 = 1) : a0 + a2 ≤ 2147483647 := by omega
theorem oz282 {a0 a1 a2 a3 a4 : Int} (h0 : a0 = a1) (h1 : a2 = a3) (h2 : a3 = (a0 + 1)) (h3 : a4 = (a2 - 1)) : a1 = a4 := by omega
theorem oz283 {a0 : Int} (h0 : a0 ≤ 19) : a0 ≤ 19 := by omega
theorem oz284 {a0 a1 a2 a3 : Int} (h0 : a0 = a1 + a2) (h1 : a2 = 1) : ((a3 + 1) - a0) < ((a3 + 1) - a1) := by omega
theorem oz285 {a0 a1 : Int} (h0 : a0 ≤ a1) : (1 : Int) ≤ ((a1 + 1) - a0) := by omega
theorem oz286 {a0 a1 : Int} (h0 : a0 ≠ a1) (h1 : a0 ≤ 20) (h2 : a1 = 20) : a0 ≤ 19 := by omega
theorem oz287 {a0 a1 a2 : Int} (h0 : a0 ≤ a1) (h1 : (0 : Int) ≤ a0) (h2 : a1 = a2) : ((0 : Int) ≤ a0) ∧ (a0 ≤ a2) := by omega
theorem oz288 {a0 a1 : Int} (h0 : a0 = a1) (h1 : a0 ≤ 19) : a1 ≤ 20 := by omega
theorem oz289 {a0 a1 a2 a3 a4 : Int} (h0 : a0 = a1) (h1 : a2 = a3) (h2 : a1 = (a3 + 1)) (h3 : a4 = (a0 - 1)) : a2 = a4 := by omega
theorem oz290 {a0 a1 a2 a3 : Int} (h0 : a0 ≤ a1) (h1 : a2 ≤ a0) (h2 : a3 = a1) (h3 : a2 = 0) : ((0 : Int) ≤ a0) ∧ (a0 ≤ a3) := by omega
theorem oz291 {a0 : Int} (h0 : a0 ≤ 19) : a0 ≤ 20 := by omega
theorem oz292 {a0 a1 : Int} (h0 : a0 < a1) (h1 : a1 ≤ 8) (h2 : (0 : Int) ≤ a0) : ((0 : Int) ≤ a0) ∧ (a0 ≤ 7) := by omega
theorem oz293 {a0 a1 a2 : Int} (h0 : a0 < a1) (h1 : a1 ≤ 8) (h2 : a2 = 1) : a0 + a2 ≤ 2147483647 := by omega
theorem oz294 {a0 a1 a2 a3 : Int} (h0 : a0 = a1) (h1 : a2 ≤ 19) (h2 : a1 = (a2 + 1)) (h3 : a3 = (a0 - 1)) : a3 ≤ 19 := by omega
theorem oz295 {a0 a1 a2 a3 a4 a5 : Int} (h0 : a0 ≤ a1) (h1 : a2 = a1) (h2 : a3 = a4) (h3 : a4 = (a2 + 1)) (h4 : a5 = (a3 - 1)) : a0 ≤ a5 := by omega
theorem oz296 {a0 a1 a2 a3 a4 a5 a6 : Int} (h0 : a0 = a1) (h1 : a2 = a0) (h2 : a3 = a2) (h3 : a4 = a5 + a6) (h4 : a6 = 1) : (a3 - a4) < (a1 - a5) := by omega
theorem oz297 {a0 a1 a2 : Int} (h0 : a0 ≤ a1) (h1 : a1 ≤ a2) (h2 : a0 = 0) : ((0 : Int) ≤ a1) ∧ (a1 ≤ a2) := by omega
theorem oz298 {a0 a1 a2 a3 a4 : Int} (h0 : a0 = a1) (h1 : a2 ≤ a3) (h2 : a1 = (a3 + 1)) (h3 : a4 = (a0 - 1)) : a2 ≤ a4 := by omega
theorem oz299 {a0 a1 : Int} (h0 : a0 ≤ 20) (h1 : a1 = 1) : a0 + a1 ≤ 2147483647 := by omega
theorem oz300 {a0 : Int} (h0 : a0 ≤ 19) : a0 < 21 := by omega
theorem oz301 {a0 a1 : Int} (h0 : a0 ≤ 19) (h1 : a1 = 1) : a0 + a1 ≤ 2147483647 := by omega
theorem oz302 {a0 a1 a2 : Int} (h0 : a0 ≤ 19) (h1 : a1 = a0 + a2) (h2 : a2 = 1) : a1 < 21 := by omega
theorem oz303 {a0 a1 a2 a3 : Int} (h0 : a0 < a1) (h1 : a1 ≤ 21) (h2 : (0 : Int) ≤ a2) (h3 : a0 = a2 + a3) (h4 : a3 = 1) : ((0 : Int) ≤ a2) ∧ (a2 ≤ 19) := by omega
theorem oz304 {a0 a1 a2 a3 : Int} (h0 : a0 < a1) (h1 : a1 ≤ 21) (h2 : (0 : Int) ≤ a2) (h3 : a0 = a2 + a3) (h4 : a3 = 1) : ((0 : Int) ≤ a0) ∧ (a0 ≤ 20) := by omega
theorem oz305 {a0 a1 a2 a3 : Int} (h0 : a0 = a1) (h1 : a2 = a0) (h2 : a3 = a2) (h3 : a1 ≤ 20) : a3 ≤ 20 := by omega
theorem oz306 {a0 a1 a2 a3 : Int} (h0 : a0 < a1) (h1 : a0 = a2 + a3) (h2 : a3 = 1) : (1 : Int) ≤ (a1 - a2) := by omega
theorem oz307 {a0 : Int} (h0 : a0 = 0) : ((0 : Int) ≤ a0) ∧ (a0 ≤ 20) := by omega
theorem oz308 {a0 a1 : Int} (h0 : a0 = a1) (h1 : a1 ≤ 20) : a0 ≤ 20 := by omega
theorem oz309 {a0 a1 a2 : Int} (h0 : a0 < a1) (h1 : a1 = 0) : ¬ (((0 : Int) ≤ a0) ∧ (((a0 / 10) < a2) ∧ ((a0 % 10) < a2)) ∧ ((a0 / 10) ≠ (a0 % 10))) := by omega
theorem oz310 {a0 a1 a2 a3 : Int} (h0 : a0 = a1) (h1 : a0 = (a2 / 10)) (h2 : a1 = (a2 % 10)) : ¬ (((0 : Int) ≤ a2) ∧ (((a2 / 10) < a3) ∧ ((a2 % 10) < a3)) ∧ ((a2 / 10) ≠ (a2 % 10))) := by omega
theorem oz311 {a0 a1 a2 a3 a4 : Int} (h0 : a0 ≠ a1) (h1 : a2 ≤ a3) (h2 : a0 = (a3 / 10)) (h3 : a1 = (a3 % 10)) (h4 : a0 < a4) (h5 : a1 < a4) (h6 : a2 = 0) : ((0 : Int) ≤ a3) ∧ (((a3 / 10) < a4) ∧ ((a3 % 10) < a4)) ∧ ((a3 / 10) ≠ (a3 % 10)) := by omega
theorem oz312 {a0 a1 a2 : Int} (h0 : a0 = (a1 % 10)) (h1 : ¬ (((0 : Int) ≤ a0) ∧ (a0 < a2))) : ¬ (((0 : Int) ≤ a1) ∧ (((a1 / 10) < a2) ∧ ((a1 % 10) < a2)) ∧ ((a1 / 10) ≠ (a1 % 10))) := by omega
theorem oz313 {a0 a1 a2 a3 : Int} (h0 : a0 ≤ a1) (h1 : a2 = (a1 / 10)) (h2 : ¬ (((0 : Int) ≤ a2) ∧ (a2 < a3))) (h3 : a0 = 0) : ¬ (((0 : Int) ≤ a1) ∧ (((a1 / 10) < a3) ∧ ((a1 % 10) < a3)) ∧ ((a1 / 10) ≠ (a1 % 10))) := by omega
theorem oz314 {a0 : Int} (h0 : a0 = 0) : ((0 : Int) ≤ a0) ∧ (a0 ≤ 7) := by omega
theorem oz315 {a0 a1 : Int} (h0 : a0 = (a1 / 10)) (h1 : (0 : Int) ≤ a1) : (-2147483648 : Int) ≤ 8 * a0 := by omega
theorem oz316 {a0 a1 a2 : Int} (h0 : a0 ≤ 8) (h1 : a1 = (a2 / 10)) (h2 : (a2 / 10) < a0) (h3 : (a2 % 10) < a0) (h4 : (a2 / 10) ≠ (a2 % 10)) : 8 * a1 ≤ 2147483647 := by omega
theorem oz317 {a0 a1 a2 a3 : Int} (h0 : a0 = (a1 / 10)) (h1 : a2 = 8 * a0) (h2 : a3 = (a1 % 10)) (h3 : (0 : Int) ≤ a1) : (-2147483648 : Int) ≤ a2 + a3 := by omega
theorem oz318 {a0 a1 a2 a3 a4 : Int} (h0 : a0 ≤ 8) (h1 : a1 = (a2 / 10)) (h2 : a3 = 8 * a1) (h3 : a4 = (a2 % 10)) (h4 : (a2 / 10) < a0) (h5 : (a2 % 10) < a0) (h6 : (a2 / 10) ≠ (a2 % 10)) : a3 + a4 ≤ 2147483647 := by omega
theorem oz319 {a0 a1 a2 a3 a4 : Int} (h0 : a0 = (a1 / 10)) (h1 : a2 = 8 * a0) (h2 : a3 = (a1 % 10)) (h3 : a4 = a2 + a3) (h4 : (0 : Int) ≤ a1) : (0 : Int) ≤ a4 := by omega
theorem oz320 {a0 a1 a2 a3 a4 a5 : Int} (h0 : a0 ≤ 8) (h1 : a1 = (a2 / 10)) (h2 : a3 = 8 * a1) (h3 : a4 = (a2 % 10)) (h4 : a5 = a3 + a4) (h5 : (a2 / 10) < a0) (h6 : (a2 % 10) < a0) (h7 : (a2 / 10) ≠ (a2 % 10)) : a5 < 64 := by omega
theorem oz321 {a0 : Int} (h0 : (0 : Int) ≤ a0) : (-2147483648 : Int) ≤ 9 * a0 := by omega
theorem oz322 {a0 a1 : Int} (h0 : a0 < a1) (h1 : a1 = 8) : 9 * a0 ≤ 2147483647 := by omega
theorem oz323 {a0 a1 : Int} (h0 : (0 : Int) ≤ a0) (h1 : a1 = 9 * a0) : (0 : Int) ≤ a1 := by omega
theorem oz324 {a0 a1 a2 : Int} (h0 : a0 < a1) (h1 : a2 = 9 * a0) (h2 : a1 = 8) : a2 < 64 := by omega
theorem oz325 {a0 a1 a2 : Int} (h0 : a0 < a1) (h1 : a1 = 8) (h2 : a2 = 1) : a0 + a2 ≤ 2147483647 := by omega
theorem oz326 {a0 a1 a2 : Int} (h0 : a0 = a1 + a2) (h1 : a2 = 1) : (8 - a0) < (8 - a1) := by omega
theorem oz327 {a0 a1 : Int} (h0 : a0 < a1) (h1 : a1 = 8) : (1 : Int) ≤ (8 - a0) := by omega
theorem oz328 {a0 a1 : Int} (h0 : (0 : Int) ≤ a0) (h1 : a1 = (a0 % 8)) : (-2147483648 : Int) ≤ a0 - a1 := by omega
theorem oz329 {a0 a1 a2 : Int} (h0 : a0 < a1) (h1 : a2 = (a0 % 8)) (h2 : a1 = 64) : a0 - a2 ≤ 2147483647 := by omega
theorem oz330 {a0 a1 a2 a3 : Int} (h0 : (0 : Int) ≤ a0) (h1 : (0 : Int) ≤ a1) (h2 : a2 = (a0 % 8)) (h3 : a3 = a0 - a2) : (-2147483648 : Int) ≤ a3 + a1 := by omega
theorem oz331 {a0 a1 a2 a3 a4 a5 : Int} (h0 : a0 < a1) (h1 : a2 < a3) (h2 : a4 = (a2 % 8)) (h3 : a5 = a2 - a4) (h4 : a1 = 8) (h5 : a3 = 64) : a5 + a0 ≤ 2147483647 := by omega
theorem oz332 {a0 a1 a2 a3 a4 : Int} (h0 : (0 : Int) ≤ a0) (h1 : (0 : Int) ≤ a1) (h2 : a2 = (a0 % 8)) (h3 : a3 = a0 - a2) (h4 : a4 = a3 + a1) : (0 : Int) ≤ a4 := by omega
theorem oz333 {a0 a1 a2 a3 a4 a5 a6 : Int} (h0 : a0 < a1) (h1 : a2 < a3) (h2 : a4 = (a2 % 8)) (h3 : a5 = a2 - a4) (h4 : a6 = a5 + a0) (h5 : a1 = 8) (h6 : a3 = 64) : a6 < 64 := by omega
theorem oz334 {a0 a1 : Int} (h0 : a0 < a1) (h1 : a1 = 8) : 8 * a0 ≤ 2147483647 := by omega
theorem oz335 {a0 a1 a2 a3 : Int} (h0 : (0 : Int) ≤ a0) (h1 : a1 = (a2 % 8)) (h2 : a3 = 8 * a0) : (-2147483648 : Int) ≤ a3 + a1 := by omega
theorem oz336 {a0 a1 a2 a3 a4 : Int} (h0 : a0 < a1) (h1 : a2 = (a3 % 8)) (h2 : a4 = 8 * a0) (h3 : a1 = 8) : a4 + a2 ≤ 2147483647 := by omega
theorem oz337 {a0 a1 a2 a3 a4 : Int} (h0 : (0 : Int) ≤ a0) (h1 : a1 = (a2 % 8)) (h2 : a3 = 8 * a0) (h3 : a4 = a3 + a1) : (0 : Int) ≤ a4 := by omega
theorem oz338 {a0 a1 a2 a3 a4 a5 : Int} (h0 : a0 < a1) (h1 : a2 = (a3 % 8)) (h2 : a4 = 8 * a0) (h3 : a5 = a4 + a2) (h4 : a1 = 8) : a5 < 64 := by omega
theorem oz339 {a0 a1 : Int} (h0 : a0 < a1) (h1 : (0 : Int) ≤ a0) (h2 : a1 = 8) : ((0 : Int) ≤ a0) ∧ (a0 ≤ 7) := by omega
theorem oz340 {a0 : Int} (h0 : (1 : Int) ≤ a0) : (0 : Int) ≤ a0 := by omega
theorem oz341 {a0 a1 : Int} (h0 : a0 < a1) (h1 : a1 ≤ 8) : a0 < 31 := by omega
theorem oz342 {a0 a1 : Int} (h0 : (1 : Int) ≤ a0) (h1 : a1 = 1) : (-2147483648 : Int) ≤ a0 + a1 := by omega
theorem oz343 {a0 a1 a2 : Int} (h0 : (1 : Int) ≤ a0) (h1 : a1 = a0 + a2) (h2 : a2 = 1) : (1 : Int) ≤ a1 := by omega
theorem oz344 {a0 a1 : Int} (h0 : a0 < a1) (h1 : a1 ≤ 8) (h2 : (1 : Int) ≤ a0) : ((0 : Int) ≤ a0) ∧ (a0 ≤ 7) := by omega
theorem oz345 {a0 : Int} (h0 : a0 = 1) : (1 : Int) ≤ a0 := by omega
theorem oz346 {a0 a1 : Int} (h0 : a0 < a1) (h1 : a1 = 0) : ¬ (((0 : Int) ≤ a0) ∧ (((0 : Int) ≤ (a0 / 10)) ∧ ((a0 / 10) ≤ 5)) ∧ ((a0 % 10) ≤ 5)) := by omega
theorem oz347 {a0 a1 a2 a3 : Int} (h0 : a0 ≤ a1) (h1 : a2 = (a1 / 10)) (h2 : a3 = (a1 % 10)) (h3 : (0 : Int) ≤ a2) (h4 : a2 ≤ 5) (h5 : a3 ≤ 5) (h6 : a0 = 0) : ((0 : Int) ≤ a1) ∧ (((0 : Int) ≤ (a1 / 10)) ∧ ((a1 / 10) ≤ 5)) ∧ ((a1 % 10) ≤ 5) := by omega
theorem oz348 {a0 a1 : Int} (h0 : a0 = (a1 % 10)) (h1 : ¬ (((0 : Int) ≤ a0) ∧ (a0 ≤ 5))) : ¬ (((0 : Int) ≤ a1) ∧ (((0 : Int) ≤ (a1 / 10)) ∧ ((a1 / 10) ≤ 5)) ∧ ((a1 % 10) ≤ 5)) := by omega
theorem oz349 {a0 a1 a2 : Int} (h0 : a0 ≤ a1) (h1 : a2 = (a1 / 10)) (h2 : ¬ (((0 : Int) ≤ a2) ∧ (a2 ≤ 5))) (h3 : a0 = 0) : ¬ (((0 : Int) ≤ a1) ∧ (((0 : Int) ≤ (a1 / 10)) ∧ ((a1 / 10) ≤ 5)) ∧ ((a1 % 10) ≤ 5)) := by omega
theorem oz350 {a0 a1 : Int} (h0 : (a0 / 10) ≤ 5) (h1 : (0 : Int) ≤ a0) (h2 : (a0 % 10) ≤ 5) (h3 : a1 = (a0 / 10)) : ((0 : Int) ≤ a1) ∧ (a1 ≤ 5) := by omega
theorem oz351 {a0 a1 : Int} (h0 : (a0 % 10) ≤ 5) (h1 : a1 = (a0 % 10)) : ((0 : Int) ≤ a1) ∧ (a1 ≤ 5) := by omega
theorem oz352 {a0 : Int} (h0 : (a0 < 0) ∨ (a0 = 0)) : (a0 < 0) ∨ (a0 = 0) := by omega
theorem oz353 {a0 a1 : Int} (h0 : a0 < a1) (h1 : a1 = 0) : (a0 < 0) ∨ (a0 = 0) := by omega
theorem oz354 {a0 : Int} (h0 : (0 : Int) ≤ (a0 / 10)) (h1 : (a0 / 10) ≤ 5) : ((0 : Int) ≤ (a0 / 10)) ∧ ((a0 / 10) ≤ 5) := by omega
theorem oz355 {a0 : Int} (h0 : (a0 % 10) ≤ 5) : (a0 % 10) ≤ 5 := by omega
theorem oz356 {a0 a1 : Int} (h0 : a0 = (a1 / 10)) (h1 : (0 : Int) ≤ a1) (h2 : (a1 / 10) ≤ 5) (h3 : (a1 % 10) ≤ 5) : ((0 : Int) ≤ a0) ∧ (a0 ≤ 5) := by omega
theorem oz357 {a0 a1 : Int} (h0 : a0 < a1) (h1 : (0 : Int) ≤ a0) (h2 : a1 ≤ 60) : ((0 : Int) ≤ a0) ∧ (a0 ≤ 59) := by omega
theorem oz358 {a0 a1 a2 : Int} (h0 : a0 < a1) (h1 : a1 ≤ 60) (h2 : a2 = 1) : a0 + a2 ≤ 2147483647 := by omega
theorem oz359 {a0 a1 a2 : Int} (h0 : a0 = a1 + a2) (h1 : a2 = 1) : (60 - a0) < (60 - a1) := by omega
theorem oz360 {a0 a1 : Int} (h0 : a0 < a1) (h1 : a1 ≤ 60) : (1 : Int) ≤ (60 - a0) := by omega
theorem oz361 {a0 a1 : Int} (h0 : a0 = (a1 % 10)) (h1 : (a1 % 10) ≤ 5) : ((0 : Int) ≤ a0) ∧ (a0 ≤ 5) := by omega
theorem oz362 {a0 a1 a2 : Int} (h0 : a0 ≠ a1) (h1 : a0 ≠ a2) (h2 : a0 ≤ a1) (h3 : a2 ≤ a0) (h4 : a1 = 1) (h5 : a2 = 0) : False := by omega
theorem oz363 {a0 a1 : Int} (h0 : a0 = a1) (h1 : a0 ≠ a1) (h2 : a0 ≤ a1) (h3 : a1 = 1) : False := by omega
theorem oz364 {a0 a1 : Int} (h0 : a0 < a1) (h1 : a1 ≤ 8) : a0 ≤ 7 := by omega
theorem oz365 {a0 a1 : Int} (h0 : a0 < a1) (h1 : a1 ≤ 8) : a0 ≤ 8 := by omega
theorem oz366 {a0 a1 a2 : Int} (h0 : a0 < a1) (h1 : a2 ≤ a0) (h2 : a1 ≤ 21) (h3 : a2 = 0) : ((0 : Int) ≤ a0) ∧ (a0 ≤ 20) := by omega
theorem oz367 {a0 a1 a2 : Int} (h0 : a0 = a1) (h1 : a0 = a2) (h2 : a1 = 1) (h3 : a2 = 0) : False := by omega
theorem oz368 {a0 a1 : Int} (h0 : ((-1) : Int) ≤ a0) (h1 : a1 = (-1)) : (-2147483648 : Int) ≤ a0 + a1 := by omega
theorem oz369 {a0 a1 : Int} (h0 : a0 ≤ 2147483647) (h1 : a1 = (-1)) : a0 + a1 ≤ 2147483647 := by omega
theorem oz370 {a0 a1 a2 a3 : Int} (h0 : a0 ≤ a1) (h1 : a2 = a1 + a3) (h2 : a0 = 0) (h3 : a3 = (-1)) : ((-1) : Int) ≤ a2 := by omega
theorem oz371 {a0 a1 a2 : Int} (h0 : a0 = a1 + a2) (h1 : a2 = (-1)) : (a0 + 1) < (a1 + 1) := by omega
theorem oz372 {a0 a1 : Int} (h0 : a0 ≤ a1) (h1 : a0 = 0) : (1 : Int) ≤ (a1 + 1) := by omega
theorem oz373 {a0 : Int} (h0 : a0 = 9) : ((-1) : Int) ≤ a0 := by omega
theorem oz374 {a0 a1 a2 : Int} (h0 : a0 ≤ a1) (h1 : a2 ≤ 8) (h2 : a1 < a2) (h3 : a0 = 0) : ((0 : Int) ≤ a1) ∧ (a1 ≤ 7) := by omega
theorem oz375 {a0 a1 : Int} (h0 : a0 < a1) (h1 : a1 = a0) (h2 : a0 = 1) : False := by omega
theorem oz376 {a0 a1 a2 : Int} (h0 : a0 < a1) (h1 : a1 = a2) (h2 : a0 = 1) (h3 : a2 = 0) : False := by omega
theorem oz377 {a0 a1 : Int} (h0 : a0 = a1) (h1 : a0 ≠ a1) (h2 : a1 ≤ a0) (h3 : a1 = 0) : False := by omega
theorem oz378 {a0 : Int} (h0 : (1 : Int) ≤ a0) : (1 : Int) ≤ a0 := by omega
theorem oz379 {a0 : Int} (h0 : a0 ≤ 5) : a0 ≤ 5 := by omega
theorem oz380 {a0 a1 : Int} (h0 : a0 < a1) (h1 : a1 = 6) : a0 ≤ 5 := by omega
theorem oz381 {a0 a1 a2 : Int} (h0 : a0 < a1) (h1 : a1 = 6) (h2 : a2 = 1) : a0 + a2 ≤ 2147483647 := by omega
theorem oz382 {a0 a1 a2 : Int} (h0 : a0 = a1 + a2) (h1 : a2 = 1) : (6 - a0) < (6 - a1) := by omega
theorem oz383 {a0 a1 : Int} (h0 : a0 < a1) (h1 : a1 = 6) : (1 : Int) ≤ (6 - a0) := by omega
theorem oz384 {a0 a1 : Int} (h0 : a0 < a1) (h1 : a1 = 6) : a0 ≤ 8 := by omega
theorem oz385 {a0 a1 a2 : Int} (h0 : a0 = a1) (h1 : a0 = a2) (h2 : a1 = 0) (h3 : a2 = 1) : False := by omega
theorem oz386 {a0 a1 a2 : Int} (h0 : a0 = a1) (h1 : a2 < a0) (h2 : a1 = 0) (h3 : a2 = 1) : False := by omega
theorem oz387 {a0 a1 a2 : Int} (h0 : a0 ≤ a1) (h1 : a2 = (a1 / 100)) (h2 : a0 = 0) : (0 : Int) ≤ a2 := by omega
theorem oz388 {a0 a1 : Int} (h0 : a0 = a1) (h1 : a0 ≠ a1) (h2 : a1 = (-1)) : False := by omega
theorem oz389 {a0 a1 a2 a3 : Int} (h0 : a0 < a1) (h1 : a1 ≤ a2) (h2 : a2 = 30) (h3 : a3 = 1) : a0 + a3 ≤ 2147483647 := by omega
theorem oz390 {a0 a1 a2 : Int} (h0 : a0 < a1) (h1 : a1 ≤ a2) (h2 : a2 = 30) : (1 : Int) ≤ (31 - a0) := by omega
theorem oz391 {a0 a1 a2 : Int} (h0 : a0 < a1) (h1 : a2 = a1) (h2 : a0 = 0) : a2 ≠ 0 := by omega
theorem oz392 {a0 a1 a2 : Int} (h0 : a0 < a1) (h1 : a2 = a1) (h2 : a0 = 0) : (1 : Int) ≤ a2 := by omega
theorem oz393 {a0 a1 a2 a3 : Int} (h0 : a0 < a1) (h1 : a1 = (a2 % 100)) (h2 : a3 = 1) : a0 + a3 ≤ 2147483647 := by omega
theorem oz394 {a0 a1 a2 : Int} (h0 : a0 = a1 + a2) (h1 : a2 = 1) : (100 - a0) < (100 - a1) := by omega
theorem oz395 {a0 a1 a2 : Int} (h0 : a0 < a1) (h1 : a1 = (a2 % 100)) : (1 : Int) ≤ (100 - a0) := by omega
theorem oz396 {a0 a1 a2 a3 : Int} (h0 : a0 < a1) (h1 : a2 = a1) (h2 : a3 = a2) (h3 : a0 = 0) : a3 ≠ 0 := by omega
theorem oz397 {a0 a1 a2 a3 : Int} (h0 : a0 < a1) (h1 : a2 = a1) (h2 : a3 = a2) (h3 : a0 = 0) : (1 : Int) ≤ a3 := by omega
theorem oz398 {a0 a1 a2 a3 a4 : Int} (h0 : a0 ≤ a1) (h1 : a0 = a2) (h2 : a2 = a3) (h3 : (0 : Int) ≤ a4) (h4 : a4 < a3) (h5 : a1 = 0) : False := by omega
theorem oz399 {a0 : Int} (h0 : a0 = 0) : a0 < 5 := by omega
theorem oz400 {a0 : Int} (h0 : a0 = 1) : a0 < 5 := by omega
theorem oz401 {a0 : Int} (h0 : a0 = 2) : (0 : Int) ≤ a0 := by omega
theorem oz402 {a0 : Int} (h0 : a0 = 2) : a0 < 5 := by omega
theorem oz403 {a0 : Int} (h0 : a0 = 3) : (0 : Int) ≤ a0 := by omega
theorem oz404 {a0 : Int} (h0 : a0 = 3) : a0 < 5 := by omega
theorem oz405 {a0 a1 : Int} (h0 : a0 ≤ a1) : (-2147483648 : Int) ≤ a1 - a0 := by omega
theorem oz406 {a0 a1 a2 : Int} (h0 : a0 ≤ 2147483647) (h1 : a1 ≤ a2) (h2 : a1 = 1) : a0 - a2 ≤ 2147483647 := by omega
theorem oz407 {a0 a1 a2 : Int} (h0 : a0 ≤ 8) (h1 : a1 < a0) : a1 = 18 → (0 : Int) ≤ a2 ∧ a2 ≤ 5 := by omega
theorem oz408 {a0 a1 a2 : Int} (h0 : a0 ≤ 8) (h1 : a1 < a0) : 19 ≤ a1 → a1 ≤ 24 → (0 : Int) ≤ a2 ∧ a2 ≤ 7 := by omega
theorem oz409 {a0 : Int} (h0 : a0 = 4) : (0 : Int) ≤ a0 := by omega
theorem oz410 {a0 : Int} (h0 : a0 = 4) : a0 < 5 := by omega
theorem oz411 {a0 a1 : Int} (h0 : a0 ≠ a1) : a0 ≠ a1 := by omega
theorem oz412 {a0 a1 : Int} (h0 : a0 ≤ a1) (h1 : a1 = 4) : a0 < 5 := by omega
theorem oz413 {a0 : Int} (h0 : a0 = 1) : a0 ≤ 1 := by omega
theorem oz414 {a0 : Int} (h0 : a0 ≤ 8) : a0 ≤ 8 := by omega
theorem oz415 {a0 a1 : Int} (h0 : a0 < a1) (h1 : a1 = 5) : a0 < 5 := by omega
theorem oz416 {a0 a1 a2 : Int} (h0 : a0 < a1) (h1 : a1 = 5) (h2 : a2 = 1) : a0 + a2 ≤ 2147483647 := by omega
theorem oz417 {a0 a1 : Int} (h0 : a0 < a1) (h1 : a1 = 5) : (1 : Int) ≤ (5 - a0) := by omega
theorem oz418 {a0 a1 : Int} (h0 : a0 ≤ 8) (h1 : a1 = 10) : a1 + a0 ≤ 2147483647 := by omega
theorem oz419 {a0 a1 a2 a3 a4 : Int} (h0 : a0 < a1) (h1 : a2 ≤ 8) (h2 : a1 = a3 + a2) (h3 : a3 = 10) : a0 = 18 → (0 : Int) ≤ a4 ∧ a4 ≤ 5 := by omega
theorem oz420 {a0 a1 a2 a3 a4 : Int} (h0 : a0 < a1) (h1 : a2 ≤ 8) (h2 : a1 = a3 + a2) (h3 : a3 = 10) : 19 ≤ a0 → a0 ≤ 24 → (0 : Int) ≤ a4 ∧ a4 ≤ 7 := by omega
theorem oz421 {a0 a1 : Int} (h0 : a0 ≤ a1) (h1 : a0 = 18) : (0 : Int) ≤ a1 := by omega
theorem oz422 {a0 a1 a2 : Int} (h0 : a0 ≤ a1) (h1 : (a1 = 18 → (0 : Int) ≤ a2 ∧ a2 ≤ 5)) (h2 : a0 = 18) : a1 = 18 → (0 : Int) ≤ a2 ∧ a2 ≤ 5 := by omega
theorem oz423 {a0 a1 : Int} (h0 : (19 ≤ a0 → a0 ≤ 24 → (0 : Int) ≤ a1 ∧ a1 ≤ 7)) : 19 ≤ a0 → a0 ≤ 24 → (0 : Int) ≤ a1 ∧ a1 ≤ 7 := by omega
theorem oz424 {a0 a1 a2 : Int} (h0 : a0 ≤ a1) (h1 : a0 = 18) (h2 : a2 = 1) : (-2147483648 : Int) ≤ a1 + a2 := by omega
theorem oz425 {a0 a1 a2 a3 : Int} (h0 : a0 ≤ a1) (h1 : a2 = a1 + a3) (h2 : a0 = 18) (h3 : a3 = 1) : (0 : Int) ≤ a2 := by omega
theorem oz426 {a0 a1 a2 a3 a4 : Int} (h0 : a0 ≤ a1) (h1 : (0 : Int) ≤ a2) (h2 : a0 = a3 + a2) (h3 : a3 = 10) (h4 : a4 = 1) : (-2147483648 : Int) ≤ a1 + a4 := by omega
theorem oz427 {a0 a1 a2 a3 a4 a5 : Int} (h0 : a0 ≤ a1) (h1 : (0 : Int) ≤ a2) (h2 : a0 = a3 + a2) (h3 : a4 = a1 + a5) (h4 : a3 = 10) (h5 : a5 = 1) : (0 : Int) ≤ a4 := by omega
theorem oz428 {a0 a1 a2 : Int} (h0 : a0 < a1) (h1 : a1 = 8) : a0 = 18 → (0 : Int) ≤ a2 ∧ a2 ≤ 5 := by omega
theorem oz429 {a0 a1 a2 : Int} (h0 : a0 < a1) (h1 : a1 = 8) : 19 ≤ a0 → a0 ≤ 24 → (0 : Int) ≤ a2 ∧ a2 ≤ 7 := by omega
theorem oz430 {a0 a1 a2 a3 : Int} (h0 : a0 < a1) (h1 : a2 ≤ a0) (h2 : a2 = a3 + a1) (h3 : a3 = 10) : False := by omega
theorem oz431 {a0 a1 : Int} (h0 : a0 ≠ a1) (h1 : a0 ≤ 50) (h2 : a1 = 50) : a0 < 50 := by omega
theorem oz432 {a0 a1 : Int} (h0 : a0 ≤ a1) (h1 : a1 = 7) : a0 ≤ 7 := by omega
theorem oz433 {a0 a1 : Int} (h0 : a0 ≤ 50) (h1 : a1 = 1) : a0 + a1 ≤ 2147483647 := by omega
theorem oz434 {a0 a1 a2 a3 : Int} (h0 : a0 ≠ a1) (h1 : a0 ≤ 50) (h2 : a2 = a0 + a3) (h3 : a1 = 50) (h4 : a3 = 1) : a2 ≤ 50 := by omega
theorem oz435 {a0 a1 a2 a3 : Int} (h0 : (0 : Int) ≤ a0) (h1 : a1 = a2 ∨ a1 = a0) (h2 : a2 = 24) (h3 : a3 = 1) : (-2147483648 : Int) ≤ a1 - a3 := by omega
theorem oz436 {a0 a1 a2 : Int} (h0 : a0 ≤ a1) (h1 : a1 = 24) (h2 : a2 = 1) : a0 - a2 ≤ 2147483647 := by omega
theorem oz437 {a0 a1 a2 a3 a4 : Int} (h0 : a0 ≤ a1) (h1 : a2 = a0 - a3) (h2 : a4 ≤ a2) (h3 : a1 = 24) (h4 : a3 = 1) : a4 < 24 := by omega
theorem oz438 {a0 a1 : Int} (h0 : a0 ≤ 50) (h1 : a1 = 1) : a0 - a1 ≤ 2147483647 := by omega
theorem oz439 {a0 a1 a2 : Int} (h0 : a0 ≤ a1) (h1 : a0 = (-1)) (h2 : a2 = 10) : (-2147483648 : Int) ≤ a2 + a1 := by omega
theorem oz440 {a0 a1 a2 a3 a4 : Int} (h0 : a0 ≤ 50) (h1 : a1 = a0 - a2) (h2 : a3 ≤ a1) (h3 : a2 = 1) (h4 : a4 = 10) : a4 + a3 ≤ 2147483647 := by omega
theorem oz441 {a0 a1 a2 a3 : Int} (h0 : a0 = a1 + a2) (h1 : a3 ≤ a2) (h2 : a1 = 10) (h3 : a3 = (-1)) : (-1 : Int) ≤ a0 := by omega
theorem oz442 {a0 a1 a2 a3 a4 a5 : Int} (h0 : a0 ≤ 50) (h1 : a1 = a0 - a2) (h2 : a3 = a4 + a5) (h3 : a5 ≤ a1) (h4 : a2 = 1) (h5 : a4 = 10) : a3 ≤ 59 := by omega
theorem oz443 {a0 : Int} (h0 : a0 = 0) : a0 ≤ 60 := by omega
theorem oz444 {a0 : Int} (h0 : a0 = (-1)) : (-1 : Int) ≤ a0 := by omega
theorem oz445 {a0 : Int} (h0 : a0 = (-1)) : a0 ≤ 59 := by omega
theorem oz446 {a0 a1 : Int} (h0 : a0 ≤ a1) (h1 : a0 = 0) : (-1 : Int) ≤ a1 := by omega
theorem oz447 {a0 a1 : Int} (h0 : a0 ≤ a1) (h1 : a1 = 4) : a0 ≤ 59 := by omega
theorem oz448 {a0 a1 : Int} (h0 : a0 ≤ a1) (h1 : a1 = 60) : a0 ≤ 60 := by omega
theorem oz449 {a0 a1 a2 : Int} (h0 : (0 : Int) ≤ a0) (h1 : a1 = 60 * a2) (h2 : (0 : Int) ≤ a2) : (-2147483648 : Int) ≤ a1 + a0 := by omega
theorem oz450 {a0 a1 a2 a3 : Int} (h0 : a0 < a1) (h1 : a2 = 60 * a3) (h2 : a3 ≤ 5) (h3 : a1 = 60) : a2 + a0 ≤ 2147483647 := by omega
theorem oz451 {a0 a1 a2 a3 : Int} (h0 : (0 : Int) ≤ a0) (h1 : a1 = 60 * a2) (h2 : a3 = a1 + a0) (h3 : (0 : Int) ≤ a2) : (0 : Int) ≤ a3 := by omega
theorem oz452 {a0 a1 a2 a3 a4 : Int} (h0 : a0 < a1) (h1 : a2 = 60 * a3) (h2 : a4 = a2 + a0) (h3 : a3 ≤ 5) (h4 : a1 = 60) : a4 < 360 := by omega
theorem oz453 {a0 a1 a2 : Int} (h0 : a0 < a1) (h1 : a1 = 60) (h2 : a2 = 1) : a0 + a2 ≤ 2147483647 := by omega
theorem oz454 {a0 a1 : Int} (h0 : a0 < a1) (h1 : a1 = 60) : (1 : Int) ≤ (60 - a0) := by omega
theorem oz455 {a0 a1 a2 : Int} (h0 : a0 ≤ a1) (h1 : a1 ≤ a2) (h2 : a0 = 0) (h3 : a2 = 4) : ((0 : Int) ≤ a1) ∧ (a1 ≤ 4) := by omega
theorem oz456 {a0 a1 a2 : Int} (h0 : ¬ ((a0 ≤ a1) ∧ (a1 ≤ a2))) (h1 : a0 = 0) (h2 : a2 = 4) : ¬ (((0 : Int) ≤ a1) ∧ (a1 ≤ 4)) := by omega
theorem oz457 {a0 a1 : Int} (h0 : a0 ≤ 60) (h1 : a1 = 1) : a0 - a1 ≤ 2147483647 := by omega
theorem oz458 {a0 a1 a2 a3 : Int} (h0 : a0 = 60 * a1) (h1 : a2 ≤ a3) (h2 : (0 : Int) ≤ a1) (h3 : a2 = 0) : (-2147483648 : Int) ≤ a0 + a3 := by omega
theorem oz459 {a0 a1 a2 a3 a4 a5 : Int} (h0 : a0 ≤ 60) (h1 : a1 = 60 * a2) (h2 : a3 = a0 - a4) (h3 : a5 ≤ a3) (h4 : a2 ≤ 5) (h5 : a4 = 1) : a1 + a5 ≤ 2147483647 := by omega
theorem oz460 {a0 : Int} (h0 : ¬ (a0 = 0)) (h1 : ¬ (a0 = 1)) (h2 : ¬ (a0 = 2)) (h3 : ¬ (a0 = 3)) : a0 < 0 ∨ 3 < a0 := by omega
theorem oz461 {a0 a1 a2 a3 a4 : Int} (h0 : a0 = 60 * a1) (h1 : a2 = a0 + a3) (h2 : a4 ≤ a3) (h3 : (0 : Int) ≤ a1) (h4 : a4 = 0) : (0 : Int) ≤ a2 := by omega
theorem oz462 {a0 a1 a2 a3 a4 a5 a6 : Int} (h0 : a0 ≤ 60) (h1 : a1 = 60 * a2) (h2 : a3 = a1 + a4) (h3 : a5 = a0 - a6) (h4 : a4 ≤ a5) (h5 : a2 ≤ 5) (h6 : a6 = 1) : a3 < 360 := by omega
theorem oz463 {a0 a1 a2 a3 : Int} (h0 : a0 = 60 * a1) (h1 : (0 : Int) ≤ a1) (h2 : a2 ≤ a3) (h3 : a2 = 0) : (-2147483648 : Int) ≤ a0 + a3 := by omega
theorem oz464 {a0 a1 a2 a3 a4 a5 : Int} (h0 : a0 ≤ 60) (h1 : a1 = 60 * a2) (h2 : a3 = a0 - a4) (h3 : a2 ≤ 5) (h4 : a5 ≤ a3) (h5 : a4 = 1) : a1 + a5 ≤ 2147483647 := by omega
theorem oz465 {a0 a1 a2 a3 a4 : Int} (h0 : a0 = 60 * a1) (h1 : a2 = a0 + a3) (h2 : (0 : Int) ≤ a1) (h3 : a4 ≤ a3) (h4 : a4 = 0) : (0 : Int) ≤ a2 := by omega
theorem oz466 {a0 a1 a2 a3 a4 a5 a6 : Int} (h0 : a0 ≤ 60) (h1 : a1 = 60 * a2) (h2 : a3 = a1 + a4) (h3 : a5 = a0 - a6) (h4 : a2 ≤ 5) (h5 : a4 ≤ a5) (h6 : a6 = 1) : a3 < 360 := by omega
theorem oz467 {a0 a1 a2 a3 a4 : Int} (h0 : a0 ≤ a1) (h1 : a0 ≤ a2) (h2 : a3 = a2) (h3 : a4 = a1) (h4 : a0 = 0) : (-9223372036854775808 : Int) ≤ a3 + a4 := by omega
theorem oz468 {a0 a1 a2 a3 : Int} (h0 : a0 ≤ 2147483647) (h1 : a1 ≤ 2147483647) (h2 : a2 = a0) (h3 : a3 = a1) : a2 + a3 ≤ 9223372036854775807 := by omega
theorem oz469 {a0 a1 a2 a3 a4 : Int} (h0 : a0 ≤ a1) (h1 : a0 ≤ a2) (h2 : a3 = a1) (h3 : a4 = a2) (h4 : a0 = 0) : (-9223372036854775808 : Int) ≤ a4 + a3 := by omega
theorem oz470 {a0 a1 a2 a3 : Int} (h0 : a0 ≤ 2147483647) (h1 : a1 ≤ 2147483647) (h2 : a2 = a0) (h3 : a3 = a1) : a3 + a2 ≤ 9223372036854775807 := by omega
theorem oz471 {a0 a1 a2 a3 : Int} (h0 : a0 ≤ a1) (h1 : a2 = 60 * a3) (h2 : (0 : Int) ≤ a3) (h3 : a0 = 0) : (-2147483648 : Int) ≤ a2 + a1 := by omega
theorem oz472 {a0 a1 a2 a3 a4 a5 a6 a7 a8 a9 a10 : Int} (h0 : a0 ≤ a1) (h1 : a2 ≤ a0) (h2 : a3 ≤ 60) (h3 : a4 = a1) (h4 : a5 = a6) (h5 : a7 = a5 + a4) (h6 : a8 = a3) (h7 : (0 < a2 ↔ a8 < a7)) (h8 : a9 = 60 * a10) (h9 : a10 ≤ 5) (h10 : a0 = 0) : a9 + a6 ≤ 2147483647 := by omega
theorem oz473 {a0 a1 a2 a3 a4 a5 : Int} (h0 : a0 ≤ a1) (h1 : (0 : Int) ≤ a2) (h2 : a3 = 60 * a4) (h3 : a5 = a3 + a1) (h4 : (0 : Int) ≤ a4) (h5 : a0 = 0) : (-2147483648 : Int) ≤ a5 + a2 := by omega
theorem oz474 {a0 a1 a2 a3 a4 a5 a6 a7 a8 a9 a10 a11 a12 : Int} (h0 : a0 ≤ a1) (h1 : a2 < a3) (h2 : a4 ≤ 60) (h3 : a5 = a3) (h4 : a6 = a7) (h5 : a8 = a6 + a5) (h6 : a9 = a4) (h7 : (0 < a0 ↔ a9 < a8)) (h8 : a10 = 60 * a11) (h9 : a12 = a10 + a7) (h10 : a11 ≤ 5) (h11 : a1 = 0) : a12 + a2 ≤ 2147483647 := by omega
theorem oz475 {a0 a1 a2 a3 a4 a5 a6 a7 a8 a9 a10 : Int} (h0 : a0 ≤ a1) (h1 : a2 ≤ a0) (h2 : a3 ≤ 60) (h3 : a4 = a5) (h4 : a6 = a1) (h5 : a7 = a4 + a6) (h6 : a8 = a3) (h7 : (0 < a2 ↔ a8 < a7)) (h8 : a9 = 60 * a10) (h9 : a10 ≤ 5) (h10 : a0 = 0) : a9 + a5 ≤ 2147483647 := by omega
theorem oz476 {a0 a1 a2 a3 a4 a5 a6 a7 a8 a9 a10 a11 a12 : Int} (h0 : a0 ≤ a1) (h1 : a2 < a3) (h2 : a4 ≤ 60) (h3 : a5 = a6) (h4 : a7 = a3) (h5 : a8 = a5 + a7) (h6 : a9 = a4) (h7 : (0 < a0 ↔ a9 < a8)) (h8 : a10 = 60 * a11) (h9 : a12 = a10 + a6) (h10 : a11 ≤ 5) (h11 : a1 = 0) : a12 + a2 ≤ 2147483647 := by omega
theorem oz477 {a0 a1 a2 a3 a4 a5 a6 : Int} (h0 : a0 ≤ a1) (h1 : (0 : Int) ≤ a2) (h2 : a3 = 60 * a4) (h3 : a5 = a3 + a1) (h4 : a6 = a5 + a2) (h5 : (0 : Int) ≤ a4) (h6 : a0 = 0) : (0 : Int) ≤ a6 := by omega
theorem oz478 {a0 a1 a2 a3 a4 a5 a6 a7 a8 a9 a10 a11 a12 a13 : Int} (h0 : a0 ≤ a1) (h1 : a2 < a3) (h2 : a4 ≤ 60) (h3 : a5 = a6) (h4 : a7 = a3) (h5 : a8 = a5 + a7) (h6 : a9 = a4) (h7 : (0 < a0 ↔ a9 < a8)) (h8 : a10 = 60 * a11) (h9 : a12 = a10 + a6) (h10 : a13 = a12 + a2) (h11 : a11 ≤ 5) (h12 : a1 = 0) : a13 < 360 := by omega
theorem oz479 {a0 a1 a2 a3 a4 a5 a6 a7 a8 a9 a10 a11 a12 a13 : Int} (h0 : a0 ≤ a1) (h1 : a2 < a3) (h2 : a4 ≤ 60) (h3 : a5 = a3) (h4 : a6 = a7) (h5 : a8 = a6 + a5) (h6 : a9 = a4) (h7 : (0 < a0 ↔ a9 < a8)) (h8 : a10 = 60 * a11) (h9 : a12 = a10 + a7) (h10 : a13 = a12 + a2) (h11 : a11 ≤ 5) (h12 : a1 = 0) : a13 < 360 := by omega
theorem oz480 {a0 a1 a2 : Int} (h0 : a0 ≤ 2147483647) (h1 : a1 < a0) (h2 : a2 = 1) : a1 + a2 ≤ 2147483647 := by omega
theorem oz481 {a0 a1 a2 a3 a4 a5 a6 a7 a8 a9 a10 a11 a12 a13 : Int} (h0 : a0 ≤ a1) (h1 : a2 ≤ a3) (h2 : a4 < a5) (h3 : a6 ≤ 60) (h4 : a7 = a3) (h5 : a8 = a5) (h6 : a9 = a7 + a8) (h7 : a10 = a6) (h8 : (0 < a0 ↔ a10 < a9)) (h9 : a11 = 60 * a12) (h10 : a13 = a11 + a2) (h11 : a12 ≤ 5) (h12 : a1 = 0) : a13 + a4 ≤ 2147483647 := by omega
theorem oz482 {a0 a1 a2 a3 a4 a5 a6 a7 a8 a9 a10 a11 : Int} (h0 : a0 ≤ a1) (h1 : a2 < a3) (h2 : (0 : Int) ≤ a2) (h3 : a4 ≤ 60) (h4 : a5 = a6) (h5 : a7 = a3) (h6 : a8 = a5 + a7) (h7 : a9 = a4) (h8 : (0 < a0 ↔ a9 < a8)) (h9 : a10 = 60 * a11) (h10 : a11 ≤ 5) (h11 : a1 = 0) : a10 + a6 ≤ 2147483647 := by omega
theorem oz483 {a0 a1 a2 a3 a4 a5 a6 a7 a8 a9 a10 a11 a12 a13 a14 : Int} (h0 : a0 ≤ a1) (h1 : a2 ≤ a3) (h2 : a4 < a5) (h3 : a6 ≤ 60) (h4 : a7 = a3) (h5 : a8 = a5) (h6 : a9 = a7 + a8) (h7 : a10 = a6) (h8 : (0 < a0 ↔ a10 < a9)) (h9 : a11 = 60 * a12) (h10 : a13 = a11 + a2) (h11 : a14 = a13 + a4) (h12 : a12 ≤ 5) (h13 : a1 = 0) : a14 < 360 := by omega
theorem oz484 {a0 a1 a2 : Int} (h0 : a0 ≤ a1) (h1 : a0 = 0) (h2 : a2 = 1) : (-2147483648 : Int) ≤ a1 - a2 := by omega
theorem oz485 {a0 a1 : Int} (h0 : a0 ≤ 2147483647) (h1 : a1 = 1) : a0 - a1 ≤ 2147483647 := by omega
theorem oz486 {a0 a1 a2 a3 a4 a5 a6 a7 a8 a9 a10 a11 : Int} (h0 : a0 ≤ a1) (h1 : a1 ≤ a2) (h2 : a2 ≤ (a3 - 1)) (h3 : a4 ≤ 60) (h4 : a5 = a3) (h5 : a6 = a7) (h6 : a8 = a6 + a5) (h7 : a9 = a4) (h8 : (0 < a0 ↔ a9 < a8)) (h9 : a10 = 60 * a11) (h10 : a11 ≤ 5) (h11 : a1 = 0) : a10 + a7 ≤ 2147483647 := by omega
theorem oz487 {a0 a1 a2 a3 a4 a5 : Int} (h0 : a0 ≤ a1) (h1 : a0 ≤ a2) (h2 : a3 = 60 * a4) (h3 : a5 = a3 + a1) (h4 : (0 : Int) ≤ a4) (h5 : a0 = 0) : (-2147483648 : Int) ≤ a5 + a2 := by omega
theorem oz488 {a0 a1 a2 a3 a4 a5 a6 a7 a8 a9 a10 a11 a12 : Int} (h0 : a0 ≤ a1) (h1 : a2 ≤ (a3 - 1)) (h2 : a4 ≤ 60) (h3 : a5 = a3) (h4 : a6 = a7) (h5 : a8 = a6 + a5) (h6 : a9 = a4) (h7 : (0 < a0 ↔ a9 < a8)) (h8 : a10 = 60 * a11) (h9 : a12 = a10 + a7) (h10 : a11 ≤ 5) (h11 : a1 = 0) : a12 + a2 ≤ 2147483647 := by omega
theorem oz489 {a0 a1 a2 a3 a4 a5 a6 a7 a8 a9 a10 a11 : Int} (h0 : a0 ≤ a1) (h1 : ((-1) : Int) ≤ a2) (h2 : a2 ≤ (a3 - 1)) (h3 : a4 ≤ 60) (h4 : a5 = a6) (h5 : a7 = a3) (h6 : a8 = a5 + a7) (h7 : a9 = a4) (h8 : (0 < a0 ↔ a9 < a8)) (h9 : a10 = 60 * a11) (h10 : a11 ≤ 5) (h11 : a1 = 0) : a10 + a6 ≤ 2147483647 := by omega
theorem oz490 {a0 a1 a2 a3 a4 a5 a6 a7 a8 a9 a10 a11 a12 : Int} (h0 : a0 ≤ a1) (h1 : a2 ≤ (a3 - 1)) (h2 : a4 ≤ 60) (h3 : a5 = a6) (h4 : a7 = a3) (h5 : a8 = a5 + a7) (h6 : a9 = a4) (h7 : (0 < a0 ↔ a9 < a8)) (h8 : a10 = 60 * a11) (h9 : a12 = a10 + a6) (h10 : a11 ≤ 5) (h11 : a1 = 0) : a12 + a2 ≤ 2147483647 := by omega
theorem oz491 {a0 a1 a2 a3 a4 a5 a6 : Int} (h0 : a0 ≤ a1) (h1 : a0 ≤ a2) (h2 : a3 = 60 * a4) (h3 : a5 = a3 + a1) (h4 : a6 = a5 + a2) (h5 : (0 : Int) ≤ a4) (h6 : a0 = 0) : (0 : Int) ≤ a6 := by omega
theorem oz492 {a0 a1 a2 a3 a4 a5 a6 a7 a8 a9 a10 a11 a12 a13 : Int} (h0 : a0 ≤ a1) (h1 : a2 ≤ (a3 - 1)) (h2 : a4 ≤ 60) (h3 : a5 = a6) (h4 : a7 = a3) (h5 : a8 = a5 + a7) (h6 : a9 = a4) (h7 : (0 < a0 ↔ a9 < a8)) (h8 : a10 = 60 * a11) (h9 : a12 = a10 + a6) (h10 : a13 = a12 + a2) (h11 : a11 ≤ 5) (h12 : a1 = 0) : a13 < 360 := by omega
theorem oz493 {a0 a1 a2 a3 a4 a5 a6 a7 : Int} (h0 : a0 ≤ a1) (h1 : a1 < a2) (h2 : a0 ≤ a3) (h3 : a4 = 60 * a5) (h4 : a6 = a4 + a2) (h5 : a7 = a6 + a3) (h6 : (0 : Int) ≤ a5) (h7 : a0 = 0) : (0 : Int) ≤ a7 := by omega
theorem oz494 {a0 a1 a2 a3 a4 a5 a6 a7 a8 a9 a10 a11 a12 a13 a14 : Int} (h0 : a0 ≤ a1) (h1 : a2 = a3) (h2 : a4 ≤ (a5 - 1)) (h3 : a6 ≤ 60) (h4 : a7 = a5) (h5 : a8 = a9) (h6 : a10 = a8 + a7) (h7 : a11 = a6) (h8 : (0 < a0 ↔ a11 < a10)) (h9 : a12 = 60 * a3) (h10 : a13 = a12 + a9) (h11 : a14 = a13 + a4) (h12 : a2 ≤ 5) (h13 : a1 = 0) : a14 < 360 := by omega
theorem oz495 {a0 a1 a2 : Int} (h0 : a0 ≤ 2147483647) (h1 : a1 ≤ (a0 - 1)) (h2 : a2 = (-1)) : a1 + a2 ≤ 2147483647 := by omega
theorem oz496 {a0 a1 a2 a3 : Int} (h0 : a0 ≤ (a1 - 1)) (h1 : a2 = a0 + a3) (h2 : a3 = (-1)) : a2 ≤ (a1 - 1) := by omega
theorem oz497 {a0 a1 a2 a3 : Int} (h0 : a0 ≤ a1) (h1 : a2 = a1 - a3) (h2 : a0 = 0) (h3 : a3 = 1) : ((-1) : Int) ≤ a2 := by omega
theorem oz498 {a0 a1 a2 : Int} (h0 : a0 = a1 - a2) (h1 : a2 = 1) : a0 ≤ (a1 - 1) := by omega
theorem oz499 {a0 a1 : Int} (h0 : (-1 : Int) ≤ a0) (h1 : a1 = 10) : (-2147483648 : Int) ≤ a0 - a1 := by omega
theorem oz500 {a0 a1 : Int} (h0 : a0 ≤ 59) (h1 : a1 = 10) : a0 - a1 ≤ 2147483647 := by omega
theorem oz501 {a0 a1 a2 a3 : Int} (h0 : a0 ≠ a1) (h1 : (-1 : Int) ≤ a0) (h2 : a0 ≤ 4 ∨ 10 ≤ a0) (h3 : a2 = a0 - a3) (h4 : ¬ (((0 : Int) ≤ a0) ∧ (a0 ≤ 4))) (h5 : a1 = (-1)) (h6 : a3 = 10) : (0 : Int) ≤ a2 := by omega
theorem oz502 {a0 a1 a2 : Int} (h0 : a0 ≤ 59) (h1 : a1 = a0 - a2) (h2 : a2 = 10) : a1 < 50 := by omega
theorem oz503 {a0 a1 : Int} (h0 : a0 = a1) (h1 : a0 ≠ a1) : False := by omega
theorem oz504 {a0 a1 a2 : Int} (h0 : a0 ≠ a1) (h1 : a0 ≤ a2) (h2 : a0 = a1) (h3 : a2 ≤ a1) (h4 : a2 = 0) : False := by omega
theorem oz505 {a0 a1 : Int} (h0 : a0 = 3) (h1 : a1 = 2) : ((0 : Int) ≤ a1) ∧ (a1 ≤ 4) ∧ ((a1 < a0) ∨ (a0 ≤ 0)) := by omega
theorem oz506 {a0 a1 : Int} (h0 : a0 = 4) (h1 : a1 = 1) : ((0 : Int) ≤ a1) ∧ (a1 ≤ 4) ∧ ((a1 < a0) ∨ (a0 ≤ 0)) := by omega
theorem oz507 {a0 a1 : Int} (h0 : a0 = 5) (h1 : a1 = 3) : ((0 : Int) ≤ a1) ∧ (a1 ≤ 4) ∧ ((a1 < a0) ∨ (a0 ≤ 0)) := by omega
theorem oz508 {a0 a1 : Int} (h0 : a0 = 6) (h1 : a1 = 0) : ((0 : Int) ≤ a1) ∧ (a1 ≤ 4) ∧ ((a1 < a0) ∨ (a0 ≤ 0)) := by omega
theorem oz509 {a0 a1 : Int} (h0 : a0 = 7) (h1 : a1 = 4) : ((0 : Int) ≤ a1) ∧ (a1 ≤ 4) ∧ ((a1 < a0) ∨ (a0 ≤ 0)) := by omega
theorem oz510 {a0 : Int} (h0 : ¬ (a0 = 3)) (h1 : ¬ (a0 = 4)) (h2 : ¬ (a0 = 5)) (h3 : ¬ (a0 = 6)) (h4 : ¬ (a0 = 7)) : a0 < 3 ∨ 7 < a0 := by omega
theorem oz511 {a0 a1 : Int} (h0 : a0 = 0) : ((0 : Int) ≤ a0) ∧ (a0 ≤ 4) ∧ ((a0 < a1) ∨ (a1 ≤ 0)) := by omega
theorem oz512 {a0 : Int} (h0 : (0 : Int) ≤ a0) (h1 : a0 ≤ 4) : ((0 : Int) ≤ a0) ∧ (a0 ≤ 7) := by omega
theorem oz513 {a0 a1 a2 : Int} (h0 : a0 < a1) (h1 : (a2 < a1) ∨ (a1 ≤ 0)) (h2 : a0 = 0) : a2 < a1 := by omega
theorem oz514 {a0 a1 : Int} (h0 : a0 < a1) (h1 : a0 = 0) : (1 : Int) ≤ a1 := by omega
theorem oz515 {a0 : Int} (h0 : ¬ (a0 = 0)) (h1 : ¬ (a0 = 1)) (h2 : ¬ (a0 = 2)) (h3 : ¬ (a0 = 3)) (h4 : ¬ (a0 = 4)) (h5 : ¬ (a0 = 5)) : a0 < 0 ∨ 5 < a0 := by omega
theorem oz516 {a0 a1 a2 : Int} (h0 : a0 < a1) (h1 : a1 = 0) : ¬ (((0 : Int) ≤ a0) ∧ (a0 < a2)) := by omega
theorem oz517 {a0 a1 : Int} (h0 : a0 ≤ a1) : ¬ (((0 : Int) ≤ a1) ∧ (a1 < a0)) := by omega
theorem oz518 {a0 a1 a2 : Int} (h0 : a0 < a1) (h1 : a2 ≤ a0) (h2 : a1 ≤ 8) (h3 : a2 = 8) : False := by omega
theorem oz519 {a0 a1 a2 : Int} (h0 : a0 ≤ a1) (h1 : a1 < a2) (h2 : a0 = 0) : ((0 : Int) ≤ a1) ∧ (a1 < a2) := by omega
theorem oz520 {a0 a1 : Int} (h0 : (0 : Int) ≤ a0) (h1 : a0 < a1) : ((0 : Int) ≤ a0) ∧ (a0 < a1) := by omega
theorem oz521 {a0 a1 : Int} (h0 : ¬ (((0 : Int) ≤ a0) ∧ (a0 < a1))) : ¬ (((0 : Int) ≤ a0) ∧ (a0 < a1)) := by omega
theorem oz522 {a0 a1 a2 a3 : Int} (h0 : a0 < a1) (h1 : a1 = 0) : ¬ ((((0 : Int) ≤ a0) ∧ (a0 ≤ 3) ∧ ((0 : Int) ≤ a2) ∧ (a2 < a3)) ∨ (((4 : Int) ≤ a0) ∧ (a0 ≤ 6) ∧ (a2 = 0))) := by omega
theorem oz523 {a0 a1 a2 : Int} (h0 : a0 < a1) (h1 : a2 ≤ a0) (h2 : a1 = 0) (h3 : a2 = 4) : False := by omega
theorem oz524 {a0 a1 : Int} (h0 : a0 ≤ a1) (h1 : a1 < a0) (h2 : a0 = 4) : False := by omega
theorem oz525 {a0 a1 a2 a3 : Int} (h0 : a0 < a1) (h1 : a0 = 6) : ¬ ((((0 : Int) ≤ a1) ∧ (a1 ≤ 3) ∧ ((0 : Int) ≤ a2) ∧ (a2 < a3)) ∨ (((4 : Int) ≤ a1) ∧ (a1 ≤ 6) ∧ (a2 = 0))) := by omega
theorem oz526 {a0 a1 a2 a3 a4 : Int} (h0 : a0 < a1) (h1 : a2 ≤ a0) (h2 : (0 : Int) ≤ a3) (h3 : a3 < a4) (h4 : a1 = 4) (h5 : a2 = 0) : (((0 : Int) ≤ a0) ∧ (a0 ≤ 3) ∧ ((0 : Int) ≤ a3) ∧ (a3 < a4)) ∨ (((4 : Int) ≤ a0) ∧ (a0 ≤ 6) ∧ (a3 = 0)) := by omega
theorem oz527 {a0 a1 a2 a3 : Int} (h0 : a0 < a1) (h1 : ¬ (((0 : Int) ≤ a2) ∧ (a2 < a3))) (h2 : a1 = 4) : ¬ ((((0 : Int) ≤ a0) ∧ (a0 ≤ 3) ∧ ((0 : Int) ≤ a2) ∧ (a2 < a3)) ∨ (((4 : Int) ≤ a0) ∧ (a0 ≤ 6) ∧ (a2 = 0))) := by omega
theorem oz528 {a0 a1 : Int} (h0 : a0 < a1) (h1 : a1 ≤ a0) (h2 : a1 = 4) : False := by omega
theorem oz529 {a0 a1 : Int} (h0 : a0 ≤ a1) (h1 : a1 = 6) : a0 < 7 := by omega
theorem oz530 {a0 a1 a2 : Int} (h0 : a0 ≤ a1) (h1 : a1 ≤ a2) (h2 : a0 = 0) (h3 : a2 = 6) : ((0 : Int) ≤ a1) ∧ (a1 ≤ 6) := by omega
theorem oz531 {a0 a1 : Int} (h0 : a0 < a1) (h1 : a1 = 8) : a0 < 8 := by omega
theorem oz532 {a0 a1 a2 a3 : Int} (h0 : a0 < a1) (h1 : a2 = a0 + a3) (h2 : a1 = 8) (h3 : a3 = 1) : a2 ≤ 8 := by omega
theorem oz533 {a0 a1 a2 : Int} (h0 : (0 : Int) ≤ a0) (h1 : a1 = a0 + a2) (h2 : a2 = 1) : (-2147483648 : Int) ≤ a1 - a2 := by omega
theorem oz534 {a0 a1 a2 : Int} (h0 : a0 ≤ 8) (h1 : a1 = a0 + a2) (h2 : a2 = 1) : a1 - a2 ≤ 2147483647 := by omega
theorem oz535 {a0 : Int} (h0 : (0 : Int) ≤ a0) (h1 : a0 ≤ 5) : (0 : Int) ≤ a0 ∧ a0 < 6 := by omega
theorem oz536 {a0 a1 a2 a3 : Int} (h0 : a0 ≠ a1) (h1 : a0 ≤ 2) (h2 : a1 = 2) : ¬ ((a0 = 2) ∧ (a2 = a3)) := by omega
theorem oz537 {a0 a1 a2 : Int} (h0 : a0 ≠ a1) : ¬ ((a2 = 2) ∧ (a0 = a1)) := by omega
theorem oz538 {a0 a1 a2 a3 : Int} (h0 : a0 = a1) (h1 : a2 = a3) (h2 : a0 ≤ 2) (h3 : a1 = 2) : (a0 = 2) ∧ (a2 = a3) := by omega
theorem oz539 {a0 : Int} (h0 : (0 : Int) ≤ a0) : (-2147483648 : Int) ≤ 3 * a0 := by omega
theorem oz540 {a0 a1 a2 : Int} (h0 : a0 < a1) (h1 : a1 ≤ a2) (h2 : a2 = 8) : 3 * a0 ≤ 2147483647 := by omega
theorem oz541 {a0 a1 a2 a3 : Int} (h0 : (0 : Int) ≤ a0) (h1 : a1 = 3 * a0) (h2 : a2 ≤ a3) (h3 : a2 = 0) : (-2147483648 : Int) ≤ a3 + a1 := by omega
theorem oz542 {a0 a1 a2 a3 a4 a5 : Int} (h0 : a0 < a1) (h1 : a2 = 3 * a0) (h2 : a3 ≤ a4) (h3 : a1 ≤ a5) (h4 : a4 = 60) (h5 : a5 = 8) : a3 + a2 ≤ 2147483647 := by omega
theorem oz543 {a0 a1 a2 : Int} (h0 : a0 ≤ a1) (h1 : a0 = 0) (h2 : a2 = 2) : (-2147483648 : Int) ≤ a1 + a2 := by omega
theorem oz544 {a0 a1 : Int} (h0 : a0 ≤ 1000) (h1 : a1 = 2) : a0 + a1 ≤ 2147483647 := by omega
theorem oz545 {a0 a1 a2 a3 : Int} (h0 : a0 < a1) (h1 : a1 ≤ 60) (h2 : a0 = a2 + a3) (h3 : a3 = 2) : a2 < 60 := by omega
theorem oz546 {a0 a1 a2 : Int} (h0 : a0 ≤ a1) (h1 : a0 = 0) (h2 : a2 = 1) : (-2147483648 : Int) ≤ a1 + a2 := by omega
theorem oz547 {a0 a1 : Int} (h0 : a0 ≤ 1000) (h1 : a1 = 1) : a0 + a1 ≤ 2147483647 := by omega
theorem oz548 {a0 a1 a2 a3 : Int} (h0 : a0 ≤ a1) (h1 : a2 = a1 + a3) (h2 : a0 = 0) (h3 : a3 = 1) : (0 : Int) ≤ a2 := by omega
theorem oz549 {a0 a1 a2 a3 a4 a5 : Int} (h0 : a0 < a1) (h1 : a1 ≤ 60) (h2 : a0 = a2 + a3) (h3 : a4 = a2 + a5) (h4 : a3 = 2) (h5 : a5 = 1) : a4 < 60 := by omega
theorem oz550 {a0 a1 a2 a3 : Int} (h0 : a0 ≤ a1) (h1 : a2 = a1 + a3) (h2 : a0 = 0) (h3 : a3 = 2) : (0 : Int) ≤ a2 := by omega
theorem oz551 {a0 a1 : Int} (h0 : a0 < a1) (h1 : a1 ≤ 60) : a0 < 60 := by omega
theorem oz552 {a0 a1 a2 a3 a4 a5 a6 : Int} (h0 : a0 < a1) (h1 : a2 = 3 * a0) (h2 : a3 = a4 + a2) (h3 : a4 ≤ a5) (h4 : a1 ≤ a6) (h5 : a5 = 60) (h6 : a6 = 8) : a3 ≤ 1000 := by omega
theorem oz553 {a0 a1 a2 a3 a4 a5 : Int} (h0 : a0 < a1) (h1 : a2 = 3 * a0) (h2 : a1 ≤ a3) (h3 : a4 ≤ a5) (h4 : a3 = 8) (h5 : a5 = 60) : a4 + a2 ≤ 2147483647 := by omega
theorem oz554 {a0 a1 a2 a3 a4 a5 a6 : Int} (h0 : a0 < a1) (h1 : a2 = 3 * a0) (h2 : a3 = a4 + a2) (h3 : a1 ≤ a5) (h4 : a4 ≤ a6) (h5 : a5 = 8) (h6 : a6 = 60) : a3 ≤ 1000 := by omega
theorem oz555 {a0 : Int} (h0 : ¬ (a0 = 5)) (h1 : ¬ (a0 = 1)) (h2 : ¬ (a0 = 2)) (h3 : ¬ (a0 = 0)) (h4 : ¬ (a0 = 3)) (h5 : ¬ (a0 = 4)) (h6 : (0 : Int) ≤ a0) (h7 : a0 ≤ 5) : False := by omega
theorem oz556 {a0 : Int} (h0 : ¬ (a0 = 4)) (h1 : ¬ (a0 = 5)) (h2 : ¬ (a0 = 6)) : a0 < 4 ∨ 6 < a0 := by omega
theorem oz557 {a0 : Int} (h0 : ¬ (a0 = 0)) (h1 : ¬ (a0 = 1)) (h2 : ¬ (a0 = 2)) : a0 < 0 ∨ 2 < a0 := by omega
theorem oz558 {a0 a1 : Int} (h0 : a0 ≤ 8) (h1 : a1 < a0) : a1 < 8 := by omega
theorem oz559 {a0 a1 : Int} (h0 : a0 < a1) (h1 : a1 = 40) : a0 < 40 := by omega
theorem oz560 {a0 a1 : Int} (h0 : a0 ≤ 40) (h1 : a1 = 1) : a0 + a1 ≤ 2147483647 := by omega
theorem oz561 {a0 a1 a2 a3 : Int} (h0 : a0 < a1) (h1 : a2 = a0 + a3) (h2 : a1 = 40) (h3 : a3 = 1) : a2 ≤ 40 := by omega
theorem oz562 {a0 : Int} (h0 : a0 = 39) : (0 : Int) ≤ a0 := by omega
theorem oz563 {a0 : Int} (h0 : a0 = 39) : a0 ≤ 40 := by omega
theorem oz564 {a0 a1 : Int} (h0 : a0 = 1) (h1 : a1 = 39) : a0 + a1 ≤ 40 := by omega
theorem oz565 {a0 a1 : Int} (h0 : a0 = 0) (h1 : a1 = 39) : a0 + a1 ≤ 40 := by omega
theorem oz566 {a0 : Int} (h0 : a0 = 39) : a0 = 39 := by omega
theorem oz567 {a0 : Int} (h0 : a0 = 39) : a0 < 40 := by omega
theorem oz568 {a0 a1 : Int} (h0 : a0 = 39) (h1 : a1 = 1) : (-2147483648 : Int) ≤ a0 + a1 := by omega
theorem oz569 {a0 a1 a2 : Int} (h0 : a0 = a1 + a2) (h1 : a1 = 39) (h2 : a2 = 1) : (0 : Int) ≤ a0 := by omega
theorem oz570 {a0 a1 a2 : Int} (h0 : a0 = a1 + a2) (h1 : a1 = 39) (h2 : a2 = 1) : a0 ≤ 40 := by omega
theorem oz571 {a0 a1 : Int} (h0 : a0 < a1) (h1 : a1 = 120) : a0 < 120 := by omega
theorem oz572 {a0 a1 a2 a3 : Int} (h0 : a0 < a1) (h1 : a2 = a0 + a3) (h2 : a1 = 120) (h3 : a3 = 1) : a2 ≤ 120 := by omega
theorem oz573 {a0 a1 : Int} (h0 : a0 < a1) (h1 : a1 ≤ 5) : a0 < 5 := by omega
theorem oz574 {a0 a1 : Int} (h0 : (0 : Int) ≤ a0) (h1 : a0 ≤ 5) (h2 : a1 = 0) : (a1 < 0) ∨ ((a1 = 0) ∧ ((0 : Int) ≤ a0) ∧ (a0 ≤ 5)) := by omega
theorem oz575 {a0 a1 : Int} (h0 : a0 = (-12)) : (a0 < 0) ∨ ((a0 = 0) ∧ ((0 : Int) ≤ a1) ∧ (a1 ≤ 5)) := by omega
theorem oz576 {a0 : Int} (h0 : a0 = 0) (h1 : ¬ (a0 = 0)) (h2 : (0 : Int) ≤ a0) : False := by omega
theorem oz577 {a0 a1 : Int} (h0 : a0 = (-11)) : (a0 < 0) ∨ ((a0 = 0) ∧ ((0 : Int) ≤ a1) ∧ (a1 ≤ 5)) := by omega
theorem oz578 {a0 : Int} (h0 : a0 = 1) (h1 : a0 ≤ 5) : (0 : Int) ≤ a0 ∧ a0 < 6 := by omega
theorem oz579 {a0 a1 : Int} (h0 : a0 = 1) (h1 : a0 ≤ 5) (h2 : a1 = 0) : (a1 < 0) ∨ ((a1 = 0) ∧ ((0 : Int) ≤ a0) ∧ (a0 ≤ 5)) := by omega
theorem oz580 {a0 : Int} (h0 : a0 = 1) (h1 : ¬ (a0 = 1)) : False := by omega
theorem oz581 {a0 : Int} (h0 : a0 = 2) (h1 : a0 ≤ 5) : (0 : Int) ≤ a0 ∧ a0 < 6 := by omega
theorem oz582 {a0 a1 : Int} (h0 : a0 = 2) (h1 : a0 ≤ 5) (h2 : a1 = 0) : (a1 < 0) ∨ ((a1 = 0) ∧ ((0 : Int) ≤ a0) ∧ (a0 ≤ 5)) := by omega
theorem oz583 {a0 : Int} (h0 : a0 = 2) (h1 : ¬ (a0 = 2)) : False := by omega
theorem oz584 {a0 : Int} (h0 : a0 = 3) (h1 : a0 ≤ 5) : (0 : Int) ≤ a0 ∧ a0 < 6 := by omega
theorem oz585 {a0 a1 : Int} (h0 : a0 = 3) (h1 : a0 ≤ 5) (h2 : a1 = 0) : (a1 < 0) ∨ ((a1 = 0) ∧ ((0 : Int) ≤ a0) ∧ (a0 ≤ 5)) := by omega
theorem oz586 {a0 : Int} (h0 : a0 = 3) (h1 : ¬ (a0 = 3)) : False := by omega
theorem oz587 {a0 : Int} (h0 : a0 = 4) (h1 : a0 ≤ 5) : (0 : Int) ≤ a0 ∧ a0 < 6 := by omega
theorem oz588 {a0 a1 : Int} (h0 : a0 = 4) (h1 : a0 ≤ 5) (h2 : a1 = 0) : (a1 < 0) ∨ ((a1 = 0) ∧ ((0 : Int) ≤ a0) ∧ (a0 ≤ 5)) := by omega
theorem oz589 {a0 : Int} (h0 : a0 = 4) (h1 : ¬ (a0 = 4)) : False := by omega
theorem oz590 {a0 : Int} (h0 : a0 = 5) (h1 : a0 ≤ 5) : (0 : Int) ≤ a0 ∧ a0 < 6 := by omega
theorem oz591 {a0 a1 : Int} (h0 : a0 = 5) (h1 : a0 ≤ 5) (h2 : a1 = 0) : (a1 < 0) ∨ ((a1 = 0) ∧ ((0 : Int) ≤ a0) ∧ (a0 ≤ 5)) := by omega
theorem oz592 {a0 : Int} (h0 : a0 = 5) (h1 : ¬ (a0 = 5)) (h2 : a0 ≤ 5) : False := by omega
theorem oz593 {a0 : Int} (h0 : ¬ (a0 = 1)) (h1 : ¬ (a0 = 2)) (h2 : ¬ (a0 = 0)) (h3 : ¬ (a0 = 3)) (h4 : ¬ (a0 = 4)) (h5 : ¬ (a0 = 5)) (h6 : (0 : Int) ≤ a0) (h7 : a0 ≤ 5) : False := by omega
theorem oz594 {a0 a1 : Int} (h0 : a0 = (-1)) : (a0 < 0) ∨ ((a0 = 0) ∧ ((0 : Int) ≤ a1) ∧ (a1 ≤ 5)) := by omega
theorem oz595 {a0 a1 a2 : Int} (h0 : a0 ≠ a1) (h1 : (a0 < 0) ∨ ((a0 = 0) ∧ ((0 : Int) ≤ a2) ∧ (a2 ≤ 5))) (h2 : a1 = 0) : (a0 < 0) ∨ (a0 = 0) := by omega
theorem oz596 {a0 a1 a2 : Int} (h0 : a0 = a1) (h1 : (a0 < 0) ∨ ((a0 = 0) ∧ ((0 : Int) ≤ a2) ∧ (a2 ≤ 5))) (h2 : a1 = 0) : (0 : Int) ≤ a2 ∧ a2 < 6 := by omega
theorem oz597 {a0 a1 : Int} (h0 : a0 < a1) (h1 : a1 = 20) : a0 < 60 := by omega
theorem oz598 {a0 a1 : Int} (h0 : a0 < a1) (h1 : a1 = 20) : a0 < 20 := by omega
theorem oz599 {a0 a1 a2 : Int} (h0 : a0 < a1) (h1 : a1 = 20) (h2 : a2 = 1) : a0 + a2 ≤ 2147483647 := by omega
theorem oz600 {a0 a1 : Int} (h0 : a0 = a1) (h1 : a1 = 0) : (a0 < 0) ∨ (a0 = 0) := by omega
theorem oz601 {a0 a1 a2 : Int} (h0 : a0 = a1) (h1 : ¬ (a2 = 3)) (h2 : ¬ (a2 = 4)) (h3 : ¬ (a2 = 5)) (h4 : ¬ (a2 = 0)) (h5 : ¬ (a2 = 1)) (h6 : ¬ (a2 = 2)) (h7 : (a0 < 0) ∨ ((a0 = 0) ∧ ((0 : Int) ≤ a2) ∧ (a2 ≤ 5))) (h8 : a1 = 0) : False := by omega
theorem oz602 {a0 a1 a2 a3 : Int} (h0 : a0 ≤ a1) (h1 : a2 = a3 ∨ a2 = a0) (h2 : a1 = 8) (h3 : a3 = 0) : a3 + a2 ≤ 8 := by omega
theorem oz603 {a0 : Int} (h0 : a0 = 5) : (0 : Int) ≤ a0 := by omega
theorem oz604 {a0 a1 : Int} (h0 : a0 = 0) (h1 : a1 = 5) : a0 + a1 ≤ 5 := by omega
theorem oz605 {a0 a1 : Int} (h0 : a0 = 0) (h1 : a1 = 8) : a0 + a1 ≤ 8 := by omega
theorem oz606 {a0 a1 : Int} (h0 : a0 < a1) (h1 : (0 : Int) ≤ a0) (h2 : a1 = 8) : (0 : Int) ≤ a0 ∧ a0 < 8 := by omega
theorem oz607 {a0 a1 : Int} (h0 : a0 < a1) (h1 : a0 = 1) (h2 : a1 = 8) : ((0 : Int) ≤ a0) ∧ (a0 ≤ 7) := by omega
theorem oz608 {a0 a1 : Int} (h0 : a0 < a1) (h1 : a0 = 2) (h2 : a1 = 8) : ((0 : Int) ≤ a0) ∧ (a0 ≤ 7) := by omega
theorem oz609 {a0 a1 : Int} (h0 : a0 < a1) (h1 : a0 = 3) (h2 : a1 = 8) : ((0 : Int) ≤ a0) ∧ (a0 ≤ 7) := by omega
theorem oz610 {a0 a1 : Int} (h0 : a0 < a1) (h1 : a0 = 4) (h2 : a1 = 8) : ((0 : Int) ≤ a0) ∧ (a0 ≤ 7) := by omega
theorem oz611 {a0 a1 : Int} (h0 : a0 < a1) (h1 : a0 = 5) (h2 : a1 = 8) : ((0 : Int) ≤ a0) ∧ (a0 ≤ 7) := by omega
theorem oz612 {a0 a1 : Int} (h0 : a0 < a1) (h1 : a0 = 6) (h2 : a1 = 8) : ((0 : Int) ≤ a0) ∧ (a0 ≤ 7) := by omega
theorem oz613 {a0 a1 : Int} (h0 : a0 < a1) (h1 : a0 = 7) (h2 : a1 = 8) : ((0 : Int) ≤ a0) ∧ (a0 ≤ 7) := by omega
theorem oz614 {a0 a1 : Int} (h0 : a0 < a1) (h1 : (0 : Int) ≤ a0) (h2 : ¬ (a0 = 0)) (h3 : ¬ (a0 = 1)) (h4 : ¬ (a0 = 2)) (h5 : ¬ (a0 = 3)) (h6 : ¬ (a0 = 4)) (h7 : ¬ (a0 = 5)) (h8 : ¬ (a0 = 6)) (h9 : ¬ (a0 = 7)) (h10 : a1 = 8) : False := by omega
theorem oz615 {a0 a1 a2 : Int} (h0 : a0 ≤ a1) (h1 : a1 = 4) (h2 : a2 = 1) : a0 + a2 ≤ 2147483647 := by omega
theorem oz616 {a0 a1 : Int} (h0 : a0 ≤ a1) (h1 : a1 = 4) : (1 : Int) ≤ (5 - a0) := by omega
theorem oz617 {a0 a1 a2 : Int} (h0 : a0 < a1) (h1 : a2 ≤ a0) (h2 : a1 ≤ 20) (h3 : a2 = 20) : False := by omega
theorem oz618 {a0 : Int} (h0 : a0 ≤ 7) : a0 < 8 := by omega
theorem oz619 {a0 : Int} (h0 : a0 = 0) : a0 < 6 := by omega
theorem oz620 {a0 : Int} (h0 : a0 = 2) : a0 < 6 := by omega
theorem oz621 {a0 : Int} (h0 : a0 = 3) : a0 < 6 := by omega
theorem oz622 {a0 : Int} (h0 : a0 = 4) : a0 < 6 := by omega
theorem oz623 {a0 : Int} (h0 : a0 = 5) : a0 < 6 := by omega
theorem oz624 {a0 : Int} (h0 : a0 = 0) : a0 ≤ 121 := by omega
theorem oz625 {a0 a1 : Int} (h0 : a0 < a1) (h1 : a1 ≤ 121) : a0 < 121 := by omega
theorem oz626 {a0 a1 a2 : Int} (h0 : a0 < a1) (h1 : a1 ≤ 121) (h2 : a2 = 1) : a0 + a2 ≤ 2147483647 := by omega
theorem oz627 {a0 a1 : Int} (h0 : a0 < a1) (h1 : a1 = 121) : a0 < 121 := by omega
theorem oz628 {a0 a1 : Int} (h0 : a0 ≤ 121) (h1 : a1 = 1) : a0 + a1 ≤ 2147483647 := by omega
theorem oz629 {a0 a1 a2 a3 : Int} (h0 : a0 < a1) (h1 : a2 = a0 + a3) (h2 : a1 = 121) (h3 : a3 = 1) : a2 ≤ 121 := by omega
theorem oz630 {a0 a1 a2 : Int} (h0 : a0 < a1) (h1 : a1 = 121) (h2 : a2 = 1) : a0 + a2 ≤ 2147483647 := by omega
theorem oz631 {a0 a1 a2 : Int} (h0 : a0 = a1 + a2) (h1 : a2 = 1) : (121 - a0) < (121 - a1) := by omega
theorem oz632 {a0 a1 : Int} (h0 : a0 < a1) (h1 : a1 = 121) : (1 : Int) ≤ (121 - a0) := by omega
theorem oz633 {a0 a1 : Int} (h0 : a0 < a1) (h1 : a1 = 6) : a0 < 6 := by omega
theorem oz634 {a0 a1 a2 : Int} (h0 : a0 < a1) (h1 : a0 = 0) (h2 : a2 = 1) : (-2147483648 : Int) ≤ a1 - a2 := by omega
theorem oz635 {a0 a1 : Int} (h0 : a0 ≤ 121) (h1 : a1 = 1) : a0 - a1 ≤ 2147483647 := by omega
theorem oz636 {a0 a1 a2 a3 : Int} (h0 : a0 < a1) (h1 : a2 = a1 - a3) (h2 : a0 = 0) (h3 : a3 = 1) : (0 : Int) ≤ a2 := by omega
theorem oz637 {a0 a1 a2 : Int} (h0 : a0 ≤ 121) (h1 : a1 = a0 - a2) (h2 : a2 = 1) : a1 ≤ 121 := by omega
theorem oz638 {a0 a1 a2 : Int} (h0 : a0 ≤ 121) (h1 : a1 = a0 - a2) (h2 : a2 = 1) : a1 < 121 := by omega
theorem oz639 {a0 a1 : Int} (h0 : a0 ≠ a1) (h1 : a1 = 0) : a0 ≠ 0 := by omega
theorem oz640 {a0 a1 a2 a3 : Int} (h0 : a0 < a1) (h1 : a2 = a0 + a3) (h2 : a1 = 5) (h3 : a3 = 1) : a2 ≤ 5 := by omega
theorem oz641 {a0 a1 a2 a3 a4 : Int} (h0 : (-2147483648 : Int) ≤ a0) (h1 : a1 = a2) (h2 : a3 = a1) (h3 : a4 = a3) (h4 : a2 = 0) : (-2147483648 : Int) ≤ a0 + a4 := by omega
theorem oz642 {a0 a1 a2 a3 a4 : Int} (h0 : a0 ≤ 2147483647) (h1 : a1 = a2) (h2 : a3 = a1) (h3 : a4 = a3) (h4 : a2 = 0) : a0 + a4 ≤ 2147483647 := by omega
theorem oz643 {a0 a1 a2 : Int} (h0 : a0 ≤ 5) (h1 : a1 = a0 - a2) (h2 : a2 = 1) : a1 ≤ 5 := by omega
theorem oz644 {a0 a1 a2 : Int} (h0 : a0 ≤ 5) (h1 : a1 = a0 - a2) (h2 : a2 = 1) : a2 + a1 ≤ 5 := by omega
theorem oz645 {a0 a1 a2 a3 : Int} (h0 : a0 ≤ 5) (h1 : a1 = a0 - a2) (h2 : a2 = 1) (h3 : a3 = 0) : a3 + a1 ≤ 5 := by omega
theorem oz646 {a0 a1 : Int} (h0 : a0 ≤ 8) (h1 : (0 : Int) ≤ a1) (h2 : a1 < a0) : (0 : Int) ≤ a1 ∧ a1 < 8 := by omega
theorem oz647 {a0 a1 : Int} (h0 : a0 ≤ 8) (h1 : ¬ (a1 = 0)) (h2 : ¬ (a1 = 1)) (h3 : ¬ (a1 = 2)) (h4 : ¬ (a1 = 3)) (h5 : ¬ (a1 = 4)) (h6 : ¬ (a1 = 5)) (h7 : ¬ (a1 = 6)) (h8 : ¬ (a1 = 7)) (h9 : (0 : Int) ≤ a1) (h10 : a1 < a0) : False := by omega
theorem oz648 {a0 a1 a2 : Int} (h0 : a0 ≠ a1) (h1 : ¬ (a0 = 1)) (h2 : ¬ (a0 = 2)) (h3 : ¬ (a0 = 0)) (h4 : a2 ≤ a0) (h5 : a0 ≤ a1) (h6 : a1 = 3) (h7 : a2 = 0) : False := by omega
theorem oz649 {a0 a1 : Int} (h0 : a0 = a1) (h1 : a1 = 3) : ¬ (a0 = 0) := by omega
theorem oz650 {a0 a1 : Int} (h0 : a0 = a1) (h1 : a1 = 3) : ¬ (a0 = 1) := by omega
theorem oz651 {a0 a1 : Int} (h0 : a0 = a1) (h1 : a1 = 3) : ¬ (a0 = 2) := by omega
theorem oz652 {a0 a1 : Int} (h0 : a0 < a1) (h1 : a1 ≤ 20) : a0 < 20 := by omega
theorem oz653 {a0 a1 a2 : Int} (h0 : a0 < a1) (h1 : a1 ≤ 20) (h2 : a2 = 1) : a0 + a2 ≤ 2147483647 := by omega
theorem oz654 {a0 a1 : Int} (h0 : a0 ≤ a1) (h1 : a1 = 20) : a0 ≤ 20 := by omega
theorem oz655 {a0 a1 a2 : Int} (h0 : a0 ≤ a1) (h1 : a1 ≤ 20) (h2 : a2 = 1) : a0 + a2 ≤ 2147483647 := by omega
theorem oz656 {a0 a1 a2 a3 : Int} (h0 : a0 < a1) (h1 : a2 ≤ a3) (h2 : a1 = 20) (h3 : a2 = 0) : a0 - a3 ≤ 2147483647 := by omega
theorem oz657 {a0 a1 a2 : Int} (h0 : a0 ≤ a1) (h1 : a2 = a1 - a0) : (0 : Int) ≤ a2 := by omega
theorem oz658 {a0 a1 a2 : Int} (h0 : a0 ≤ 20) (h1 : a1 = a0 - a2) : a2 + a1 ≤ 20 := by omega
theorem oz659 {a0 a1 a2 a3 a4 a5 : Int} (h0 : a0 < a1) (h1 : a2 = a3 + a4) (h2 : a5 = a0 - a3) (h3 : a1 = 20) (h4 : a4 = 1) : a2 + a5 ≤ 20 := by omega
theorem oz660 {a0 a1 a2 : Int} (h0 : a0 < a1) (h1 : a2 ≤ a0) (h2 : a1 = 20) : a2 < 20 := by omega
theorem oz661 {a0 : Int} (h0 : a0 ≤ 19) : a0 < 20 := by omega
theorem oz662 {a0 a1 : Int} (h0 : a0 < a1) (h1 : a1 ≤ 20) (h2 : (0 : Int) ≤ a0) : ((0 : Int) ≤ a0) ∧ (a0 ≤ 19) := by omega
theorem oz663 {a0 a1 a2 a3 : Int} (h0 : a0 < a1) (h1 : a1 ≤ 20) (h2 : (0 : Int) ≤ a2) (h3 : a0 = a2 + a3) (h4 : a3 = 1) : ((0 : Int) ≤ a0) ∧ (a0 ≤ 19) := by omega
theorem oz664 {a0 a1 a2 a3 a4 a5 : Int} (h0 : a0 = a1) (h1 : a1 = a2) (h2 : a3 = a4 + a5) (h3 : a5 = 1) : (a0 - a3) < (a2 - a4) := by omega
theorem oz665 {a0 a1 a2 a3 : Int} (h0 : a0 ≤ a1) (h1 : a1 < a2) (h2 : a3 ≤ a0) (h3 : a2 = 20) (h4 : a3 = 0) : ((0 : Int) ≤ a0) ∧ (a0 ≤ 19) := by omega
theorem oz666 {a0 a1 a2 a3 : Int} (h0 : a0 < a1) (h1 : a1 ≤ 20) (h2 : (0 : Int) ≤ a2) (h3 : a0 = a2 + a3) (h4 : a3 = 1) : ((0 : Int) ≤ a2) ∧ (a2 ≤ 19) := by omega
theorem oz667 {a0 a1 a2 a3 : Int} (h0 : a0 < a1) (h1 : a1 ≤ 20) (h2 : (0 : Int) ≤ a2) (h3 : a0 = a2 + a3) (h4 : a3 = 1) : ((0 : Int) ≤ a0) ∧ (a0 ≤ 20) := by omega
theorem oz668 {a0 a1 a2 a3 a4 a5 a6 : Int} (h0 : a0 = a1) (h1 : a2 = a3) (h2 : a1 = a2) (h3 : a4 = a5 + a6) (h4 : a6 = 1) : (a0 - a4) < (a3 - a5) := by omega
theorem oz669 {a0 a1 : Int} (h0 : (0 : Int) ≤ a0) (h1 : a1 = 2) : (-2147483648 : Int) ≤ a0 - a1 := by omega
theorem oz670 {a0 a1 : Int} (h0 : a0 ≤ 20) (h1 : a1 = 2) : a0 - a1 ≤ 2147483647 := by omega
theorem oz671 {a0 a1 : Int} (h0 : a0 < a1) (h1 : a1 ≤ a0) (h2 : a1 = 0) : False := by omega
theorem oz672 {a0 a1 : Int} (h0 : a0 ≤ 20) (h1 : a1 ≤ (a0 - 2)) : a1 < 20 := by omega
theorem oz673 {a0 a1 a2 : Int} (h0 : a0 ≤ 20) (h1 : a1 ≤ (a0 - 2)) (h2 : a2 = 1) : a1 + a2 ≤ 2147483647 := by omega
theorem oz674 {a0 a1 a2 a3 : Int} (h0 : a0 ≤ 20) (h1 : a1 ≤ (a0 - 2)) (h2 : a2 = a1 + a3) (h3 : a3 = 1) : a2 < 20 := by omega
theorem oz675 {a0 a1 : Int} (h0 : a0 ≤ 20) (h1 : a1 = 1) : a0 - a1 ≤ 2147483647 := by omega
theorem oz676 {a0 a1 a2 : Int} (h0 : a0 ≤ a1) (h1 : a2 ≤ 20) (h2 : a1 ≤ (a2 - 2)) (h3 : a0 = 0) : ((0 : Int) ≤ a1) ∧ (a1 ≤ 19) := by omega
theorem oz677 {a0 a1 a2 a3 : Int} (h0 : a0 ≤ a1) (h1 : a2 ≤ a1) (h2 : a3 ≤ 20) (h3 : a1 ≤ a0) (h4 : a1 ≤ (a3 - 2)) (h5 : a2 = 0) : ((0 : Int) ≤ a0) ∧ (a0 ≤ 19) := by omega
theorem oz678 {a0 a1 a2 : Int} (h0 : a0 < a1) (h1 : a2 ≤ 20) (h2 : (1 : Int) ≤ a0) (h3 : a1 ≤ (a2 - 1)) : ((0 : Int) ≤ a0) ∧ (a0 ≤ 19) := by omega
theorem oz679 {a0 a1 a2 : Int} (h0 : a0 < a1) (h1 : a2 ≤ 20) (h2 : (1 : Int) ≤ a0) (h3 : a1 ≤ (a2 - 1)) : ((0 : Int) ≤ a1) ∧ (a1 ≤ 19) := by omega
theorem oz680 {a0 a1 a2 : Int} (h0 : a0 < a1) (h1 : (1 : Int) ≤ a0) (h2 : a2 = (-1)) : (-2147483648 : Int) ≤ a1 + a2 := by omega
theorem oz681 {a0 a1 a2 : Int} (h0 : a0 ≤ 20) (h1 : a1 ≤ (a0 - 1)) (h2 : a2 = (-1)) : a1 + a2 ≤ 2147483647 := by omega
theorem oz682 {a0 a1 a2 a3 : Int} (h0 : a0 < a1) (h1 : a2 ≤ 20) (h2 : a1 ≤ (a2 - 1)) (h3 : a3 = 1) : a0 + a3 ≤ 2147483647 := by omega
theorem oz683 {a0 a1 a2 a3 a4 : Int} (h0 : a0 = a1) (h1 : a2 ≤ (a1 - 1)) (h2 : a3 = a2 + a4) (h3 : a4 = (-1)) : a3 ≤ (a0 - 1) := by omega
theorem oz684 {a0 a1 a2 a3 a4 a5 : Int} (h0 : a0 = a1 + a2) (h1 : a3 = a4 + a5) (h2 : a2 = (-1)) (h3 : a5 = 1) : (a0 - a3) < (a1 - a4) := by omega
theorem oz685 {a0 a1 a2 a3 : Int} (h0 : a0 ≤ a1) (h1 : a2 = a1 + a3) (h2 : a0 = 0) (h3 : a3 = 1) : (1 : Int) ≤ a2 := by omega
theorem oz686 {a0 a1 a2 : Int} (h0 : a0 < a1) (h1 : a2 ≤ a0) (h2 : a2 = 0) : (0 : Int) ≤ a1 := by omega
theorem oz687 {a0 a1 : Int} (h0 : a0 ≤ 20) (h1 : a1 ≤ (a0 - 1)) : a1 < 20 := by omega
theorem oz688 {a0 a1 a2 a3 : Int} (h0 : a0 < a1) (h1 : a2 ≤ a0) (h2 : a3 ≤ 20) (h3 : a1 ≤ (a3 - 1)) (h4 : a2 = 0) : ((0 : Int) ≤ a1) ∧ (a1 ≤ 19) := by omega
theorem oz689 {a0 a1 a2 a3 : Int} (h0 : a0 < a1) (h1 : a2 ≤ a0) (h2 : a2 = 0) (h3 : a3 = (-1)) : (-2147483648 : Int) ≤ a1 + a3 := by omega
theorem oz690 {a0 a1 a2 a3 a4 : Int} (h0 : a0 < a1) (h1 : a2 ≤ a0) (h2 : a3 = a1 + a4) (h3 : a2 = 0) (h4 : a4 = (-1)) : ((0 : Int) ≤ a0) ∧ (a0 ≤ a3) := by omega
theorem oz691 {a0 a1 a2 a3 a4 : Int} (h0 : a0 ≤ a1) (h1 : a1 ≤ (a2 - 2)) (h2 : a3 = a2 - a4) (h3 : a0 = 0) (h4 : a4 = 1) : ((0 : Int) ≤ a1) ∧ (a1 ≤ a3) := by omega
theorem oz692 {a0 a1 a2 : Int} (h0 : a0 ≤ a1) (h1 : a0 = 0) (h2 : a2 = (-1)) : (-2147483648 : Int) ≤ a1 + a2 := by omega
theorem oz693 {a0 a1 a2 : Int} (h0 : a0 ≤ 20) (h1 : a1 ≤ (a0 - 2)) (h2 : a2 = (-1)) : a1 + a2 ≤ 2147483647 := by omega
theorem oz694 {a0 a1 a2 a3 : Int} (h0 : a0 ≤ (a1 - 2)) (h1 : a2 = a0 + a3) (h2 : a3 = (-1)) : a2 ≤ (a1 - 2) := by omega
theorem oz695 {a0 a1 a2 : Int} (h0 : a0 = a1 - a2) (h1 : a2 = 2) : a0 ≤ (a1 - 2) := by omega
theorem oz696 {a0 a1 : Int} (h0 : a0 = a1) (h1 : a1 ≤ 5) : a0 ≤ 5 := by omega
theorem oz697 {a0 a1 a2 : Int} (h0 : a0 < a1) (h1 : a1 = 120) (h2 : a2 = 1) : a0 + a2 ≤ 2147483647 := by omega
theorem oz698 {a0 a1 a2 : Int} (h0 : a0 = a1) (h1 : a2 = a0) (h2 : a1 ≤ 5) : a2 ≤ 5 := by omega
theorem oz699 {a0 a1 a2 : Int} (h0 : a0 = a1 + a2) (h1 : a2 = 1) : (120 - a0) < (120 - a1) := by omega
theorem oz700 {a0 a1 : Int} (h0 : a0 < a1) (h1 : a1 = 120) : (1 : Int) ≤ (120 - a0) := by omega
theorem oz701 {a0 a1 : Int} (h0 : a0 ≤ 20) (h1 : a1 = 0) : a1 + a0 ≤ 20 := by omega
theorem oz702 {a0 a1 a2 : Int} (h0 : a0 = a1) (h1 : a1 ≤ 5) (h2 : a2 = 0) : a2 + a0 ≤ 5 := by omega
theorem oz703 {a0 a1 : Int} (h0 : a0 = a1) (h1 : a1 = 0) : a0 ≤ 5 := by omega
theorem oz704 {a0 a1 a2 : Int} (h0 : a0 ≤ a1) (h1 : a1 = a2) (h2 : a0 = 5) (h3 : a2 = 0) : False := by omega
theorem oz705 {a0 a1 : Int} (h0 : a0 = a1) (h1 : a1 = 0) : a0 < 20 := by omega
theorem oz706 {a0 a1 a2 a3 : Int} (h0 : a0 = a1) (h1 : a2 = a0 + a3) (h2 : a1 = 0) (h3 : a3 = 1) : a2 ≤ 5 := by omega
theorem oz707 {a0 : Int} (h0 : a0 = 0) : a0 ≤ 5 := by omega
theorem oz708 {a0 a1 a2 a3 : Int} (h0 : a0 ≤ a1) (h1 : a2 = a1) (h2 : a3 = a2) (h3 : a0 = 5) : (0 : Int) ≤ a3 := by omega
theorem oz709 {a0 : Int} (h0 : a0 ≤ 5) : a0 < 20 := by omega
theorem oz710 {a0 a1 a2 : Int} (h0 : a0 ≤ 5) (h1 : a1 = a0 + a2) (h2 : a2 = 1) : a1 ≤ 20 := by omega
theorem oz711 {a0 a1 a2 : Int} (h0 : a0 < a1) (h1 : a1 ≤ a2) (h2 : a2 = 5) : a0 < 5 := by omega
theorem oz712 {a0 a1 a2 : Int} (h0 : a0 ≤ 8) (h1 : a1 = (a2 / 10)) (h2 : (0 : Int) ≤ a2) (h3 : (a2 / 10) < a0) (h4 : (a2 % 10) < a0) (h5 : (a2 / 10) ≠ (a2 % 10)) : (0 : Int) ≤ a1 ∧ a1 < 8 := by omega
theorem oz713 {a0 a1 : Int} (h0 : a0 = (a1 % 10)) : (0 : Int) ≤ a0 := by omega
theorem oz714 {a0 a1 a2 : Int} (h0 : a0 ≤ 8) (h1 : a1 = (a2 % 10)) (h2 : (a2 % 10) < a0) : a1 < 8 := by omega
theorem oz715 {a0 a1 a2 : Int} (h0 : a0 ≤ 8) (h1 : a1 = (a2 / 10)) (h2 : ¬ (a1 = 1)) (h3 : ¬ (a1 = 2)) (h4 : ¬ (a1 = 3)) (h5 : ¬ (a1 = 4)) (h6 : ¬ (a1 = 5)) (h7 : ¬ (a1 = 6)) (h8 : ¬ (a1 = 7)) (h9 : ¬ (a1 = 0)) (h10 : (0 : Int) ≤ a2) (h11 : (a2 / 10) < a0) (h12 : (a2 % 10) < a0) : False := by omega
theorem oz716 {a0 a1 : Int} (h0 : a0 < a1) (h1 : a1 ≤ 8) : a0 < 8 := by omega
theorem oz717 {a0 a1 : Int} (h0 : a0 = 1) (h1 : a1 = 1) : (-2147483648 : Int) ≤ a0 + a1 := by omega
theorem oz718 {a0 a1 a2 : Int} (h0 : a0 = a1 + a2) (h1 : a1 = 1) (h2 : a2 = 1) : (0 : Int) ≤ a0 := by omega
theorem oz719 {a0 a1 : Int} (h0 : a0 = 2) (h1 : a1 = 1) : (-2147483648 : Int) ≤ a0 + a1 := by omega
theorem oz720 {a0 a1 a2 : Int} (h0 : a0 = a1 + a2) (h1 : a1 = 2) (h2 : a2 = 1) : (0 : Int) ≤ a0 := by omega
theorem oz721 {a0 a1 : Int} (h0 : a0 = 3) (h1 : a1 = 1) : (-2147483648 : Int) ≤ a0 + a1 := by omega
theorem oz722 {a0 a1 a2 : Int} (h0 : a0 = a1 + a2) (h1 : a1 = 3) (h2 : a2 = 1) : (0 : Int) ≤ a0 := by omega
theorem oz723 {a0 a1 : Int} (h0 : a0 = 4) (h1 : a1 = 1) : (-2147483648 : Int) ≤ a0 + a1 := by omega
theorem oz724 {a0 a1 a2 : Int} (h0 : a0 = a1 + a2) (h1 : a1 = 4) (h2 : a2 = 1) : (0 : Int) ≤ a0 := by omega
theorem oz725 {a0 a1 : Int} (h0 : a0 = 5) (h1 : a1 = 1) : (-2147483648 : Int) ≤ a0 + a1 := by omega
theorem oz726 {a0 a1 a2 : Int} (h0 : a0 = a1 + a2) (h1 : a1 = 5) (h2 : a2 = 1) : (0 : Int) ≤ a0 := by omega
theorem oz727 {a0 : Int} (h0 : a0 = 6) : (0 : Int) ≤ a0 := by omega
theorem oz728 {a0 a1 : Int} (h0 : a0 = 6) (h1 : a1 = 1) : (-2147483648 : Int) ≤ a0 + a1 := by omega
theorem oz729 {a0 a1 a2 : Int} (h0 : a0 = a1 + a2) (h1 : a1 = 6) (h2 : a2 = 1) : (0 : Int) ≤ a0 := by omega
theorem oz730 {a0 : Int} (h0 : a0 = 7) : (0 : Int) ≤ a0 := by omega
theorem oz731 {a0 a1 : Int} (h0 : a0 = 7) (h1 : a1 = 1) : (-2147483648 : Int) ≤ a0 + a1 := by omega
theorem oz732 {a0 a1 a2 : Int} (h0 : a0 = a1 + a2) (h1 : a1 = 7) (h2 : a2 = 1) : (0 : Int) ≤ a0 := by omega
theorem oz733 {a0 a1 : Int} (h0 : a0 < a1) (h1 : (0 : Int) ≤ a0) (h2 : ¬ (a0 = 6)) (h3 : ¬ (a0 = 7)) (h4 : ¬ (a0 = 0)) (h5 : ¬ (a0 = 1)) (h6 : ¬ (a0 = 2)) (h7 : ¬ (a0 = 3)) (h8 : ¬ (a0 = 4)) (h9 : ¬ (a0 = 5)) (h10 : a1 = 8) : False := by omega
theorem oz734 {a0 : Int} (h0 : (0 : Int) ≤ a0) (h1 : a0 = 0) (h2 : ¬ (a0 = 0)) : False := by omega
theorem oz735 {a0 a1 : Int} (h0 : a0 < a1) (h1 : a0 = 1) (h2 : a1 = 8) : (0 : Int) ≤ a0 ∧ a0 < 8 := by omega
theorem oz736 {a0 a1 : Int} (h0 : a0 < a1) (h1 : a0 = 2) (h2 : a1 = 8) : (0 : Int) ≤ a0 ∧ a0 < 8 := by omega
theorem oz737 {a0 a1 : Int} (h0 : a0 < a1) (h1 : a0 = 3) (h2 : a1 = 8) : (0 : Int) ≤ a0 ∧ a0 < 8 := by omega
theorem oz738 {a0 a1 : Int} (h0 : a0 < a1) (h1 : a0 = 4) (h2 : a1 = 8) : (0 : Int) ≤ a0 ∧ a0 < 8 := by omega
theorem oz739 {a0 a1 : Int} (h0 : a0 < a1) (h1 : a0 = 5) (h2 : a1 = 8) : (0 : Int) ≤ a0 ∧ a0 < 8 := by omega
theorem oz740 {a0 : Int} (h0 : a0 = 5) (h1 : ¬ (a0 = 5)) : False := by omega
theorem oz741 {a0 a1 : Int} (h0 : a0 < a1) (h1 : a0 = 6) (h2 : a1 = 8) : (0 : Int) ≤ a0 ∧ a0 < 8 := by omega
theorem oz742 {a0 : Int} (h0 : a0 = 6) (h1 : ¬ (a0 = 6)) : False := by omega
theorem oz743 {a0 a1 : Int} (h0 : a0 < a1) (h1 : a0 = 7) (h2 : a1 = 8) : (0 : Int) ≤ a0 ∧ a0 < 8 := by omega
theorem oz744 {a0 a1 : Int} (h0 : a0 < a1) (h1 : a0 = 7) (h2 : ¬ (a0 = 7)) (h3 : a1 = 8) : False := by omega
theorem oz745 {a0 a1 : Int} (h0 : a0 < a1) (h1 : (0 : Int) ≤ a0) (h2 : ¬ (a0 = 1)) (h3 : ¬ (a0 = 2)) (h4 : ¬ (a0 = 3)) (h5 : ¬ (a0 = 4)) (h6 : ¬ (a0 = 5)) (h7 : ¬ (a0 = 6)) (h8 : ¬ (a0 = 0)) (h9 : ¬ (a0 = 7)) (h10 : a1 = 8) : False := by omega
theorem oz746 {a0 a1 : Int} (h0 : a0 = a1) (h1 : a0 = 1) : (0 : Int) ≤ a1 := by omega
theorem oz747 {a0 a1 a2 : Int} (h0 : a0 = a1) (h1 : a0 = 1) (h2 : a2 = 1) : (-2147483648 : Int) ≤ a1 + a2 := by omega
theorem oz748 {a0 a1 a2 a3 : Int} (h0 : a0 = a1) (h1 : a2 = a1 + a3) (h2 : a0 = 1) (h3 : a3 = 1) : (0 : Int) ≤ a2 := by omega
theorem oz749 {a0 a1 : Int} (h0 : a0 = a1) (h1 : a0 = 2) : (0 : Int) ≤ a1 := by omega
theorem oz750 {a0 a1 a2 : Int} (h0 : a0 = a1) (h1 : a0 = 2) (h2 : a2 = 1) : (-2147483648 : Int) ≤ a1 + a2 := by omega
theorem oz751 {a0 a1 a2 a3 : Int} (h0 : a0 = a1) (h1 : a2 = a1 + a3) (h2 : a0 = 2) (h3 : a3 = 1) : (0 : Int) ≤ a2 := by omega
theorem oz752 {a0 a1 : Int} (h0 : a0 = a1) (h1 : a0 = 3) : (0 : Int) ≤ a1 := by omega
theorem oz753 {a0 a1 a2 : Int} (h0 : a0 = a1) (h1 : a0 = 3) (h2 : a2 = 1) : (-2147483648 : Int) ≤ a1 + a2 := by omega
theorem oz754 {a0 a1 a2 a3 : Int} (h0 : a0 = a1) (h1 : a2 = a1 + a3) (h2 : a0 = 3) (h3 : a3 = 1) : (0 : Int) ≤ a2 := by omega
theorem oz755 {a0 a1 : Int} (h0 : a0 = a1) (h1 : a0 = 4) : (0 : Int) ≤ a1 := by omega
theorem oz756 {a0 a1 a2 : Int} (h0 : a0 = a1) (h1 : a0 = 4) (h2 : a2 = 1) : (-2147483648 : Int) ≤ a1 + a2 := by omega
theorem oz757 {a0 a1 a2 a3 : Int} (h0 : a0 = a1) (h1 : a2 = a1 + a3) (h2 : a0 = 4) (h3 : a3 = 1) : (0 : Int) ≤ a2 := by omega
theorem oz758 {a0 a1 : Int} (h0 : a0 = a1) (h1 : a0 = 5) : (0 : Int) ≤ a1 := by omega
theorem oz759 {a0 a1 a2 : Int} (h0 : a0 = a1) (h1 : a0 = 5) (h2 : a2 = 1) : (-2147483648 : Int) ≤ a1 + a2 := by omega
theorem oz760 {a0 a1 a2 a3 : Int} (h0 : a0 = a1) (h1 : a2 = a1 + a3) (h2 : a0 = 5) (h3 : a3 = 1) : (0 : Int) ≤ a2 := by omega
theorem oz761 {a0 a1 : Int} (h0 : a0 = a1) (h1 : a0 = 6) : (0 : Int) ≤ a1 := by omega
theorem oz762 {a0 a1 a2 : Int} (h0 : a0 = a1) (h1 : a0 = 6) (h2 : a2 = 1) : (-2147483648 : Int) ≤ a1 + a2 := by omega
theorem oz763 {a0 a1 a2 a3 : Int} (h0 : a0 = a1) (h1 : a2 = a1 + a3) (h2 : a0 = 6) (h3 : a3 = 1) : (0 : Int) ≤ a2 := by omega
theorem oz764 {a0 a1 : Int} (h0 : a0 = a1) (h1 : a0 = 7) : (0 : Int) ≤ a1 := by omega
theorem oz765 {a0 a1 a2 : Int} (h0 : a0 = a1) (h1 : a0 = 7) (h2 : a2 = 1) : (-2147483648 : Int) ≤ a1 + a2 := by omega
theorem oz766 {a0 a1 a2 a3 : Int} (h0 : a0 = a1) (h1 : a2 = a1 + a3) (h2 : a0 = 7) (h3 : a3 = 1) : (0 : Int) ≤ a2 := by omega
theorem oz767 {a0 a1 : Int} (h0 : a0 ≠ a1) (h1 : a1 ≤ a0) (h2 : (a0 < 0) ∨ (a0 = 0)) (h3 : a1 = 0) : False := by omega
theorem oz768 {a0 a1 : Int} (h0 : a0 = (a1 % 10)) (h1 : (a1 % 10) ≤ 5) : (0 : Int) ≤ a0 ∧ a0 < 6 := by omega
theorem oz769 {a0 a1 : Int} (h0 : a0 = (a1 % 10)) (h1 : ¬ (a0 = 0)) (h2 : ¬ (a0 = 1)) (h3 : ¬ (a0 = 2)) (h4 : ¬ (a0 = 3)) (h5 : ¬ (a0 = 4)) (h6 : ¬ (a0 = 5)) (h7 : (a1 % 10) ≤ 5) : False := by omega
theorem oz770 {a0 a1 a2 a3 : Int} (h0 : a0 ≠ a1) (h1 : a0 ≠ a2) (h2 : a0 < a3) (h3 : a2 ≤ a0) (h4 : a1 = 1) (h5 : a2 = 0) (h6 : a3 = 2) : False := by omega
theorem oz771 {a0 a1 : Int} (h0 : a0 = a1) (h1 : a1 = 1) : ¬ (a0 = 0) := by omega
theorem oz772 {a0 a1 a2 a3 a4 a5 : Int} (h0 : a0 = a1) (h1 : a2 = a0) (h2 : a3 = a4 + a5) (h3 : a5 = 1) : (a2 - a3) < (a1 - a4) := by omega
theorem oz773 {a0 a1 a2 : Int} (h0 : a0 < a1) (h1 : a2 ≤ a0) (h2 : a1 ≤ 20) (h3 : a2 = 0) : ((0 : Int) ≤ a0) ∧ (a0 ≤ 19) := by omega
theorem oz774 {a0 a1 a2 : Int} (h0 : a0 = a1) (h1 : a0 < a2) (h2 : ¬ (a0 = 1)) (h3 : a1 = 1) (h4 : a2 = 2) : ¬ (a0 = 2) := by omega
theorem oz775 {a0 a1 a2 : Int} (h0 : a0 = a1) (h1 : a0 < a2) (h2 : ¬ (a0 = 1)) (h3 : a1 = 1) (h4 : a2 = 2) : False := by omega
theorem oz776 {a0 a1 : Int} (h0 : a0 ≤ a1) (h1 : a0 = 2) : ¬ (a1 = 0) := by omega
theorem oz777 {a0 a1 : Int} (h0 : a0 ≤ a1) (h1 : a0 = 2) : ¬ (a1 = 1) := by omega
theorem oz778 {a0 : Int} (h0 : a0 = 1) : a0 < 7 := by omega
theorem oz779 {a0 a1 a2 : Int} (h0 : a0 ≤ a1) (h1 : a1 ≤ 999) (h2 : a2 = 1) : a0 + a2 ≤ 2147483647 := by omega
theorem oz780 {a0 a1 a2 : Int} (h0 : a0 = a1 + a2) (h1 : a2 = 1) : (1001 - a0) < (1001 - a1) := by omega
theorem oz781 {a0 a1 : Int} (h0 : a0 ≤ a1) (h1 : a1 ≤ 999) : (1 : Int) ≤ (1001 - a0) := by omega
theorem oz782 {a0 a1 a2 : Int} (h0 : a0 < a1) (h1 : a1 = 32) (h2 : a2 = 1) : a0 + a2 ≤ 2147483647 := by omega
theorem oz783 {a0 a1 a2 : Int} (h0 : a0 = a1 + a2) (h1 : a2 = 1) : (32 - a0) < (32 - a1) := by omega
theorem oz784 {a0 a1 : Int} (h0 : a0 < a1) (h1 : a1 = 32) : (1 : Int) ≤ (32 - a0) := by omega
theorem oz785 {a0 a1 : Int} (h0 : a0 = (a1 % 10)) (h1 : ¬ (a0 = 5)) (h2 : ¬ (a0 = 0)) (h3 : ¬ (a0 = 1)) (h4 : ¬ (a0 = 2)) (h5 : ¬ (a0 = 3)) (h6 : ¬ (a0 = 4)) (h7 : (a1 % 10) ≤ 5) : False := by omega
theorem oz786 {a0 a1 a2 : Int} (h0 : a0 = a1) (h1 : a2 ≤ a0) (h2 : a1 = 1) (h3 : a2 = 2) : False := by omega
theorem oz787 {a0 a1 a2 : Int} (h0 : a0 ≤ a1) (h1 : a1 = 5) (h2 : a2 = 1) : a0 + a2 ≤ 2147483647 := by omega
theorem oz788 {a0 a1 : Int} (h0 : a0 ≤ a1) (h1 : a1 = 5) : (1 : Int) ≤ (6 - a0) := by omega
theorem oz789 {a0 a1 : Int} (h0 : a0 ≤ a1) (h1 : a1 = 5) : a0 ≤ 8 := by omega
theorem oz790 {a0 a1 : Int} (h0 : a0 ≤ a1) (h1 : a1 = 5) : a0 ≤ 5 := by omega
theorem oz791 {a0 a1 : Int} (h0 : a0 = a1) (h1 : ¬ (a0 = 0)) (h2 : a1 ≤ a0) (h3 : a1 = 0) : ¬ (a0 = 1) := by omega
theorem oz792 {a0 a1 : Int} (h0 : a0 = a1) (h1 : ¬ (a0 = 0)) (h2 : a1 ≤ a0) (h3 : a1 = 0) : ¬ (a0 = 2) := by omega
theorem oz793 {a0 a1 : Int} (h0 : a0 = a1) (h1 : ¬ (a0 = 0)) (h2 : a1 ≤ a0) (h3 : a1 = 0) : False := by omega
theorem oz794 {a0 a1 a2 : Int} (h0 : a0 = a1) (h1 : a2 ≤ a0) (h2 : a1 = 0) (h3 : a2 = 2) : False := by omega
theorem oz795 {a0 : Int} (h0 : a0 ≤ 5) : a0 ≤ 8 := by omega
theorem oz796 {a0 a1 : Int} (h0 : a0 < a1) (h1 : a0 = 0) : (0 : Int) ≤ a1 := by omega
theorem oz797 {a0 : Int} (h0 : a0 ≤ 4) : a0 ≤ 8 := by omega
theorem oz798 {a0 : Int} (h0 : a0 ≤ 4) : a0 ≤ 4 := by omega
theorem oz799 {a0 a1 a2 : Int} (h0 : a0 < a1) (h1 : a0 = 0) (h2 : a2 = (-1)) : (-2147483648 : Int) ≤ a1 + a2 := by omega
theorem oz800 {a0 a1 : Int} (h0 : a0 ≤ 4) (h1 : a1 = (-1)) : a0 + a1 ≤ 2147483647 := by omega
theorem oz801 {a0 a1 a2 : Int} (h0 : a0 ≤ 4) (h1 : a1 = a0 + a2) (h2 : a2 = (-1)) : a1 ≤ 4 := by omega
theorem oz802 {a0 a1 a2 : Int} (h0 : a0 = a1 + a2) (h1 : a2 = (-1)) : a0 < a1 := by omega
theorem oz803 {a0 : Int} (h0 : (0 : Int) ≤ a0) : (-2147483648 : Int) ≤ 2 * a0 := by omega
theorem oz804 {a0 a1 : Int} (h0 : a0 < a1) (h1 : a1 ≤ 256) : 2 * a0 ≤ 2147483647 := by omega
theorem oz805 {a0 a1 : Int} (h0 : (0 : Int) ≤ a0) (h1 : a1 = 2 * a0) : (0 : Int) ≤ a1 := by omega
theorem oz806 {a0 a1 a2 : Int} (h0 : a0 < a1) (h1 : a1 ≤ 16) (h2 : a2 = 2 * a0) : a2 < 32 := by omega
theorem oz807 {a0 a1 a2 : Int} (h0 : (0 : Int) ≤ a0) (h1 : a1 = 2 * a0) (h2 : a2 = 1) : (-2147483648 : Int) ≤ a1 + a2 := by omega
theorem oz808 {a0 a1 a2 a3 : Int} (h0 : a0 < a1) (h1 : a1 ≤ 256) (h2 : a2 = 2 * a0) (h3 : a3 = 1) : a2 + a3 ≤ 2147483647 := by omega
theorem oz809 {a0 a1 a2 a3 : Int} (h0 : (0 : Int) ≤ a0) (h1 : a1 = 2 * a0) (h2 : a2 = a1 + a3) (h3 : a3 = 1) : (0 : Int) ≤ a2 := by omega
theorem oz810 {a0 a1 a2 a3 a4 : Int} (h0 : a0 < a1) (h1 : a1 ≤ 16) (h2 : a2 = 2 * a0) (h3 : a3 = a2 + a4) (h4 : a4 = 1) : a3 < 32 := by omega
theorem oz811 {a0 a1 : Int} (h0 : a0 < a1) (h1 : a1 ≤ 16) : a0 < 32 := by omega
theorem oz812 {a0 a1 a2 : Int} (h0 : a0 < a1) (h1 : a1 ≤ 256) (h2 : a2 = 1) : a0 + a2 ≤ 2147483647 := by omega
theorem oz813 {a0 a1 : Int} (h0 : a0 < a1) (h1 : a1 ≤ 4) (h2 : a0 = 0) : ((1 : Int) ≤ a1) ∧ (a1 ≤ 4) := by omega
theorem oz814 {a0 a1 a2 : Int} (h0 : a0 = a1 + a2) (h1 : a2 = 1) : (16 - a0) < (16 - a1) := by omega
theorem oz815 {a0 a1 : Int} (h0 : a0 < a1) (h1 : a1 ≤ 16) : (1 : Int) ≤ (16 - a0) := by omega
theorem oz816 {a0 a1 a2 : Int} (h0 : a0 ≤ 5) (h1 : a1 = a0 - a2) (h2 : a2 = 1) : a1 ≤ 4 := by omega
theorem oz817 {a0 : Int} (h0 : a0 ≤ 31) : a0 < 32 := by omega
theorem oz818 {a0 a1 : Int} (h0 : a0 ≤ 31) (h1 : a1 = 1) : a0 + a1 ≤ 2147483647 := by omega
theorem oz819 {a0 : Int} (h0 : a0 ≤ 31) : (1 : Int) ≤ (32 - a0) := by omega
theorem oz820 {a0 a1 a2 a3 : Int} (h0 : a0 < a1) (h1 : a2 = a1 - a3) (h2 : a3 = 1) : (-2147483648 : Int) ≤ a2 - a0 := by omega
theorem oz821 {a0 a1 a2 a3 : Int} (h0 : a0 ≤ 5) (h1 : (0 : Int) ≤ a1) (h2 : a2 = a0 - a3) (h3 : a3 = 1) : a2 - a1 ≤ 2147483647 := by omega
theorem oz822 {a0 : Int} (h0 : (0 : Int) ≤ a0) (h1 : a0 ≤ 31) : ((0 : Int) ≤ a0) ∧ (a0 ≤ 31) := by omega
theorem oz823 {a0 a1 : Int} (h0 : a0 < a1) (h1 : (0 : Int) ≤ a0) (h2 : a1 ≤ 32) : ((0 : Int) ≤ a0) ∧ (a0 ≤ 31) := by omega
theorem oz824 {a0 a1 a2 : Int} (h0 : a0 ≤ a1) (h1 : a1 ≤ a2) (h2 : a0 = 1) (h3 : a2 = 5) : ((1 : Int) ≤ a1) ∧ (a1 ≤ 5) := by omega
theorem oz825 {a0 : Int} (h0 : a0 = 0) : a0 < 32 := by omega
theorem oz826 {a0 : Int} (h0 : a0 = 1) : a0 < 32 := by omega
theorem oz827 {a0 a1 : Int} (h0 : a0 < a1) (h1 : a0 = 0) : a1 ≠ 0 := by omega
theorem oz828 {a0 a1 a2 : Int} (h0 : a0 < a1) (h1 : a1 ≤ 99) (h2 : a2 = 1) : a0 + a2 ≤ 2147483647 := by omega
theorem oz829 {a0 a1 : Int} (h0 : a0 ≤ a1) (h1 : a1 = 60) : a0 ≤ 99 := by omega
theorem oz830 {a0 a1 : Int} (h0 : a0 ≤ 40) (h1 : a1 = 1) : a0 - a1 ≤ 2147483647 := by omega
theorem oz831 {a0 a1 a2 : Int} (h0 : a0 ≤ 40) (h1 : a1 = a0 - a2) (h2 : a2 = 1) : a1 ≤ 40 := by omega
theorem oz832 {a0 a1 a2 : Int} (h0 : a0 ≤ 40) (h1 : a1 = a0 - a2) (h2 : a2 = 1) : a1 < 40 := by omega
theorem oz833 {a0 a1 : Int} (h0 : a0 < a1) (h1 : a1 ≤ 40) : a0 < 40 := by omega
theorem oz834 {a0 a1 a2 a3 a4 : Int} (h0 : a0 < a1) (h1 : a2 = a0) (h2 : a1 ≤ 40) (h3 : a3 = a2 + a4) (h4 : a4 = 1) : a3 ≤ 40 := by omega
theorem oz835 {a0 a1 a2 a3 : Int} (h0 : (0 : Int) ≤ a0) (h1 : a1 ≤ 40) (h2 : a2 = a1 + a3) (h3 : a3 = 1) : (-2147483648 : Int) ≤ a0 - a2 := by omega
theorem oz836 {a0 a1 a2 a3 : Int} (h0 : a0 ≤ 40) (h1 : (0 : Int) ≤ a1) (h2 : a2 = a1 + a3) (h3 : a3 = 1) : a0 - a2 ≤ 2147483647 := by omega
theorem oz837 {a0 a1 : Int} (h0 : a0 < a1) (h1 : a1 = 50) : a0 < 50 := by omega
theorem oz838 {a0 a1 a2 a3 : Int} (h0 : a0 < a1) (h1 : a2 = a0 + a3) (h2 : a1 = 50) (h3 : a3 = 1) : a2 ≤ 50 := by omega
theorem oz839 {a0 a1 a2 : Int} (h0 : a0 ≤ 50) (h1 : a1 = a0 + a2) (h2 : a2 = 1) : a1 - a2 ≤ 2147483647 := by omega
theorem oz840 {a0 a1 a2 : Int} (h0 : a0 ≤ a1) (h1 : a1 ≤ a2) (h2 : a0 = 0) (h3 : a2 = 7) : ((0 : Int) ≤ a1) ∧ (a1 ≤ 7) := by omega
theorem oz841 {a0 a1 a2 a3 : Int} (h0 : (0 : Int) ≤ a0) (h1 : a1 = a0 ∨ a1 = a2) (h2 : a2 = 24) (h3 : a3 = 1) : (-2147483648 : Int) ≤ a1 - a3 := by omega
theorem oz842 {a0 : Int} (h0 : a0 = 1) : a0 ≤ 2 := by omega
theorem oz843 {a0 : Int} (h0 : a0 = 0) : a0 ≤ 2 := by omega
theorem oz844 {a0 : Int} (h0 : ¬ (a0 = 3)) (h1 : ¬ (a0 = 4)) (h2 : ¬ (a0 = 5)) (h3 : ¬ (a0 = 0)) (h4 : ¬ (a0 = 1)) (h5 : ¬ (a0 = 2)) (h6 : (0 : Int) ≤ a0) (h7 : a0 ≤ 5) : False := by omega
theorem oz845 {a0 a1 a2 : Int} (h0 : a0 < a1) (h1 : a2 ≤ a0) (h2 : a1 ≤ 50) (h3 : a2 = 50) : False := by omega
theorem oz846 {a0 : Int} (h0 : ¬ (a0 = 0)) (h1 : ¬ (a0 = 1)) (h2 : ¬ (a0 = 2)) (h3 : ¬ (a0 = 3)) (h4 : ¬ (a0 = 4)) (h5 : ¬ (a0 = 5)) (h6 : (0 : Int) ≤ a0) (h7 : a0 ≤ 5) : False := by omega
theorem oz847 {a0 : Int} (h0 : a0 = 2) : a0 ≤ 2 := by omega
theorem oz848 {a0 a1 a2 a3 : Int} (h0 : a0 ≤ a1) (h1 : a2 = a3 ∨ a2 = a0) (h2 : a1 = 60) (h3 : a3 = 0) : a2 ≤ 60 := by omega
theorem oz849 {a0 : Int} (h0 : ¬ (a0 = 2)) (h1 : ¬ (a0 = 3)) (h2 : ¬ (a0 = 4)) (h3 : ¬ (a0 = 5)) (h4 : ¬ (a0 = 0)) (h5 : ¬ (a0 = 1)) (h6 : (0 : Int) ≤ a0) (h7 : a0 ≤ 5) : False := by omega
theorem oz850 {a0 a1 a2 a3 a4 a5 : Int} (h0 : a0 ≤ 60) (h1 : a1 = a0 - a2) (h2 : (0 : Int) ≤ a3) (h3 : a3 ≤ 5) (h4 : a4 ≤ a5) (h5 : a5 ≤ a1) (h6 : a2 = 1) (h7 : a4 = 0) : (a4 < 0) ∨ ((a4 = 0) ∧ ((0 : Int) ≤ a3) ∧ (a3 ≤ 5) ∧ ((0 : Int) ≤ a5) ∧ (a5 ≤ 59)) := by omega
theorem oz851 {a0 a1 a2 : Int} (h0 : a0 = (-13)) : (a0 < 0) ∨ ((a0 = 0) ∧ ((0 : Int) ≤ a1) ∧ (a1 ≤ 5) ∧ ((0 : Int) ≤ a2) ∧ (a2 ≤ 59)) := by omega
theorem oz852 {a0 a1 a2 : Int} (h0 : a0 = (-12)) : (a0 < 0) ∨ ((a0 = 0) ∧ ((0 : Int) ≤ a1) ∧ (a1 ≤ 5) ∧ ((0 : Int) ≤ a2) ∧ (a2 ≤ 59)) := by omega
theorem oz853 {a0 a1 a2 : Int} (h0 : a0 = (-11)) : (a0 < 0) ∨ ((a0 = 0) ∧ ((0 : Int) ≤ a1) ∧ (a1 ≤ 5) ∧ ((0 : Int) ≤ a2) ∧ (a2 ≤ 59)) := by omega
theorem oz854 {a0 a1 a2 a3 a4 a5 : Int} (h0 : a0 ≤ 60) (h1 : a1 = a0 - a2) (h2 : a3 = 1) (h3 : a4 ≤ a5) (h4 : a5 ≤ a1) (h5 : a3 ≤ 5) (h6 : a2 = 1) (h7 : a4 = 0) : (a4 < 0) ∨ ((a4 = 0) ∧ ((0 : Int) ≤ a3) ∧ (a3 ≤ 5) ∧ ((0 : Int) ≤ a5) ∧ (a5 ≤ 59)) := by omega
theorem oz855 {a0 a1 a2 a3 a4 a5 : Int} (h0 : a0 ≤ 60) (h1 : a1 = a0 - a2) (h2 : a3 = 2) (h3 : a3 ≤ 5) (h4 : a4 ≤ a5) (h5 : a5 ≤ a1) (h6 : a2 = 1) (h7 : a4 = 0) : (a4 < 0) ∨ ((a4 = 0) ∧ ((0 : Int) ≤ a3) ∧ (a3 ≤ 5) ∧ ((0 : Int) ≤ a5) ∧ (a5 ≤ 59)) := by omega
theorem oz856 {a0 a1 a2 a3 a4 a5 : Int} (h0 : a0 ≤ 60) (h1 : a1 = a0 - a2) (h2 : a3 = 3) (h3 : a3 ≤ 5) (h4 : a4 ≤ a5) (h5 : a5 ≤ a1) (h6 : a2 = 1) (h7 : a4 = 0) : (a4 < 0) ∨ ((a4 = 0) ∧ ((0 : Int) ≤ a3) ∧ (a3 ≤ 5) ∧ ((0 : Int) ≤ a5) ∧ (a5 ≤ 59)) := by omega
theorem oz857 {a0 a1 a2 a3 a4 a5 : Int} (h0 : a0 ≤ 60) (h1 : a1 = a0 - a2) (h2 : a3 = 4) (h3 : a3 ≤ 5) (h4 : a4 ≤ a5) (h5 : a5 ≤ a1) (h6 : a2 = 1) (h7 : a4 = 0) : (a4 < 0) ∨ ((a4 = 0) ∧ ((0 : Int) ≤ a3) ∧ (a3 ≤ 5) ∧ ((0 : Int) ≤ a5) ∧ (a5 ≤ 59)) := by omega
theorem oz858 {a0 a1 a2 a3 a4 a5 : Int} (h0 : a0 ≤ 60) (h1 : a1 = a0 - a2) (h2 : a3 = 5) (h3 : a3 ≤ 5) (h4 : a4 ≤ a5) (h5 : a5 ≤ a1) (h6 : a2 = 1) (h7 : a4 = 0) : (a4 < 0) ∨ ((a4 = 0) ∧ ((0 : Int) ≤ a3) ∧ (a3 ≤ 5) ∧ ((0 : Int) ≤ a5) ∧ (a5 ≤ 59)) := by omega
theorem oz859 {a0 a1 a2 : Int} (h0 : a0 = (-1)) : (a0 < 0) ∨ ((a0 = 0) ∧ ((0 : Int) ≤ a1) ∧ (a1 ≤ 5) ∧ ((0 : Int) ≤ a2) ∧ (a2 ≤ 59)) := by omega
theorem oz860 {a0 a1 a2 a3 : Int} (h0 : a0 ≤ a1) (h1 : (a1 < 0) ∨ ((a1 = 0) ∧ ((0 : Int) ≤ a2) ∧ (a2 ≤ 5) ∧ ((0 : Int) ≤ a3) ∧ (a3 ≤ 59))) (h2 : a0 = 0) : (0 : Int) ≤ a2 ∧ a2 < 6 := by omega
theorem oz861 {a0 : Int} (h0 : a0 = 0) : (0 : Int) ≤ a0 ∧ a0 < 6 := by omega
theorem oz862 {a0 a1 a2 a3 : Int} (h0 : a0 ≤ a1) (h1 : (a1 < 0) ∨ ((a1 = 0) ∧ ((0 : Int) ≤ a2) ∧ (a2 ≤ 5) ∧ ((0 : Int) ≤ a3) ∧ (a3 ≤ 59))) (h2 : a0 = 0) : (0 : Int) ≤ a3 := by omega
theorem oz863 {a0 a1 a2 a3 : Int} (h0 : a0 ≤ a1) (h1 : (a1 < 0) ∨ ((a1 = 0) ∧ ((0 : Int) ≤ a2) ∧ (a2 ≤ 5) ∧ ((0 : Int) ≤ a3) ∧ (a3 ≤ 59))) (h2 : a0 = 0) : a3 < 60 := by omega
theorem oz864 {a0 : Int} (h0 : a0 = 0) (h1 : ¬ (a0 = 0)) : False := by omega
theorem oz865 {a0 : Int} (h0 : a0 = 1) : (0 : Int) ≤ a0 ∧ a0 < 6 := by omega
theorem oz866 {a0 : Int} (h0 : a0 = 2) : (0 : Int) ≤ a0 ∧ a0 < 6 := by omega
theorem oz867 {a0 : Int} (h0 : a0 = 3) : (0 : Int) ≤ a0 ∧ a0 < 6 := by omega
theorem oz868 {a0 : Int} (h0 : a0 = 4) : (0 : Int) ≤ a0 ∧ a0 < 6 := by omega
theorem oz869 {a0 : Int} (h0 : a0 = 5) : (0 : Int) ≤ a0 ∧ a0 < 6 := by omega
theorem oz870 {a0 a1 a2 a3 : Int} (h0 : a0 ≤ a1) (h1 : ¬ (a2 = 1)) (h2 : ¬ (a2 = 2)) (h3 : ¬ (a2 = 3)) (h4 : ¬ (a2 = 0)) (h5 : ¬ (a2 = 4)) (h6 : ¬ (a2 = 5)) (h7 : (a1 < 0) ∨ ((a1 = 0) ∧ ((0 : Int) ≤ a2) ∧ (a2 ≤ 5) ∧ ((0 : Int) ≤ a3) ∧ (a3 ≤ 59))) (h8 : a0 = 0) : False := by omega
theorem oz871 {a0 a1 a2 a3 : Int} (h0 : a0 ≤ a1) (h1 : ¬ (a2 = 0)) (h2 : ¬ (a2 = 1)) (h3 : ¬ (a2 = 2)) (h4 : ¬ (a2 = 3)) (h5 : ¬ (a2 = 4)) (h6 : ¬ (a2 = 5)) (h7 : (a1 < 0) ∨ ((a1 = 0) ∧ ((0 : Int) ≤ a2) ∧ (a2 ≤ 5) ∧ ((0 : Int) ≤ a3) ∧ (a3 ≤ 59))) (h8 : a0 = 0) : False := by omega
theorem oz872 {a0 a1 : Int} (h0 : a0 = a1) (h1 : a0 ≠ a1) (h2 : a0 ≤ 2) (h3 : a1 = 2) : False := by omega
theorem oz873 {a0 a1 a2 a3 : Int} (h0 : a0 < a1) (h1 : a1 = 0) : ¬ (((0 : Int) ≤ a0) ∧ (a0 ≤ a2) ∧ ((0 : Int) ≤ a3) ∧ ((a3 + a0) ≤ a2)) := by omega
theorem oz874 {a0 a1 a2 : Int} (h0 : a0 < a1) : ¬ (((0 : Int) ≤ a1) ∧ (a1 ≤ a0) ∧ ((0 : Int) ≤ a2) ∧ ((a2 + a1) ≤ a0)) := by omega
theorem oz875 {a0 a1 a2 a3 : Int} (h0 : a0 < a1) (h1 : a1 = 0) : ¬ (((0 : Int) ≤ a2) ∧ (a2 ≤ a3) ∧ ((0 : Int) ≤ a0) ∧ ((a0 + a2) ≤ a3)) := by omega
theorem oz876 {a0 a1 a2 : Int} (h0 : a0 ≤ a1) (h1 : a2 ≤ 60) (h2 : a0 = 0) : a2 - a1 ≤ 2147483647 := by omega
theorem oz877 {a0 a1 a2 a3 : Int} (h0 : a0 < a1) (h1 : a0 = a2 - a3) : ¬ (((0 : Int) ≤ a3) ∧ (a3 ≤ a2) ∧ ((0 : Int) ≤ a1) ∧ ((a1 + a3) ≤ a2)) := by omega
theorem oz878 {a0 a1 a2 a3 a4 : Int} (h0 : a0 ≤ a1) (h1 : a1 ≤ a2) (h2 : a0 ≤ a3) (h3 : a3 ≤ a4) (h4 : a4 = a2 - a1) (h5 : a0 = 0) : ((0 : Int) ≤ a1) ∧ (a1 ≤ a2) ∧ ((0 : Int) ≤ a3) ∧ ((a3 + a1) ≤ a2) := by omega
theorem oz879 {a0 a1 a2 : Int} (h0 : a0 ≤ 60) (h1 : (a1 + a2) ≤ a0) : a1 + a2 ≤ 60 := by omega
theorem oz880 {a0 : Int} (h0 : a0 ≠ a0) : False := by omega
theorem oz881 {a0 a1 : Int} (h0 : a0 = a1) (h1 : a0 ≠ a1) (h2 : (0 : Int) ≤ a0) (h3 : a1 = 0) : False := by omega
theorem oz882 {a0 a1 : Int} (h0 : a0 ≠ a1) (h1 : a0 = a1) (h2 : (0 : Int) ≤ a0) (h3 : a1 = 0) : False := by omega
theorem oz883 {a0 : Int} (h0 : ¬ (a0 = 1)) (h1 : ¬ (a0 = 2)) (h2 : ¬ (a0 = 3)) (h3 : ¬ (a0 = 4)) (h4 : ¬ (a0 = 0)) (h5 : ¬ (a0 = 5)) (h6 : (0 : Int) ≤ a0) (h7 : a0 ≤ 5) : False := by omega
theorem oz884 {a0 a1 : Int} (h0 : a0 ≤ 50) (h1 : a1 < a0) : a1 < 50 := by omega
/-! what is also kept: shelves of the reference, changes, the law's code -/
def kHold (i : Nat → Int32) (a : Nat → List Int32) : Prop := ∀ j : Nat, ((a 136).getD j 0).toInt ≤ 4 ∨ 10 ≤ ((a 136).getD j 0).toInt
theorem kHold_of {i i1 : Nat → Int32} {a a1 : Nat → List Int32} (h : kHold i a) (e : a1 136 = a 136) : kHold i1 a1 := fun j => by rw [e]; exact h j
def kCode (i : Nat → Int32) (a : Nat → List Int32) : Prop := True
theorem kCode_of {i i1 : Nat → Int32} {a a1 : Nat → List Int32} (h : kCode i a) (e0 : i1 7432 = i 7432) (e1 : a1 120 = a 120) (e2 : a1 121 = a 121) (e3 : a1 122 = a 122) (e4 : a1 123 = a 123) : kCode i1 a1 := trivial
def kChg (i : Nat → Int32) (a : Nat → List Int32) : Prop := True
theorem kChg_of {i i1 : Nat → Int32} {a a1 : Nat → List Int32} (h : kChg i a) (e : a1 133 = a 133) : kChg i1 a1 := trivial
