/-! LINEAR LEMMAS, by program: what callers need of numbers -/
theorem knm2000000000 : ((-2000000000) : Int32).toInt = (-2000000000) := by decide
theorem knm100 : ((-100) : Int32).toInt = (-100) := by decide
theorem knm14 : ((-14) : Int32).toInt = (-14) := by decide
theorem knm13 : ((-13) : Int32).toInt = (-13) := by decide
theorem knm12 : ((-12) : Int32).toInt = (-12) := by decide
theorem knm11 : ((-11) : Int32).toInt = (-11) := by decide
theorem knm5 : ((-5) : Int32).toInt = (-5) := by decide
theorem knm3 : ((-3) : Int32).toInt = (-3) := by decide
theorem knm2 : ((-2) : Int32).toInt = (-2) := by decide
theorem knm1 : ((-1) : Int32).toInt = (-1) := by decide
theorem kn0 : (0 : Int32).toInt = 0 := by decide
theorem kn1 : (1 : Int32).toInt = 1 := by decide
theorem kn2 : (2 : Int32).toInt = 2 := by decide
theorem kn3 : (3 : Int32).toInt = 3 := by decide
theorem kn4 : (4 : Int32).toInt = 4 := by decide
theorem kn5 : (5 : Int32).toInt = 5 := by decide
theorem kn6 : (6 : Int32).toInt = 6 := by decide
theorem kn7 : (7 : Int32).toInt = 7 := by decide
theorem kn8 : (8 : Int32).toInt = 8 := by decide
theorem kn9 : (9 : Int32).toInt = 9 := by decide
theorem kn10 : (10 : Int32).toInt = 10 := by decide
theorem kn11 : (11 : Int32).toInt = 11 := by decide
theorem kn12 : (12 : Int32).toInt = 12 := by decide
theorem kn13 : (13 : Int32).toInt = 13 := by decide
theorem kn14 : (14 : Int32).toInt = 14 := by decide
theorem kn15 : (15 : Int32).toInt = 15 := by decide
theorem kn16 : (16 : Int32).toInt = 16 := by decide
theorem kn17 : (17 : Int32).toInt = 17 := by decide
theorem kn18 : (18 : Int32).toInt = 18 := by decide
theorem kn19 : (19 : Int32).toInt = 19 := by decide
theorem kn20 : (20 : Int32).toInt = 20 := by decide
theorem kn21 : (21 : Int32).toInt = 21 := by decide
theorem kn22 : (22 : Int32).toInt = 22 := by decide
theorem kn23 : (23 : Int32).toInt = 23 := by decide
theorem kn24 : (24 : Int32).toInt = 24 := by decide
theorem kn25 : (25 : Int32).toInt = 25 := by decide
theorem kn26 : (26 : Int32).toInt = 26 := by decide
theorem kn27 : (27 : Int32).toInt = 27 := by decide
theorem kn28 : (28 : Int32).toInt = 28 := by decide
theorem kn29 : (29 : Int32).toInt = 29 := by decide
theorem kn30 : (30 : Int32).toInt = 30 := by decide
theorem kn31 : (31 : Int32).toInt = 31 := by decide
theorem kn32 : (32 : Int32).toInt = 32 := by decide
theorem kn33 : (33 : Int32).toInt = 33 := by decide
theorem kn37 : (37 : Int32).toInt = 37 := by decide
theorem kn38 : (38 : Int32).toInt = 38 := by decide
theorem kn39 : (39 : Int32).toInt = 39 := by decide
theorem kn40 : (40 : Int32).toInt = 40 := by decide
theorem kn41 : (41 : Int32).toInt = 41 := by decide
theorem kn42 : (42 : Int32).toInt = 42 := by decide
theorem kn43 : (43 : Int32).toInt = 43 := by decide
theorem kn45 : (45 : Int32).toInt = 45 := by decide
theorem kn47 : (47 : Int32).toInt = 47 := by decide
theorem kn48 : (48 : Int32).toInt = 48 := by decide
theorem kn50 : (50 : Int32).toInt = 50 := by decide
theorem kn57 : (57 : Int32).toInt = 57 := by decide
theorem kn59 : (59 : Int32).toInt = 59 := by decide
theorem kn60 : (60 : Int32).toInt = 60 := by decide
theorem kn61 : (61 : Int32).toInt = 61 := by decide
theorem kn62 : (62 : Int32).toInt = 62 := by decide
theorem kn63 : (63 : Int32).toInt = 63 := by decide
theorem kn64 : (64 : Int32).toInt = 64 := by decide
theorem kn70 : (70 : Int32).toInt = 70 := by decide
theorem kn80 : (80 : Int32).toInt = 80 := by decide
theorem kn81 : (81 : Int32).toInt = 81 := by decide
theorem kn99 : (99 : Int32).toInt = 99 := by decide
theorem kn100 : (100 : Int32).toInt = 100 := by decide
theorem kn101 : (101 : Int32).toInt = 101 := by decide
theorem kn102 : (102 : Int32).toInt = 102 := by decide
theorem kn103 : (103 : Int32).toInt = 103 := by decide
theorem kn104 : (104 : Int32).toInt = 104 := by decide
theorem kn105 : (105 : Int32).toInt = 105 := by decide
theorem kn106 : (106 : Int32).toInt = 106 := by decide
theorem kn107 : (107 : Int32).toInt = 107 := by decide
theorem kn108 : (108 : Int32).toInt = 108 := by decide
theorem kn109 : (109 : Int32).toInt = 109 := by decide
theorem kn110 : (110 : Int32).toInt = 110 := by decide
theorem kn111 : (111 : Int32).toInt = 111 := by decide
theorem kn112 : (112 : Int32).toInt = 112 := by decide
theorem kn113 : (113 : Int32).toInt = 113 := by decide
theorem kn114 : (114 : Int32).toInt = 114 := by decide
theorem kn115 : (115 : Int32).toInt = 115 := by decide
theorem kn116 : (116 : Int32).toInt = 116 := by decide
theorem kn117 : (117 : Int32).toInt = 117 := by decide
theorem kn118 : (118 : Int32).toInt = 118 := by decide
theorem kn119 : (119 : Int32).toInt = 119 := by decide
theorem kn120 : (120 : Int32).toInt = 120 := by decide
theorem kn121 : (121 : Int32).toInt = 121 := by decide
theorem kn124 : (124 : Int32).toInt = 124 := by decide
theorem kn126 : (126 : Int32).toInt = 126 := by decide
theorem kn156 : (156 : Int32).toInt = 156 := by decide
theorem kn255 : (255 : Int32).toInt = 255 := by decide
theorem kn999 : (999 : Int32).toInt = 999 := by decide
theorem kn1000 : (1000 : Int32).toInt = 1000 := by decide
theorem kn10000 : (10000 : Int32).toInt = 10000 := by decide
theorem kn12345 : (12345 : Int32).toInt = 12345 := by decide
theorem kn1103515245 : (1103515245 : Int32).toInt = 1103515245 := by decide
theorem knL0 : (0 : Int64).toInt = 0 := by decide
theorem knL3 : (3 : Int64).toInt = 3 := by decide
theorem oz0 {a0 a1 a2 : Int} (h0 : a0 < a1) : ¬ ((a1 ≤ a0) ∧ (a0 ≤ a2)) := by omega
theorem oz1 {a0 a1 a2 : Int} (h0 : a0 < a1) : ¬ ((a2 ≤ a1) ∧ (a1 ≤ a0)) := by omega
theorem oz2 {a0 a1 a2 : Int} (h0 : a0 ≤ a1) (h1 : a1 ≤ a2) : (a0 ≤ a1) ∧ (a1 ≤ a2) := by omega
theorem oz3 {a0 : Int} (h0 : (0 : Int) ≤ a0) : (0 : Int) ≤ a0 := by omega
theorem oz4 {a0 : Int} (h0 : a0 ≤ 8) : a0 < 31 := by omega
theorem oz5 {a0 a1 : Int} (h0 : a0 ≤ 8) : a0 = 18 → (0 : Int) ≤ a1 ∧ a1 ≤ 5 := by omega
theorem oz6 {a0 a1 : Int} (h0 : a0 ≤ 8) : 19 ≤ a0 → a0 ≤ 24 → (0 : Int) ≤ a1 ∧ a1 ≤ 7 := by omega
theorem oz7 {a0 : Int} (h0 : a0 ≤ 8) : a0 < 24 := by omega
theorem oz8 {a0 a1 : Int} (h0 : (0 : Int) ≤ a0) (h1 : a1 = 8) : (-2147483648 : Int) ≤ a1 + a0 := by omega
theorem oz9 {a0 a1 : Int} (h0 : a0 ≤ 8) (h1 : a1 = 8) : a1 + a0 ≤ 2147483647 := by omega
theorem oz10 {a0 a1 a2 : Int} (h0 : (0 : Int) ≤ a0) (h1 : a1 = a2 + a0) (h2 : a2 = 8) : (0 : Int) ≤ a1 := by omega
theorem oz11 {a0 a1 a2 : Int} (h0 : a0 ≤ 8) (h1 : a1 = a2 + a0) (h2 : a2 = 8) : a1 < 24 := by omega
theorem oz12 {a0 a1 : Int} (h0 : (0 : Int) ≤ a0) (h1 : a1 = 1) : (-2147483648 : Int) ≤ a0 + a1 := by omega
theorem oz13 {a0 a1 : Int} (h0 : a0 ≤ 8) (h1 : a1 = 1) : a0 + a1 ≤ 2147483647 := by omega
theorem oz14 {a0 a1 a2 : Int} (h0 : (0 : Int) ≤ a0) (h1 : a1 = a0 + a2) (h2 : a2 = 1) : (0 : Int) ≤ a1 := by omega
theorem oz15 {a0 a1 a2 : Int} (h0 : a0 ≤ 7) (h1 : a1 = a0 + a2) (h2 : a2 = 1) : a1 ≤ 8 := by omega
theorem oz16 {a0 a1 : Int} (h0 : a0 ≠ a1) (h1 : a0 ≤ 8) (h2 : a1 = 8) : a0 ≤ 7 := by omega
theorem oz17 {a0 a1 a2 : Int} (h0 : a0 ≤ a1) (h1 : a1 ≤ a2) (h2 : a0 = 0) (h3 : a2 = 5) : ((0 : Int) ≤ a1) ∧ (a1 ≤ 5) := by omega
theorem oz18 {a0 a1 a2 : Int} (h0 : ¬ ((a0 ≤ a1) ∧ (a1 ≤ a2))) (h1 : a0 = 0) (h2 : a2 = 5) : ¬ (((0 : Int) ≤ a1) ∧ (a1 ≤ 5)) := by omega
theorem oz19 {a0 : Int} (h0 : a0 ≤ 5) : a0 < 6 := by omega
theorem oz20 {a0 a1 : Int} (h0 : (0 : Int) ≤ a0) (h1 : a1 = a0) : (-9223372036854775808 : Int) ≤ 3 * a1 := by omega
theorem oz21 {a0 a1 : Int} (h0 : a0 ≤ 2147483647) (h1 : a1 = a0) : 3 * a1 ≤ 9223372036854775807 := by omega
theorem oz22 {a0 a1 a2 a3 a4 : Int} (h0 : (-2147483648 : Int) ≤ a0) (h1 : (0 : Int) ≤ a1) (h2 : a2 = a0) (h3 : a3 = a1) (h4 : a4 = 3 * a3) : (-9223372036854775808 : Int) ≤ a2 + a4 := by omega
theorem oz23 {a0 a1 a2 a3 a4 : Int} (h0 : a0 ≤ 2147483647) (h1 : a1 ≤ 2147483647) (h2 : a2 = a0) (h3 : a3 = a1) (h4 : a4 = 3 * a3) : a2 + a4 ≤ 9223372036854775807 := by omega
theorem oz24 {a0 a1 a2 a3 a4 a5 a6 : Int} (h0 : (-2147483648 : Int) ≤ a0) (h1 : (0 : Int) ≤ a1) (h2 : a2 = a0) (h3 : a3 = a1) (h4 : a4 = 3 * a3) (h5 : a5 = a2 + a4) (h6 : a6 = 3) : (-9223372036854775808 : Int) ≤ a5 + a6 := by omega
theorem oz25 {a0 a1 a2 a3 a4 a5 a6 : Int} (h0 : a0 ≤ 2147483647) (h1 : a1 ≤ 2147483647) (h2 : a2 = a0) (h3 : a3 = a1) (h4 : a4 = 3 * a3) (h5 : a5 = a2 + a4) (h6 : a6 = 3) : a5 + a6 ≤ 9223372036854775807 := by omega
theorem oz26 {a0 a1 a2 a3 a4 a5 : Int} (h0 : (-2147483648 : Int) ≤ a0) (h1 : (0 : Int) ≤ a1) (h2 : a2 = a0) (h3 : a3 = a1) (h4 : a4 = 3 * a3) (h5 : a5 = a2 + a4) : (-2147483648 : Int) ≤ a5 := by omega
theorem oz27 {a0 a1 a2 a3 a4 a5 a6 : Int} (h0 : a0 ≤ a1) (h1 : a2 ≤ 60) (h2 : a3 = a4 + a5) (h3 : a6 = a2) (h4 : (0 < a0 ↔ a6 < a3)) (h5 : a1 = 0) (h6 : a5 = 3) : a4 ≤ 2147483647 := by omega
theorem oz28 {a0 : Int} (h0 : (0 : Int) ≤ a0) : (-2147483648 : Int) ≤ 60 * a0 := by omega
theorem oz29 {a0 : Int} (h0 : a0 ≤ 5) : 60 * a0 ≤ 2147483647 := by omega
theorem oz30 {a0 a1 a2 : Int} (h0 : (0 : Int) ≤ a0) (h1 : (0 : Int) ≤ a1) (h2 : a2 = 60 * a0) : (-2147483648 : Int) ≤ a2 + a1 := by omega
theorem oz31 {a0 a1 a2 : Int} (h0 : a0 ≤ 5) (h1 : a1 ≤ 59) (h2 : a2 = 60 * a0) : a2 + a1 ≤ 2147483647 := by omega
theorem oz32 {a0 a1 a2 a3 : Int} (h0 : (0 : Int) ≤ a0) (h1 : (0 : Int) ≤ a1) (h2 : a2 = 60 * a0) (h3 : a3 = a2 + a1) : (0 : Int) ≤ a3 := by omega
theorem oz33 {a0 a1 a2 a3 : Int} (h0 : a0 ≤ 5) (h1 : a1 ≤ 59) (h2 : a2 = 60 * a0) (h3 : a3 = a2 + a1) : a3 < 360 := by omega
theorem oz34 {a0 : Int}  : a0 = a0 := by omega
theorem oz35 {a0 : Int} (h0 : (0 : Int) ≤ a0) (h1 : a0 ≤ 5) : ((0 : Int) ≤ a0) ∧ (a0 ≤ 5) := by omega
theorem oz36 {a0 a1 a2 a3 a4 a5 a6 a7 a8 a9 : Int} (h0 : a0 ≤ a1) (h1 : a2 ≤ a0) (h2 : a3 ≤ 60) (h3 : (a1 < 0 ↔ a4 < a5)) (h4 : a6 = a4 + a7) (h5 : a8 = a3) (h6 : (0 < a2 ↔ a8 < a6)) (h7 : a9 = a4) (h8 : a0 = 0) (h9 : a5 = 0) (h10 : a7 = 3) : ((0 : Int) ≤ a9) ∧ (a9 ≤ 59) := by omega
theorem oz37 {a0 a1 a2 a3 a4 a5 a6 a7 : Int} (h0 : (-2147483648 : Int) ≤ a0) (h1 : (0 : Int) ≤ a1) (h2 : a2 = a0) (h3 : a3 = a1) (h4 : a4 = 3 * a3) (h5 : a5 = a2 + a4) (h6 : a6 = a5) (h7 : a7 = 1) : (-2147483648 : Int) ≤ a6 + a7 := by omega
theorem oz38 {a0 a1 a2 a3 a4 a5 a6 a7 a8 : Int} (h0 : a0 ≤ a1) (h1 : a2 ≤ 60) (h2 : a3 = a4 + a5) (h3 : a6 = a2) (h4 : (0 < a0 ↔ a6 < a3)) (h5 : a7 = a4) (h6 : a1 = 0) (h7 : a5 = 3) (h8 : a8 = 1) : a7 + a8 ≤ 2147483647 := by omega
theorem oz39 {a0 a1 a2 a3 a4 a5 a6 a7 a8 a9 a10 a11 : Int} (h0 : a0 ≤ a1) (h1 : a2 ≤ a0) (h2 : a3 ≤ 60) (h3 : (a1 < 0 ↔ a4 < a5)) (h4 : a6 = a4 + a7) (h5 : a8 = a3) (h6 : (0 < a2 ↔ a8 < a6)) (h7 : a9 = a4) (h8 : a10 = a9 + a11) (h9 : a0 = 0) (h10 : a5 = 0) (h11 : a7 = 3) (h12 : a11 = 1) : ((0 : Int) ≤ a10) ∧ (a10 ≤ 59) := by omega
theorem oz40 {a0 a1 a2 a3 a4 a5 a6 a7 : Int} (h0 : (-2147483648 : Int) ≤ a0) (h1 : (0 : Int) ≤ a1) (h2 : a2 = a0) (h3 : a3 = a1) (h4 : a4 = 3 * a3) (h5 : a5 = a2 + a4) (h6 : a6 = a5) (h7 : a7 = 2) : (-2147483648 : Int) ≤ a6 + a7 := by omega
theorem oz41 {a0 a1 a2 a3 a4 a5 a6 a7 a8 : Int} (h0 : a0 ≤ a1) (h1 : a2 ≤ 60) (h2 : a3 = a4 + a5) (h3 : a6 = a2) (h4 : (0 < a0 ↔ a6 < a3)) (h5 : a7 = a4) (h6 : a1 = 0) (h7 : a5 = 3) (h8 : a8 = 2) : a7 + a8 ≤ 2147483647 := by omega
theorem oz42 {a0 a1 a2 a3 a4 a5 a6 a7 a8 a9 a10 a11 : Int} (h0 : a0 ≤ a1) (h1 : a2 ≤ a0) (h2 : a3 ≤ 60) (h3 : (a1 < 0 ↔ a4 < a5)) (h4 : a6 = a4 + a7) (h5 : a8 = a3) (h6 : (0 < a2 ↔ a8 < a6)) (h7 : a9 = a4) (h8 : a10 = a9 + a11) (h9 : a0 = 0) (h10 : a5 = 0) (h11 : a7 = 3) (h12 : a11 = 2) : ((0 : Int) ≤ a10) ∧ (a10 ≤ 59) := by omega
theorem oz43 {a0 a1 a2 a3 : Int} (h0 : a0 < a1) (h1 : a1 ≤ a2) (h2 : a2 = 8) (h3 : a3 = 1) : a0 + a3 ≤ 2147483647 := by omega
theorem oz44 {a0 a1 a2 a3 : Int} (h0 : a0 = a1 + a2) (h1 : a2 = 1) : (a3 - a0) < (a3 - a1) := by omega
theorem oz45 {a0 a1 : Int} (h0 : a0 < a1) : (1 : Int) ≤ (a1 - a0) := by omega
theorem oz46 {a0 : Int} (h0 : a0 = 0) : (0 : Int) ≤ a0 := by omega
theorem oz47 {a0 a1 : Int} (h0 : (0 : Int) ≤ a0) (h1 : a1 = 1) : (-2147483648 : Int) ≤ a0 - a1 := by omega
theorem oz48 {a0 a1 : Int} (h0 : a0 ≤ 8) (h1 : a1 = 1) : a0 - a1 ≤ 2147483647 := by omega
theorem oz49 {a0 a1 a2 a3 a4 : Int} (h0 : a0 = a1 - a2) (h1 : a3 ≤ a4) (h2 : a4 ≤ a0) (h3 : a2 = 1) (h4 : a3 = 0) : ((0 : Int) ≤ a4) ∧ (a4 < a1) := by omega
theorem oz50 {a0 a1 a2 a3 a4 : Int} (h0 : a0 = a1 - a2) (h1 : ¬ ((a3 ≤ a4) ∧ (a4 ≤ a0))) (h2 : a2 = 1) (h3 : a3 = 0) : ¬ (((0 : Int) ≤ a4) ∧ (a4 < a1)) := by omega
theorem oz51 {a0 a1 a2 a3 a4 : Int} (h0 : a0 ≤ a1) (h1 : a1 ≤ a2) (h2 : (0 : Int) ≤ a3) (h3 : a3 < a4) (h4 : a0 = 0) (h5 : a2 = 3) : (((0 : Int) ≤ a1) ∧ (a1 ≤ 3) ∧ ((0 : Int) ≤ a3) ∧ (a3 < a4)) ∨ (((4 : Int) ≤ a1) ∧ (a1 ≤ 6) ∧ (a3 = 0)) := by omega
theorem oz52 {a0 a1 a2 a3 : Int} (h0 : a0 ≤ a1) (h1 : ¬ (((0 : Int) ≤ a2) ∧ (a2 < a3))) (h2 : a1 = 3) : ¬ ((((0 : Int) ≤ a0) ∧ (a0 ≤ 3) ∧ ((0 : Int) ≤ a2) ∧ (a2 < a3)) ∨ (((4 : Int) ≤ a0) ∧ (a0 ≤ 6) ∧ (a2 = 0))) := by omega
theorem oz53 {a0 a1 a2 a3 a4 : Int} (h0 : a0 ≠ a1) (h1 : a2 ≤ a3) (h2 : a1 = 0) (h3 : a2 = 4) : ¬ ((((0 : Int) ≤ a3) ∧ (a3 ≤ 3) ∧ ((0 : Int) ≤ a0) ∧ (a0 < a4)) ∨ (((4 : Int) ≤ a3) ∧ (a3 ≤ 6) ∧ (a0 = 0))) := by omega
theorem oz54 {a0 a1 a2 a3 a4 a5 : Int} (h0 : a0 = a1) (h1 : a2 ≤ a3) (h2 : a3 ≤ a4) (h3 : a1 = 0) (h4 : a2 = 4) (h5 : a4 = 6) : (((0 : Int) ≤ a3) ∧ (a3 ≤ 3) ∧ ((0 : Int) ≤ a0) ∧ (a0 < a5)) ∨ (((4 : Int) ≤ a3) ∧ (a3 ≤ 6) ∧ (a0 = 0)) := by omega
theorem oz55 {a0 a1 a2 a3 a4 a5 a6 : Int} (h0 : ¬ ((a0 ≤ a1) ∧ (a1 ≤ a2))) (h1 : ¬ ((a3 ≤ a1) ∧ (a1 ≤ a4))) (h2 : a0 = 4) (h3 : a2 = 6) (h4 : a3 = 0) (h5 : a4 = 3) : ¬ ((((0 : Int) ≤ a1) ∧ (a1 ≤ 3) ∧ ((0 : Int) ≤ a5) ∧ (a5 < a6)) ∨ (((4 : Int) ≤ a1) ∧ (a1 ≤ 6) ∧ (a5 = 0))) := by omega
theorem oz56 {a0 a1 : Int} (h0 : a0 = 0) : ((a0 = 4) → (((1 : Int) ≤ a1) ∧ (a1 ≤ 5))) := by omega
theorem oz57 {a0 a1 : Int} (h0 : a0 = 1) : ((a0 = 4) → (((1 : Int) ≤ a1) ∧ (a1 ≤ 5))) := by omega
theorem oz58 {a0 a1 : Int} (h0 : a0 = 2) : ((a0 = 4) → (((1 : Int) ≤ a1) ∧ (a1 ≤ 5))) := by omega
theorem oz59 {a0 a1 : Int} (h0 : a0 = 3) : ((a0 = 4) → (((1 : Int) ≤ a1) ∧ (a1 ≤ 5))) := by omega
theorem oz60 {a0 a1 a2 a3 : Int} (h0 : a0 ≤ a1) (h1 : a1 ≤ a2) (h2 : a0 = 1) (h3 : a2 = 5) : ((a3 = 4) → (((1 : Int) ≤ a1) ∧ (a1 ≤ 5))) := by omega
theorem oz61 {a0 a1 : Int} (h0 : a0 = 5) : ((a0 = 4) → (((1 : Int) ≤ a1) ∧ (a1 ≤ 5))) := by omega
theorem oz62 {a0 a1 : Int} (h0 : a0 = 6) : ((a0 = 4) → (((1 : Int) ≤ a1) ∧ (a1 ≤ 5))) := by omega
theorem oz63 {a0 : Int} (h0 : ¬ (a0 = 0)) (h1 : ¬ (a0 = 1)) (h2 : ¬ (a0 = 2)) (h3 : ¬ (a0 = 3)) (h4 : ¬ (a0 = 4)) (h5 : ¬ (a0 = 5)) (h6 : ¬ (a0 = 6)) : a0 < 0 ∨ 6 < a0 := by omega
theorem oz64 {a0 a1 a2 : Int} (h0 : ¬ (a0 = 4)) (h1 : a1 ≤ a2) (h2 : a2 = 1) : ((a0 = 4) → (((1 : Int) ≤ a1) ∧ (a1 ≤ 5))) := by omega
theorem oz65 {a0 : Int} (h0 : a0 ≤ 7) : a0 < 31 := by omega
theorem oz66 {a0 : Int} (h0 : a0 = 1) : (-2147483648 : Int) ≤ 8 * a0 := by omega
theorem oz67 {a0 : Int} (h0 : a0 ≤ 6) : 8 * a0 ≤ 2147483647 := by omega
theorem oz68 {a0 a1 a2 : Int} (h0 : a0 = 8 * a1) (h1 : a1 = 1) (h2 : a2 = 8) : (-2147483648 : Int) ≤ a0 - a2 := by omega
theorem oz69 {a0 a1 a2 : Int} (h0 : a0 ≤ 6) (h1 : a1 = 8 * a0) (h2 : a2 = 8) : a1 - a2 ≤ 2147483647 := by omega
theorem oz70 {a0 a1 a2 a3 a4 : Int} (h0 : (0 : Int) ≤ a0) (h1 : (0 : Int) ≤ a1) (h2 : a2 = 8 * a1) (h3 : a3 = a2 - a4) (h4 : a4 = 8) : (-2147483648 : Int) ≤ a3 + a0 := by omega
theorem oz71 {a0 a1 a2 a3 a4 : Int} (h0 : a0 ≤ 7) (h1 : a1 ≤ 6) (h2 : a2 = 8 * a1) (h3 : a3 = a2 - a4) (h4 : a4 = 8) : a3 + a0 ≤ 2147483647 := by omega
theorem oz72 {a0 a1 a2 a3 a4 a5 : Int} (h0 : (0 : Int) ≤ a0) (h1 : a1 = 8 * a2) (h2 : a3 = a1 - a4) (h3 : a5 = a3 + a0) (h4 : a2 = 1) (h5 : a4 = 8) : (0 : Int) ≤ a5 := by omega
theorem oz73 {a0 a1 a2 a3 a4 a5 : Int} (h0 : a0 ≤ 7) (h1 : a1 = 8 * a2) (h2 : a3 = a1 - a4) (h3 : a5 = a3 + a0) (h4 : a2 = 1) (h5 : a4 = 8) : a5 < 24 := by omega
theorem oz74 {a0 : Int} (h0 : a0 = 2) : (-2147483648 : Int) ≤ 8 * a0 := by omega
theorem oz75 {a0 a1 a2 : Int} (h0 : a0 = 8 * a1) (h1 : a1 = 2) (h2 : a2 = 8) : (-2147483648 : Int) ≤ a0 - a2 := by omega
theorem oz76 {a0 a1 a2 a3 a4 : Int} (h0 : (0 : Int) ≤ a0) (h1 : a1 = 8 * a2) (h2 : a3 = a1 - a4) (h3 : a2 = 2) (h4 : a4 = 8) : (-2147483648 : Int) ≤ a3 + a0 := by omega
theorem oz77 {a0 a1 a2 a3 a4 a5 : Int} (h0 : (0 : Int) ≤ a0) (h1 : a1 = a2 + a0) (h2 : a3 = 8 * a4) (h3 : a2 = a3 - a5) (h4 : a4 = 2) (h5 : a5 = 8) : (0 : Int) ≤ a1 := by omega
theorem oz78 {a0 a1 a2 a3 a4 a5 : Int} (h0 : a0 ≤ 7) (h1 : a1 = a2 + a0) (h2 : a3 = 8 * a4) (h3 : a2 = a3 - a5) (h4 : a4 = 2) (h5 : a5 = 8) : a1 < 24 := by omega
theorem oz79 {a0 : Int} (h0 : a0 = 3) : (-2147483648 : Int) ≤ 8 * a0 := by omega
theorem oz80 {a0 a1 a2 : Int} (h0 : a0 = 8 * a1) (h1 : a1 = 3) (h2 : a2 = 8) : (-2147483648 : Int) ≤ a0 - a2 := by omega
theorem oz81 {a0 a1 a2 a3 a4 : Int} (h0 : (0 : Int) ≤ a0) (h1 : a1 = 8 * a2) (h2 : a3 = a1 - a4) (h3 : a2 = 3) (h4 : a4 = 8) : (-2147483648 : Int) ≤ a3 + a0 := by omega
theorem oz82 {a0 a1 a2 a3 a4 a5 : Int} (h0 : (0 : Int) ≤ a0) (h1 : a1 = 8 * a2) (h2 : a3 = a1 - a4) (h3 : a5 = a3 + a0) (h4 : a2 = 3) (h5 : a4 = 8) : (0 : Int) ≤ a5 := by omega
theorem oz83 {a0 a1 a2 a3 a4 a5 : Int} (h0 : a0 ≤ 7) (h1 : a1 = 8 * a2) (h2 : a3 = a1 - a4) (h3 : a5 = a3 + a0) (h4 : a2 = 3) (h5 : a4 = 8) : a5 < 24 := by omega
theorem oz84 {a0 a1 : Int} (h0 : (1 : Int) ≤ a0) (h1 : a0 ≤ 5) : ((a1 = 4) → (((1 : Int) ≤ a0) ∧ (a0 ≤ 5))) := by omega
theorem oz85 {a0 : Int} (h0 : a0 = 8) : (0 : Int) ≤ a0 := by omega
theorem oz86 {a0 : Int} (h0 : a0 = 8) : a0 < 31 := by omega
theorem oz87 {a0 : Int} (h0 : (0 : Int) ≤ a0) (h1 : a0 ≤ 6) (h2 : ¬ (a0 = 0)) (h3 : ¬ (a0 = 3)) (h4 : ¬ (a0 = 4)) (h5 : ¬ (a0 = 5)) (h6 : ¬ (a0 = 6)) (h7 : ¬ (a0 = 1)) (h8 : ¬ (a0 = 2)) : False := by omega
theorem oz88 {a0 a1 a2 : Int} (h0 : a0 ≤ 8) (h1 : (((0 : Int) ≤ a1) ∧ (a1 ≤ 3) ∧ ((0 : Int) ≤ a2) ∧ (a2 < a0)) ∨ (((4 : Int) ≤ a1) ∧ (a1 ≤ 6) ∧ (a2 = 0))) : ((0 : Int) ≤ a2) ∧ (a2 ≤ 7) := by omega
theorem oz89 {a0 a1 a2 : Int} (h0 : (((0 : Int) ≤ a0) ∧ (a0 ≤ 3) ∧ ((0 : Int) ≤ a1) ∧ (a1 < a2)) ∨ (((4 : Int) ≤ a0) ∧ (a0 ≤ 6) ∧ (a1 = 0))) : ((0 : Int) ≤ a0) ∧ (a0 ≤ 6) := by omega
theorem oz90 {a0 a1 : Int} (h0 : a0 ≤ 7) : a0 = 18 → (0 : Int) ≤ a1 ∧ a1 ≤ 5 := by omega
theorem oz91 {a0 a1 : Int} (h0 : a0 ≤ 7) : 19 ≤ a0 → a0 ≤ 24 → (0 : Int) ≤ a1 ∧ a1 ≤ 7 := by omega
theorem oz92 {a0 a1 a2 a3 a4 : Int} (h0 : (0 : Int) ≤ a0) (h1 : a1 = a2 - a3) (h2 : a2 = 8 * a4) (h3 : a4 = 2) (h4 : a3 = 8) : (-2147483648 : Int) ≤ a1 + a0 := by omega
theorem oz93 {a0 a1 a2 a3 a4 : Int} (h0 : a0 ≤ 7) (h1 : a1 ≤ 6) (h2 : a2 = a3 - a4) (h3 : a3 = 8 * a1) (h4 : a4 = 8) : a2 + a0 ≤ 2147483647 := by omega
theorem oz94 {a0 a1 a2 a3 a4 a5 : Int} (h0 : (0 : Int) ≤ a0) (h1 : a1 = a2 - a3) (h2 : a4 = a1 + a0) (h3 : a2 = 8 * a5) (h4 : a5 = 2) (h5 : a3 = 8) : (0 : Int) ≤ a4 := by omega
theorem oz95 {a0 a1 a2 a3 a4 a5 : Int} (h0 : a0 ≤ 7) (h1 : a1 = a2 - a3) (h2 : a4 = a1 + a0) (h3 : a2 = 8 * a5) (h4 : a5 = 2) (h5 : a3 = 8) : a4 < 24 := by omega
theorem oz96 {a0 a1 : Int} (h0 : ((a0 = 4) → (((1 : Int) ≤ a1) ∧ (a1 ≤ 5)))) (h1 : a0 = 4) : (1 : Int) ≤ a1 := by omega
theorem oz97 {a0 a1 : Int} (h0 : ((a0 = 4) → (((1 : Int) ≤ a1) ∧ (a1 ≤ 5)))) (h1 : a0 = 4) : a1 ≤ 5 := by omega
theorem oz98 {a0 a1 : Int} (h0 : a0 = 8) : a0 = 18 → (0 : Int) ≤ a1 ∧ a1 ≤ 5 := by omega
theorem oz99 {a0 a1 : Int} (h0 : a0 = 8) : 19 ≤ a0 → a0 ≤ 24 → (0 : Int) ≤ a1 ∧ a1 ≤ 7 := by omega
theorem oz100 {a0 a1 : Int} (h0 : ((a0 = 4) → (((1 : Int) ≤ a1) ∧ (a1 ≤ 5)))) : ((a0 = 4) → (((1 : Int) ≤ a1) ∧ (a1 ≤ 5))) := by omega
theorem oz101 {a0 : Int} (h0 : (0 : Int) ≤ a0) : (-2147483648 : Int) ≤ 4 * a0 := by omega
theorem oz102 {a0 : Int} (h0 : a0 ≤ 40) : 4 * a0 ≤ 2147483647 := by omega
theorem oz103 {a0 a1 : Int} (h0 : (0 : Int) ≤ a0) (h1 : a1 = 4 * a0) : (0 : Int) ≤ a1 := by omega
theorem oz104 {a0 a1 a2 : Int} (h0 : a0 ≠ a1) (h1 : a0 ≤ 40) (h2 : a2 = 4 * a0) (h3 : a1 = 40) : a2 < 160 := by omega
theorem oz105 {a0 a1 a2 a3 : Int} (h0 : a0 ≤ 8) (h1 : (((0 : Int) ≤ a1) ∧ (a1 ≤ 3) ∧ ((0 : Int) ≤ a2) ∧ (a2 < a0)) ∨ (((4 : Int) ≤ a1) ∧ (a1 ≤ 6) ∧ (a2 = 0))) : (a3 % 4) = 0 → (0 : Int) ≤ a2 ∧ a2 ≤ 7 := by omega
theorem oz106 {a0 a1 a2 : Int} (h0 : (0 : Int) ≤ a0) (h1 : a1 = 4 * a0) (h2 : a2 = 1) : (-2147483648 : Int) ≤ a1 + a2 := by omega
theorem oz107 {a0 a1 a2 : Int} (h0 : a0 ≤ 40) (h1 : a1 = 4 * a0) (h2 : a2 = 1) : a1 + a2 ≤ 2147483647 := by omega
theorem oz108 {a0 a1 a2 a3 : Int} (h0 : (0 : Int) ≤ a0) (h1 : a1 = 4 * a0) (h2 : a2 = a1 + a3) (h3 : a3 = 1) : (0 : Int) ≤ a2 := by omega
theorem oz109 {a0 a1 a2 a3 a4 : Int} (h0 : a0 ≠ a1) (h1 : a0 ≤ 40) (h2 : a2 = 4 * a0) (h3 : a3 = a2 + a4) (h4 : a1 = 40) (h5 : a4 = 1) : a3 < 160 := by omega
theorem oz110 {a0 a1 a2 a3 : Int} (h0 : (((0 : Int) ≤ a0) ∧ (a0 ≤ 3) ∧ ((0 : Int) ≤ a1) ∧ (a1 < a2)) ∨ (((4 : Int) ≤ a0) ∧ (a0 ≤ 6) ∧ (a1 = 0))) : (a3 % 4) = 0 → (0 : Int) ≤ a0 ∧ a0 ≤ 7 := by omega
theorem oz111 {a0 a1 a2 a3 : Int} (h0 : (((0 : Int) ≤ a0) ∧ (a0 ≤ 3) ∧ ((0 : Int) ≤ a1) ∧ (a1 < a2)) ∨ (((4 : Int) ≤ a0) ∧ (a0 ≤ 6) ∧ (a1 = 0))) : (a3 % 4) = 1 → (0 : Int) ≤ a0 ∧ a0 ≤ 6 := by omega
theorem oz112 {a0 a1 a2 : Int} (h0 : (0 : Int) ≤ a0) (h1 : a1 = 4 * a0) (h2 : a2 = 2) : (-2147483648 : Int) ≤ a1 + a2 := by omega
theorem oz113 {a0 a1 a2 : Int} (h0 : a0 ≤ 40) (h1 : a1 = 4 * a0) (h2 : a2 = 2) : a1 + a2 ≤ 2147483647 := by omega
theorem oz114 {a0 a1 a2 a3 : Int} (h0 : (0 : Int) ≤ a0) (h1 : a1 = 4 * a0) (h2 : a2 = a1 + a3) (h3 : a3 = 2) : (0 : Int) ≤ a2 := by omega
theorem oz115 {a0 a1 a2 a3 a4 : Int} (h0 : a0 ≠ a1) (h1 : a0 ≤ 40) (h2 : a2 = 4 * a0) (h3 : a3 = a2 + a4) (h4 : a1 = 40) (h5 : a4 = 2) : a3 < 160 := by omega
theorem oz116 {a0 a1 a2 : Int} (h0 : (0 : Int) ≤ a0) (h1 : a1 = 4 * a0) (h2 : a2 = 3) : (-2147483648 : Int) ≤ a1 + a2 := by omega
theorem oz117 {a0 a1 a2 : Int} (h0 : a0 ≤ 40) (h1 : a1 = 4 * a0) (h2 : a2 = 3) : a1 + a2 ≤ 2147483647 := by omega
theorem oz118 {a0 a1 a2 a3 : Int} (h0 : (0 : Int) ≤ a0) (h1 : a1 = 4 * a0) (h2 : a2 = a1 + a3) (h3 : a3 = 3) : (0 : Int) ≤ a2 := by omega
theorem oz119 {a0 a1 a2 a3 a4 : Int} (h0 : a0 ≠ a1) (h1 : a0 ≤ 40) (h2 : a2 = 4 * a0) (h3 : a3 = a2 + a4) (h4 : a1 = 40) (h5 : a4 = 3) : a3 < 160 := by omega
theorem oz120 {a0 a1 : Int} (h0 : a0 ≤ 40) (h1 : a1 = 1) : a0 + a1 ≤ 2147483647 := by omega
theorem oz121 {a0 a1 a2 a3 a4 : Int} (h0 : a0 ≠ a1) (h1 : a0 ≤ 40) (h2 : a2 = 4 * a0) (h3 : a3 = a0 + a4) (h4 : a1 = 40) (h5 : a4 = 1) : a3 ≤ 40 := by omega
theorem oz122 {a0 : Int}  : a0 ≤ a0 := by omega
theorem oz123 {a0 a1 : Int} (h0 : a0 = 4 * a1) : a0 = 4 * a1 := by omega
theorem oz124 {a0 a1 a2 a3 : Int} (h0 : a0 = 4 * a1) (h1 : a2 = a0 + a3) (h2 : a3 = 1) : a2 = 4 * a1 + 1 := by omega
theorem oz125 {a0 a1 a2 a3 : Int} (h0 : a0 = 4 * a1) (h1 : a2 = a0 + a3) (h2 : a3 = 2) : a2 = 4 * a1 + 2 := by omega
theorem oz126 {a0 a1 a2 a3 : Int} (h0 : a0 = 4 * a1) (h1 : a2 = a0 + a3) (h2 : a3 = 3) : a2 = 4 * a1 + 3 := by omega
theorem oz127 {a0 a1 a2 : Int} (h0 : ((a0 = 4) → (((1 : Int) ≤ a1) ∧ (a1 ≤ 5)))) (h1 : ((a0 = 4) → (((1 : Int) ≤ a2) ∧ (a2 ≤ 5)))) : a0 = 4 → ((1 : Int) ≤ a2 ∧ a2 ≤ 5) ∧ ((1 : Int) ≤ a1 ∧ a1 ≤ 5) := by omega
theorem oz128 {a0 a1 a2 : Int} (h0 : a0 ≠ a1) (h1 : a0 ≤ 40) (h2 : a2 = 4 * a0) (h3 : a1 = 40) : a0 ≤ 39 := by omega
theorem oz129 {a0 a1 a2 a3 : Int} (h0 : a0 = a1) (h1 : a2 = a0) (h2 : a1 = 40) (h3 : a3 = 1) : (-2147483648 : Int) ≤ a2 - a3 := by omega
theorem oz130 {a0 a1 : Int} (h0 : a0 ≤ 40) (h1 : a1 = 1) : a0 - a1 ≤ 2147483647 := by omega
theorem oz131 {a0 a1 a2 a3 a4 : Int} (h0 : a0 = a1) (h1 : a2 = a0) (h2 : a3 = a2 - a4) (h3 : a1 = 40) (h4 : a4 = 1) : (0 : Int) ≤ a3 := by omega
theorem oz132 {a0 a1 a2 : Int} (h0 : a0 ≤ 40) (h1 : a1 = a0 - a2) (h2 : a2 = 1) : a1 ≤ 40 := by omega
theorem oz133 {a0 a1 a2 : Int} (h0 : (0 : Int) ≤ a0) (h1 : a1 = a0 - a2) (h2 : a2 = 1) : (-2147483648 : Int) ≤ 4 * a1 := by omega
theorem oz134 {a0 a1 a2 : Int} (h0 : a0 ≤ 40) (h1 : a1 = a0 - a2) (h2 : a2 = 1) : 4 * a1 ≤ 2147483647 := by omega
theorem oz135 {a0 a1 a2 a3 a4 a5 : Int} (h0 : a0 = a1) (h1 : a2 = a0) (h2 : a3 = a2 - a4) (h3 : a5 = 4 * a3) (h4 : a1 = 40) (h5 : a4 = 1) : (0 : Int) ≤ a5 := by omega
theorem oz136 {a0 a1 a2 a3 : Int} (h0 : a0 ≤ 40) (h1 : a1 = a0 - a2) (h2 : a3 = 4 * a1) (h3 : a2 = 1) : a3 < 160 := by omega
theorem oz137 {a0 a1 a2 a3 a4 a5 : Int} (h0 : a0 = a1) (h1 : a2 = a0) (h2 : a3 = a2 - a4) (h3 : a5 = 4 * a3) (h4 : a1 = 40) (h5 : a4 = 1) : (-2147483648 : Int) ≤ a5 + a4 := by omega
theorem oz138 {a0 a1 a2 a3 : Int} (h0 : a0 ≤ 40) (h1 : a1 = a0 - a2) (h2 : a3 = 4 * a1) (h3 : a2 = 1) : a3 + a2 ≤ 2147483647 := by omega
theorem oz139 {a0 a1 a2 a3 a4 a5 a6 : Int} (h0 : a0 = a1) (h1 : a2 = a0) (h2 : a3 = a2 - a4) (h3 : a5 = 4 * a3) (h4 : a6 = a5 + a4) (h5 : a1 = 40) (h6 : a4 = 1) : (0 : Int) ≤ a6 := by omega
theorem oz140 {a0 a1 a2 a3 a4 : Int} (h0 : a0 ≤ 40) (h1 : a1 = a0 - a2) (h2 : a3 = 4 * a1) (h3 : a4 = a3 + a2) (h4 : a2 = 1) : a4 < 160 := by omega
theorem oz141 {a0 a1 a2 a3 a4 a5 a6 a7 : Int} (h0 : a0 = a1) (h1 : a2 = a0) (h2 : a2 ≤ 40) (h3 : a3 = a2 - a4) (h4 : a5 = 4 * a3) (h5 : a6 = a5 + a4) (h6 : a1 = 40) (h7 : a4 = 1) : (a6 % 4) = 0 → (0 : Int) ≤ a7 ∧ a7 ≤ 7 := by omega
theorem oz142 {a0 a1 a2 a3 a4 a5 a6 : Int} (h0 : a0 = a1) (h1 : a2 = a0) (h2 : a3 = a2 - a4) (h3 : a5 = 4 * a3) (h4 : a1 = 40) (h5 : a4 = 1) (h6 : a6 = 2) : (-2147483648 : Int) ≤ a5 + a6 := by omega
theorem oz143 {a0 a1 a2 a3 a4 : Int} (h0 : a0 ≤ 40) (h1 : a1 = a0 - a2) (h2 : a3 = 4 * a1) (h3 : a2 = 1) (h4 : a4 = 2) : a3 + a4 ≤ 2147483647 := by omega
theorem oz144 {a0 a1 a2 a3 a4 a5 a6 a7 : Int} (h0 : a0 = a1) (h1 : a2 = a0) (h2 : a3 = a2 - a4) (h3 : a5 = 4 * a3) (h4 : a6 = a5 + a7) (h5 : a1 = 40) (h6 : a4 = 1) (h7 : a7 = 2) : (0 : Int) ≤ a6 := by omega
theorem oz145 {a0 a1 a2 a3 a4 a5 : Int} (h0 : a0 ≤ 40) (h1 : a1 = a0 - a2) (h2 : a3 = 4 * a1) (h3 : a4 = a3 + a5) (h4 : a2 = 1) (h5 : a5 = 2) : a4 < 160 := by omega
theorem oz146 {a0 a1 a2 a3 a4 a5 a6 a7 a8 : Int} (h0 : a0 = a1) (h1 : a2 = a0) (h2 : a2 ≤ 40) (h3 : a3 = a2 - a4) (h4 : a5 = 4 * a3) (h5 : a6 = a5 + a7) (h6 : a1 = 40) (h7 : a4 = 1) (h8 : a7 = 2) : (a6 % 4) = 0 → (0 : Int) ≤ a8 ∧ a8 ≤ 7 := by omega
theorem oz147 {a0 a1 a2 a3 a4 a5 a6 a7 a8 : Int} (h0 : a0 = a1) (h1 : a2 = a0) (h2 : a2 ≤ 40) (h3 : a3 = a2 - a4) (h4 : a5 = 4 * a3) (h5 : a6 = a5 + a7) (h6 : a1 = 40) (h7 : a4 = 1) (h8 : a7 = 2) : (a6 % 4) = 1 → (0 : Int) ≤ a8 ∧ a8 ≤ 6 := by omega
theorem oz148 {a0 a1 a2 a3 a4 a5 a6 : Int} (h0 : a0 = a1) (h1 : a2 = a0) (h2 : a3 = a2 - a4) (h3 : a5 = 4 * a3) (h4 : a1 = 40) (h5 : a4 = 1) (h6 : a6 = 3) : (-2147483648 : Int) ≤ a5 + a6 := by omega
theorem oz149 {a0 a1 a2 a3 a4 : Int} (h0 : a0 ≤ 40) (h1 : a1 = a0 - a2) (h2 : a3 = 4 * a1) (h3 : a2 = 1) (h4 : a4 = 3) : a3 + a4 ≤ 2147483647 := by omega
theorem oz150 {a0 a1 a2 a3 a4 a5 a6 a7 : Int} (h0 : a0 = a1) (h1 : a2 = a0) (h2 : a3 = a2 - a4) (h3 : a5 = 4 * a3) (h4 : a6 = a5 + a7) (h5 : a1 = 40) (h6 : a4 = 1) (h7 : a7 = 3) : (0 : Int) ≤ a6 := by omega
theorem oz151 {a0 a1 a2 a3 a4 a5 : Int} (h0 : a0 ≤ 40) (h1 : a1 = a0 - a2) (h2 : a3 = 4 * a1) (h3 : a4 = a3 + a5) (h4 : a2 = 1) (h5 : a5 = 3) : a4 < 160 := by omega
theorem oz152 {a0 a1 a2 a3 a4 a5 a6 a7 a8 : Int} (h0 : a0 = a1) (h1 : a2 = a0) (h2 : a2 ≤ 40) (h3 : a3 = a2 - a4) (h4 : a5 = 4 * a3) (h5 : a6 = a5 + a7) (h6 : a1 = 40) (h7 : a4 = 1) (h8 : a7 = 3) : (a6 % 4) = 0 → (0 : Int) ≤ a8 ∧ a8 ≤ 7 := by omega
theorem oz153 {a0 a1 a2 a3 a4 a5 a6 a7 a8 : Int} (h0 : a0 = a1) (h1 : a2 = a0) (h2 : a2 ≤ 40) (h3 : a3 = a2 - a4) (h4 : a5 = 4 * a3) (h5 : a6 = a5 + a7) (h6 : a1 = 40) (h7 : a4 = 1) (h8 : a7 = 3) : (a6 % 4) = 1 → (0 : Int) ≤ a8 ∧ a8 ≤ 6 := by omega
theorem oz154 {a0 a1 a2 : Int} (h0 : (0 : Int) ≤ a0) (h1 : a1 = a0 - a2) (h2 : a2 = 1) : (-2147483648 : Int) ≤ a1 + a2 := by omega
theorem oz155 {a0 a1 a2 a3 : Int} (h0 : a0 ≤ 40) (h1 : a1 = a0 - a2) (h2 : a3 = 4 * a1) (h3 : a2 = 1) : a1 + a2 ≤ 2147483647 := by omega
theorem oz156 {a0 a1 a2 a3 : Int} (h0 : (0 : Int) ≤ a0) (h1 : a1 = a0 - a2) (h2 : a3 = a1 + a2) (h3 : a2 = 1) : (0 : Int) ≤ a3 := by omega
theorem oz157 {a0 a1 a2 a3 a4 : Int} (h0 : a0 ≤ 40) (h1 : a1 = a0 - a2) (h2 : a3 = 4 * a1) (h3 : a4 = a1 + a2) (h4 : a2 = 1) : a4 ≤ 40 := by omega
theorem oz158 {a0 a1 : Int} (h0 : a0 ≤ a1) (h1 : a1 ≤ 156) (h2 : a0 = 156) : a1 = 156 := by omega
theorem oz159 {a0 a1 a2 a3 : Int} (h0 : a0 ≤ 40) (h1 : a1 = a0 - a2) (h2 : a3 = 4 * a1) (h3 : a2 = 1) : a1 ≤ 39 := by omega
theorem oz160 {a0 a1 : Int} (h0 : (0 : Int) ≤ a0) (h1 : a1 = 4) : (-2147483648 : Int) ≤ a0 + a1 := by omega
theorem oz161 {a0 a1 : Int} (h0 : a0 ≤ 156) (h1 : a1 = 4) : a0 + a1 ≤ 2147483647 := by omega
theorem oz162 {a0 a1 a2 : Int} (h0 : (0 : Int) ≤ a0) (h1 : a1 = a0 + a2) (h2 : a2 = 4) : (0 : Int) ≤ a1 := by omega
theorem oz163 {a0 a1 a2 a3 : Int} (h0 : a0 < a1) (h1 : a2 = a0 + a3) (h2 : a1 = 156) (h3 : a3 = 4) : a2 < 160 := by omega
theorem oz164 {a0 : Int} (h0 : a0 ≤ 156) : a0 < 160 := by omega
theorem oz165 {a0 a1 : Int} (h0 : a0 ≤ 156) (h1 : a1 = 1) : a0 + a1 ≤ 2147483647 := by omega
theorem oz166 {a0 a1 a2 a3 : Int} (h0 : a0 < a1) (h1 : (0 : Int) ≤ a0) (h2 : a2 = a0 + a3) (h3 : a1 = 156) (h4 : a3 = 1) : ((0 : Int) ≤ a2) ∧ (a2 ≤ 156) := by omega
theorem oz167 {a0 a1 : Int} (h0 : a0 < a1) (h1 : a1 = 156) : a0 < 156 := by omega
theorem oz168 {a0 a1 a2 : Int} (h0 : a0 = a1 + a2) (h1 : a2 = 4) : a0 = a1 + 4 := by omega
theorem oz169 {a0 a1 a2 : Int} (h0 : a0 = a1 + a2) (h1 : a2 = 1) : a0 = a1 + 1 := by omega
theorem oz170 {a0 a1 a2 : Int} (h0 : a0 = a1 + a2) (h1 : a2 = 1) : (156 - a0) < (156 - a1) := by omega
theorem oz171 {a0 a1 : Int} (h0 : a0 < a1) (h1 : a1 = 156) : (1 : Int) ≤ (156 - a0) := by omega
theorem oz172 {a0 : Int} (h0 : a0 = 0) : ((0 : Int) ≤ a0) ∧ (a0 ≤ 156) := by omega
theorem oz173 {a0 a1 : Int} (h0 : a0 ≤ a1) : a0 ≤ a1 := by omega
theorem oz174 {a0 a1 a2 a3 : Int} (h0 : a0 ≠ a1) (h1 : (0 : Int) ≤ a0) (h2 : a2 = a0 - a3) (h3 : a1 = 0) (h4 : a3 = 1) : (0 : Int) ≤ a2 := by omega
theorem oz175 {a0 a1 a2 a3 a4 : Int} (h0 : a0 ≠ a1) (h1 : (0 : Int) ≤ a0) (h2 : a2 = a0 - a3) (h3 : a4 = 4 * a2) (h4 : a1 = 0) (h5 : a3 = 1) : (0 : Int) ≤ a4 := by omega
theorem oz176 {a0 a1 a2 a3 a4 : Int} (h0 : a0 ≠ a1) (h1 : (0 : Int) ≤ a0) (h2 : a2 = a0 - a3) (h3 : a4 = 4 * a2) (h4 : a1 = 0) (h5 : a3 = 1) : (-2147483648 : Int) ≤ a4 + a3 := by omega
theorem oz177 {a0 a1 a2 a3 a4 a5 : Int} (h0 : a0 ≠ a1) (h1 : (0 : Int) ≤ a0) (h2 : a2 = a0 - a3) (h3 : a4 = 4 * a2) (h4 : a5 = a4 + a3) (h5 : a1 = 0) (h6 : a3 = 1) : (0 : Int) ≤ a5 := by omega
theorem oz178 {a0 a1 a2 a3 a4 a5 : Int} (h0 : a0 ≠ a1) (h1 : (0 : Int) ≤ a0) (h2 : a2 = a0 - a3) (h3 : a4 = 4 * a2) (h4 : a1 = 0) (h5 : a3 = 1) (h6 : a5 = 2) : (-2147483648 : Int) ≤ a4 + a5 := by omega
theorem oz179 {a0 a1 a2 a3 a4 a5 a6 : Int} (h0 : a0 ≠ a1) (h1 : (0 : Int) ≤ a0) (h2 : a2 = a0 - a3) (h3 : a4 = 4 * a2) (h4 : a5 = a4 + a6) (h5 : a1 = 0) (h6 : a3 = 1) (h7 : a6 = 2) : (0 : Int) ≤ a5 := by omega
theorem oz180 {a0 a1 a2 a3 a4 : Int} (h0 : a0 ≠ a1) (h1 : (0 : Int) ≤ a0) (h2 : a2 = a0 - a3) (h3 : a4 = 4 * a2) (h4 : a1 = 0) (h5 : a3 = 1) : (0 : Int) ≤ a2 := by omega
theorem oz181 {a0 : Int} (h0 : (0 : Int) ≤ a0) (h1 : a0 ≤ 7) : ((0 : Int) ≤ a0) ∧ (a0 ≤ 7) := by omega
theorem oz182 {a0 : Int} (h0 : (0 : Int) ≤ a0) (h1 : a0 ≤ 6) : ((0 : Int) ≤ a0) ∧ (a0 ≤ 6) := by omega
theorem oz183 {a0 a1 : Int} (h0 : (a0 = 4 → (1 : Int) ≤ a1 ∧ a1 ≤ 5)) : ((a0 = 4) → (((1 : Int) ≤ a1) ∧ (a1 ≤ 5))) := by omega
theorem oz184 {a0 a1 a2 a3 a4 a5 : Int} (h0 : a0 = a1) (h1 : a2 = a3) (h2 : a4 ≤ a1) (h3 : a3 = a4 - a5) (h4 : a5 = 1) : a2 ≤ a0 := by omega
theorem oz185 {a0 a1 a2 : Int} (h0 : a0 ≠ a1) (h1 : a1 ≤ 40) (h2 : a0 ≤ a1) (h3 : a2 = 4 * a0) : a2 < 160 := by omega
theorem oz186 {a0 a1 a2 a3 a4 : Int} (h0 : a0 ≠ a1) (h1 : a1 ≤ 40) (h2 : a0 ≤ a1) (h3 : a2 = 4 * a0) (h4 : a3 = a2 + a4) (h5 : a4 = 1) : a3 < 160 := by omega
theorem oz187 {a0 a1 a2 a3 a4 : Int} (h0 : a0 ≠ a1) (h1 : a1 ≤ 40) (h2 : a0 ≤ a1) (h3 : a2 = 4 * a0) (h4 : a3 = a2 + a4) (h5 : a4 = 3) : a3 < 160 := by omega
theorem oz188 {a0 a1 a2 a3 a4 a5 : Int} (h0 : a0 ≠ a1) (h1 : a2 = a0) (h2 : a1 ≤ 40) (h3 : a0 ≤ a1) (h4 : a3 = a2 + a4) (h5 : a5 = 4 * a0) (h6 : a4 = 1) : a3 ≤ 40 := by omega
theorem oz189 {a0 a1 a2 a3 : Int} (h0 : (0 : Int) ≤ a0) (h1 : a1 ≤ 40) (h2 : a2 = a1 + a3) (h3 : a3 = 1) : (-2147483648 : Int) ≤ a0 - a2 := by omega
theorem oz190 {a0 a1 a2 a3 : Int} (h0 : a0 ≤ 40) (h1 : (0 : Int) ≤ a1) (h2 : a2 = a1 + a3) (h3 : a3 = 1) : a0 - a2 ≤ 2147483647 := by omega
theorem oz191 {a0 a1 a2 a3 a4 a5 : Int} (h0 : a0 ≠ a1) (h1 : a2 = a1) (h2 : a3 = a0) (h3 : a0 ≤ a1) (h4 : a4 = a3 + a5) (h5 : a5 = 1) : a4 ≤ a2 := by omega
theorem oz192 {a0 a1 : Int} (h0 : a0 ≤ 120) (h1 : a1 = 1) : a0 + a1 ≤ 2147483647 := by omega
theorem oz193 {a0 a1 a2 a3 : Int} (h0 : a0 ≠ a1) (h1 : a0 ≤ 120) (h2 : a2 = a0 + a3) (h3 : a1 = 120) (h4 : a3 = 1) : a2 ≤ 120 := by omega
theorem oz194 {a0 a1 : Int} (h0 : a0 ≠ a1) (h1 : a0 ≤ 120) (h2 : a1 = 120) : a0 < 120 := by omega
theorem oz195 {a0 : Int} (h0 : a0 = 18) : (0 : Int) ≤ a0 := by omega
theorem oz196 {a0 : Int} (h0 : a0 = 18) : a0 < 31 := by omega
theorem oz197 {a0 a1 : Int} (h0 : a0 ≤ a1) (h1 : a0 = 0) : (-2147483648 : Int) ≤ 6 * a1 := by omega
theorem oz198 {a0 a1 : Int} (h0 : a0 ≤ a1) (h1 : a1 = 1) : 6 * a0 ≤ 2147483647 := by omega
theorem oz199 {a0 a1 a2 a3 : Int} (h0 : a0 = 6 * a1) (h1 : a2 ≤ a1) (h2 : a2 = 0) (h3 : a3 = 19) : (-2147483648 : Int) ≤ a3 + a0 := by omega
theorem oz200 {a0 a1 a2 a3 : Int} (h0 : a0 = 6 * a1) (h1 : a1 ≤ a2) (h2 : a2 = 1) (h3 : a3 = 19) : a3 + a0 ≤ 2147483647 := by omega
theorem oz201 {a0 a1 a2 a3 a4 a5 : Int} (h0 : a0 ≤ a1) (h1 : a2 = 6 * a3) (h2 : a4 = a5 + a2) (h3 : a0 ≤ a3) (h4 : a0 = 0) (h5 : a5 = 19) : (-2147483648 : Int) ≤ a4 + a1 := by omega
theorem oz202 {a0 a1 a2 a3 a4 a5 a6 : Int} (h0 : a0 < a1) (h1 : a1 ≤ 5) (h2 : a2 = 6 * a3) (h3 : a4 = a5 + a2) (h4 : a3 ≤ a6) (h5 : a5 = 19) (h6 : a6 = 1) : a4 + a0 ≤ 2147483647 := by omega
theorem oz203 {a0 a1 a2 a3 a4 a5 a6 : Int} (h0 : a0 ≤ a1) (h1 : a2 = 6 * a3) (h2 : a4 = a5 + a2) (h3 : a6 = a4 + a1) (h4 : a0 ≤ a3) (h5 : a0 = 0) (h6 : a5 = 19) : (0 : Int) ≤ a6 := by omega
theorem oz204 {a0 a1 a2 a3 a4 a5 a6 a7 : Int} (h0 : a0 < a1) (h1 : a1 ≤ 5) (h2 : a2 = 6 * a3) (h3 : a4 = a5 + a2) (h4 : a6 = a4 + a0) (h5 : a3 ≤ a7) (h6 : a5 = 19) (h7 : a7 = 1) : a6 < 31 := by omega
theorem oz205 {a0 : Int} (h0 : a0 = 0) : (a0 < 0) ∨ (a0 = 0) := by omega
theorem oz206 {a0 : Int} (h0 : a0 = (-12)) : (a0 < 0) ∨ (a0 = 0) := by omega
theorem oz207 {a0 : Int} (h0 : a0 = (-11)) : (a0 < 0) ∨ (a0 = 0) := by omega
theorem oz208 {a0 : Int} (h0 : a0 = 0) : a0 ≤ 21 := by omega
theorem oz209 {a0 a1 a2 : Int} (h0 : a0 ≤ a1) (h1 : a1 = a2) (h2 : a0 = 20) (h3 : a2 = 0) : False := by omega
theorem oz210 {a0 a1 : Int} (h0 : a0 = a1) (h1 : a1 = 0) : a0 ≤ 20 := by omega
theorem oz211 {a0 : Int} (h0 : (0 : Int) ≤ a0) (h1 : a0 ≤ 21) : ((0 : Int) ≤ a0) ∧ (a0 ≤ 59) := by omega
theorem oz212 {a0 a1 : Int} (h0 : a0 = a1) (h1 : a1 = 0) : a0 < 21 := by omega
theorem oz213 {a0 a1 a2 : Int} (h0 : a0 = a1) (h1 : (0 : Int) ≤ a0) (h2 : a2 = a1) : (0 : Int) ≤ a2 := by omega
theorem oz214 {a0 a1 a2 a3 : Int} (h0 : a0 ≤ 8) (h1 : a1 = a2) (h2 : a1 < a0) (h3 : a3 = a2) : a3 ≤ 7 := by omega
theorem oz215 {a0 a1 : Int} (h0 : a0 ≤ 21) (h1 : a1 = 1) : a0 + a1 ≤ 2147483647 := by omega
theorem oz216 {a0 a1 a2 a3 : Int} (h0 : a0 = a1) (h1 : a2 = a0 + a3) (h2 : a1 = 0) (h3 : a3 = 1) : a2 ≤ 21 := by omega
theorem oz217 {a0 a1 a2 a3 : Int} (h0 : a0 = a1) (h1 : a2 = a0 + a3) (h2 : a1 = 0) (h3 : a3 = 1) : a2 ≤ 20 := by omega
theorem oz218 {a0 a1 a2 : Int} (h0 : a0 = a1 + a2) (h1 : a2 = 1) : (20 - a0) < (20 - a1) := by omega
theorem oz219 {a0 a1 : Int} (h0 : a0 = a1) (h1 : a1 = 0) : (1 : Int) ≤ (20 - a0) := by omega
theorem oz220 {a0 : Int} (h0 : a0 = 0) : a0 ≤ 20 := by omega
theorem oz221 {a0 : Int} (h0 : a0 ≤ 20) : a0 ≤ 20 := by omega
theorem oz222 {a0 : Int} (h0 : a0 ≤ 20) : a0 < 21 := by omega
theorem oz223 {a0 a1 a2 : Int} (h0 : a0 ≤ 20) (h1 : a1 = a0 + a2) (h2 : a2 = 1) : a1 ≤ 21 := by omega
theorem oz224 {a0 a1 a2 a3 : Int} (h0 : a0 < a1) (h1 : a2 = a0 + a3) (h2 : a1 = 20) (h3 : a3 = 1) : a2 ≤ 20 := by omega
theorem oz225 {a0 a1 : Int} (h0 : a0 < a1) (h1 : a1 = 20) : (1 : Int) ≤ (20 - a0) := by omega
theorem oz226 {a0 a1 : Int} (h0 : a0 = 0) (h1 : (0 : Int) ≤ a1) : (-2147483648 : Int) ≤ a0 + a1 := by omega
theorem oz227 {a0 a1 a2 : Int} (h0 : a0 < a1) (h1 : a2 = 0) (h2 : a1 = 31) : a2 + a0 ≤ 2147483647 := by omega
theorem oz228 {a0 a1 : Int} (h0 : a0 < a1) (h1 : a1 = 31) : a0 < 31 := by omega
theorem oz229 {a0 a1 a2 : Int} (h0 : a0 = 0) (h1 : (0 : Int) ≤ a1) (h2 : a2 = a0 + a1) : (0 : Int) ≤ a2 := by omega
theorem oz230 {a0 a1 a2 a3 : Int} (h0 : a0 < a1) (h1 : a2 = 0) (h2 : a3 = a2 + a0) (h3 : a1 = 31) : a3 < 31 := by omega
theorem oz231 {a0 a1 a2 a3 : Int} (h0 : a0 = 0) (h1 : (a1 = 18 → (0 : Int) ≤ a2 ∧ a2 ≤ 5)) (h2 : a3 = a0 + a1) : a3 = 18 → (0 : Int) ≤ a2 ∧ a2 ≤ 5 := by omega
theorem oz232 {a0 a1 a2 a3 : Int} (h0 : a0 = 0) (h1 : (19 ≤ a1 → a1 ≤ 24 → (0 : Int) ≤ a2 ∧ a2 ≤ 7)) (h2 : a3 = a0 + a1) : 19 ≤ a3 → a3 ≤ 24 → (0 : Int) ≤ a2 ∧ a2 ≤ 7 := by omega
theorem oz233 {a0 a1 a2 : Int} (h0 : a0 < a1) (h1 : a1 = 31) (h2 : a2 = 1) : a0 + a2 ≤ 2147483647 := by omega
theorem oz234 {a0 a1 a2 : Int} (h0 : a0 = a1 + a2) (h1 : a2 = 1) : (31 - a0) < (31 - a1) := by omega
theorem oz235 {a0 a1 : Int} (h0 : a0 < a1) (h1 : a1 = 31) : (1 : Int) ≤ (31 - a0) := by omega
theorem oz236 {a0 : Int} (h0 : a0 = 0) : a0 = 0 := by omega
theorem oz237 {a0 a1 : Int} (h0 : a0 < a1) (h1 : a1 = 64) : a0 < 64 := by omega
theorem oz238 {a0 a1 a2 : Int} (h0 : a0 < a1) (h1 : a1 = 64) (h2 : a2 = 1) : a0 + a2 ≤ 2147483647 := by omega
theorem oz239 {a0 a1 a2 : Int} (h0 : a0 = a1 + a2) (h1 : a2 = 1) : (64 - a0) < (64 - a1) := by omega
theorem oz240 {a0 a1 : Int} (h0 : a0 < a1) (h1 : a1 = 64) : (1 : Int) ≤ (64 - a0) := by omega
theorem oz241 {a0 a1 : Int} (h0 : a0 < a1) (h1 : a1 ≤ 21) : a0 < 21 := by omega
theorem oz242 {a0 a1 : Int} (h0 : (0 : Int) ≤ a0) (h1 : a1 = 16) : (-2147483648 : Int) ≤ a1 + a0 := by omega
theorem oz243 {a0 a1 : Int} (h0 : a0 ≤ 7) (h1 : a1 = 16) : a1 + a0 ≤ 2147483647 := by omega
theorem oz244 {a0 a1 a2 : Int} (h0 : (0 : Int) ≤ a0) (h1 : a1 = a2 + a0) (h2 : a2 = 16) : (0 : Int) ≤ a1 := by omega
theorem oz245 {a0 a1 a2 : Int} (h0 : a0 ≤ 7) (h1 : a1 = a2 + a0) (h2 : a2 = 16) : a1 < 24 := by omega
theorem oz246 {a0 : Int} (h0 : a0 = 1) : (0 : Int) ≤ a0 := by omega
theorem oz247 {a0 : Int} (h0 : a0 = 1) : a0 < 6 := by omega
theorem oz248 {a0 : Int} (h0 : a0 ≤ 7) : a0 < 24 := by omega
theorem oz249 {a0 a1 : Int} (h0 : a0 ≤ 7) (h1 : a1 = 8) : a1 + a0 ≤ 2147483647 := by omega
theorem oz250 {a0 a1 a2 : Int} (h0 : a0 ≤ 7) (h1 : a1 = a2 + a0) (h2 : a2 = 8) : a1 < 24 := by omega
theorem oz251 {a0 a1 : Int} (h0 : (0 : Int) ≤ a0) (h1 : a1 = 10) : (-2147483648 : Int) ≤ a1 + a0 := by omega
theorem oz252 {a0 a1 : Int} (h0 : a0 ≤ 7) (h1 : a1 = 10) : a1 + a0 ≤ 2147483647 := by omega
theorem oz253 {a0 a1 a2 : Int} (h0 : (0 : Int) ≤ a0) (h1 : a1 = a2 + a0) (h2 : a2 = 10) : (0 : Int) ≤ a1 := by omega
theorem oz254 {a0 a1 a2 : Int} (h0 : a0 ≤ 7) (h1 : a1 = a2 + a0) (h2 : a2 = 10) : a1 < 31 := by omega
theorem oz255 {a0 : Int} (h0 : a0 = 0) : a0 < 6 := by omega
theorem oz256 {a0 : Int} (h0 : a0 = 2) : (0 : Int) ≤ a0 := by omega
theorem oz257 {a0 : Int} (h0 : a0 = 2) : a0 < 6 := by omega
theorem oz258 {a0 : Int} (h0 : a0 = 9) : (0 : Int) ≤ a0 := by omega
theorem oz259 {a0 : Int} (h0 : a0 = 9) : a0 < 31 := by omega
theorem oz260 {a0 : Int} (h0 : a0 = 3) : (0 : Int) ≤ a0 := by omega
theorem oz261 {a0 : Int} (h0 : a0 = 3) : a0 < 6 := by omega
theorem oz262 {a0 : Int} (h0 : a0 = 4) : (0 : Int) ≤ a0 := by omega
theorem oz263 {a0 : Int} (h0 : a0 = 4) : a0 < 6 := by omega
theorem oz264 {a0 : Int} (h0 : a0 = 5) : (0 : Int) ≤ a0 := by omega
theorem oz265 {a0 : Int} (h0 : a0 = 5) : a0 < 6 := by omega
theorem oz266 {a0 a1 : Int} (h0 : a0 < a1) (h1 : a1 ≤ 60) : a0 < 60 := by omega
theorem oz267 {a0 : Int} (h0 : a0 = 0) : a0 < 200 := by omega
theorem oz268 {a0 a1 : Int} (h0 : (0 : Int) ≤ a0) (h1 : a0 ≤ a1) : (0 : Int) ≤ a1 := by omega
theorem oz269 {a0 a1 : Int} (h0 : a0 < a1) (h1 : a1 ≤ 200) : a0 < 200 := by omega
theorem oz270 {a0 a1 : Int} (h0 : a0 < a1) : a0 < a1 := by omega
theorem oz271 {a0 a1 : Int} (h0 : a0 ≤ 200) (h1 : a1 = 1) : a0 + a1 ≤ 2147483647 := by omega
theorem oz272 {a0 a1 : Int} (h0 : a0 ≤ a1) (h1 : a1 < a0) (h2 : a0 = 18) : False := by omega
theorem oz273 {a0 a1 : Int} (h0 : a0 ≤ a1) (h1 : a0 = 18) : (-2147483648 : Int) ≤ a1 - a0 := by omega
theorem oz274 {a0 a1 : Int} (h0 : a0 ≤ 2147483647) (h1 : a1 = 18) : a0 - a1 ≤ 2147483647 := by omega
theorem oz275 {a0 a1 a2 : Int} (h0 : a0 < a1) (h1 : a1 ≤ 200) (h2 : a2 ≤ a0) : a2 < 200 := by omega
theorem oz276 {a0 a1 a2 : Int} (h0 : (0 : Int) ≤ a0) (h1 : a0 ≤ a1) (h2 : a2 = 1) : (-2147483648 : Int) ≤ a1 + a2 := by omega
theorem oz277 {a0 a1 a2 : Int} (h0 : a0 < a1) (h1 : a1 ≤ 200) (h2 : a2 = 1) : a0 + a2 ≤ 2147483647 := by omega
theorem oz278 {a0 a1 a2 a3 : Int} (h0 : a0 ≤ a1) (h1 : a2 = a1 + a3) (h2 : a3 = 1) : a0 ≤ a2 := by omega
theorem oz279 {a0 a1 a2 a3 a4 : Int} (h0 : a0 < a1) (h1 : a1 ≤ 200) (h2 : (0 : Int) ≤ a2) (h3 : a3 = a2 + a4) (h4 : a2 ≤ a0) (h5 : a4 = 1) : ((0 : Int) ≤ a3) ∧ (a3 ≤ 200) := by omega
theorem oz280 {a0 a1 a2 a3 a4 : Int} (h0 : a0 ≤ a1) (h1 : a2 = a3 + a4) (h2 : a0 = 18) (h3 : a4 = 1) : ((18 ≤ a1 ∨ a1 ≤ 5) → a2 = a3 + 1) ∧ ((a1 = 16 ∨ a1 = 17) → a2 = a3) ∧ ((6 ≤ a1 ∧ a1 ≤ 15) → a2 = a3 - 1) := by omega
theorem oz281 {a0 a1 : Int} (h0 : a0 ≤ 200) (h1 : a1 = 1) : a0 - a1 ≤ 2147483647 := by omega
theorem oz282 {a0 a1 a2 a3 a4 a5 : Int} (h0 : a0 < a1) (h1 : a0 = a2) (h2 : a3 = a4 - a5) (h3 : ((a0 = 16 ∨ a0 = 17) → (1 : Int) ≤ a4)) (h4 : a1 = 18) (h5 : a2 = 16) (h6 : a5 = 1) : (0 : Int) ≤ a3 := by omega
theorem oz283 {a0 a1 a2 : Int} (h0 : a0 ≤ 200) (h1 : a1 = a0 - a2) (h2 : a2 = 1) : a1 < 200 := by omega
theorem oz284 {a0 : Int} (h0 : (0 : Int) ≤ a0) (h1 : a0 ≤ 200) : ((0 : Int) ≤ a0) ∧ (a0 ≤ 200) := by omega
theorem oz285 {a0 a1 a2 a3 : Int} (h0 : a0 < a1) (h1 : a0 = a2) (h2 : a1 = 18) (h3 : a2 = 16) : ((18 ≤ a0 ∨ a0 ≤ 5) → a3 = a3 + 1) ∧ ((a0 = 16 ∨ a0 = 17) → a3 = a3) ∧ ((6 ≤ a0 ∧ a0 ≤ 15) → a3 = a3 - 1) := by omega
theorem oz286 {a0 a1 a2 : Int} (h0 : a0 = a1) (h1 : a0 = a2) (h2 : a1 = 16) (h3 : a2 = 17) : False := by omega
theorem oz287 {a0 a1 : Int} (h0 : (0 : Int) ≤ a0) (h1 : a1 = (-1)) : (-2147483648 : Int) ≤ a0 + a1 := by omega
theorem oz288 {a0 a1 : Int} (h0 : a0 ≤ 200) (h1 : a1 = (-1)) : a0 + a1 ≤ 2147483647 := by omega
theorem oz289 {a0 a1 a2 a3 : Int} (h0 : (0 : Int) ≤ a0) (h1 : a1 = a0 + a2) (h2 : a2 = (-1)) (h3 : a3 = 1) : (-2147483648 : Int) ≤ a1 - a3 := by omega
theorem oz290 {a0 a1 a2 a3 : Int} (h0 : a0 ≤ 200) (h1 : a1 = a0 + a2) (h2 : a2 = (-1)) (h3 : a3 = 1) : a1 - a3 ≤ 2147483647 := by omega
theorem oz291 {a0 a1 a2 a3 a4 a5 a6 a7 a8 a9 : Int} (h0 : a0 < a1) (h1 : a2 < a0) (h2 : a0 ≠ a3) (h3 : a0 ≠ a4) (h4 : a5 = a6 + a7) (h5 : a8 = a5 - a9) (h6 : ((6 ≤ a0 ∧ a0 ≤ 15) → (2 : Int) ≤ a6)) (h7 : a1 = 18) (h8 : a2 = 5) (h9 : a3 = 16) (h10 : a4 = 17) (h11 : a7 = (-1)) (h12 : a9 = 1) : (0 : Int) ≤ a8 := by omega
theorem oz292 {a0 a1 a2 a3 a4 : Int} (h0 : a0 ≤ 200) (h1 : a1 = a0 + a2) (h2 : a3 = a1 - a4) (h3 : a2 = (-1)) (h4 : a4 = 1) : a3 < 200 := by omega
theorem oz293 {a0 a1 a2 a3 a4 a5 : Int} (h0 : a0 < a1) (h1 : a2 < a0) (h2 : a3 = a4 + a5) (h3 : ((a0 = 16 ∨ a0 = 17) → (1 : Int) ≤ a4)) (h4 : ((6 ≤ a0 ∧ a0 ≤ 15) → (2 : Int) ≤ a4)) (h5 : a1 = 18) (h6 : a2 = 5) (h7 : a5 = (-1)) : (0 : Int) ≤ a3 := by omega
theorem oz294 {a0 a1 a2 : Int} (h0 : a0 ≤ 200) (h1 : a1 = a0 + a2) (h2 : a2 = (-1)) : a1 < 200 := by omega
theorem oz295 {a0 a1 : Int} (h0 : a0 ≠ a1) (h1 : a1 = 0) : a0 ≠ 0 := by omega
theorem oz296 {a0 : Int} (h0 : ¬ (a0 = 6)) (h1 : ¬ (a0 = 7)) (h2 : ¬ (a0 = 8)) (h3 : ¬ (a0 = 9)) (h4 : ¬ (a0 = 10)) (h5 : ¬ (a0 = 11)) (h6 : ¬ (a0 = 12)) (h7 : ¬ (a0 = 13)) (h8 : ¬ (a0 = 14)) : a0 < 6 ∨ 14 < a0 := by omega
theorem oz297 {a0 a1 a2 a3 a4 a5 : Int} (h0 : a0 < a1) (h1 : a2 < a0) (h2 : a3 ≤ 200) (h3 : a4 = a3 + a5) (h4 : ((a0 = 16 ∨ a0 = 17) → (1 : Int) ≤ a3)) (h5 : ((6 ≤ a0 ∧ a0 ≤ 15) → (2 : Int) ≤ a3)) (h6 : a1 = 18) (h7 : a2 = 5) (h8 : a5 = (-1)) : ((0 : Int) ≤ a4) ∧ (a4 ≤ 200) := by omega
theorem oz298 {a0 a1 a2 a3 a4 a5 a6 a7 : Int} (h0 : a0 < a1) (h1 : a2 < a0) (h2 : a0 ≠ a3) (h3 : a0 ≠ a4) (h4 : a5 = a6 + a7) (h5 : a1 = 18) (h6 : a2 = 5) (h7 : a3 = 16) (h8 : a4 = 17) (h9 : a7 = (-1)) : ((18 ≤ a0 ∨ a0 ≤ 5) → a5 = a6 + 1) ∧ ((a0 = 16 ∨ a0 = 17) → a5 = a6) ∧ ((6 ≤ a0 ∧ a0 ≤ 15) → a5 = a6 - 1) := by omega
theorem oz299 {a0 a1 a2 : Int} (h0 : a0 < a1) (h1 : a0 = a2) (h2 : a0 ≠ a2) (h3 : a1 = 18) (h4 : a2 = 17) : False := by omega
theorem oz300 {a0 a1 a2 a3 a4 a5 : Int} (h0 : a0 < a1) (h1 : a0 = a2) (h2 : a3 = a4 - a5) (h3 : ((a0 = 16 ∨ a0 = 17) → (1 : Int) ≤ a4)) (h4 : a1 = 18) (h5 : a2 = 17) (h6 : a5 = 1) : (0 : Int) ≤ a3 := by omega
theorem oz301 {a0 a1 a2 a3 : Int} (h0 : a0 < a1) (h1 : a0 = a2) (h2 : a1 = 18) (h3 : a2 = 17) : ((18 ≤ a0 ∨ a0 ≤ 5) → a3 = a3 + 1) ∧ ((a0 = 16 ∨ a0 = 17) → a3 = a3) ∧ ((6 ≤ a0 ∧ a0 ≤ 15) → a3 = a3 - 1) := by omega
theorem oz302 {a0 a1 : Int} (h0 : a0 ≤ a1) (h1 : a1 = 5) : a0 < 6 := by omega
theorem oz303 {a0 a1 a2 a3 a4 : Int} (h0 : a0 ≤ a1) (h1 : a2 = a3 + a4) (h2 : a1 = 5) (h3 : a4 = 1) : ((18 ≤ a0 ∨ a0 ≤ 5) → a2 = a3 + 1) ∧ ((a0 = 16 ∨ a0 = 17) → a2 = a3) ∧ ((6 ≤ a0 ∧ a0 ≤ 15) → a2 = a3 - 1) := by omega
theorem oz304 {a0 a1 : Int} (h0 : a0 < a1) (h1 : a1 ≤ a0) (h2 : a1 = 18) : False := by omega
theorem oz305 {a0 : Int} (h0 : a0 = 0) : ((0 : Int) ≤ a0) ∧ (a0 ≤ 200) := by omega
theorem oz306 {a0 a1 a2 : Int} (h0 : a0 < a1) (h1 : a2 = a1) : a0 < a2 := by omega
theorem oz307 {a0 a1 a2 : Int} (h0 : a0 < a1) (h1 : a1 ≤ 60) (h2 : a2 = 1) : a0 + a2 ≤ 2147483647 := by omega
theorem oz308 {a0 a1 a2 a3 a4 : Int} (h0 : a0 = a1) (h1 : a2 = a3 + a4) (h2 : a4 = 1) : (a0 - a2) < (a1 - a3) := by omega
theorem oz309 {a0 a1 : Int} (h0 : (0 : Int) ≤ a0) (h1 : a1 = 19) : (-2147483648 : Int) ≤ a1 + a0 := by omega
theorem oz310 {a0 a1 : Int} (h0 : a0 ≤ 5) (h1 : a1 = 19) : a1 + a0 ≤ 2147483647 := by omega
theorem oz311 {a0 a1 a2 : Int} (h0 : (0 : Int) ≤ a0) (h1 : a1 = a2 + a0) (h2 : a2 = 19) : (0 : Int) ≤ a1 := by omega
theorem oz312 {a0 a1 a2 : Int} (h0 : a0 ≤ 5) (h1 : a1 = a2 + a0) (h2 : a2 = 19) : a1 < 31 := by omega
theorem oz313 {a0 a1 a2 a3 : Int} (h0 : (0 : Int) ≤ a0) (h1 : a1 = a2 + a0) (h2 : a2 = 19) : a1 = 18 → (0 : Int) ≤ a3 ∧ a3 ≤ 5 := by omega
theorem oz314 {a0 a1 : Int} (h0 : (0 : Int) ≤ a0) (h1 : a0 ≤ 7) : 19 ≤ a1 → a1 ≤ 24 → (0 : Int) ≤ a0 ∧ a0 ≤ 7 := by omega
theorem oz315 {a0 a1 a2 a3 : Int} (h0 : (0 : Int) ≤ a0) (h1 : a1 = a2 + a0) (h2 : a2 = 19) (h3 : a3 = 18) : a3 ≠ a1 := by omega
theorem oz316 {a0 a1 : Int} (h0 : (0 : Int) ≤ a0) (h1 : a1 = 25) : (-2147483648 : Int) ≤ a1 + a0 := by omega
theorem oz317 {a0 a1 : Int} (h0 : a0 ≤ 5) (h1 : a1 = 25) : a1 + a0 ≤ 2147483647 := by omega
theorem oz318 {a0 a1 a2 : Int} (h0 : (0 : Int) ≤ a0) (h1 : a1 = a2 + a0) (h2 : a2 = 25) : (0 : Int) ≤ a1 := by omega
theorem oz319 {a0 a1 a2 : Int} (h0 : a0 ≤ 5) (h1 : a1 = a2 + a0) (h2 : a2 = 25) : a1 < 31 := by omega
theorem oz320 {a0 a1 a2 a3 : Int} (h0 : (0 : Int) ≤ a0) (h1 : a1 = a2 + a0) (h2 : a2 = 25) : a1 = 18 → (0 : Int) ≤ a3 ∧ a3 ≤ 5 := by omega
theorem oz321 {a0 a1 a2 a3 : Int} (h0 : (0 : Int) ≤ a0) (h1 : a1 = a2 + a0) (h2 : a2 = 25) : 19 ≤ a1 → a1 ≤ 24 → (0 : Int) ≤ a3 ∧ a3 ≤ 7 := by omega
theorem oz322 {a0 a1 a2 a3 : Int} (h0 : (0 : Int) ≤ a0) (h1 : a1 = a2 + a0) (h2 : a2 = 25) (h3 : a3 = 18) : a3 ≠ a1 := by omega
theorem oz323 {a0 a1 : Int} (h0 : a0 ≤ 5) (h1 : a1 = 1) : a0 + a1 ≤ 2147483647 := by omega
theorem oz324 {a0 a1 a2 a3 a4 a5 a6 a7 : Int} (h0 : a0 < a1) (h1 : a1 ≤ 5) (h2 : (0 : Int) ≤ a2) (h3 : a3 = a2 + a4) (h4 : a5 = a0) (h5 : a6 = a5) (h6 : a2 = a6) (h7 : a4 = 1) (h8 : a7 = 18) : a7 = 18 → (0 : Int) ≤ a3 ∧ a3 ≤ 5 := by omega
theorem oz325 {a0 a1 : Int} (h0 : a0 = 18) : 19 ≤ a0 → a0 ≤ 24 → (0 : Int) ≤ a1 ∧ a1 ≤ 7 := by omega
theorem oz326 {a0 a1 a2 a3 : Int} (h0 : (0 : Int) ≤ a0) (h1 : a1 = a2 + a0) (h2 : a2 = 19) (h3 : a3 = 9) : a3 ≠ a1 := by omega
theorem oz327 {a0 a1 a2 a3 : Int} (h0 : (0 : Int) ≤ a0) (h1 : a1 = a2 + a0) (h2 : a2 = 25) (h3 : a3 = 9) : a3 ≠ a1 := by omega
theorem oz328 {a0 a1 : Int} (h0 : a0 = 9) (h1 : a1 = 18) : a0 ≠ a1 := by omega
theorem oz329 {a0 a1 : Int} (h0 : a0 = 9) : a0 = 18 → (0 : Int) ≤ a1 ∧ a1 ≤ 5 := by omega
theorem oz330 {a0 a1 : Int} (h0 : a0 = 9) : 19 ≤ a0 → a0 ≤ 24 → (0 : Int) ≤ a1 ∧ a1 ≤ 7 := by omega
theorem oz331 {a0 a1 a2 a3 a4 a5 : Int} (h0 : a0 ≤ 7) (h1 : (0 : Int) ≤ a1) (h2 : a2 = a3 + a1) (h3 : a4 = a5 + a0) (h4 : a3 = 19) (h5 : a5 = 10) : a4 ≠ a2 := by omega
theorem oz332 {a0 a1 a2 a3 a4 a5 : Int} (h0 : a0 ≤ 7) (h1 : (0 : Int) ≤ a1) (h2 : a2 = a3 + a1) (h3 : a4 = a5 + a0) (h4 : a3 = 25) (h5 : a5 = 10) : a4 ≠ a2 := by omega
theorem oz333 {a0 a1 a2 a3 : Int} (h0 : a0 ≤ 7) (h1 : a1 = a2 + a0) (h2 : a2 = 10) (h3 : a3 = 18) : a1 ≠ a3 := by omega
theorem oz334 {a0 a1 a2 a3 : Int} (h0 : (0 : Int) ≤ a0) (h1 : a1 = a2 + a0) (h2 : a2 = 10) (h3 : a3 = 9) : a1 ≠ a3 := by omega
theorem oz335 {a0 a1 a2 a3 : Int} (h0 : a0 ≤ 7) (h1 : a1 = a2 + a0) (h2 : a2 = 10) : a1 = 18 → (0 : Int) ≤ a3 ∧ a3 ≤ 5 := by omega
theorem oz336 {a0 a1 a2 a3 : Int} (h0 : a0 ≤ 7) (h1 : a1 = a2 + a0) (h2 : a2 = 10) : 19 ≤ a1 → a1 ≤ 24 → (0 : Int) ≤ a3 ∧ a3 ≤ 7 := by omega
theorem oz337 {a0 : Int} (h0 : a0 = 19) : (0 : Int) ≤ a0 := by omega
theorem oz338 {a0 : Int} (h0 : a0 = 19) : a0 < 31 := by omega
theorem oz339 {a0 : Int} (h0 : a0 = 25) : (0 : Int) ≤ a0 := by omega
theorem oz340 {a0 : Int} (h0 : a0 = 25) : a0 < 31 := by omega
theorem oz341 {a0 a1 : Int} (h0 : (1 : Int) ≤ a0) (h1 : a1 = 1) : (-2147483648 : Int) ≤ a0 - a1 := by omega
theorem oz342 {a0 a1 : Int} (h0 : a0 ≤ 5) (h1 : a1 = 1) : a0 - a1 ≤ 2147483647 := by omega
theorem oz343 {a0 a1 a2 a3 : Int} (h0 : (1 : Int) ≤ a0) (h1 : a0 ≤ 5) (h2 : a1 = a0 - a2) (h3 : a2 = 1) (h4 : a3 = 18) : a3 = 18 → (0 : Int) ≤ a1 ∧ a1 ≤ 5 := by omega
theorem oz344 {a0 a1 : Int} (h0 : a0 ≤ 7) (h1 : a1 = 18) : a0 ≠ a1 := by omega
theorem oz345 {a0 : Int} (h0 : (0 : Int) ≤ a0) : (-2147483648 : Int) ≤ 8 * a0 := by omega
theorem oz346 {a0 : Int} (h0 : a0 ≤ 7) : 8 * a0 ≤ 2147483647 := by omega
theorem oz347 {a0 a1 a2 : Int} (h0 : (0 : Int) ≤ a0) (h1 : (0 : Int) ≤ a1) (h2 : a2 = 8 * a1) : (-2147483648 : Int) ≤ a2 + a0 := by omega
theorem oz348 {a0 a1 a2 : Int} (h0 : a0 ≤ 7) (h1 : a1 ≤ 7) (h2 : a2 = 8 * a1) : a2 + a0 ≤ 2147483647 := by omega
theorem oz349 {a0 a1 a2 a3 : Int} (h0 : (0 : Int) ≤ a0) (h1 : (0 : Int) ≤ a1) (h2 : a2 = 8 * a1) (h3 : a3 = a2 + a0) : (0 : Int) ≤ a3 := by omega
theorem oz350 {a0 a1 a2 a3 : Int} (h0 : a0 ≤ 7) (h1 : a1 ≤ 7) (h2 : a2 = 8 * a1) (h3 : a3 = a2 + a0) : a3 < 64 := by omega
theorem oz351 {a0 a1 : Int} (h0 : a0 ≠ a1) : a1 ≠ a0 := by omega
theorem oz352 {a0 a1 : Int} (h0 : a0 ≤ 7) (h1 : a1 = 18) : a1 ≠ a0 := by omega
theorem oz353 {a0 a1 a2 a3 a4 a5 a6 a7 : Int} (h0 : a0 = a1 - a2) (h1 : a3 = a0) (h2 : a4 = a3) (h3 : a5 = a4) (h4 : a6 = a5) (h5 : a7 = a6) (h6 : a2 = 1) : a7 = (a1 - 1) := by omega
theorem oz354 {a0 a1 a2 a3 a4 : Int} (h0 : a0 = a1 - a2) (h1 : a3 = a0) (h2 : a4 = a3) (h3 : a2 = 1) : a4 = (a1 - 1) := by omega
theorem oz355 {a0 a1 a2 : Int} (h0 : a0 < a1) (h1 : a1 ≤ 5) (h2 : a2 = 19) : a2 + a0 ≤ 2147483647 := by omega
theorem oz356 {a0 a1 : Int} (h0 : (0 : Int) ≤ a0) (h1 : a1 = 20) : (-2147483648 : Int) ≤ a1 + a0 := by omega
theorem oz357 {a0 a1 a2 : Int} (h0 : a0 < a1) (h1 : a1 ≤ 5) (h2 : a2 = 20) : a2 + a0 ≤ 2147483647 := by omega
theorem oz358 {a0 a1 a2 : Int} (h0 : (0 : Int) ≤ a0) (h1 : a1 = a2 + a0) (h2 : a2 = 20) : (0 : Int) ≤ a1 := by omega
theorem oz359 {a0 a1 a2 a3 : Int} (h0 : a0 < a1) (h1 : a1 ≤ 5) (h2 : a2 = a3 + a0) (h3 : a3 = 20) : a2 < 31 := by omega
theorem oz360 {a0 a1 a2 a3 : Int} (h0 : (0 : Int) ≤ a0) (h1 : a1 = a2 + a0) (h2 : a2 = 20) (h3 : a3 = 18) : a1 ≠ a3 := by omega
theorem oz361 {a0 a1 a2 a3 : Int} (h0 : a0 < a1) (h1 : a1 ≤ 5) (h2 : a2 = a3 + a0) (h3 : a3 = 19) : a2 < 31 := by omega
theorem oz362 {a0 a1 a2 a3 a4 a5 : Int} (h0 : a0 < a1) (h1 : (0 : Int) ≤ a0) (h2 : a1 ≤ 5) (h3 : (19 ≤ a2 → a2 ≤ 24 → (0 : Int) ≤ a3 ∧ a3 ≤ 7)) (h4 : a2 = a4 + a0) (h5 : a4 = 20) : 19 ≤ a5 → a5 ≤ 24 → (0 : Int) ≤ a3 ∧ a3 ≤ 7 := by omega
theorem oz363 {a0 a1 a2 : Int} (h0 : a0 < a1) (h1 : a1 ≤ 5) (h2 : a2 = 25) : a2 + a0 ≤ 2147483647 := by omega
theorem oz364 {a0 a1 : Int} (h0 : (0 : Int) ≤ a0) (h1 : a1 = 26) : (-2147483648 : Int) ≤ a1 + a0 := by omega
theorem oz365 {a0 a1 a2 : Int} (h0 : a0 < a1) (h1 : a1 ≤ 5) (h2 : a2 = 26) : a2 + a0 ≤ 2147483647 := by omega
theorem oz366 {a0 a1 a2 : Int} (h0 : (0 : Int) ≤ a0) (h1 : a1 = a2 + a0) (h2 : a2 = 26) : (0 : Int) ≤ a1 := by omega
theorem oz367 {a0 a1 a2 a3 : Int} (h0 : a0 < a1) (h1 : a1 ≤ 5) (h2 : a2 = a3 + a0) (h3 : a3 = 26) : a2 < 31 := by omega
theorem oz368 {a0 a1 a2 a3 a4 : Int} (h0 : a0 = a1 + a2) (h1 : a3 = a4 + a2) (h2 : a1 = 19) (h3 : a4 = 26) : a3 ≠ a0 := by omega
theorem oz369 {a0 a1 a2 a3 : Int} (h0 : a0 < a1) (h1 : a1 ≤ 5) (h2 : a2 = a3 + a0) (h3 : a3 = 25) : a2 < 31 := by omega
theorem oz370 {a0 a1 a2 : Int} (h0 : a0 < a1) (h1 : a1 ≤ 5) (h2 : a2 = 1) : a0 + a2 ≤ 2147483647 := by omega
theorem oz371 {a0 a1 a2 a3 a4 a5 a6 : Int} (h0 : a0 = a1 - a2) (h1 : a3 = a4) (h2 : a5 = a3) (h3 : a6 = a0) (h4 : a4 = a6) (h5 : a2 = 1) : a5 = (a1 - 1) := by omega
theorem oz372 {a0 a1 a2 : Int} (h0 : a0 = a1 + a2) (h1 : a2 = 1) : (5 - a0) < (5 - a1) := by omega
theorem oz373 {a0 a1 : Int} (h0 : a0 < a1) (h1 : a1 ≤ 5) : (1 : Int) ≤ (5 - a0) := by omega
theorem oz374 {a0 a1 a2 a3 : Int} (h0 : a0 = a1 - a2) (h1 : a3 = a0) (h2 : a2 = 1) : a3 = (a1 - 1) := by omega
theorem oz375 {a0 a1 a2 a3 a4 : Int} (h0 : a0 = (a1 - 1)) (h1 : a2 = a0) (h2 : a3 = a2) (h3 : a4 = a3) : a4 = (a1 - 1) := by omega
theorem oz376 {a0 a1 : Int} (h0 : a0 = (a1 - 1)) : a0 = (a1 - 1) := by omega
theorem oz377 {a0 a1 a2 a3 a4 a5 : Int} (h0 : a0 < a1) (h1 : (0 : Int) ≤ a0) (h2 : (19 ≤ a2 → a2 ≤ 24 → (0 : Int) ≤ a3 ∧ a3 ≤ 7)) (h3 : a1 ≤ 5) (h4 : a2 = a4 + a0) (h5 : a4 = 20) : 19 ≤ a5 → a5 ≤ 24 → (0 : Int) ≤ a3 ∧ a3 ≤ 7 := by omega
theorem oz378 {a0 a1 a2 a3 : Int} (h0 : a0 = (a1 - 1)) (h1 : a2 = a0) (h2 : a3 = a2) : a3 = (a1 - 1) := by omega
theorem oz379 {a0 a1 : Int} (h0 : a0 ≤ a1) (h1 : (1 : Int) ≤ a0) : (1 : Int) ≤ a1 := by omega
theorem oz380 {a0 a1 : Int} (h0 : a0 = (a1 - 1)) : a0 < a1 := by omega
theorem oz381 {a0 a1 a2 : Int} (h0 : a0 < a1) (h1 : a1 ≤ 21) (h2 : a2 = 1) : a0 + a2 ≤ 2147483647 := by omega
theorem oz382 {a0 a1 a2 a3 a4 : Int} (h0 : a0 ≠ a1) (h1 : a0 ≠ a2) (h2 : a0 ≠ a3) (h3 : a0 ≠ a4) (h4 : a1 ≤ a0) (h5 : a0 ≤ a4) (h6 : a1 = 0) (h7 : a2 = 1) (h8 : a3 = 2) (h9 : a4 = 3) : False := by omega
theorem oz383 {a0 a1 a2 a3 : Int} (h0 : a0 = 0) (h1 : (a1 = 18 → (0 : Int) ≤ a2 ∧ a2 ≤ 5)) (h2 : a1 = a0 + a3) : a3 = 18 → (0 : Int) ≤ a2 ∧ a2 ≤ 5 := by omega
theorem oz384 {a0 a1 a2 a3 : Int} (h0 : a0 = 0) (h1 : (19 ≤ a1 → a1 ≤ 24 → (0 : Int) ≤ a2 ∧ a2 ≤ 7)) (h2 : a1 = a0 + a3) : 19 ≤ a3 → a3 ≤ 24 → (0 : Int) ≤ a2 ∧ a2 ≤ 7 := by omega
theorem oz385 {a0 a1 : Int} (h0 : a0 ≤ 8) (h1 : a1 < a0) : a1 < 31 := by omega
theorem oz386 {a0 a1 a2 : Int} (h0 : a0 = a1) (h1 : a0 = a2) (h2 : a1 = 3) (h3 : a2 = 2) : False := by omega
theorem oz387 {a0 a1 a2 : Int} (h0 : a0 = a1) (h1 : a0 = a2) (h2 : a1 = 3) (h3 : a2 = 1) : False := by omega
theorem oz388 {a0 a1 a2 : Int} (h0 : a0 = a1) (h1 : a0 = a2) (h2 : a1 = 3) (h3 : a2 = 0) : False := by omega
theorem oz389 {a0 a1 : Int} (h0 : a0 ≤ a1) (h1 : a0 = 0) : (0 : Int) ≤ a1 := by omega
theorem oz390 {a0 a1 : Int} (h0 : a0 ≠ a1) (h1 : a0 = a1) (h2 : a1 = (-1)) : False := by omega
theorem oz391 {a0 a1 a2 : Int} (h0 : a0 ≤ a1) (h1 : a1 = 0) (h2 : a2 = 1) : a0 + a2 ≤ 2147483647 := by omega
theorem oz392 {a0 : Int} (h0 : (9 : Int) ≤ a0) : (0 : Int) ≤ a0 := by omega
theorem oz393 {a0 a1 : Int} (h0 : a0 < a1) (h1 : a1 = 18) : a0 < 31 := by omega
theorem oz394 {a0 a1 a2 : Int} (h0 : a0 < a1) (h1 : a1 = 18) (h2 : a2 = 0) : a0 = 18 → (0 : Int) ≤ a2 ∧ a2 ≤ 5 := by omega
theorem oz395 {a0 a1 a2 : Int} (h0 : a0 < a1) (h1 : a1 = 18) (h2 : a2 = 0) : 19 ≤ a0 → a0 ≤ 24 → (0 : Int) ≤ a2 ∧ a2 ≤ 7 := by omega
theorem oz396 {a0 a1 : Int} (h0 : (9 : Int) ≤ a0) (h1 : a1 = 1) : (-2147483648 : Int) ≤ a0 + a1 := by omega
theorem oz397 {a0 a1 a2 : Int} (h0 : a0 < a1) (h1 : a1 = 18) (h2 : a2 = 1) : a0 + a2 ≤ 2147483647 := by omega
theorem oz398 {a0 a1 a2 : Int} (h0 : (9 : Int) ≤ a0) (h1 : a1 = a0 + a2) (h2 : a2 = 1) : (9 : Int) ≤ a1 := by omega
theorem oz399 {a0 a1 a2 : Int} (h0 : a0 = a1 + a2) (h1 : a2 = 1) : (18 - a0) < (18 - a1) := by omega
theorem oz400 {a0 a1 : Int} (h0 : a0 < a1) (h1 : a1 = 18) : (1 : Int) ≤ (18 - a0) := by omega
theorem oz401 {a0 : Int} (h0 : a0 = 9) : (9 : Int) ≤ a0 := by omega
theorem oz402 {a0 a1 a2 : Int} (h0 : a0 < a1) (h1 : a0 = 0) (h2 : a2 = 1) : (-2147483648 : Int) ≤ a1 + a2 := by omega
theorem oz403 {a0 a1 a2 a3 : Int} (h0 : a0 < a1) (h1 : a1 ≤ a2) (h2 : a2 = 20) (h3 : a3 = 1) : a0 + a3 ≤ 2147483647 := by omega
theorem oz404 {a0 a1 a2 a3 : Int} (h0 : a0 < a1) (h1 : a2 = a1 + a3) (h2 : a0 = 0) (h3 : a3 = 1) : (0 : Int) ≤ a2 := by omega
theorem oz405 {a0 a1 : Int} (h0 : a0 = a1) (h1 : (0 : Int) ≤ a0) (h2 : a1 = (-1)) : False := by omega
theorem oz406 {a0 a1 : Int} (h0 : a0 ≤ a1) (h1 : a1 ≤ 20) : a0 < 21 := by omega
theorem oz407 {a0 : Int} (h0 : a0 ≤ 7) : a0 ≤ 7 := by omega
theorem oz408 {a0 a1 a2 a3 : Int} (h0 : a0 = a1) (h1 : a1 ≤ 20) (h2 : a2 = a0 + a3) (h3 : a3 = 1) : a2 ≤ 21 := by omega
theorem oz409 {a0 a1 a2 a3 : Int} (h0 : a0 = a1) (h1 : a2 = a0 + a3) (h2 : a3 = 1) : a2 = (a1 + 1) := by omega
theorem oz410 {a0 a1 a2 : Int} (h0 : a0 < a1) (h1 : (0 : Int) ≤ a0) (h2 : a2 = 1) : (-2147483648 : Int) ≤ a1 - a2 := by omega
theorem oz411 {a0 a1 a2 a3 : Int} (h0 : a0 = a1) (h1 : a1 ≤ 20) (h2 : a2 ≤ a0) (h3 : a3 = 1) : a2 - a3 ≤ 2147483647 := by omega
theorem oz412 {a0 a1 a2 a3 : Int} (h0 : a0 < a1) (h1 : (0 : Int) ≤ a0) (h2 : a2 = a1 - a3) (h3 : a3 = 1) : (0 : Int) ≤ a2 := by omega
theorem oz413 {a0 a1 a2 a3 a4 : Int} (h0 : a0 = a1) (h1 : a1 ≤ 20) (h2 : a2 ≤ a0) (h3 : a3 = a2 - a4) (h4 : a4 = 1) : a3 < 21 := by omega
theorem oz414 {a0 a1 : Int} (h0 : a0 < a1) (h1 : (0 : Int) ≤ a0) : (0 : Int) ≤ a1 := by omega
theorem oz415 {a0 a1 a2 : Int} (h0 : a0 = a1) (h1 : a1 ≤ 20) (h2 : a2 ≤ a0) : a2 < 21 := by omega
theorem oz416 {a0 a1 a2 : Int} (h0 : a0 < a1) (h1 : (0 : Int) ≤ a0) (h2 : a2 = (-1)) : (-2147483648 : Int) ≤ a1 + a2 := by omega
theorem oz417 {a0 a1 a2 a3 : Int} (h0 : a0 = a1) (h1 : a1 ≤ 20) (h2 : a2 ≤ a0) (h3 : a3 = (-1)) : a2 + a3 ≤ 2147483647 := by omega
theorem oz418 {a0 a1 a2 a3 : Int} (h0 : a0 ≤ a1) (h1 : a2 = a0 + a3) (h2 : a3 = (-1)) : a2 ≤ a1 := by omega
theorem oz419 {a0 a1 a2 a3 : Int} (h0 : a0 < a1) (h1 : a2 = a1 + a3) (h2 : a3 = (-1)) : a0 ≤ a2 := by omega
theorem oz420 {a0 a1 a2 a3 : Int} (h0 : a0 = a1 + a2) (h1 : a2 = (-1)) : (a0 - a3) < (a1 - a3) := by omega
theorem oz421 {a0 a1 a2 : Int} (h0 : a0 ≤ a1) (h1 : a2 = a1) (h2 : (0 : Int) ≤ a0) : ((0 : Int) ≤ a0) ∧ (a0 ≤ a2) := by omega
theorem oz422 {a0 a1 : Int} (h0 : a0 = a1) (h1 : a1 ≤ 19) : a0 ≤ 20 := by omega
theorem oz423 {a0 a1 : Int} (h0 : a0 ≤ 8) (h1 : (0 : Int) ≤ a1) (h2 : a1 < a0) : ((0 : Int) ≤ a1) ∧ (a1 ≤ 7) := by omega
theorem oz424 {a0 a1 : Int} (h0 : a0 ≤ 21) (h1 : a1 = 1) : a0 - a1 ≤ 2147483647 := by omega
theorem oz425 {a0 a1 a2 : Int} (h0 : (1 : Int) ≤ a0) (h1 : a1 = a0 - a2) (h2 : a2 = 1) : (0 : Int) ≤ a1 := by omega
theorem oz426 {a0 a1 a2 : Int} (h0 : a0 ≤ 21) (h1 : a1 = a0 - a2) (h2 : a2 = 1) : a1 ≤ 21 := by omega
theorem oz427 {a0 a1 a2 a3 : Int} (h0 : a0 = a1) (h1 : a1 = a2 - a3) (h2 : a3 = 1) : a0 = (a2 - 1) := by omega
theorem oz428 {a0 a1 a2 a3 a4 a5 : Int} (h0 : a0 < a1) (h1 : a1 = a2) (h2 : a3 ≤ 21) (h3 : a2 = a3 - a4) (h4 : a5 = a0 + a4) (h5 : a4 = 1) : a5 < 21 := by omega
theorem oz429 {a0 a1 a2 : Int} (h0 : a0 = a1) (h1 : (0 : Int) ≤ a2) (h2 : a1 = (a2 + 1)) : (1 : Int) ≤ a0 := by omega
theorem oz430 {a0 a1 a2 : Int} (h0 : a0 ≤ a1) (h1 : a1 ≤ 21) (h2 : a2 = 1) : a0 + a2 ≤ 2147483647 := by omega
theorem oz431 {a0 a1 a2 a3 a4 : Int} (h0 : a0 = a1) (h1 : a2 = a3) (h2 : a3 = (a0 + 1)) (h3 : a4 = (a2 - 1)) : a1 = a4 := by omega
theorem oz432 {a0 : Int} (h0 : a0 ≤ 19) : a0 ≤ 19 := by omega
theorem oz433 {a0 a1 a2 a3 : Int} (h0 : a0 = a1 + a2) (h1 : a2 = 1) : ((a3 + 1) - a0) < ((a3 + 1) - a1) := by omega
theorem oz434 {a0 a1 : Int} (h0 : a0 ≤ a1) : (1 : Int) ≤ ((a1 + 1) - a0) := by omega
theorem oz435 {a0 a1 : Int} (h0 : a0 ≠ a1) (h1 : a0 ≤ 20) (h2 : a1 = 20) : a0 ≤ 19 := by omega
theorem oz436 {a0 a1 a2 : Int} (h0 : a0 ≤ a1) (h1 : (0 : Int) ≤ a0) (h2 : a1 = a2) : ((0 : Int) ≤ a0) ∧ (a0 ≤ a2) := by omega
theorem oz437 {a0 a1 : Int} (h0 : a0 = a1) (h1 : a0 ≤ 19) : a1 ≤ 20 := by omega
theorem oz438 {a0 a1 a2 a3 a4 : Int} (h0 : a0 = a1) (h1 : a2 = a3) (h2 : a1 = (a3 + 1)) (h3 : a4 = (a0 - 1)) : a2 = a4 := by omega
theorem oz439 {a0 a1 a2 a3 : Int} (h0 : a0 ≤ a1) (h1 : a2 ≤ a0) (h2 : a3 = a1) (h3 : a2 = 0) : ((0 : Int) ≤ a0) ∧ (a0 ≤ a3) := by omega
theorem oz440 {a0 : Int} (h0 : a0 ≤ 19) : a0 ≤ 20 := by omega
theorem oz441 {a0 a1 : Int} (h0 : a0 < a1) (h1 : a1 ≤ 8) (h2 : (0 : Int) ≤ a0) : ((0 : Int) ≤ a0) ∧ (a0 ≤ 7) := by omega
theorem oz442 {a0 a1 a2 : Int} (h0 : a0 < a1) (h1 : a1 ≤ 8) (h2 : a2 = 1) : a0 + a2 ≤ 2147483647 := by omega
theorem oz443 {a0 a1 a2 a3 : Int} (h0 : a0 = a1) (h1 : a2 ≤ 19) (h2 : a1 = (a2 + 1)) (h3 : a3 = (a0 - 1)) : a3 ≤ 19 := by omega
theorem oz444 {a0 a1 a2 a3 a4 a5 : Int} (h0 : a0 ≤ a1) (h1 : a2 = a1) (h2 : a3 = a4) (h3 : a4 = (a2 + 1)) (h4 : a5 = (a3 - 1)) : a0 ≤ a5 := by omega
theorem oz445 {a0 a1 a2 a3 a4 a5 a6 : Int} (h0 : a0 = a1) (h1 : a2 = a0) (h2 : a3 = a2) (h3 : a4 = a5 + a6) (h4 : a6 = 1) : (a3 - a4) < (a1 - a5) := by omega
theorem oz446 {a0 a1 a2 : Int} (h0 : a0 ≤ a1) (h1 : a1 ≤ a2) (h2 : a0 = 0) : ((0 : Int) ≤ a1) ∧ (a1 ≤ a2) := by omega
theorem oz447 {a0 a1 a2 a3 a4 : Int} (h0 : a0 = a1) (h1 : a2 ≤ a3) (h2 : a1 = (a3 + 1)) (h3 : a4 = (a0 - 1)) : a2 ≤ a4 := by omega
theorem oz448 {a0 a1 : Int} (h0 : a0 ≤ 20) (h1 : a1 = 1) : a0 + a1 ≤ 2147483647 := by omega
theorem oz449 {a0 : Int} (h0 : a0 ≤ 19) : a0 < 21 := by omega
theorem oz450 {a0 a1 : Int} (h0 : a0 ≤ 19) (h1 : a1 = 1) : a0 + a1 ≤ 2147483647 := by omega
theorem oz451 {a0 a1 a2 : Int} (h0 : a0 ≤ 19) (h1 : a1 = a0 + a2) (h2 : a2 = 1) : a1 < 21 := by omega
theorem oz452 {a0 a1 a2 a3 : Int} (h0 : a0 < a1) (h1 : a1 ≤ 21) (h2 : (0 : Int) ≤ a2) (h3 : a0 = a2 + a3) (h4 : a3 = 1) : ((0 : Int) ≤ a2) ∧ (a2 ≤ 19) := by omega
theorem oz453 {a0 a1 a2 a3 : Int} (h0 : a0 < a1) (h1 : a1 ≤ 21) (h2 : (0 : Int) ≤ a2) (h3 : a0 = a2 + a3) (h4 : a3 = 1) : ((0 : Int) ≤ a0) ∧ (a0 ≤ 20) := by omega
theorem oz454 {a0 a1 a2 a3 : Int} (h0 : a0 = a1) (h1 : a2 = a0) (h2 : a3 = a2) (h3 : a1 ≤ 20) : a3 ≤ 20 := by omega
theorem oz455 {a0 a1 a2 a3 : Int} (h0 : a0 < a1) (h1 : a0 = a2 + a3) (h2 : a3 = 1) : (1 : Int) ≤ (a1 - a2) := by omega
theorem oz456 {a0 : Int} (h0 : a0 = 0) : ((0 : Int) ≤ a0) ∧ (a0 ≤ 20) := by omega
theorem oz457 {a0 a1 : Int} (h0 : a0 = a1) (h1 : a1 ≤ 20) : a0 ≤ 20 := by omega
theorem oz458 {a0 a1 a2 : Int} (h0 : a0 < a1) (h1 : a1 = 0) : ¬ (((0 : Int) ≤ a0) ∧ (((a0 / 10) < a2) ∧ ((a0 % 10) < a2)) ∧ ((a0 / 10) ≠ (a0 % 10))) := by omega
theorem oz459 {a0 a1 a2 a3 : Int} (h0 : a0 = a1) (h1 : a0 = (a2 / 10)) (h2 : a1 = (a2 % 10)) : ¬ (((0 : Int) ≤ a2) ∧ (((a2 / 10) < a3) ∧ ((a2 % 10) < a3)) ∧ ((a2 / 10) ≠ (a2 % 10))) := by omega
theorem oz460 {a0 a1 a2 a3 a4 : Int} (h0 : a0 ≠ a1) (h1 : a2 ≤ a3) (h2 : a0 = (a3 / 10)) (h3 : a1 = (a3 % 10)) (h4 : a0 < a4) (h5 : a1 < a4) (h6 : a2 = 0) : ((0 : Int) ≤ a3) ∧ (((a3 / 10) < a4) ∧ ((a3 % 10) < a4)) ∧ ((a3 / 10) ≠ (a3 % 10)) := by omega
theorem oz461 {a0 a1 a2 : Int} (h0 : a0 = (a1 % 10)) (h1 : ¬ (((0 : Int) ≤ a0) ∧ (a0 < a2))) : ¬ (((0 : Int) ≤ a1) ∧ (((a1 / 10) < a2) ∧ ((a1 % 10) < a2)) ∧ ((a1 / 10) ≠ (a1 % 10))) := by omega
theorem oz462 {a0 a1 a2 a3 : Int} (h0 : a0 ≤ a1) (h1 : a2 = (a1 / 10)) (h2 : ¬ (((0 : Int) ≤ a2) ∧ (a2 < a3))) (h3 : a0 = 0) : ¬ (((0 : Int) ≤ a1) ∧ (((a1 / 10) < a3) ∧ ((a1 % 10) < a3)) ∧ ((a1 / 10) ≠ (a1 % 10))) := by omega
theorem oz463 {a0 : Int} (h0 : a0 = 0) : ((0 : Int) ≤ a0) ∧ (a0 ≤ 7) := by omega
theorem oz464 {a0 a1 : Int} (h0 : a0 = (a1 / 10)) (h1 : (0 : Int) ≤ a1) : (-2147483648 : Int) ≤ 8 * a0 := by omega
theorem oz465 {a0 a1 a2 : Int} (h0 : a0 ≤ 8) (h1 : a1 = (a2 / 10)) (h2 : (a2 / 10) < a0) (h3 : (a2 % 10) < a0) (h4 : (a2 / 10) ≠ (a2 % 10)) : 8 * a1 ≤ 2147483647 := by omega
theorem oz466 {a0 a1 a2 a3 : Int} (h0 : a0 = (a1 / 10)) (h1 : a2 = 8 * a0) (h2 : a3 = (a1 % 10)) (h3 : (0 : Int) ≤ a1) : (-2147483648 : Int) ≤ a2 + a3 := by omega
theorem oz467 {a0 a1 a2 a3 a4 : Int} (h0 : a0 ≤ 8) (h1 : a1 = (a2 / 10)) (h2 : a3 = 8 * a1) (h3 : a4 = (a2 % 10)) (h4 : (a2 / 10) < a0) (h5 : (a2 % 10) < a0) (h6 : (a2 / 10) ≠ (a2 % 10)) : a3 + a4 ≤ 2147483647 := by omega
theorem oz468 {a0 a1 a2 a3 a4 : Int} (h0 : a0 = (a1 / 10)) (h1 : a2 = 8 * a0) (h2 : a3 = (a1 % 10)) (h3 : a4 = a2 + a3) (h4 : (0 : Int) ≤ a1) : (0 : Int) ≤ a4 := by omega
theorem oz469 {a0 a1 a2 a3 a4 a5 : Int} (h0 : a0 ≤ 8) (h1 : a1 = (a2 / 10)) (h2 : a3 = 8 * a1) (h3 : a4 = (a2 % 10)) (h4 : a5 = a3 + a4) (h5 : (a2 / 10) < a0) (h6 : (a2 % 10) < a0) (h7 : (a2 / 10) ≠ (a2 % 10)) : a5 < 64 := by omega
theorem oz470 {a0 : Int} (h0 : (0 : Int) ≤ a0) : (-2147483648 : Int) ≤ 9 * a0 := by omega
theorem oz471 {a0 a1 : Int} (h0 : a0 < a1) (h1 : a1 = 8) : 9 * a0 ≤ 2147483647 := by omega
theorem oz472 {a0 a1 : Int} (h0 : (0 : Int) ≤ a0) (h1 : a1 = 9 * a0) : (0 : Int) ≤ a1 := by omega
theorem oz473 {a0 a1 a2 : Int} (h0 : a0 < a1) (h1 : a2 = 9 * a0) (h2 : a1 = 8) : a2 < 64 := by omega
theorem oz474 {a0 a1 a2 : Int} (h0 : a0 < a1) (h1 : a1 = 8) (h2 : a2 = 1) : a0 + a2 ≤ 2147483647 := by omega
theorem oz475 {a0 a1 a2 : Int} (h0 : a0 = a1 + a2) (h1 : a2 = 1) : (8 - a0) < (8 - a1) := by omega
theorem oz476 {a0 a1 : Int} (h0 : a0 < a1) (h1 : a1 = 8) : (1 : Int) ≤ (8 - a0) := by omega
theorem oz477 {a0 a1 : Int} (h0 : (0 : Int) ≤ a0) (h1 : a1 = (a0 % 8)) : (-2147483648 : Int) ≤ a0 - a1 := by omega
theorem oz478 {a0 a1 a2 : Int} (h0 : a0 < a1) (h1 : a2 = (a0 % 8)) (h2 : a1 = 64) : a0 - a2 ≤ 2147483647 := by omega
theorem oz479 {a0 a1 a2 a3 : Int} (h0 : (0 : Int) ≤ a0) (h1 : (0 : Int) ≤ a1) (h2 : a2 = (a0 % 8)) (h3 : a3 = a0 - a2) : (-2147483648 : Int) ≤ a3 + a1 := by omega
theorem oz480 {a0 a1 a2 a3 a4 a5 : Int} (h0 : a0 < a1) (h1 : a2 < a3) (h2 : a4 = (a2 % 8)) (h3 : a5 = a2 - a4) (h4 : a1 = 8) (h5 : a3 = 64) : a5 + a0 ≤ 2147483647 := by omega
theorem oz481 {a0 a1 a2 a3 a4 : Int} (h0 : (0 : Int) ≤ a0) (h1 : (0 : Int) ≤ a1) (h2 : a2 = (a0 % 8)) (h3 : a3 = a0 - a2) (h4 : a4 = a3 + a1) : (0 : Int) ≤ a4 := by omega
theorem oz482 {a0 a1 a2 a3 a4 a5 a6 : Int} (h0 : a0 < a1) (h1 : a2 < a3) (h2 : a4 = (a2 % 8)) (h3 : a5 = a2 - a4) (h4 : a6 = a5 + a0) (h5 : a1 = 8) (h6 : a3 = 64) : a6 < 64 := by omega
theorem oz483 {a0 a1 : Int} (h0 : a0 < a1) (h1 : a1 = 8) : 8 * a0 ≤ 2147483647 := by omega
theorem oz484 {a0 a1 a2 a3 : Int} (h0 : (0 : Int) ≤ a0) (h1 : a1 = (a2 % 8)) (h2 : a3 = 8 * a0) : (-2147483648 : Int) ≤ a3 + a1 := by omega
theorem oz485 {a0 a1 a2 a3 a4 : Int} (h0 : a0 < a1) (h1 : a2 = (a3 % 8)) (h2 : a4 = 8 * a0) (h3 : a1 = 8) : a4 + a2 ≤ 2147483647 := by omega
theorem oz486 {a0 a1 a2 a3 a4 : Int} (h0 : (0 : Int) ≤ a0) (h1 : a1 = (a2 % 8)) (h2 : a3 = 8 * a0) (h3 : a4 = a3 + a1) : (0 : Int) ≤ a4 := by omega
theorem oz487 {a0 a1 a2 a3 a4 a5 : Int} (h0 : a0 < a1) (h1 : a2 = (a3 % 8)) (h2 : a4 = 8 * a0) (h3 : a5 = a4 + a2) (h4 : a1 = 8) : a5 < 64 := by omega
theorem oz488 {a0 a1 : Int} (h0 : a0 < a1) (h1 : (0 : Int) ≤ a0) (h2 : a1 = 8) : ((0 : Int) ≤ a0) ∧ (a0 ≤ 7) := by omega
theorem oz489 {a0 : Int} (h0 : (1 : Int) ≤ a0) : (0 : Int) ≤ a0 := by omega
theorem oz490 {a0 a1 : Int} (h0 : a0 < a1) (h1 : a1 ≤ 8) : a0 < 31 := by omega
theorem oz491 {a0 a1 : Int} (h0 : (1 : Int) ≤ a0) (h1 : a1 = 1) : (-2147483648 : Int) ≤ a0 + a1 := by omega
theorem oz492 {a0 a1 a2 : Int} (h0 : (1 : Int) ≤ a0) (h1 : a1 = a0 + a2) (h2 : a2 = 1) : (1 : Int) ≤ a1 := by omega
theorem oz493 {a0 a1 : Int} (h0 : a0 < a1) (h1 : a1 ≤ 8) (h2 : (1 : Int) ≤ a0) : ((0 : Int) ≤ a0) ∧ (a0 ≤ 7) := by omega
theorem oz494 {a0 : Int} (h0 : a0 = 1) : (1 : Int) ≤ a0 := by omega
theorem oz495 {a0 a1 : Int} (h0 : a0 < a1) (h1 : a1 = 0) : ¬ (((0 : Int) ≤ a0) ∧ (((0 : Int) ≤ (a0 / 10)) ∧ ((a0 / 10) ≤ 5)) ∧ ((a0 % 10) ≤ 5)) := by omega
theorem oz496 {a0 a1 a2 a3 : Int} (h0 : a0 ≤ a1) (h1 : a2 = (a1 / 10)) (h2 : a3 = (a1 % 10)) (h3 : (0 : Int) ≤ a2) (h4 : a2 ≤ 5) (h5 : a3 ≤ 5) (h6 : a0 = 0) : ((0 : Int) ≤ a1) ∧ (((0 : Int) ≤ (a1 / 10)) ∧ ((a1 / 10) ≤ 5)) ∧ ((a1 % 10) ≤ 5) := by omega
theorem oz497 {a0 a1 : Int} (h0 : a0 = (a1 % 10)) (h1 : ¬ (((0 : Int) ≤ a0) ∧ (a0 ≤ 5))) : ¬ (((0 : Int) ≤ a1) ∧ (((0 : Int) ≤ (a1 / 10)) ∧ ((a1 / 10) ≤ 5)) ∧ ((a1 % 10) ≤ 5)) := by omega
theorem oz498 {a0 a1 a2 : Int} (h0 : a0 ≤ a1) (h1 : a2 = (a1 / 10)) (h2 : ¬ (((0 : Int) ≤ a2) ∧ (a2 ≤ 5))) (h3 : a0 = 0) : ¬ (((0 : Int) ≤ a1) ∧ (((0 : Int) ≤ (a1 / 10)) ∧ ((a1 / 10) ≤ 5)) ∧ ((a1 % 10) ≤ 5)) := by omega
theorem oz499 {a0 a1 : Int} (h0 : (a0 / 10) ≤ 5) (h1 : (0 : Int) ≤ a0) (h2 : (a0 % 10) ≤ 5) (h3 : a1 = (a0 / 10)) : ((0 : Int) ≤ a1) ∧ (a1 ≤ 5) := by omega
theorem oz500 {a0 a1 : Int} (h0 : (a0 % 10) ≤ 5) (h1 : a1 = (a0 % 10)) : ((0 : Int) ≤ a1) ∧ (a1 ≤ 5) := by omega
theorem oz501 {a0 : Int} (h0 : (a0 < 0) ∨ (a0 = 0)) : (a0 < 0) ∨ (a0 = 0) := by omega
theorem oz502 {a0 a1 : Int} (h0 : a0 < a1) (h1 : a1 = 0) : (a0 < 0) ∨ (a0 = 0) := by omega
theorem oz503 {a0 : Int} (h0 : (0 : Int) ≤ (a0 / 10)) (h1 : (a0 / 10) ≤ 5) : ((0 : Int) ≤ (a0 / 10)) ∧ ((a0 / 10) ≤ 5) := by omega
theorem oz504 {a0 : Int} (h0 : (a0 % 10) ≤ 5) : (a0 % 10) ≤ 5 := by omega
theorem oz505 {a0 a1 : Int} (h0 : a0 = (a1 / 10)) (h1 : (0 : Int) ≤ a1) (h2 : (a1 / 10) ≤ 5) (h3 : (a1 % 10) ≤ 5) : ((0 : Int) ≤ a0) ∧ (a0 ≤ 5) := by omega
theorem oz506 {a0 a1 : Int} (h0 : a0 < a1) (h1 : (0 : Int) ≤ a0) (h2 : a1 ≤ 60) : ((0 : Int) ≤ a0) ∧ (a0 ≤ 59) := by omega
theorem oz507 {a0 a1 a2 : Int} (h0 : a0 = a1 + a2) (h1 : a2 = 1) : (60 - a0) < (60 - a1) := by omega
theorem oz508 {a0 a1 : Int} (h0 : a0 < a1) (h1 : a1 ≤ 60) : (1 : Int) ≤ (60 - a0) := by omega
theorem oz509 {a0 a1 : Int} (h0 : a0 = (a1 % 10)) (h1 : (a1 % 10) ≤ 5) : ((0 : Int) ≤ a0) ∧ (a0 ≤ 5) := by omega
theorem oz510 {a0 a1 a2 : Int} (h0 : a0 ≠ a1) (h1 : a0 ≠ a2) (h2 : a0 ≤ a1) (h3 : a2 ≤ a0) (h4 : a1 = 1) (h5 : a2 = 0) : False := by omega
theorem oz511 {a0 a1 : Int} (h0 : a0 = a1) (h1 : a0 ≠ a1) (h2 : a0 ≤ a1) (h3 : a1 = 1) : False := by omega
theorem oz512 {a0 a1 : Int} (h0 : a0 < a1) (h1 : a1 ≤ 8) : a0 ≤ 7 := by omega
theorem oz513 {a0 a1 : Int} (h0 : a0 < a1) (h1 : a1 ≤ 8) : a0 ≤ 8 := by omega
theorem oz514 {a0 a1 a2 : Int} (h0 : a0 < a1) (h1 : a2 ≤ a0) (h2 : a1 ≤ 21) (h3 : a2 = 0) : ((0 : Int) ≤ a0) ∧ (a0 ≤ 20) := by omega
theorem oz515 {a0 a1 a2 : Int} (h0 : a0 = a1) (h1 : a0 = a2) (h2 : a1 = 1) (h3 : a2 = 0) : False := by omega
theorem oz516 {a0 a1 : Int} (h0 : ((-1) : Int) ≤ a0) (h1 : a1 = (-1)) : (-2147483648 : Int) ≤ a0 + a1 := by omega
theorem oz517 {a0 a1 : Int} (h0 : a0 ≤ 2147483647) (h1 : a1 = (-1)) : a0 + a1 ≤ 2147483647 := by omega
theorem oz518 {a0 a1 a2 a3 : Int} (h0 : a0 ≤ a1) (h1 : a2 = a1 + a3) (h2 : a0 = 0) (h3 : a3 = (-1)) : ((-1) : Int) ≤ a2 := by omega
theorem oz519 {a0 a1 a2 : Int} (h0 : a0 = a1 + a2) (h1 : a2 = (-1)) : (a0 + 1) < (a1 + 1) := by omega
theorem oz520 {a0 a1 : Int} (h0 : a0 ≤ a1) (h1 : a0 = 0) : (1 : Int) ≤ (a1 + 1) := by omega
theorem oz521 {a0 : Int} (h0 : a0 = 9) : ((-1) : Int) ≤ a0 := by omega
theorem oz522 {a0 a1 a2 : Int} (h0 : a0 ≤ a1) (h1 : a2 ≤ 8) (h2 : a1 < a2) (h3 : a0 = 0) : ((0 : Int) ≤ a1) ∧ (a1 ≤ 7) := by omega
theorem oz523 {a0 a1 : Int} (h0 : a0 < a1) (h1 : a1 = a0) (h2 : a0 = 1) : False := by omega
theorem oz524 {a0 a1 a2 : Int} (h0 : a0 < a1) (h1 : a1 = a2) (h2 : a0 = 1) (h3 : a2 = 0) : False := by omega
theorem oz525 {a0 a1 : Int} (h0 : a0 = a1) (h1 : a0 ≠ a1) (h2 : a1 ≤ a0) (h3 : a1 = 0) : False := by omega
theorem oz526 {a0 : Int} (h0 : (1 : Int) ≤ a0) : (1 : Int) ≤ a0 := by omega
theorem oz527 {a0 : Int} (h0 : a0 ≤ 5) : a0 ≤ 5 := by omega
theorem oz528 {a0 a1 : Int} (h0 : a0 < a1) (h1 : a1 = 6) : a0 ≤ 5 := by omega
theorem oz529 {a0 a1 a2 : Int} (h0 : a0 < a1) (h1 : a1 = 6) (h2 : a2 = 1) : a0 + a2 ≤ 2147483647 := by omega
theorem oz530 {a0 a1 a2 : Int} (h0 : a0 = a1 + a2) (h1 : a2 = 1) : (6 - a0) < (6 - a1) := by omega
theorem oz531 {a0 a1 : Int} (h0 : a0 < a1) (h1 : a1 = 6) : (1 : Int) ≤ (6 - a0) := by omega
theorem oz532 {a0 a1 : Int} (h0 : a0 < a1) (h1 : a1 = 6) : a0 ≤ 8 := by omega
theorem oz533 {a0 a1 a2 : Int} (h0 : a0 = a1) (h1 : a0 = a2) (h2 : a1 = 0) (h3 : a2 = 1) : False := by omega
theorem oz534 {a0 a1 a2 : Int} (h0 : a0 = a1) (h1 : a2 < a0) (h2 : a1 = 0) (h3 : a2 = 1) : False := by omega
theorem oz535 {a0 a1 a2 : Int} (h0 : a0 ≤ a1) (h1 : a2 = (a1 / 100)) (h2 : a0 = 0) : (0 : Int) ≤ a2 := by omega
theorem oz536 {a0 a1 : Int} (h0 : a0 = a1) (h1 : a0 ≠ a1) (h2 : a1 = (-1)) : False := by omega
theorem oz537 {a0 a1 a2 a3 : Int} (h0 : a0 < a1) (h1 : a1 ≤ a2) (h2 : a2 = 30) (h3 : a3 = 1) : a0 + a3 ≤ 2147483647 := by omega
theorem oz538 {a0 a1 a2 : Int} (h0 : a0 < a1) (h1 : a1 ≤ a2) (h2 : a2 = 30) : (1 : Int) ≤ (31 - a0) := by omega
theorem oz539 {a0 a1 a2 : Int} (h0 : a0 < a1) (h1 : a2 = a1) (h2 : a0 = 0) : a2 ≠ 0 := by omega
theorem oz540 {a0 a1 a2 : Int} (h0 : a0 < a1) (h1 : a2 = a1) (h2 : a0 = 0) : (1 : Int) ≤ a2 := by omega
theorem oz541 {a0 a1 a2 a3 : Int} (h0 : a0 < a1) (h1 : a1 = (a2 % 100)) (h2 : a3 = 1) : a0 + a3 ≤ 2147483647 := by omega
theorem oz542 {a0 a1 a2 : Int} (h0 : a0 = a1 + a2) (h1 : a2 = 1) : (100 - a0) < (100 - a1) := by omega
theorem oz543 {a0 a1 a2 : Int} (h0 : a0 < a1) (h1 : a1 = (a2 % 100)) : (1 : Int) ≤ (100 - a0) := by omega
theorem oz544 {a0 a1 a2 a3 : Int} (h0 : a0 < a1) (h1 : a2 = a1) (h2 : a3 = a2) (h3 : a0 = 0) : a3 ≠ 0 := by omega
theorem oz545 {a0 a1 a2 a3 : Int} (h0 : a0 < a1) (h1 : a2 = a1) (h2 : a3 = a2) (h3 : a0 = 0) : (1 : Int) ≤ a3 := by omega
theorem oz546 {a0 a1 a2 a3 a4 : Int} (h0 : a0 ≤ a1) (h1 : a0 = a2) (h2 : a2 = a3) (h3 : (0 : Int) ≤ a4) (h4 : a4 < a3) (h5 : a1 = 0) : False := by omega
theorem oz547 {a0 : Int} (h0 : a0 = 0) : a0 < 5 := by omega
theorem oz548 {a0 : Int} (h0 : a0 = 1) : a0 < 5 := by omega
theorem oz549 {a0 : Int} (h0 : a0 = 2) : a0 < 5 := by omega
theorem oz550 {a0 : Int} (h0 : a0 = 3) : a0 < 5 := by omega
theorem oz551 {a0 a1 : Int} (h0 : a0 ≤ a1) : (-2147483648 : Int) ≤ a1 - a0 := by omega
theorem oz552 {a0 a1 a2 : Int} (h0 : a0 ≤ 2147483647) (h1 : a1 ≤ a2) (h2 : a1 = 1) : a0 - a2 ≤ 2147483647 := by omega
theorem oz553 {a0 a1 a2 : Int} (h0 : a0 ≤ 8) (h1 : a1 < a0) : a1 = 18 → (0 : Int) ≤ a2 ∧ a2 ≤ 5 := by omega
theorem oz554 {a0 a1 a2 : Int} (h0 : a0 ≤ 8) (h1 : a1 < a0) : 19 ≤ a1 → a1 ≤ 24 → (0 : Int) ≤ a2 ∧ a2 ≤ 7 := by omega
theorem oz555 {a0 : Int} (h0 : a0 = 4) : a0 < 5 := by omega
theorem oz556 {a0 a1 : Int} (h0 : a0 ≠ a1) : a0 ≠ a1 := by omega
theorem oz557 {a0 a1 : Int} (h0 : a0 ≤ a1) (h1 : a1 = 4) : a0 < 5 := by omega
theorem oz558 {a0 : Int} (h0 : a0 = 1) : a0 ≤ 1 := by omega
theorem oz559 {a0 : Int} (h0 : a0 ≤ 8) : a0 ≤ 8 := by omega
theorem oz560 {a0 a1 : Int} (h0 : a0 < a1) (h1 : a1 = 5) : a0 < 5 := by omega
theorem oz561 {a0 a1 a2 : Int} (h0 : a0 < a1) (h1 : a1 = 5) (h2 : a2 = 1) : a0 + a2 ≤ 2147483647 := by omega
theorem oz562 {a0 a1 : Int} (h0 : a0 < a1) (h1 : a1 = 5) : (1 : Int) ≤ (5 - a0) := by omega
theorem oz563 {a0 a1 : Int} (h0 : a0 ≤ 8) (h1 : a1 = 10) : a1 + a0 ≤ 2147483647 := by omega
theorem oz564 {a0 a1 a2 a3 a4 : Int} (h0 : a0 < a1) (h1 : a2 ≤ 8) (h2 : a1 = a3 + a2) (h3 : a3 = 10) : a0 = 18 → (0 : Int) ≤ a4 ∧ a4 ≤ 5 := by omega
theorem oz565 {a0 a1 a2 a3 a4 : Int} (h0 : a0 < a1) (h1 : a2 ≤ 8) (h2 : a1 = a3 + a2) (h3 : a3 = 10) : 19 ≤ a0 → a0 ≤ 24 → (0 : Int) ≤ a4 ∧ a4 ≤ 7 := by omega
theorem oz566 {a0 a1 : Int} (h0 : a0 ≤ a1) (h1 : a0 = 18) : (0 : Int) ≤ a1 := by omega
theorem oz567 {a0 a1 a2 : Int} (h0 : a0 ≤ a1) (h1 : (a1 = 18 → (0 : Int) ≤ a2 ∧ a2 ≤ 5)) (h2 : a0 = 18) : a1 = 18 → (0 : Int) ≤ a2 ∧ a2 ≤ 5 := by omega
theorem oz568 {a0 a1 : Int} (h0 : (19 ≤ a0 → a0 ≤ 24 → (0 : Int) ≤ a1 ∧ a1 ≤ 7)) : 19 ≤ a0 → a0 ≤ 24 → (0 : Int) ≤ a1 ∧ a1 ≤ 7 := by omega
theorem oz569 {a0 a1 a2 : Int} (h0 : a0 ≤ a1) (h1 : a0 = 18) (h2 : a2 = 1) : (-2147483648 : Int) ≤ a1 + a2 := by omega
theorem oz570 {a0 a1 a2 a3 : Int} (h0 : a0 ≤ a1) (h1 : a2 = a1 + a3) (h2 : a0 = 18) (h3 : a3 = 1) : (0 : Int) ≤ a2 := by omega
theorem oz571 {a0 a1 a2 a3 a4 : Int} (h0 : a0 ≤ a1) (h1 : (0 : Int) ≤ a2) (h2 : a0 = a3 + a2) (h3 : a3 = 10) (h4 : a4 = 1) : (-2147483648 : Int) ≤ a1 + a4 := by omega
theorem oz572 {a0 a1 a2 a3 a4 a5 : Int} (h0 : a0 ≤ a1) (h1 : (0 : Int) ≤ a2) (h2 : a0 = a3 + a2) (h3 : a4 = a1 + a5) (h4 : a3 = 10) (h5 : a5 = 1) : (0 : Int) ≤ a4 := by omega
theorem oz573 {a0 a1 a2 : Int} (h0 : a0 < a1) (h1 : a1 = 8) : a0 = 18 → (0 : Int) ≤ a2 ∧ a2 ≤ 5 := by omega
theorem oz574 {a0 a1 a2 : Int} (h0 : a0 < a1) (h1 : a1 = 8) : 19 ≤ a0 → a0 ≤ 24 → (0 : Int) ≤ a2 ∧ a2 ≤ 7 := by omega
theorem oz575 {a0 a1 a2 a3 : Int} (h0 : a0 < a1) (h1 : a2 ≤ a0) (h2 : a2 = a3 + a1) (h3 : a3 = 10) : False := by omega
theorem oz576 {a0 a1 : Int} (h0 : a0 ≠ a1) (h1 : a0 ≤ 50) (h2 : a1 = 50) : a0 < 50 := by omega
theorem oz577 {a0 a1 : Int} (h0 : a0 ≤ a1) (h1 : a1 = 7) : a0 ≤ 7 := by omega
theorem oz578 {a0 a1 : Int} (h0 : a0 ≤ 50) (h1 : a1 = 1) : a0 + a1 ≤ 2147483647 := by omega
theorem oz579 {a0 a1 a2 a3 : Int} (h0 : a0 ≠ a1) (h1 : a0 ≤ 50) (h2 : a2 = a0 + a3) (h3 : a1 = 50) (h4 : a3 = 1) : a2 ≤ 50 := by omega
theorem oz580 {a0 a1 a2 a3 : Int} (h0 : (0 : Int) ≤ a0) (h1 : a1 = a2 ∨ a1 = a0) (h2 : a2 = 24) (h3 : a3 = 1) : (-2147483648 : Int) ≤ a1 - a3 := by omega
theorem oz581 {a0 a1 a2 : Int} (h0 : a0 ≤ a1) (h1 : a1 = 24) (h2 : a2 = 1) : a0 - a2 ≤ 2147483647 := by omega
theorem oz582 {a0 a1 a2 a3 a4 : Int} (h0 : a0 ≤ a1) (h1 : a2 = a0 - a3) (h2 : a4 ≤ a2) (h3 : a1 = 24) (h4 : a3 = 1) : a4 < 24 := by omega
theorem oz583 {a0 a1 : Int} (h0 : a0 ≤ 50) (h1 : a1 = 1) : a0 - a1 ≤ 2147483647 := by omega
theorem oz584 {a0 a1 a2 : Int} (h0 : a0 ≤ a1) (h1 : a0 = (-1)) (h2 : a2 = 10) : (-2147483648 : Int) ≤ a2 + a1 := by omega
theorem oz585 {a0 a1 a2 a3 a4 : Int} (h0 : a0 ≤ 50) (h1 : a1 = a0 - a2) (h2 : a3 ≤ a1) (h3 : a2 = 1) (h4 : a4 = 10) : a4 + a3 ≤ 2147483647 := by omega
theorem oz586 {a0 a1 a2 a3 : Int} (h0 : a0 = a1 + a2) (h1 : a3 ≤ a2) (h2 : a1 = 10) (h3 : a3 = (-1)) : (-1 : Int) ≤ a0 := by omega
theorem oz587 {a0 a1 a2 a3 a4 a5 : Int} (h0 : a0 ≤ 50) (h1 : a1 = a0 - a2) (h2 : a3 = a4 + a5) (h3 : a5 ≤ a1) (h4 : a2 = 1) (h5 : a4 = 10) : a3 ≤ 59 := by omega
theorem oz588 {a0 : Int} (h0 : a0 = 0) : a0 ≤ 60 := by omega
theorem oz589 {a0 : Int} (h0 : a0 = (-1)) : (-1 : Int) ≤ a0 := by omega
theorem oz590 {a0 : Int} (h0 : a0 = (-1)) : a0 ≤ 59 := by omega
theorem oz591 {a0 a1 : Int} (h0 : a0 ≤ a1) (h1 : a0 = 0) : (-1 : Int) ≤ a1 := by omega
theorem oz592 {a0 a1 : Int} (h0 : a0 ≤ a1) (h1 : a1 = 4) : a0 ≤ 59 := by omega
theorem oz593 {a0 a1 : Int} (h0 : a0 ≤ a1) (h1 : a1 = 60) : a0 ≤ 60 := by omega
theorem oz594 {a0 a1 a2 : Int} (h0 : (0 : Int) ≤ a0) (h1 : a1 = 60 * a2) (h2 : (0 : Int) ≤ a2) : (-2147483648 : Int) ≤ a1 + a0 := by omega
theorem oz595 {a0 a1 a2 a3 : Int} (h0 : a0 < a1) (h1 : a2 = 60 * a3) (h2 : a3 ≤ 5) (h3 : a1 = 60) : a2 + a0 ≤ 2147483647 := by omega
theorem oz596 {a0 a1 a2 a3 : Int} (h0 : (0 : Int) ≤ a0) (h1 : a1 = 60 * a2) (h2 : a3 = a1 + a0) (h3 : (0 : Int) ≤ a2) : (0 : Int) ≤ a3 := by omega
theorem oz597 {a0 a1 a2 a3 a4 : Int} (h0 : a0 < a1) (h1 : a2 = 60 * a3) (h2 : a4 = a2 + a0) (h3 : a3 ≤ 5) (h4 : a1 = 60) : a4 < 360 := by omega
theorem oz598 {a0 a1 a2 : Int} (h0 : a0 < a1) (h1 : a1 = 60) (h2 : a2 = 1) : a0 + a2 ≤ 2147483647 := by omega
theorem oz599 {a0 a1 : Int} (h0 : a0 < a1) (h1 : a1 = 60) : (1 : Int) ≤ (60 - a0) := by omega
theorem oz600 {a0 a1 a2 : Int} (h0 : a0 ≤ a1) (h1 : a1 ≤ a2) (h2 : a0 = 0) (h3 : a2 = 4) : ((0 : Int) ≤ a1) ∧ (a1 ≤ 4) := by omega
theorem oz601 {a0 a1 a2 : Int} (h0 : ¬ ((a0 ≤ a1) ∧ (a1 ≤ a2))) (h1 : a0 = 0) (h2 : a2 = 4) : ¬ (((0 : Int) ≤ a1) ∧ (a1 ≤ 4)) := by omega
theorem oz602 {a0 a1 : Int} (h0 : a0 ≤ 60) (h1 : a1 = 1) : a0 - a1 ≤ 2147483647 := by omega
theorem oz603 {a0 a1 a2 a3 : Int} (h0 : a0 = 60 * a1) (h1 : a2 ≤ a3) (h2 : (0 : Int) ≤ a1) (h3 : a2 = 0) : (-2147483648 : Int) ≤ a0 + a3 := by omega
theorem oz604 {a0 a1 a2 a3 a4 a5 : Int} (h0 : a0 ≤ 60) (h1 : a1 = 60 * a2) (h2 : a3 = a0 - a4) (h3 : a5 ≤ a3) (h4 : a2 ≤ 5) (h5 : a4 = 1) : a1 + a5 ≤ 2147483647 := by omega
theorem oz605 {a0 : Int} (h0 : ¬ (a0 = 0)) (h1 : ¬ (a0 = 1)) (h2 : ¬ (a0 = 2)) (h3 : ¬ (a0 = 3)) : a0 < 0 ∨ 3 < a0 := by omega
theorem oz606 {a0 a1 a2 a3 a4 : Int} (h0 : a0 = 60 * a1) (h1 : a2 = a0 + a3) (h2 : a4 ≤ a3) (h3 : (0 : Int) ≤ a1) (h4 : a4 = 0) : (0 : Int) ≤ a2 := by omega
theorem oz607 {a0 a1 a2 a3 a4 a5 a6 : Int} (h0 : a0 ≤ 60) (h1 : a1 = 60 * a2) (h2 : a3 = a1 + a4) (h3 : a5 = a0 - a6) (h4 : a4 ≤ a5) (h5 : a2 ≤ 5) (h6 : a6 = 1) : a3 < 360 := by omega
theorem oz608 {a0 a1 a2 a3 : Int} (h0 : a0 = 60 * a1) (h1 : (0 : Int) ≤ a1) (h2 : a2 ≤ a3) (h3 : a2 = 0) : (-2147483648 : Int) ≤ a0 + a3 := by omega
theorem oz609 {a0 a1 a2 a3 a4 a5 : Int} (h0 : a0 ≤ 60) (h1 : a1 = 60 * a2) (h2 : a3 = a0 - a4) (h3 : a2 ≤ 5) (h4 : a5 ≤ a3) (h5 : a4 = 1) : a1 + a5 ≤ 2147483647 := by omega
theorem oz610 {a0 a1 a2 a3 a4 : Int} (h0 : a0 = 60 * a1) (h1 : a2 = a0 + a3) (h2 : (0 : Int) ≤ a1) (h3 : a4 ≤ a3) (h4 : a4 = 0) : (0 : Int) ≤ a2 := by omega
theorem oz611 {a0 a1 a2 a3 a4 a5 a6 : Int} (h0 : a0 ≤ 60) (h1 : a1 = 60 * a2) (h2 : a3 = a1 + a4) (h3 : a5 = a0 - a6) (h4 : a2 ≤ 5) (h5 : a4 ≤ a5) (h6 : a6 = 1) : a3 < 360 := by omega
theorem oz612 {a0 a1 a2 a3 a4 : Int} (h0 : a0 ≤ a1) (h1 : a0 ≤ a2) (h2 : a3 = a2) (h3 : a4 = a1) (h4 : a0 = 0) : (-9223372036854775808 : Int) ≤ a3 + a4 := by omega
theorem oz613 {a0 a1 a2 a3 : Int} (h0 : a0 ≤ 2147483647) (h1 : a1 ≤ 2147483647) (h2 : a2 = a0) (h3 : a3 = a1) : a2 + a3 ≤ 9223372036854775807 := by omega
theorem oz614 {a0 a1 a2 a3 a4 : Int} (h0 : a0 ≤ a1) (h1 : a0 ≤ a2) (h2 : a3 = a1) (h3 : a4 = a2) (h4 : a0 = 0) : (-9223372036854775808 : Int) ≤ a4 + a3 := by omega
theorem oz615 {a0 a1 a2 a3 : Int} (h0 : a0 ≤ 2147483647) (h1 : a1 ≤ 2147483647) (h2 : a2 = a0) (h3 : a3 = a1) : a3 + a2 ≤ 9223372036854775807 := by omega
theorem oz616 {a0 a1 a2 a3 : Int} (h0 : a0 ≤ a1) (h1 : a2 = 60 * a3) (h2 : (0 : Int) ≤ a3) (h3 : a0 = 0) : (-2147483648 : Int) ≤ a2 + a1 := by omega
theorem oz617 {a0 a1 a2 a3 a4 a5 a6 a7 a8 a9 a10 : Int} (h0 : a0 ≤ a1) (h1 : a2 ≤ a0) (h2 : a3 ≤ 60) (h3 : a4 = a1) (h4 : a5 = a6) (h5 : a7 = a5 + a4) (h6 : a8 = a3) (h7 : (0 < a2 ↔ a8 < a7)) (h8 : a9 = 60 * a10) (h9 : a10 ≤ 5) (h10 : a0 = 0) : a9 + a6 ≤ 2147483647 := by omega
theorem oz618 {a0 a1 a2 a3 a4 a5 : Int} (h0 : a0 ≤ a1) (h1 : (0 : Int) ≤ a2) (h2 : a3 = 60 * a4) (h3 : a5 = a3 + a1) (h4 : (0 : Int) ≤ a4) (h5 : a0 = 0) : (-2147483648 : Int) ≤ a5 + a2 := by omega
theorem oz619 {a0 a1 a2 a3 a4 a5 a6 a7 a8 a9 a10 a11 a12 : Int} (h0 : a0 ≤ a1) (h1 : a2 < a3) (h2 : a4 ≤ 60) (h3 : a5 = a3) (h4 : a6 = a7) (h5 : a8 = a6 + a5) (h6 : a9 = a4) (h7 : (0 < a0 ↔ a9 < a8)) (h8 : a10 = 60 * a11) (h9 : a12 = a10 + a7) (h10 : a11 ≤ 5) (h11 : a1 = 0) : a12 + a2 ≤ 2147483647 := by omega
theorem oz620 {a0 a1 a2 a3 a4 a5 a6 a7 a8 a9 a10 : Int} (h0 : a0 ≤ a1) (h1 : a2 ≤ a0) (h2 : a3 ≤ 60) (h3 : a4 = a5) (h4 : a6 = a1) (h5 : a7 = a4 + a6) (h6 : a8 = a3) (h7 : (0 < a2 ↔ a8 < a7)) (h8 : a9 = 60 * a10) (h9 : a10 ≤ 5) (h10 : a0 = 0) : a9 + a5 ≤ 2147483647 := by omega
theorem oz621 {a0 a1 a2 a3 a4 a5 a6 a7 a8 a9 a10 a11 a12 : Int} (h0 : a0 ≤ a1) (h1 : a2 < a3) (h2 : a4 ≤ 60) (h3 : a5 = a6) (h4 : a7 = a3) (h5 : a8 = a5 + a7) (h6 : a9 = a4) (h7 : (0 < a0 ↔ a9 < a8)) (h8 : a10 = 60 * a11) (h9 : a12 = a10 + a6) (h10 : a11 ≤ 5) (h11 : a1 = 0) : a12 + a2 ≤ 2147483647 := by omega
theorem oz622 {a0 a1 a2 a3 a4 a5 a6 : Int} (h0 : a0 ≤ a1) (h1 : (0 : Int) ≤ a2) (h2 : a3 = 60 * a4) (h3 : a5 = a3 + a1) (h4 : a6 = a5 + a2) (h5 : (0 : Int) ≤ a4) (h6 : a0 = 0) : (0 : Int) ≤ a6 := by omega
theorem oz623 {a0 a1 a2 a3 a4 a5 a6 a7 a8 a9 a10 a11 a12 a13 : Int} (h0 : a0 ≤ a1) (h1 : a2 < a3) (h2 : a4 ≤ 60) (h3 : a5 = a6) (h4 : a7 = a3) (h5 : a8 = a5 + a7) (h6 : a9 = a4) (h7 : (0 < a0 ↔ a9 < a8)) (h8 : a10 = 60 * a11) (h9 : a12 = a10 + a6) (h10 : a13 = a12 + a2) (h11 : a11 ≤ 5) (h12 : a1 = 0) : a13 < 360 := by omega
theorem oz624 {a0 a1 a2 a3 a4 a5 a6 a7 a8 a9 a10 a11 a12 a13 : Int} (h0 : a0 ≤ a1) (h1 : a2 < a3) (h2 : a4 ≤ 60) (h3 : a5 = a3) (h4 : a6 = a7) (h5 : a8 = a6 + a5) (h6 : a9 = a4) (h7 : (0 < a0 ↔ a9 < a8)) (h8 : a10 = 60 * a11) (h9 : a12 = a10 + a7) (h10 : a13 = a12 + a2) (h11 : a11 ≤ 5) (h12 : a1 = 0) : a13 < 360 := by omega
theorem oz625 {a0 a1 a2 : Int} (h0 : a0 ≤ 2147483647) (h1 : a1 < a0) (h2 : a2 = 1) : a1 + a2 ≤ 2147483647 := by omega
theorem oz626 {a0 a1 a2 a3 a4 a5 a6 a7 a8 a9 a10 a11 a12 a13 : Int} (h0 : a0 ≤ a1) (h1 : a2 ≤ a3) (h2 : a4 < a5) (h3 : a6 ≤ 60) (h4 : a7 = a3) (h5 : a8 = a5) (h6 : a9 = a7 + a8) (h7 : a10 = a6) (h8 : (0 < a0 ↔ a10 < a9)) (h9 : a11 = 60 * a12) (h10 : a13 = a11 + a2) (h11 : a12 ≤ 5) (h12 : a1 = 0) : a13 + a4 ≤ 2147483647 := by omega
theorem oz627 {a0 a1 a2 a3 a4 a5 a6 a7 a8 a9 a10 a11 : Int} (h0 : a0 ≤ a1) (h1 : a2 < a3) (h2 : (0 : Int) ≤ a2) (h3 : a4 ≤ 60) (h4 : a5 = a6) (h5 : a7 = a3) (h6 : a8 = a5 + a7) (h7 : a9 = a4) (h8 : (0 < a0 ↔ a9 < a8)) (h9 : a10 = 60 * a11) (h10 : a11 ≤ 5) (h11 : a1 = 0) : a10 + a6 ≤ 2147483647 := by omega
theorem oz628 {a0 a1 a2 a3 a4 a5 a6 a7 a8 a9 a10 a11 a12 a13 a14 : Int} (h0 : a0 ≤ a1) (h1 : a2 ≤ a3) (h2 : a4 < a5) (h3 : a6 ≤ 60) (h4 : a7 = a3) (h5 : a8 = a5) (h6 : a9 = a7 + a8) (h7 : a10 = a6) (h8 : (0 < a0 ↔ a10 < a9)) (h9 : a11 = 60 * a12) (h10 : a13 = a11 + a2) (h11 : a14 = a13 + a4) (h12 : a12 ≤ 5) (h13 : a1 = 0) : a14 < 360 := by omega
theorem oz629 {a0 a1 a2 : Int} (h0 : a0 ≤ a1) (h1 : a0 = 0) (h2 : a2 = 1) : (-2147483648 : Int) ≤ a1 - a2 := by omega
theorem oz630 {a0 a1 : Int} (h0 : a0 ≤ 2147483647) (h1 : a1 = 1) : a0 - a1 ≤ 2147483647 := by omega
theorem oz631 {a0 a1 a2 a3 a4 a5 a6 a7 a8 a9 a10 a11 : Int} (h0 : a0 ≤ a1) (h1 : a1 ≤ a2) (h2 : a2 ≤ (a3 - 1)) (h3 : a4 ≤ 60) (h4 : a5 = a3) (h5 : a6 = a7) (h6 : a8 = a6 + a5) (h7 : a9 = a4) (h8 : (0 < a0 ↔ a9 < a8)) (h9 : a10 = 60 * a11) (h10 : a11 ≤ 5) (h11 : a1 = 0) : a10 + a7 ≤ 2147483647 := by omega
theorem oz632 {a0 a1 a2 a3 a4 a5 : Int} (h0 : a0 ≤ a1) (h1 : a0 ≤ a2) (h2 : a3 = 60 * a4) (h3 : a5 = a3 + a1) (h4 : (0 : Int) ≤ a4) (h5 : a0 = 0) : (-2147483648 : Int) ≤ a5 + a2 := by omega
theorem oz633 {a0 a1 a2 a3 a4 a5 a6 a7 a8 a9 a10 a11 a12 : Int} (h0 : a0 ≤ a1) (h1 : a2 ≤ (a3 - 1)) (h2 : a4 ≤ 60) (h3 : a5 = a3) (h4 : a6 = a7) (h5 : a8 = a6 + a5) (h6 : a9 = a4) (h7 : (0 < a0 ↔ a9 < a8)) (h8 : a10 = 60 * a11) (h9 : a12 = a10 + a7) (h10 : a11 ≤ 5) (h11 : a1 = 0) : a12 + a2 ≤ 2147483647 := by omega
theorem oz634 {a0 a1 a2 a3 a4 a5 a6 a7 a8 a9 a10 a11 : Int} (h0 : a0 ≤ a1) (h1 : ((-1) : Int) ≤ a2) (h2 : a2 ≤ (a3 - 1)) (h3 : a4 ≤ 60) (h4 : a5 = a6) (h5 : a7 = a3) (h6 : a8 = a5 + a7) (h7 : a9 = a4) (h8 : (0 < a0 ↔ a9 < a8)) (h9 : a10 = 60 * a11) (h10 : a11 ≤ 5) (h11 : a1 = 0) : a10 + a6 ≤ 2147483647 := by omega
theorem oz635 {a0 a1 a2 a3 a4 a5 a6 a7 a8 a9 a10 a11 a12 : Int} (h0 : a0 ≤ a1) (h1 : a2 ≤ (a3 - 1)) (h2 : a4 ≤ 60) (h3 : a5 = a6) (h4 : a7 = a3) (h5 : a8 = a5 + a7) (h6 : a9 = a4) (h7 : (0 < a0 ↔ a9 < a8)) (h8 : a10 = 60 * a11) (h9 : a12 = a10 + a6) (h10 : a11 ≤ 5) (h11 : a1 = 0) : a12 + a2 ≤ 2147483647 := by omega
theorem oz636 {a0 a1 a2 a3 a4 a5 a6 : Int} (h0 : a0 ≤ a1) (h1 : a0 ≤ a2) (h2 : a3 = 60 * a4) (h3 : a5 = a3 + a1) (h4 : a6 = a5 + a2) (h5 : (0 : Int) ≤ a4) (h6 : a0 = 0) : (0 : Int) ≤ a6 := by omega
theorem oz637 {a0 a1 a2 a3 a4 a5 a6 a7 a8 a9 a10 a11 a12 a13 : Int} (h0 : a0 ≤ a1) (h1 : a2 ≤ (a3 - 1)) (h2 : a4 ≤ 60) (h3 : a5 = a6) (h4 : a7 = a3) (h5 : a8 = a5 + a7) (h6 : a9 = a4) (h7 : (0 < a0 ↔ a9 < a8)) (h8 : a10 = 60 * a11) (h9 : a12 = a10 + a6) (h10 : a13 = a12 + a2) (h11 : a11 ≤ 5) (h12 : a1 = 0) : a13 < 360 := by omega
theorem oz638 {a0 a1 a2 a3 a4 a5 a6 a7 : Int} (h0 : a0 ≤ a1) (h1 : a1 < a2) (h2 : a0 ≤ a3) (h3 : a4 = 60 * a5) (h4 : a6 = a4 + a2) (h5 : a7 = a6 + a3) (h6 : (0 : Int) ≤ a5) (h7 : a0 = 0) : (0 : Int) ≤ a7 := by omega
theorem oz639 {a0 a1 a2 a3 a4 a5 a6 a7 a8 a9 a10 a11 a12 a13 a14 : Int} (h0 : a0 ≤ a1) (h1 : a2 = a3) (h2 : a4 ≤ (a5 - 1)) (h3 : a6 ≤ 60) (h4 : a7 = a5) (h5 : a8 = a9) (h6 : a10 = a8 + a7) (h7 : a11 = a6) (h8 : (0 < a0 ↔ a11 < a10)) (h9 : a12 = 60 * a3) (h10 : a13 = a12 + a9) (h11 : a14 = a13 + a4) (h12 : a2 ≤ 5) (h13 : a1 = 0) : a14 < 360 := by omega
theorem oz640 {a0 a1 a2 : Int} (h0 : a0 ≤ 2147483647) (h1 : a1 ≤ (a0 - 1)) (h2 : a2 = (-1)) : a1 + a2 ≤ 2147483647 := by omega
theorem oz641 {a0 a1 a2 a3 : Int} (h0 : a0 ≤ (a1 - 1)) (h1 : a2 = a0 + a3) (h2 : a3 = (-1)) : a2 ≤ (a1 - 1) := by omega
theorem oz642 {a0 a1 a2 a3 : Int} (h0 : a0 ≤ a1) (h1 : a2 = a1 - a3) (h2 : a0 = 0) (h3 : a3 = 1) : ((-1) : Int) ≤ a2 := by omega
theorem oz643 {a0 a1 a2 : Int} (h0 : a0 = a1 - a2) (h1 : a2 = 1) : a0 ≤ (a1 - 1) := by omega
theorem oz644 {a0 a1 : Int} (h0 : (-1 : Int) ≤ a0) (h1 : a1 = 10) : (-2147483648 : Int) ≤ a0 - a1 := by omega
theorem oz645 {a0 a1 : Int} (h0 : a0 ≤ 59) (h1 : a1 = 10) : a0 - a1 ≤ 2147483647 := by omega
theorem oz646 {a0 a1 a2 a3 : Int} (h0 : a0 ≠ a1) (h1 : (-1 : Int) ≤ a0) (h2 : a0 ≤ 4 ∨ 10 ≤ a0) (h3 : a2 = a0 - a3) (h4 : ¬ (((0 : Int) ≤ a0) ∧ (a0 ≤ 4))) (h5 : a1 = (-1)) (h6 : a3 = 10) : (0 : Int) ≤ a2 := by omega
theorem oz647 {a0 a1 a2 : Int} (h0 : a0 ≤ 59) (h1 : a1 = a0 - a2) (h2 : a2 = 10) : a1 < 50 := by omega
theorem oz648 {a0 a1 : Int} (h0 : a0 = a1) (h1 : a0 ≠ a1) : False := by omega
theorem oz649 {a0 a1 a2 : Int} (h0 : a0 ≠ a1) (h1 : a0 ≤ a2) (h2 : a0 = a1) (h3 : a2 ≤ a1) (h4 : a2 = 0) : False := by omega
theorem oz650 {a0 a1 : Int} (h0 : a0 = 3) (h1 : a1 = 2) : ((0 : Int) ≤ a1) ∧ (a1 ≤ 4) ∧ ((a1 < a0) ∨ (a0 ≤ 0)) := by omega
theorem oz651 {a0 a1 : Int} (h0 : a0 = 4) (h1 : a1 = 1) : ((0 : Int) ≤ a1) ∧ (a1 ≤ 4) ∧ ((a1 < a0) ∨ (a0 ≤ 0)) := by omega
theorem oz652 {a0 a1 : Int} (h0 : a0 = 5) (h1 : a1 = 3) : ((0 : Int) ≤ a1) ∧ (a1 ≤ 4) ∧ ((a1 < a0) ∨ (a0 ≤ 0)) := by omega
theorem oz653 {a0 a1 : Int} (h0 : a0 = 6) (h1 : a1 = 0) : ((0 : Int) ≤ a1) ∧ (a1 ≤ 4) ∧ ((a1 < a0) ∨ (a0 ≤ 0)) := by omega
theorem oz654 {a0 a1 : Int} (h0 : a0 = 7) (h1 : a1 = 4) : ((0 : Int) ≤ a1) ∧ (a1 ≤ 4) ∧ ((a1 < a0) ∨ (a0 ≤ 0)) := by omega
theorem oz655 {a0 : Int} (h0 : ¬ (a0 = 3)) (h1 : ¬ (a0 = 4)) (h2 : ¬ (a0 = 5)) (h3 : ¬ (a0 = 6)) (h4 : ¬ (a0 = 7)) : a0 < 3 ∨ 7 < a0 := by omega
theorem oz656 {a0 a1 : Int} (h0 : a0 = 0) : ((0 : Int) ≤ a0) ∧ (a0 ≤ 4) ∧ ((a0 < a1) ∨ (a1 ≤ 0)) := by omega
theorem oz657 {a0 : Int} (h0 : (0 : Int) ≤ a0) (h1 : a0 ≤ 4) : ((0 : Int) ≤ a0) ∧ (a0 ≤ 7) := by omega
theorem oz658 {a0 a1 a2 : Int} (h0 : a0 < a1) (h1 : (a2 < a1) ∨ (a1 ≤ 0)) (h2 : a0 = 0) : a2 < a1 := by omega
theorem oz659 {a0 a1 : Int} (h0 : a0 < a1) (h1 : a0 = 0) : (1 : Int) ≤ a1 := by omega
theorem oz660 {a0 : Int} (h0 : ¬ (a0 = 0)) (h1 : ¬ (a0 = 1)) (h2 : ¬ (a0 = 2)) (h3 : ¬ (a0 = 3)) (h4 : ¬ (a0 = 4)) (h5 : ¬ (a0 = 5)) : a0 < 0 ∨ 5 < a0 := by omega
theorem oz661 {a0 : Int} (h0 : a0 ≤ 255) : a0 ≤ 255 := by omega
theorem oz662 {a0 a1 : Int} (h0 : a0 ≠ a1) (h1 : (0 : Int) ≤ a0) (h2 : a1 = 0) : a0 ≠ 0 := by omega
theorem oz663 {a0 a1 : Int} (h0 : (a0 + a1) ≤ 5) (h1 : (1 : Int) ≤ a1) : a0 < 5 := by omega
theorem oz664 {a0 a1 a2 : Int} (h0 : (a0 + a1) ≤ 5) (h1 : (1 : Int) ≤ a1) (h2 : a2 = 1) : a0 + a2 ≤ 2147483647 := by omega
theorem oz665 {a0 a1 : Int} (h0 : a0 = a1) (h1 : (1 : Int) ≤ a0) : (1 : Int) ≤ a1 := by omega
theorem oz666 {a0 : Int} (h0 : (0 : Int) ≤ a0) (h1 : a0 ≤ 255) : ((0 : Int) ≤ a0) ∧ (a0 ≤ 255) := by omega
theorem oz667 {a0 a1 a2 a3 a4 : Int} (h0 : (a0 + a1) ≤ 5) (h1 : a2 = a1 - 1) (h2 : a3 = a0 + a4) (h3 : a4 = 1) : (a3 + a2) ≤ 5 := by omega
theorem oz668 {a0 a1 a2 a3 : Int} (h0 : a0 = a1 + 1) (h1 : a2 = a0) (h2 : a3 = a2 - 1) : a3 = a1 := by omega
theorem oz669 {a0 a1 a2 : Int} (h0 : (0 : Int) ≤ a0) (h1 : (a1 + a2) ≤ 5) (h2 : a2 = a0) : a1 ≤ 21 := by omega
theorem oz670 {a0 a1 a2 a3 : Int} (h0 : a0 < a1) (h1 : (0 : Int) ≤ a2) (h2 : (a1 + a3) ≤ 5) (h3 : a3 = a2) : a0 < 5 := by omega
theorem oz671 {a0 a1 a2 a3 a4 : Int} (h0 : a0 < a1) (h1 : (0 : Int) ≤ a2) (h2 : (a1 + a3) ≤ 5) (h3 : a3 = a2) (h4 : a4 = 1) : a0 + a4 ≤ 2147483647 := by omega
theorem oz672 {a0 a1 a2 a3 : Int} (h0 : a0 < a1) (h1 : (0 : Int) ≤ a2) (h2 : (a1 + a3) ≤ 5) (h3 : a3 = a2) : a0 < 21 := by omega
theorem oz673 {a0 : Int} (h0 : (0 : Int) ≤ a0) : (-2147483648 : Int) ≤ 31 * a0 := by omega
theorem oz674 {a0 a1 : Int} (h0 : a0 ≤ 5) (h1 : (a1 + 1) ≤ a0) : 31 * a1 ≤ 2147483647 := by omega
theorem oz675 {a0 a1 : Int} (h0 : (0 : Int) ≤ a0) (h1 : (0 : Int) ≤ a1) : (-2147483648 : Int) ≤ a0 + a1 := by omega
theorem oz676 {a0 a1 a2 : Int} (h0 : a0 < a1) (h1 : a2 ≤ 124) (h2 : a1 = 31) : a2 + a0 ≤ 2147483647 := by omega
theorem oz677 {a0 a1 a2 : Int} (h0 : (0 : Int) ≤ a0) (h1 : (0 : Int) ≤ a1) (h2 : a2 = a0 + a1) : (0 : Int) ≤ a2 := by omega
theorem oz678 {a0 a1 a2 a3 : Int} (h0 : a0 < a1) (h1 : a2 ≤ 124) (h2 : a3 = a2 + a0) (h3 : a1 = 31) : a3 < 155 := by omega
theorem oz679 {a0 a1 a2 : Int} (h0 : (0 : Int) ≤ a0) (h1 : a1 ≤ 5) (h2 : (a0 + 1) ≤ a1) (h3 : a2 = 31 * a0) : ((0 : Int) ≤ a2) ∧ (a2 ≤ 124) := by omega
theorem oz680 {a0 a1 a2 : Int} (h0 : a0 ≤ 5) (h1 : (a1 + 1) ≤ a0) (h2 : a2 = 1) : a1 + a2 ≤ 2147483647 := by omega
theorem oz681 {a0 a1 a2 : Int} (h0 : (a0 - a1) = a2) (h1 : (a1 + 1) ≤ a0) : (1 : Int) ≤ a2 := by omega
theorem oz682 {a0 a1 a2 a3 : Int} (h0 : (0 : Int) ≤ a0) (h1 : a1 ≤ 5) (h2 : (a0 + 1) ≤ a1) (h3 : a2 = a0 + a3) (h4 : a3 = 1) : ((0 : Int) ≤ a2) ∧ (a2 ≤ a1) ∧ (a1 ≤ 5) := by omega
theorem oz683 {a0 a1 a2 a3 a4 a5 : Int} (h0 : a0 = a1 + 1) (h1 : (a2 - a3) = a0) (h2 : a4 = a3 + a5) (h3 : a5 = 1) : (a2 - a4) = a1 := by omega
theorem oz684 {a0 a1 a2 : Int} (h0 : a0 ≤ a1) (h1 : a1 ≤ 5) (h2 : a2 = 1) : a0 + a2 ≤ 2147483647 := by omega
theorem oz685 {a0 a1 a2 : Int} (h0 : a0 ≠ a1) (h1 : (0 : Int) ≤ a2) (h2 : (a1 - a0) = a2) : (1 : Int) ≤ a2 := by omega
theorem oz686 {a0 a1 a2 a3 : Int} (h0 : a0 ≠ a1) (h1 : (0 : Int) ≤ a0) (h2 : a0 ≤ a1) (h3 : a1 ≤ 5) (h4 : a2 = a0 + a3) (h5 : a3 = 1) : ((0 : Int) ≤ a2) ∧ (a2 ≤ a1) ∧ (a1 ≤ 5) := by omega
theorem oz687 {a0 a1 : Int} (h0 : (0 : Int) ≤ a0) (h1 : a0 ≤ a1) (h2 : a1 ≤ 5) : ((0 : Int) ≤ a0) ∧ (a0 ≤ a1) ∧ (a1 ≤ 5) := by omega
theorem oz688 {a0 a1 a2 : Int} (h0 : (a0 - a1) = a2) : (a0 - a1) = a2 := by omega
theorem oz689 {a0 a1 : Int} (h0 : a0 ≠ a1) (h1 : a0 ≤ a1) : (a0 + 1) ≤ a1 := by omega
theorem oz690 {a0 a1 : Int} (h0 : a0 ≤ 256) (h1 : a1 = 1) : a0 - a1 ≤ 2147483647 := by omega
theorem oz691 {a0 a1 a2 a3 : Int} (h0 : a0 ≤ 256) (h1 : a1 = a0 - a2) (h2 : a3 ≤ a1) (h3 : a2 = 1) : a3 ≤ 255 := by omega
theorem oz692 {a0 a1 a2 a3 a4 : Int} (h0 : a0 ≤ 256) (h1 : a1 = a0 - a2) (h2 : a3 ≤ a4) (h3 : a4 ≤ a1) (h4 : a2 = 1) (h5 : a3 = 0) : ((0 : Int) ≤ a4) ∧ (a4 ≤ 255) := by omega
theorem oz693 {a0 a1 a2 a3 : Int} (h0 : a0 ≤ a1) (h1 : a0 = a2) (h2 : a1 = 5) (h3 : a3 = 0) : (a3 + a2) ≤ 5 := by omega
theorem oz694 {a0 a1 : Int} (h0 : a0 ≠ a1) (h1 : a1 ≤ a0) (h2 : a1 = (-1)) : (0 : Int) ≤ a0 := by omega
theorem oz695 {a0 a1 a2 a3 a4 : Int} (h0 : a0 ≤ a1) (h1 : a2 < a3) (h2 : a0 = a4) (h3 : a3 = a4) (h4 : a1 = 5) : a2 < 5 := by omega
theorem oz696 {a0 a1 a2 : Int} (h0 : a0 ≤ a1) (h1 : a1 ≤ a2) (h2 : a0 = 1) (h3 : a2 = 5) : ((0 : Int) ≤ a0) ∧ (a0 ≤ a1) ∧ (a1 ≤ 5) := by omega
theorem oz697 {a0 a1 a2 : Int} (h0 : a0 ≤ 8) (h1 : a1 = (a2 / 10)) (h2 : (0 : Int) ≤ a2) (h3 : (a2 / 10) < a0) (h4 : (a2 % 10) < a0) (h5 : (a2 / 10) ≠ (a2 % 10)) : ((0 : Int) ≤ a1) ∧ (a1 ≤ 7) := by omega
theorem oz698 {a0 a1 a2 : Int} (h0 : a0 ≤ 8) (h1 : a1 = (a2 % 10)) (h2 : (a2 % 10) < a0) : ((0 : Int) ≤ a1) ∧ (a1 ≤ 7) := by omega
theorem oz699 {a0 a1 a2 a3 : Int} (h0 : a0 ≤ a1) (h1 : a1 ≤ a2) (h2 : a0 = 1) (h3 : a2 = 5) (h4 : a3 = 0) : ((0 : Int) ≤ a3) ∧ (a3 ≤ a1) ∧ (a1 ≤ 5) := by omega
theorem oz700 {a0 a1 a2 : Int} (h0 : a0 ≤ a1) (h1 : a0 = 1) (h2 : a2 = 0) : (a2 + 1) ≤ a1 := by omega
theorem oz701 {a0 a1 a2 a3 : Int} (h0 : a0 ≤ a1) (h1 : a2 = (-1)) : ((a2 = (-1)) ∧ (a0 ≤ a1)) ∨ ((a1 < a0) ∧ (a2 = a3)) := by omega
theorem oz702 {a0 a1 : Int} (h0 : a0 < a1) (h1 : a1 ≤ 120) : a0 < 120 := by omega
theorem oz703 {a0 a1 a2 : Int} (h0 : a0 < a1) : ((a2 = (-1)) ∧ (a1 ≤ a0)) ∨ ((a0 < a1) ∧ (a2 = a2)) := by omega
theorem oz704 {a0 a1 a2 a3 a4 : Int} (h0 : a0 < a1) (h1 : ((a0 = (-1)) ∧ (a2 ≤ a3)) ∨ ((a3 < a2) ∧ (a0 = a4))) (h2 : a1 = 48) : ¬ ((a3 < a2) ∧ ((48 : Int) ≤ a4) ∧ (a4 ≤ 57)) := by omega
theorem oz705 {a0 a1 a2 a3 a4 : Int} (h0 : a0 < a1) (h1 : ((a1 = (-1)) ∧ (a2 ≤ a3)) ∨ ((a3 < a2) ∧ (a1 = a4))) (h2 : a0 = 57) : ¬ ((a3 < a2) ∧ ((48 : Int) ≤ a4) ∧ (a4 ≤ 57)) := by omega
theorem oz706 {a0 a1 a2 a3 a4 a5 a6 : Int} (h0 : a0 ≤ a1) (h1 : a2 ≤ a3) (h2 : ((a1 = (-1)) ∧ (a4 ≤ a5)) ∨ ((a5 < a4) ∧ (a1 = a6))) (h3 : ((a2 = (-1)) ∧ (a4 ≤ a5)) ∨ ((a5 < a4) ∧ (a2 = a6))) (h4 : a0 = 48) (h5 : a3 = 57) : (a5 < a4) ∧ ((48 : Int) ≤ a6) ∧ (a6 ≤ 57) := by omega
theorem oz707 {a0 a1 a2 a3 : Int} (h0 : a0 ≤ a1) (h1 : a2 = a3) (h2 : (a3 + a1) ≤ a2) (h3 : a0 = 4) : False := by omega
theorem oz708 {a0 a1 a2 a3 a4 : Int} (h0 : a0 < a1) (h1 : a2 = a3) (h2 : ((a0 = 0) ∧ (a4 = 0)) ∨ ((a0 = 1) ∧ ((0 : Int) ≤ a4) ∧ (a4 ≤ 9)) ∨ ((a0 = 2) ∧ ((0 : Int) ≤ a4) ∧ (a4 ≤ 99)) ∨ ((a0 = 3) ∧ ((0 : Int) ≤ a4) ∧ (a4 ≤ 999)) ∨ ((a0 = 4) ∧ ((0 : Int) ≤ a4) ∧ (a4 ≤ 9999))) (h3 : (a3 + a0) ≤ a2) (h4 : a1 = 4) : (-2147483648 : Int) ≤ 10 * a4 := by omega
theorem oz709 {a0 a1 a2 a3 a4 : Int} (h0 : a0 < a1) (h1 : a2 = a3) (h2 : ((a0 = 0) ∧ (a4 = 0)) ∨ ((a0 = 1) ∧ ((0 : Int) ≤ a4) ∧ (a4 ≤ 9)) ∨ ((a0 = 2) ∧ ((0 : Int) ≤ a4) ∧ (a4 ≤ 99)) ∨ ((a0 = 3) ∧ ((0 : Int) ≤ a4) ∧ (a4 ≤ 999)) ∨ ((a0 = 4) ∧ ((0 : Int) ≤ a4) ∧ (a4 ≤ 9999))) (h3 : (a3 + a0) ≤ a2) (h4 : a1 = 4) : 10 * a4 ≤ 2147483647 := by omega
theorem oz710 {a0 a1 : Int} (h0 : a0 ≤ 120) (h1 : a1 < a0) : a1 < 120 := by omega
theorem oz711 {a0 a1 a2 a3 a4 a5 : Int} (h0 : a0 = a1) (h1 : ((a2 = 0) ∧ (a3 = 0)) ∨ ((a2 = 1) ∧ ((0 : Int) ≤ a3) ∧ (a3 ≤ 9)) ∨ ((a2 = 2) ∧ ((0 : Int) ≤ a3) ∧ (a3 ≤ 99)) ∨ ((a2 = 3) ∧ ((0 : Int) ≤ a3) ∧ (a3 ≤ 999)) ∨ ((a2 = 4) ∧ ((0 : Int) ≤ a3) ∧ (a3 ≤ 9999))) (h2 : (a1 + a2) ≤ a0) (h3 : a4 = 10 * a3) (h4 : (48 : Int) ≤ a5) : (-2147483648 : Int) ≤ a4 + a5 := by omega
theorem oz712 {a0 a1 a2 a3 a4 a5 : Int} (h0 : a0 = a1) (h1 : ((a2 = 0) ∧ (a3 = 0)) ∨ ((a2 = 1) ∧ ((0 : Int) ≤ a3) ∧ (a3 ≤ 9)) ∨ ((a2 = 2) ∧ ((0 : Int) ≤ a3) ∧ (a3 ≤ 99)) ∨ ((a2 = 3) ∧ ((0 : Int) ≤ a3) ∧ (a3 ≤ 999)) ∨ ((a2 = 4) ∧ ((0 : Int) ≤ a3) ∧ (a3 ≤ 9999))) (h2 : (a1 + a2) ≤ a0) (h3 : a4 = 10 * a3) (h4 : a5 ≤ 57) : a4 + a5 ≤ 2147483647 := by omega
theorem oz713 {a0 a1 a2 a3 a4 a5 a6 a7 : Int} (h0 : a0 = a1) (h1 : ((a2 = 0) ∧ (a3 = 0)) ∨ ((a2 = 1) ∧ ((0 : Int) ≤ a3) ∧ (a3 ≤ 9)) ∨ ((a2 = 2) ∧ ((0 : Int) ≤ a3) ∧ (a3 ≤ 99)) ∨ ((a2 = 3) ∧ ((0 : Int) ≤ a3) ∧ (a3 ≤ 999)) ∨ ((a2 = 4) ∧ ((0 : Int) ≤ a3) ∧ (a3 ≤ 9999))) (h2 : (a1 + a2) ≤ a0) (h3 : a4 = a5 + a6) (h4 : a5 = 10 * a3) (h5 : (48 : Int) ≤ a6) (h6 : a7 = 48) : (-2147483648 : Int) ≤ a4 - a7 := by omega
theorem oz714 {a0 a1 a2 a3 a4 a5 a6 a7 : Int} (h0 : a0 = a1) (h1 : ((a2 = 0) ∧ (a3 = 0)) ∨ ((a2 = 1) ∧ ((0 : Int) ≤ a3) ∧ (a3 ≤ 9)) ∨ ((a2 = 2) ∧ ((0 : Int) ≤ a3) ∧ (a3 ≤ 99)) ∨ ((a2 = 3) ∧ ((0 : Int) ≤ a3) ∧ (a3 ≤ 999)) ∨ ((a2 = 4) ∧ ((0 : Int) ≤ a3) ∧ (a3 ≤ 9999))) (h2 : (a1 + a2) ≤ a0) (h3 : a4 = a5 + a6) (h4 : a5 = 10 * a3) (h5 : a6 ≤ 57) (h6 : a7 = 48) : a4 - a7 ≤ 2147483647 := by omega
theorem oz715 {a0 a1 a2 a3 : Int} (h0 : a0 ≤ 120) (h1 : a1 = a2 + a3) (h2 : a2 < a0) (h3 : a3 = 1) : a1 ≤ 120 := by omega
theorem oz716 {a0 a1 a2 : Int} (h0 : ((a0 = 0) ∧ (a1 = 0)) ∨ ((a0 = 1) ∧ ((0 : Int) ≤ a1) ∧ (a1 ≤ 9)) ∨ ((a0 = 2) ∧ ((0 : Int) ≤ a1) ∧ (a1 ≤ 99)) ∨ ((a0 = 3) ∧ ((0 : Int) ≤ a1) ∧ (a1 ≤ 999)) ∨ ((a0 = 4) ∧ ((0 : Int) ≤ a1) ∧ (a1 ≤ 9999))) (h1 : a2 = 1) : (-2147483648 : Int) ≤ a0 + a2 := by omega
theorem oz717 {a0 a1 a2 : Int} (h0 : a0 < a1) (h1 : a1 = 4) (h2 : a2 = 1) : a0 + a2 ≤ 2147483647 := by omega
theorem oz718 {a0 a1 a2 a3 a4 a5 a6 a7 a8 a9 a10 : Int} (h0 : a0 = a1) (h1 : ((a2 = 0) ∧ (a3 = 0)) ∨ ((a2 = 1) ∧ ((0 : Int) ≤ a3) ∧ (a3 ≤ 9)) ∨ ((a2 = 2) ∧ ((0 : Int) ≤ a3) ∧ (a3 ≤ 99)) ∨ ((a2 = 3) ∧ ((0 : Int) ≤ a3) ∧ (a3 ≤ 999)) ∨ ((a2 = 4) ∧ ((0 : Int) ≤ a3) ∧ (a3 ≤ 9999))) (h2 : (a1 + a2) ≤ a0) (h3 : a4 = a5 + a6) (h4 : a7 = a4 - a8) (h5 : a9 = a2 + a10) (h6 : a5 = 10 * a3) (h7 : (48 : Int) ≤ a6) (h8 : a6 ≤ 57) (h9 : a8 = 48) (h10 : a10 = 1) : ((a9 = 0) ∧ (a7 = 0)) ∨ ((a9 = 1) ∧ ((0 : Int) ≤ a7) ∧ (a7 ≤ 9)) ∨ ((a9 = 2) ∧ ((0 : Int) ≤ a7) ∧ (a7 ≤ 99)) ∨ ((a9 = 3) ∧ ((0 : Int) ≤ a7) ∧ (a7 ≤ 999)) ∨ ((a9 = 4) ∧ ((0 : Int) ≤ a7) ∧ (a7 ≤ 9999)) := by omega
theorem oz719 {a0 a1 : Int} (h0 : a0 = a1) : a0 = a1 := by omega
theorem oz720 {a0 a1 a2 a3 a4 a5 : Int} (h0 : (a0 + a1) ≤ a2) (h1 : a3 = a2 + a4) (h2 : a5 = a1 + a4) (h3 : a4 = 1) : (a0 + a5) ≤ a3 := by omega
theorem oz721 {a0 a1 a2 a3 : Int} (h0 : a0 = a1 + a2) (h1 : a1 < a3) (h2 : a2 = 1) : a0 ≤ a3 := by omega
theorem oz722 {a0 a1 a2 a3 a4 a5 : Int} (h0 : ((a0 = 0) ∧ (a1 = 0)) ∨ ((a0 = 1) ∧ ((0 : Int) ≤ a1) ∧ (a1 ≤ 9)) ∨ ((a0 = 2) ∧ ((0 : Int) ≤ a1) ∧ (a1 ≤ 99)) ∨ ((a0 = 3) ∧ ((0 : Int) ≤ a1) ∧ (a1 ≤ 999)) ∨ ((a0 = 4) ∧ ((0 : Int) ≤ a1) ∧ (a1 ≤ 9999))) (h1 : a2 = a0 + a3) (h2 : a3 = 1) : ((1 : Int) ≤ a2) ∨ (a4 = a5) := by omega
theorem oz723 {a0 a1 a2 : Int} (h0 : a0 = a1 + a2) (h1 : a2 = 1) : (4 - a0) < (4 - a1) := by omega
theorem oz724 {a0 a1 : Int} (h0 : a0 < a1) (h1 : a1 = 4) : (1 : Int) ≤ (4 - a0) := by omega
theorem oz725 {a0 a1 a2 a3 a4 a5 : Int} (h0 : a0 = a1) (h1 : a2 = a3) (h2 : (a2 = a3 → a4 = a5)) (h3 : ¬ ((a2 < a0) ∧ ((48 : Int) ≤ a4) ∧ (a4 ≤ 57))) (h4 : a3 < a1) (h5 : (48 : Int) ≤ a5) (h6 : a5 ≤ 57) : False := by omega
theorem oz726 {a0 : Int} (h0 : a0 = 0) : ((a0 = 0) ∧ (a0 = 0)) ∨ ((a0 = 1) ∧ ((0 : Int) ≤ a0) ∧ (a0 ≤ 9)) ∨ ((a0 = 2) ∧ ((0 : Int) ≤ a0) ∧ (a0 ≤ 99)) ∨ ((a0 = 3) ∧ ((0 : Int) ≤ a0) ∧ (a0 ≤ 999)) ∨ ((a0 = 4) ∧ ((0 : Int) ≤ a0) ∧ (a0 ≤ 9999)) := by omega
theorem oz727 {a0 a1 : Int} (h0 : a0 = 0) : (a1 + a0) ≤ a1 := by omega
theorem oz728 {a0 a1 : Int} (h0 : a0 < a1) : a0 ≤ a1 := by omega
theorem oz729 {a0 a1 : Int} (h0 : a0 = 0) : ((1 : Int) ≤ a0) ∨ (a1 = a1) := by omega
theorem oz730 {a0 a1 : Int} (h0 : a0 = 100) (h1 : a1 = 5) : (((-1) : Int) ≤ a1) ∧ (a1 ≤ 5) ∧ ((a1 = (-1)) ∨ ((100 : Int) ≤ a0)) := by omega
theorem oz731 {a0 a1 : Int} (h0 : a0 = (-1)) : (((-1) : Int) ≤ a0) ∧ (a0 ≤ 5) ∧ ((a0 = (-1)) ∨ ((100 : Int) ≤ a1)) := by omega
theorem oz732 {a0 a1 : Int} (h0 : a0 = 104) (h1 : a1 = 2) : (((-1) : Int) ≤ a1) ∧ (a1 ≤ 5) ∧ ((a1 = (-1)) ∨ ((100 : Int) ≤ a0)) := by omega
theorem oz733 {a0 a1 : Int} (h0 : a0 = 110) (h1 : a1 = 3) : (((-1) : Int) ≤ a1) ∧ (a1 ≤ 5) ∧ ((a1 = (-1)) ∨ ((100 : Int) ≤ a0)) := by omega
theorem oz734 {a0 a1 : Int} (h0 : a0 = 111) (h1 : a1 = 4) : (((-1) : Int) ≤ a1) ∧ (a1 ≤ 5) ∧ ((a1 = (-1)) ∨ ((100 : Int) ≤ a0)) := by omega
theorem oz735 {a0 a1 : Int} (h0 : a0 = 112) (h1 : a1 = 1) : (((-1) : Int) ≤ a1) ∧ (a1 ≤ 5) ∧ ((a1 = (-1)) ∨ ((100 : Int) ≤ a0)) := by omega
theorem oz736 {a0 a1 : Int} (h0 : a0 = 119) (h1 : a1 = 0) : (((-1) : Int) ≤ a1) ∧ (a1 ≤ 5) ∧ ((a1 = (-1)) ∨ ((100 : Int) ≤ a0)) := by omega
theorem oz737 {a0 : Int} (h0 : ¬ (a0 = 100)) (h1 : ¬ (a0 = 101)) (h2 : ¬ (a0 = 102)) (h3 : ¬ (a0 = 103)) (h4 : ¬ (a0 = 104)) (h5 : ¬ (a0 = 105)) (h6 : ¬ (a0 = 106)) (h7 : ¬ (a0 = 107)) (h8 : ¬ (a0 = 108)) (h9 : ¬ (a0 = 109)) (h10 : ¬ (a0 = 110)) (h11 : ¬ (a0 = 111)) (h12 : ¬ (a0 = 112)) (h13 : ¬ (a0 = 113)) (h14 : ¬ (a0 = 114)) (h15 : ¬ (a0 = 115)) (h16 : ¬ (a0 = 116)) (h17 : ¬ (a0 = 117)) (h18 : ¬ (a0 = 118)) (h19 : ¬ (a0 = 119)) : a0 < 100 ∨ 119 < a0 := by omega
theorem oz738 {a0 a1 : Int} (h0 : (-2147483648 : Int) ≤ a0) (h1 : a1 = 1) : (-2147483648 : Int) ≤ a0 + a1 := by omega
theorem oz739 {a0 a1 a2 : Int} (h0 : (0 : Int) ≤ a0) (h1 : (a1 + a0) = 6) (h2 : a2 = 1) : a1 + a2 ≤ 2147483647 := by omega
theorem oz740 {a0 a1 a2 a3 a4 a5 a6 : Int} (h0 : a0 = a1) (h1 : a2 ≤ 120) (h2 : (0 : Int) ≤ a1) (h3 : a3 = a4 + a5) (h4 : ((a0 = (-1)) ∧ (a2 ≤ a4)) ∨ ((a4 < a2) ∧ (a0 = a6))) (h5 : a5 = 1) : a3 ≤ 120 := by omega
theorem oz741 {a0 a1 a2 a3 a4 a5 a6 : Int} (h0 : a0 = a1) (h1 : (0 : Int) ≤ a1) (h2 : a2 = a3 + a4) (h3 : ((a0 = (-1)) ∧ (a5 ≤ a3)) ∨ ((a3 < a5) ∧ (a0 = a6))) (h4 : a4 = 1) : (a2 = (a3 + 1)) ∧ (a2 ≤ a5) := by omega
theorem oz742 {a0 : Int} (h0 : a0 = 33) : (0 : Int) ≤ a0 := by omega
theorem oz743 {a0 a1 a2 : Int} (h0 : a0 ≠ a1) (h1 : (0 : Int) ≤ a2) (h2 : (a0 + a2) = 6) (h3 : a1 = 6) : (1 : Int) ≤ a2 := by omega
theorem oz744 {a0 a1 a2 a3 a4 a5 : Int} (h0 : a0 = a1) (h1 : a2 = a3 + 1) (h2 : (a4 + a2) = 6) (h3 : a1 = a4 + a5) (h4 : a5 = 1) : (a0 + a3) = 6 := by omega
theorem oz745 {a0 a1 a2 a3 : Int} (h0 : a0 = a1) (h1 : a1 ≤ a2) (h2 : a3 = (a2 + 1)) : a0 ≤ a3 := by omega
theorem oz746 {a0 a1 a2 : Int} (h0 : a0 ≤ 199) (h1 : a1 = a0 + a2) (h2 : a2 = 1) : a1 ≤ 200 := by omega
theorem oz747 {a0 : Int} (h0 : a0 ≤ 199) : a0 < 200 := by omega
theorem oz748 {a0 a1 a2 : Int} (h0 : a0 = a1 + a2) (h1 : a2 = 1) : a0 = (a1 + 1) := by omega
theorem oz749 {a0 a1 a2 a3 a4 : Int} (h0 : a0 = a1) (h1 : a2 = a0) (h2 : a3 ≤ 120) (h3 : (0 : Int) ≤ a2) (h4 : a1 ≤ a4) (h5 : a3 = (a4 + 1)) : ((0 : Int) ≤ a2) ∧ (a2 ≤ 199) := by omega
theorem oz750 {a0 a1 : Int} (h0 : a0 ≤ 200) (h1 : a0 = (a1 + 1)) : a1 < 200 := by omega
theorem oz751 {a0 a1 : Int} (h0 : a0 = (a1 + 1)) : a0 = a1 + 1 := by omega
theorem oz752 {a0 a1 a2 a3 a4 a5 : Int} (h0 : (-2147483648 : Int) ≤ a0) (h1 : a1 = a2) (h2 : a3 = a4) (h3 : a2 = a0 + a5) (h4 : a4 = a1) (h5 : a5 = 1) : (-2147483648 : Int) ≤ a3 - a5 := by omega
theorem oz753 {a0 a1 a2 a3 a4 a5 a6 : Int} (h0 : a0 = a1) (h1 : a2 = a3) (h2 : (0 : Int) ≤ a4) (h3 : (a5 + a4) = 6) (h4 : a1 = a5 + a6) (h5 : a3 = a0) (h6 : a6 = 1) : a2 - a6 ≤ 2147483647 := by omega
theorem oz754 {a0 a1 a2 a3 a4 a5 a6 a7 a8 a9 a10 a11 a12 a13 a14 a15 a16 : Int} (h0 : a0 = a1) (h1 : a2 = a3) (h2 : a4 = a2) (h3 : a5 = a6) (h4 : a7 = a8) (h5 : a9 = a10) (h6 : a1 = a11 + a12) (h7 : a13 = a9 - a12) (h8 : a14 = (a15 + 1)) (h9 : a10 = a0) (h10 : a8 ≤ a6) (h11 : (a14 + 1) ≤ a8) (h12 : a16 = (a4 + 1)) (h13 : a12 = 1) : (a13 = a11) ∧ (a15 ≤ a7) ∧ (a7 ≤ a5) ∧ ((a16 - a7) ≤ (a3 - a15)) ∧ (a3 ≤ a16) ∧ ((a15 + 1) ≤ a7) := by omega
theorem oz755 (h0 : (2 : Int) ≤ 1) : False := by omega
theorem oz756 {a0 a1 a2 a3 a4 : Int} (h0 : (-2147483648 : Int) ≤ a0) (h1 : a1 = a2) (h2 : a2 = a0 + a3) (h3 : a4 = a1) (h4 : a3 = 1) : (-2147483648 : Int) ≤ a4 - a3 := by omega
theorem oz757 {a0 a1 a2 a3 a4 a5 : Int} (h0 : a0 = a1) (h1 : (0 : Int) ≤ a2) (h2 : (a3 + a2) = 6) (h3 : a1 = a3 + a4) (h4 : a5 = a0) (h5 : a4 = 1) : a5 - a4 ≤ 2147483647 := by omega
theorem oz758 {a0 a1 a2 a3 a4 a5 a6 a7 a8 a9 a10 a11 a12 : Int} (h0 : a0 = a1) (h1 : a2 = a3) (h2 : a1 = a4 + a5) (h3 : a6 = a7 - a5) (h4 : a8 = (a9 + 1)) (h5 : a7 = a0) (h6 : a8 ≤ a10) (h7 : a10 ≤ a11) (h8 : (a12 - a10) ≤ (a2 - a8)) (h9 : a2 ≤ a12) (h10 : a5 = 1) : (a6 = a4) ∧ (a9 ≤ a10) ∧ (a10 ≤ a11) ∧ ((a12 - a10) ≤ (a3 - a9)) ∧ (a3 ≤ a12) := by omega
theorem oz759 {a0 : Int} (h0 : a0 = 45) : (0 : Int) ≤ a0 := by omega
theorem oz760 {a0 a1 a2 a3 a4 a5 a6 : Int} (h0 : a0 = a1) (h1 : a2 = a0) (h2 : a3 = a4 + 1) (h3 : (a5 + a3) = 6) (h4 : a1 = a5 + a6) (h5 : a6 = 1) : (a2 + a4) = 6 := by omega
theorem oz761 {a0 a1 a2 a3 a4 a5 : Int} (h0 : a0 = a1) (h1 : a2 = a0) (h2 : a1 ≤ a3) (h3 : a4 = a3) (h4 : a5 = (a4 + 1)) : a2 ≤ a5 := by omega
theorem oz762 {a0 a1 a2 : Int} (h0 : a0 = a1) (h1 : a2 = a0) : a2 = a1 := by omega
theorem oz763 {a0 a1 a2 a3 a4 a5 a6 a7 : Int} (h0 : a0 = a1) (h1 : a2 = a0) (h2 : a3 ≤ 120) (h3 : (0 : Int) ≤ a4) (h4 : a1 ≤ a5) (h5 : a6 = a5) (h6 : a7 = (a6 + 1)) (h7 : (a4 - a3) ≤ (a2 - a7)) : ((0 : Int) ≤ a4) ∧ (a4 ≤ 199) := by omega
theorem oz764 {a0 a1 a2 a3 a4 a5 a6 : Int} (h0 : (-2147483648 : Int) ≤ a0) (h1 : a1 = a2) (h2 : a3 = a1) (h3 : a4 = a5) (h4 : a2 = a0 + a6) (h5 : a5 = a3) (h6 : a6 = 1) : (-2147483648 : Int) ≤ a4 - a6 := by omega
theorem oz765 {a0 a1 a2 a3 a4 a5 a6 a7 : Int} (h0 : a0 = a1) (h1 : a2 = a0) (h2 : a3 = a4) (h3 : (0 : Int) ≤ a5) (h4 : (a6 + a5) = 6) (h5 : a1 = a6 + a7) (h6 : a4 = a2) (h7 : a7 = 1) : a3 - a7 ≤ 2147483647 := by omega
theorem oz766 {a0 a1 a2 a3 a4 a5 a6 a7 a8 a9 a10 a11 a12 a13 a14 a15 a16 a17 a18 a19 : Int} (h0 : a0 = a1) (h1 : a2 = a3) (h2 : a4 = a0) (h3 : a5 = a2) (h4 : a6 = a7) (h5 : a8 = a9) (h6 : a10 = a11) (h7 : a1 = a12 + a13) (h8 : a14 = a10 - a13) (h9 : a15 = a16) (h10 : a17 = (a15 + 1)) (h11 : a11 = a4) (h12 : a9 ≤ a7) (h13 : (a18 - a9) ≤ (a5 - a17)) (h14 : a5 ≤ a18) (h15 : (a17 + 1) ≤ a9) (h16 : a19 = (a18 + 1)) (h17 : a13 = 1) : (a14 = a12) ∧ (a16 ≤ a8) ∧ (a8 ≤ a6) ∧ ((a19 - a8) ≤ (a3 - a16)) ∧ (a3 ≤ a19) ∧ ((a16 + 1) ≤ a8) := by omega
theorem oz767 {a0 a1 a2 a3 a4 a5 : Int} (h0 : (-2147483648 : Int) ≤ a0) (h1 : a1 = a2) (h2 : a3 = a1) (h3 : a2 = a0 + a4) (h4 : a5 = a3) (h5 : a4 = 1) : (-2147483648 : Int) ≤ a5 - a4 := by omega
theorem oz768 {a0 a1 a2 a3 a4 a5 a6 : Int} (h0 : a0 = a1) (h1 : a2 = a0) (h2 : (0 : Int) ≤ a3) (h3 : (a4 + a3) = 6) (h4 : a1 = a4 + a5) (h5 : a6 = a2) (h6 : a5 = 1) : a6 - a5 ≤ 2147483647 := by omega
theorem oz769 {a0 a1 a2 a3 a4 a5 a6 a7 a8 a9 a10 a11 a12 a13 a14 a15 : Int} (h0 : a0 = a1) (h1 : a2 = a3) (h2 : a4 = a0) (h3 : a5 = a2) (h4 : a1 = a6 + a7) (h5 : a8 = a9 - a7) (h6 : a10 = a11) (h7 : a12 = (a10 + 1)) (h8 : a9 = a4) (h9 : a12 ≤ a13) (h10 : a13 ≤ a14) (h11 : (a15 - a13) ≤ (a5 - a12)) (h12 : a5 ≤ a15) (h13 : a7 = 1) : (a8 = a6) ∧ (a11 ≤ a13) ∧ (a13 ≤ a14) ∧ ((a15 - a13) ≤ (a3 - a11)) ∧ (a3 ≤ a15) := by omega
theorem oz770 {a0 : Int} (h0 : a0 = 40) : (0 : Int) ≤ a0 := by omega
theorem oz771 {a0 a1 a2 a3 a4 a5 a6 a7 : Int} (h0 : a0 = a1) (h1 : a2 = a0) (h2 : a3 = a2) (h3 : a4 = a5 + 1) (h4 : (a6 + a4) = 6) (h5 : a1 = a6 + a7) (h6 : a7 = 1) : (a3 + a5) = 6 := by omega
theorem oz772 {a0 a1 a2 a3 a4 a5 a6 a7 : Int} (h0 : a0 = a1) (h1 : a2 = a0) (h2 : a3 = a2) (h3 : a1 ≤ a4) (h4 : a5 = a4) (h5 : a6 = a5) (h6 : a7 = (a6 + 1)) : a3 ≤ a7 := by omega
theorem oz773 {a0 a1 a2 a3 : Int} (h0 : a0 = a1) (h1 : a2 = a0) (h2 : a3 = a2) : a3 = a1 := by omega
theorem oz774 {a0 : Int} (h0 : a0 = 41) : (0 : Int) ≤ a0 := by omega
theorem oz775 {a0 a1 a2 a3 a4 a5 a6 a7 : Int} (h0 : (-2147483648 : Int) ≤ a0) (h1 : a1 = a2) (h2 : a3 = a1) (h3 : a4 = a3) (h4 : a5 = a6) (h5 : a2 = a0 + a7) (h6 : a6 = a4) (h7 : a7 = 1) : (-2147483648 : Int) ≤ a5 - a7 := by omega
theorem oz776 {a0 a1 a2 a3 a4 a5 a6 a7 a8 : Int} (h0 : a0 = a1) (h1 : a2 = a0) (h2 : a3 = a2) (h3 : a4 = a5) (h4 : (0 : Int) ≤ a6) (h5 : (a7 + a6) = 6) (h6 : a1 = a7 + a8) (h7 : a5 = a3) (h8 : a8 = 1) : a4 - a8 ≤ 2147483647 := by omega
theorem oz777 {a0 a1 a2 a3 a4 a5 a6 a7 a8 a9 a10 a11 a12 a13 a14 a15 a16 a17 a18 a19 a20 a21 : Int} (h0 : a0 = a1) (h1 : a2 = a3) (h2 : a4 = a0) (h3 : a5 = a2) (h4 : a6 = a4) (h5 : a7 = a5) (h6 : a8 = a9) (h7 : a10 = a11) (h8 : a1 = a12 + a13) (h9 : a14 = a8 - a13) (h10 : a15 = a16) (h11 : a17 = a15) (h12 : a18 = (a17 + 1)) (h13 : a9 = a6) (h14 : (a11 - a19) ≤ (a7 - a18)) (h15 : a7 ≤ a11) (h16 : (a18 + 1) ≤ a19) (h17 : a20 = (a19 + 1)) (h18 : a20 ≤ a21) (h19 : a13 = 1) : (a14 = a12) ∧ (a16 ≤ a20) ∧ (a20 ≤ a21) ∧ ((a10 - a20) ≤ (a3 - a16)) ∧ (a3 ≤ a10) ∧ ((a16 + 1) ≤ a20) := by omega
theorem oz778 {a0 a1 a2 a3 a4 a5 a6 a7 a8 a9 a10 a11 a12 a13 a14 a15 a16 a17 a18 a19 a20 a21 a22 : Int} (h0 : a0 = a1) (h1 : a2 = a3) (h2 : a4 = a0) (h3 : a5 = a2) (h4 : a6 = a4) (h5 : a7 = a5) (h6 : a8 = a9) (h7 : a10 = a11) (h8 : a12 = a13) (h9 : a1 = a14 + a15) (h10 : a16 = a10 - a15) (h11 : a17 = a18) (h12 : a19 = a17) (h13 : a20 = (a19 + 1)) (h14 : a11 = a6) (h15 : a21 ≤ a9) (h16 : (a13 - a21) ≤ (a7 - a20)) (h17 : a7 ≤ a13) (h18 : (a20 + 1) ≤ a21) (h19 : a22 = a21) (h20 : a15 = 1) : (a16 = a14) ∧ (a18 ≤ a22) ∧ (a22 ≤ a8) ∧ ((a12 - a22) ≤ (a3 - a18)) ∧ (a3 ≤ a12) := by omega
theorem oz779 {a0 a1 a2 a3 a4 a5 a6 : Int} (h0 : (-2147483648 : Int) ≤ a0) (h1 : a1 = a2) (h2 : a3 = a1) (h3 : a4 = a3) (h4 : a2 = a0 + a5) (h5 : a6 = a4) (h6 : a5 = 1) : (-2147483648 : Int) ≤ a6 - a5 := by omega
theorem oz780 {a0 a1 a2 a3 a4 a5 a6 a7 : Int} (h0 : a0 = a1) (h1 : a2 = a0) (h2 : a3 = a2) (h3 : (0 : Int) ≤ a4) (h4 : (a5 + a4) = 6) (h5 : a1 = a5 + a6) (h6 : a7 = a3) (h7 : a6 = 1) : a7 - a6 ≤ 2147483647 := by omega
theorem oz781 {a0 a1 a2 a3 a4 a5 a6 a7 a8 a9 a10 a11 a12 a13 a14 a15 a16 a17 a18 : Int} (h0 : a0 = a1) (h1 : a2 = a3) (h2 : a4 = a0) (h3 : a5 = a2) (h4 : a6 = a4) (h5 : a7 = a5) (h6 : a1 = a8 + a9) (h7 : a10 = a11 - a9) (h8 : a12 = a13) (h9 : a14 = a12) (h10 : a15 = (a14 + 1)) (h11 : a11 = a6) (h12 : a15 ≤ a16) (h13 : a16 ≤ a17) (h14 : (a18 - a16) ≤ (a7 - a15)) (h15 : a7 ≤ a18) (h16 : a9 = 1) : (a10 = a8) ∧ (a13 ≤ a16) ∧ (a16 ≤ a17) ∧ ((a18 - a16) ≤ (a3 - a13)) ∧ (a3 ≤ a18) := by omega
theorem oz782 {a0 a1 a2 a3 a4 a5 : Int} (h0 : (-2147483648 : Int) ≤ a0) (h1 : a1 = a2) (h2 : a3 = a1) (h3 : a4 = a3) (h4 : a2 = a0 + a5) (h5 : a5 = 1) : (-2147483648 : Int) ≤ a4 - a5 := by omega
theorem oz783 {a0 a1 a2 a3 a4 a5 a6 : Int} (h0 : a0 = a1) (h1 : a2 = a0) (h2 : a3 = a2) (h3 : (0 : Int) ≤ a4) (h4 : (a5 + a4) = 6) (h5 : a1 = a5 + a6) (h6 : a6 = 1) : a3 - a6 ≤ 2147483647 := by omega
theorem oz784 {a0 a1 a2 a3 a4 a5 a6 a7 a8 a9 a10 a11 a12 a13 a14 a15 a16 a17 a18 : Int} (h0 : a0 = a1) (h1 : a2 = a3) (h2 : a4 = a5) (h3 : a6 = a0) (h4 : a7 = a2) (h5 : a8 = a4) (h6 : a9 = a6) (h7 : a10 = a7) (h8 : a11 = a8) (h9 : a12 ≤ a1) (h10 : a3 = a13 + a14) (h11 : a15 = a10 - a14) (h12 : a16 = a12) (h13 : a17 = a16) (h14 : a18 = a17) (h15 : a14 = 1) : (a15 = a13) ∧ (a12 ≤ a18) ∧ (a18 ≤ a9) ∧ ((a11 - a18) ≤ (a5 - a12)) ∧ (a5 ≤ a11) := by omega
theorem oz785 {a0 a1 a2 a3 : Int} (h0 : a0 ≤ a1) : (a2 = a2) ∧ (a0 ≤ a0) ∧ (a0 ≤ a1) ∧ ((a3 - a0) ≤ (a3 - a0)) ∧ (a3 ≤ a3) := by omega
theorem oz786 {a0 a1 a2 a3 a4 a5 a6 a7 : Int} (h0 : a0 ≤ a1) (h1 : a2 ≤ 120) (h2 : a3 = a4 + a5) (h3 : ((a6 = (-1)) ∧ (a2 ≤ a4)) ∨ ((a4 < a2) ∧ (a6 = a7))) (h4 : (a1 = (-1)) ∨ ((100 : Int) ≤ a6)) (h5 : a0 = 0) (h6 : a5 = 1) : a3 ≤ 120 := by omega
theorem oz787 {a0 a1 : Int} (h0 : a0 ≤ 120) (h1 : (0 : Int) ≤ a1) (h2 : a1 ≤ a0) : ((0 : Int) ≤ a1) ∧ (a1 ≤ 199) := by omega
theorem oz788 {a0 a1 : Int} (h0 : a0 ≤ 120) (h1 : a1 ≤ a0) : a1 < 200 := by omega
theorem oz789 {a0 a1 a2 a3 a4 a5 a6 a7 a8 a9 a10 a11 a12 a13 : Int} (h0 : a0 ≤ a1) (h1 : a2 = a3) (h2 : a4 = a5) (h3 : a6 = a7) (h4 : a5 = a8 + a9) (h5 : ((a10 = (-1)) ∧ (a3 ≤ a8)) ∨ ((a8 < a3) ∧ (a10 = a11))) (h6 : (a1 = (-1)) ∨ ((100 : Int) ≤ a10)) (h7 : a12 = (a13 + 1)) (h8 : a0 = 0) (h9 : a9 = 1) : (a6 = a7) ∧ (a8 ≤ a4) ∧ (a4 ≤ a2) ∧ ((a12 - a4) ≤ (a13 - a8)) ∧ (a13 ≤ a12) ∧ ((a8 + 1) ≤ a4) := by omega
theorem oz790 {a0 a1 a2 a3 : Int} (h0 : a0 ≤ a1) (h1 : ((a1 = 0) ∧ (a2 = 0)) ∨ ((a1 = 1) ∧ ((0 : Int) ≤ a2) ∧ (a2 ≤ 9)) ∨ ((a1 = 2) ∧ ((0 : Int) ≤ a2) ∧ (a2 ≤ 99)) ∨ ((a1 = 3) ∧ ((0 : Int) ≤ a2) ∧ (a2 ≤ 999)) ∨ ((a1 = 4) ∧ ((0 : Int) ≤ a2) ∧ (a2 ≤ 9999))) (h2 : a0 = 4) (h3 : a3 = 18) : (-2147483648 : Int) ≤ a3 + a2 := by omega
theorem oz791 {a0 a1 a2 a3 : Int} (h0 : a0 ≤ a1) (h1 : ((a1 = 0) ∧ (a2 = 0)) ∨ ((a1 = 1) ∧ ((0 : Int) ≤ a2) ∧ (a2 ≤ 9)) ∨ ((a1 = 2) ∧ ((0 : Int) ≤ a2) ∧ (a2 ≤ 99)) ∨ ((a1 = 3) ∧ ((0 : Int) ≤ a2) ∧ (a2 ≤ 999)) ∨ ((a1 = 4) ∧ ((0 : Int) ≤ a2) ∧ (a2 ≤ 9999))) (h2 : a0 = 4) (h3 : a3 = 18) : a3 + a2 ≤ 2147483647 := by omega
theorem oz792 {a0 a1 a2 : Int} (h0 : a0 = a1) (h1 : (0 : Int) ≤ a0) (h2 : a2 ≤ 120) (h3 : a1 ≤ a2) : ((0 : Int) ≤ a0) ∧ (a0 ≤ 199) := by omega
theorem oz793 {a0 a1 a2 a3 a4 : Int} (h0 : a0 ≤ a1) (h1 : ((a1 = 0) ∧ (a2 = 0)) ∨ ((a1 = 1) ∧ ((0 : Int) ≤ a2) ∧ (a2 ≤ 9)) ∨ ((a1 = 2) ∧ ((0 : Int) ≤ a2) ∧ (a2 ≤ 99)) ∨ ((a1 = 3) ∧ ((0 : Int) ≤ a2) ∧ (a2 ≤ 999)) ∨ ((a1 = 4) ∧ ((0 : Int) ≤ a2) ∧ (a2 ≤ 9999))) (h2 : a3 = a4 + a2) (h3 : a0 = 4) (h4 : a4 = 18) : (18 : Int) ≤ a3 := by omega
theorem oz794 {a0 a1 a2 a3 a4 a5 a6 a7 a8 a9 a10 a11 a12 : Int} (h0 : a0 ≤ a1) (h1 : a2 = a3) (h2 : a4 = a5) (h3 : a6 = a7) (h4 : a8 = a9) (h5 : a10 = a2) (h6 : (a11 + a1) ≤ a9) (h7 : a9 ≤ a7) (h8 : a12 = (a4 + 1)) (h9 : a0 = 4) : (a10 = a3) ∧ (a11 ≤ a8) ∧ (a8 ≤ a6) ∧ ((a12 - a8) ≤ (a5 - a11)) ∧ (a5 ≤ a12) ∧ ((a11 + 1) ≤ a8) := by omega
theorem oz795 {a0 a1 a2 : Int} (h0 : a0 < a1) (h1 : ((a0 = 0) ∧ (a2 = 0)) ∨ ((a0 = 1) ∧ ((0 : Int) ≤ a2) ∧ (a2 ≤ 9)) ∨ ((a0 = 2) ∧ ((0 : Int) ≤ a2) ∧ (a2 ≤ 99)) ∨ ((a0 = 3) ∧ ((0 : Int) ≤ a2) ∧ (a2 ≤ 999)) ∨ ((a0 = 4) ∧ ((0 : Int) ≤ a2) ∧ (a2 ≤ 9999))) (h2 : a1 = 4) : (-2147483648 : Int) ≤ 10 * a2 := by omega
theorem oz796 {a0 a1 a2 : Int} (h0 : a0 < a1) (h1 : ((a0 = 0) ∧ (a2 = 0)) ∨ ((a0 = 1) ∧ ((0 : Int) ≤ a2) ∧ (a2 ≤ 9)) ∨ ((a0 = 2) ∧ ((0 : Int) ≤ a2) ∧ (a2 ≤ 99)) ∨ ((a0 = 3) ∧ ((0 : Int) ≤ a2) ∧ (a2 ≤ 999)) ∨ ((a0 = 4) ∧ ((0 : Int) ≤ a2) ∧ (a2 ≤ 9999))) (h2 : a1 = 4) : 10 * a2 ≤ 2147483647 := by omega
theorem oz797 {a0 a1 a2 a3 a4 : Int} (h0 : a0 < a1) (h1 : ((a0 = 0) ∧ (a2 = 0)) ∨ ((a0 = 1) ∧ ((0 : Int) ≤ a2) ∧ (a2 ≤ 9)) ∨ ((a0 = 2) ∧ ((0 : Int) ≤ a2) ∧ (a2 ≤ 99)) ∨ ((a0 = 3) ∧ ((0 : Int) ≤ a2) ∧ (a2 ≤ 999)) ∨ ((a0 = 4) ∧ ((0 : Int) ≤ a2) ∧ (a2 ≤ 9999))) (h2 : a3 = 10 * a2) (h3 : (48 : Int) ≤ a4) (h4 : a1 = 4) : (-2147483648 : Int) ≤ a3 + a4 := by omega
theorem oz798 {a0 a1 a2 a3 a4 : Int} (h0 : a0 < a1) (h1 : ((a0 = 0) ∧ (a2 = 0)) ∨ ((a0 = 1) ∧ ((0 : Int) ≤ a2) ∧ (a2 ≤ 9)) ∨ ((a0 = 2) ∧ ((0 : Int) ≤ a2) ∧ (a2 ≤ 99)) ∨ ((a0 = 3) ∧ ((0 : Int) ≤ a2) ∧ (a2 ≤ 999)) ∨ ((a0 = 4) ∧ ((0 : Int) ≤ a2) ∧ (a2 ≤ 9999))) (h2 : a3 = 10 * a2) (h3 : a4 ≤ 57) (h4 : a1 = 4) : a3 + a4 ≤ 2147483647 := by omega
theorem oz799 {a0 a1 a2 a3 a4 a5 a6 : Int} (h0 : a0 < a1) (h1 : ((a0 = 0) ∧ (a2 = 0)) ∨ ((a0 = 1) ∧ ((0 : Int) ≤ a2) ∧ (a2 ≤ 9)) ∨ ((a0 = 2) ∧ ((0 : Int) ≤ a2) ∧ (a2 ≤ 99)) ∨ ((a0 = 3) ∧ ((0 : Int) ≤ a2) ∧ (a2 ≤ 999)) ∨ ((a0 = 4) ∧ ((0 : Int) ≤ a2) ∧ (a2 ≤ 9999))) (h2 : a3 = 10 * a2) (h3 : a4 = a3 + a5) (h4 : (48 : Int) ≤ a5) (h5 : a1 = 4) (h6 : a6 = 48) : (-2147483648 : Int) ≤ a4 - a6 := by omega
theorem oz800 {a0 a1 a2 a3 a4 a5 a6 : Int} (h0 : a0 < a1) (h1 : ((a0 = 0) ∧ (a2 = 0)) ∨ ((a0 = 1) ∧ ((0 : Int) ≤ a2) ∧ (a2 ≤ 9)) ∨ ((a0 = 2) ∧ ((0 : Int) ≤ a2) ∧ (a2 ≤ 99)) ∨ ((a0 = 3) ∧ ((0 : Int) ≤ a2) ∧ (a2 ≤ 999)) ∨ ((a0 = 4) ∧ ((0 : Int) ≤ a2) ∧ (a2 ≤ 9999))) (h2 : a3 = 10 * a2) (h3 : a4 = a3 + a5) (h4 : a5 ≤ 57) (h5 : a1 = 4) (h6 : a6 = 48) : a4 - a6 ≤ 2147483647 := by omega
theorem oz801 {a0 a1 a2 a3 a4 a5 a6 a7 a8 a9 : Int} (h0 : a0 < a1) (h1 : ((a0 = 0) ∧ (a2 = 0)) ∨ ((a0 = 1) ∧ ((0 : Int) ≤ a2) ∧ (a2 ≤ 9)) ∨ ((a0 = 2) ∧ ((0 : Int) ≤ a2) ∧ (a2 ≤ 99)) ∨ ((a0 = 3) ∧ ((0 : Int) ≤ a2) ∧ (a2 ≤ 999)) ∨ ((a0 = 4) ∧ ((0 : Int) ≤ a2) ∧ (a2 ≤ 9999))) (h2 : a3 = 10 * a2) (h3 : a4 = a3 + a5) (h4 : a6 = a4 - a7) (h5 : a8 = a0 + a9) (h6 : (48 : Int) ≤ a5) (h7 : a5 ≤ 57) (h8 : a1 = 4) (h9 : a7 = 48) (h10 : a9 = 1) : ((a8 = 0) ∧ (a6 = 0)) ∨ ((a8 = 1) ∧ ((0 : Int) ≤ a6) ∧ (a6 ≤ 9)) ∨ ((a8 = 2) ∧ ((0 : Int) ≤ a6) ∧ (a6 ≤ 99)) ∨ ((a8 = 3) ∧ ((0 : Int) ≤ a6) ∧ (a6 ≤ 999)) ∨ ((a8 = 4) ∧ ((0 : Int) ≤ a6) ∧ (a6 ≤ 9999)) := by omega
theorem oz802 {a0 a1 a2 a3 : Int} (h0 : a0 < a1) (h1 : ((a0 = 0) ∧ (a2 = 0)) ∨ ((a0 = 1) ∧ ((0 : Int) ≤ a2) ∧ (a2 ≤ 9)) ∨ ((a0 = 2) ∧ ((0 : Int) ≤ a2) ∧ (a2 ≤ 99)) ∨ ((a0 = 3) ∧ ((0 : Int) ≤ a2) ∧ (a2 ≤ 999)) ∨ ((a0 = 4) ∧ ((0 : Int) ≤ a2) ∧ (a2 ≤ 9999))) (h2 : a1 = 4) (h3 : a3 = 18) : (-2147483648 : Int) ≤ a3 + a2 := by omega
theorem oz803 {a0 a1 a2 a3 : Int} (h0 : a0 < a1) (h1 : ((a0 = 0) ∧ (a2 = 0)) ∨ ((a0 = 1) ∧ ((0 : Int) ≤ a2) ∧ (a2 ≤ 9)) ∨ ((a0 = 2) ∧ ((0 : Int) ≤ a2) ∧ (a2 ≤ 99)) ∨ ((a0 = 3) ∧ ((0 : Int) ≤ a2) ∧ (a2 ≤ 999)) ∨ ((a0 = 4) ∧ ((0 : Int) ≤ a2) ∧ (a2 ≤ 9999))) (h2 : a1 = 4) (h3 : a3 = 18) : a3 + a2 ≤ 2147483647 := by omega
theorem oz804 {a0 a1 a2 a3 a4 : Int} (h0 : a0 < a1) (h1 : ((a0 = 0) ∧ (a2 = 0)) ∨ ((a0 = 1) ∧ ((0 : Int) ≤ a2) ∧ (a2 ≤ 9)) ∨ ((a0 = 2) ∧ ((0 : Int) ≤ a2) ∧ (a2 ≤ 99)) ∨ ((a0 = 3) ∧ ((0 : Int) ≤ a2) ∧ (a2 ≤ 999)) ∨ ((a0 = 4) ∧ ((0 : Int) ≤ a2) ∧ (a2 ≤ 9999))) (h2 : a3 = a4 + a2) (h3 : a1 = 4) (h4 : a4 = 18) : (18 : Int) ≤ a3 := by omega
theorem oz805 {a0 a1 a2 a3 a4 a5 a6 a7 a8 a9 a10 a11 a12 a13 a14 : Int} (h0 : a0 = a1) (h1 : a2 = a3) (h2 : a4 = a5) (h3 : a6 = a0) (h4 : a7 = a8) (h5 : a9 = a2) (h6 : (a10 + a11) ≤ a8) (h7 : a8 ≤ a0) (h8 : ((1 : Int) ≤ a11) ∨ (a8 = a10)) (h9 : (a8 = a10 → a12 = a13)) (h10 : a10 < a1) (h11 : (48 : Int) ≤ a13) (h12 : a13 ≤ 57) (h13 : ¬ ((a8 < a0) ∧ ((48 : Int) ≤ a12) ∧ (a12 ≤ 57))) (h14 : a14 = (a4 + 1)) : (a9 = a3) ∧ (a10 ≤ a7) ∧ (a7 ≤ a6) ∧ ((a14 - a7) ≤ (a5 - a10)) ∧ (a5 ≤ a14) ∧ ((a10 + 1) ≤ a7) := by omega
theorem oz806 {a0 a1 a2 a3 a4 a5 : Int} (h0 : a0 = a1) (h1 : a2 ≤ 120) (h2 : (0 : Int) ≤ a3) (h3 : a1 ≤ a4) (h4 : a5 = (a4 + 1)) (h5 : (a3 - a2) ≤ (a0 - a5)) : ((0 : Int) ≤ a3) ∧ (a3 ≤ 199) := by omega
theorem oz807 {a0 a1 a2 a3 a4 a5 a6 a7 a8 a9 a10 a11 a12 a13 a14 a15 a16 : Int} (h0 : a0 = a1) (h1 : a2 = a3) (h2 : a4 = a5) (h3 : a6 = a7) (h4 : a8 = a9) (h5 : a1 = a10 + a11) (h6 : a12 = a8 - a11) (h7 : a13 = (a14 + 1)) (h8 : a9 = a0) (h9 : a7 ≤ a5) (h10 : (a15 - a7) ≤ (a2 - a13)) (h11 : a2 ≤ a15) (h12 : (a13 + 1) ≤ a7) (h13 : a16 = (a15 + 1)) (h14 : a11 = 1) : (a12 = a10) ∧ (a14 ≤ a6) ∧ (a6 ≤ a4) ∧ ((a16 - a6) ≤ (a3 - a14)) ∧ (a3 ≤ a16) ∧ ((a14 + 1) ≤ a6) := by omega
theorem oz808 {a0 a1 : Int} (h0 : (a0 + a1) = 6) : (a0 + a1) = 6 := by omega
theorem oz809 {a0 a1 a2 a3 a4 a5 a6 a7 a8 a9 : Int} (h0 : a0 = a1) (h1 : a2 = a3) (h2 : a4 = a5) (h3 : a0 ≤ a6) (h4 : a3 = a7) (h5 : (a5 - a1) ≤ (a8 - a9)) (h6 : a8 ≤ a5) (h7 : (a9 + 1) ≤ a1) : (a2 = a7) ∧ (a9 ≤ a0) ∧ (a0 ≤ a6) ∧ ((a4 - a0) ≤ (a8 - a9)) ∧ (a8 ≤ a4) ∧ ((a9 + 1) ≤ a0) := by omega
theorem oz810 {a0 a1 a2 a3 a4 a5 a6 : Int} (h0 : a0 = a1) (h1 : a2 ≤ 120) (h2 : a3 = a4 + a5) (h3 : ((a0 = (-1)) ∧ (a2 ≤ a4)) ∨ ((a4 < a2) ∧ (a0 = a6))) (h4 : a1 = 37) (h5 : a5 = 1) : a3 ≤ 120 := by omega
theorem oz811 {a0 a1 a2 a3 : Int} (h0 : a0 = a1) (h1 : (a2 + a3) = 6) (h2 : a1 = a2) : (a0 + a3) = 6 := by omega
theorem oz812 {a0 a1 a2 a3 a4 a5 : Int} (h0 : a0 ≤ a1) (h1 : (a2 - a3) ≤ (a0 - a1)) (h2 : a4 = a3 + a5) (h3 : a5 = 1) : a2 ≤ a4 := by omega
theorem oz813 {a0 a1 a2 a3 a4 a5 a6 : Int} (h0 : a0 = a1) (h1 : a2 = a3 + a4) (h2 : ((a0 = (-1)) ∧ (a5 ≤ a3)) ∨ ((a3 < a5) ∧ (a0 = a6))) (h3 : a1 = 37) (h4 : a4 = 1) : a2 ≤ a5 := by omega
theorem oz814 {a0 a1 a2 a3 a4 a5 a6 a7 : Int} (h0 : a0 ≤ 120) (h1 : (0 : Int) ≤ a1) (h2 : a2 ≤ a3) (h3 : (a4 - a5) ≤ (a2 - a3)) (h4 : a6 = a5 + a7) (h5 : (a1 - a0) ≤ (a4 - a6)) (h6 : a7 = 1) : ((0 : Int) ≤ a1) ∧ (a1 ≤ 199) := by omega
theorem oz815 {a0 : Int} (h0 : a0 = 15) : (6 : Int) ≤ a0 := by omega
theorem oz816 {a0 : Int} (h0 : a0 = 15) : a0 ≤ 15 := by omega
theorem oz817 {a0 a1 a2 a3 a4 : Int} (h0 : a0 = a1) (h1 : a2 = a3) (h2 : a3 = a0) (h3 : a1 = a4) : a2 = a4 := by omega
theorem oz818 {a0 a1 a2 a3 a4 a5 a6 : Int} (h0 : a0 = a1) (h1 : a2 = a3) (h2 : a4 = a0 + a5) (h3 : (a4 + 1) ≤ a3) (h4 : (a6 + 1) ≤ a1) (h5 : a5 = 1) : a6 ≤ a2 := by omega
theorem oz819 {a0 a1 a2 a3 : Int} (h0 : a0 = a1) (h1 : a2 = a3) (h2 : a3 ≤ a1) : a2 ≤ a0 := by omega
theorem oz820 {a0 a1 a2 a3 a4 a5 a6 a7 a8 a9 a10 a11 : Int} (h0 : a0 = a1) (h1 : a2 = a3) (h2 : a4 = a5) (h3 : a6 = a0 + a7) (h4 : (a8 - a5) ≤ (a2 - a6)) (h5 : (a3 - a1) ≤ (a9 - a10)) (h6 : a11 = (a8 + 1)) (h7 : a7 = 1) : (a11 - a4) ≤ (a9 - a10) := by omega
theorem oz821 {a0 a1 a2 a3 a4 : Int} (h0 : a0 = a1) (h1 : a0 ≤ a2) (h2 : a3 ≤ a1) (h3 : a4 = (a2 + 1)) : a3 ≤ a4 := by omega
theorem oz822 {a0 a1 a2 a3 a4 a5 a6 : Int} (h0 : a0 = a1) (h1 : a2 = a3) (h2 : a4 = a0 + a5) (h3 : (a4 + 1) ≤ a3) (h4 : (a6 + 1) ≤ a1) (h5 : a5 = 1) : (a6 + 1) ≤ a2 := by omega
theorem oz823 {a0 a1 a2 a3 a4 a5 a6 a7 : Int} (h0 : a0 = a1) (h1 : a2 = a0) (h2 : a3 = a4) (h3 : a5 = a6 + a7) (h4 : (a5 + 1) ≤ a4) (h5 : a7 = 1) : (a2 - a3) < (a1 - a6) := by omega
theorem oz824 {a0 a1 a2 a3 a4 a5 : Int} (h0 : a0 = a1) (h1 : a2 = a3 + a4) (h2 : a5 ≤ a0) (h3 : (a2 + 1) ≤ a5) (h4 : a4 = 1) : (1 : Int) ≤ (a1 - a3) := by omega
theorem oz825 {a0 a1 a2 a3 a4 a5 a6 a7 a8 a9 a10 a11 a12 a13 a14 : Int} (h0 : a0 = a1) (h1 : a2 = a3) (h2 : a4 = a5) (h3 : a6 = a0 + a7) (h4 : a3 = a8) (h5 : (a5 - a1) ≤ (a9 - a10)) (h6 : a9 ≤ a5) (h7 : (a10 + 1) ≤ a1) (h8 : a11 = a2) (h9 : a6 ≤ a12) (h10 : a12 ≤ a13) (h11 : (a14 - a12) ≤ (a4 - a6)) (h12 : a4 ≤ a14) (h13 : a7 = 1) : (a11 = a8) ∧ (a10 ≤ a12) ∧ (a12 ≤ a13) ∧ ((a14 - a12) ≤ (a9 - a10)) ∧ (a9 ≤ a14) := by omega
theorem oz826 {a0 a1 a2 a3 a4 a5 a6 : Int} (h0 : a0 = a1) (h1 : a2 ≤ 120) (h2 : a3 = a4 + a5) (h3 : ((a0 = (-1)) ∧ (a2 ≤ a4)) ∨ ((a4 < a2) ∧ (a0 = a6))) (h4 : a1 = 47) (h5 : a5 = 1) : a3 ≤ 120 := by omega
theorem oz827 {a0 a1 a2 a3 a4 a5 a6 : Int} (h0 : a0 = a1) (h1 : a2 = a3 + a4) (h2 : ((a0 = (-1)) ∧ (a5 ≤ a3)) ∨ ((a3 < a5) ∧ (a0 = a6))) (h3 : a1 = 47) (h4 : a4 = 1) : a2 ≤ a5 := by omega
theorem oz828 {a0 : Int} (h0 : a0 = 14) : (6 : Int) ≤ a0 := by omega
theorem oz829 {a0 : Int} (h0 : a0 = 14) : a0 ≤ 15 := by omega
theorem oz830 {a0 a1 a2 a3 a4 : Int} (h0 : a0 = a1) (h1 : a2 = a3) (h2 : a1 = a4) (h3 : a3 = a0) : a2 = a4 := by omega
theorem oz831 {a0 a1 a2 a3 a4 a5 a6 : Int} (h0 : a0 = a1) (h1 : a2 = a3) (h2 : a4 = a0 + a5) (h3 : (a6 + 1) ≤ a1) (h4 : (a4 + 1) ≤ a3) (h5 : a5 = 1) : a6 ≤ a2 := by omega
theorem oz832 {a0 a1 a2 a3 a4 a5 a6 a7 a8 a9 a10 a11 : Int} (h0 : a0 = a1) (h1 : a2 = a3) (h2 : a4 = a5) (h3 : a6 = a0 + a7) (h4 : (a3 - a1) ≤ (a8 - a9)) (h5 : (a10 - a5) ≤ (a2 - a6)) (h6 : a11 = (a10 + 1)) (h7 : a7 = 1) : (a11 - a4) ≤ (a8 - a9) := by omega
theorem oz833 {a0 a1 a2 a3 a4 : Int} (h0 : a0 = a1) (h1 : a2 ≤ a1) (h2 : a0 ≤ a3) (h3 : a4 = (a3 + 1)) : a2 ≤ a4 := by omega
theorem oz834 {a0 a1 a2 a3 a4 a5 a6 : Int} (h0 : a0 = a1) (h1 : a2 = a3) (h2 : a4 = a0 + a5) (h3 : (a6 + 1) ≤ a1) (h4 : (a4 + 1) ≤ a3) (h5 : a5 = 1) : (a6 + 1) ≤ a2 := by omega
theorem oz835 {a0 a1 a2 a3 a4 a5 a6 : Int} (h0 : a0 = a1) (h1 : a2 ≤ 120) (h2 : a3 = a4 + a5) (h3 : ((a0 = (-1)) ∧ (a2 ≤ a4)) ∨ ((a4 < a2) ∧ (a0 = a6))) (h4 : a1 = 42) (h5 : a5 = 1) : a3 ≤ 120 := by omega
theorem oz836 {a0 a1 a2 a3 a4 a5 a6 : Int} (h0 : a0 = a1) (h1 : a2 = a3 + a4) (h2 : ((a0 = (-1)) ∧ (a5 ≤ a3)) ∨ ((a3 < a5) ∧ (a0 = a6))) (h3 : a1 = 42) (h4 : a4 = 1) : a2 ≤ a5 := by omega
theorem oz837 {a0 : Int} (h0 : a0 = 13) : (6 : Int) ≤ a0 := by omega
theorem oz838 {a0 : Int} (h0 : a0 = 13) : a0 ≤ 15 := by omega
theorem oz839 {a0 a1 : Int} (h0 : (a0 + 1) ≤ a1) : a0 ≤ a1 := by omega
theorem oz840 {a0 a1 a2 a3 : Int} (h0 : (a0 - a1) ≤ (a2 - a3)) : (a0 - a1) ≤ (a2 - a3) := by omega
theorem oz841 {a0 a1 : Int} (h0 : (a0 + 1) ≤ a1) : (a0 + 1) ≤ a1 := by omega
theorem oz842 {a0 a1 a2 a3 a4 a5 a6 : Int} (h0 : a0 = a1) (h1 : a2 ≤ a3) (h2 : a3 ≤ a4) (h3 : (a5 - a3) ≤ (a6 - a2)) (h4 : a6 ≤ a5) : (a0 = a1) ∧ (a2 ≤ a3) ∧ (a3 ≤ a4) ∧ ((a5 - a3) ≤ (a6 - a2)) ∧ (a6 ≤ a5) := by omega
theorem oz843 {a0 a1 a2 a3 a4 a5 a6 : Int} (h0 : a0 = a1) (h1 : a2 ≤ a3) (h2 : (a4 - a2) ≤ (a5 - a6)) (h3 : a5 ≤ a4) (h4 : (a6 + 1) ≤ a2) : (a0 = a1) ∧ (a6 ≤ a2) ∧ (a2 ≤ a3) ∧ ((a4 - a2) ≤ (a5 - a6)) ∧ (a5 ≤ a4) ∧ ((a6 + 1) ≤ a2) := by omega
theorem oz844 {a0 a1 a2 : Int} (h0 : (a0 + a1) = 6) (h1 : a2 = a0) : (a2 + a1) = 6 := by omega
theorem oz845 {a0 a1 a2 a3 : Int} (h0 : a0 = a1) (h1 : a2 = a3) (h2 : a1 = a2) : a0 = a3 := by omega
theorem oz846 {a0 a1 a2 a3 a4 a5 : Int} (h0 : a0 = a1) (h1 : (a2 + 1) ≤ a3) (h2 : a4 = a3 + a5) (h3 : (a4 + 1) ≤ a1) (h4 : a5 = 1) : a2 ≤ a0 := by omega
theorem oz847 {a0 a1 a2 a3 a4 a5 a6 a7 a8 a9 : Int} (h0 : a0 = a1) (h1 : (a2 - a3) ≤ (a4 - a5)) (h2 : a6 = a3 + a7) (h3 : (a8 - a1) ≤ (a2 - a6)) (h4 : a9 = (a8 + 1)) (h5 : a7 = 1) : (a9 - a0) ≤ (a4 - a5) := by omega
theorem oz848 {a0 a1 a2 a3 : Int} (h0 : a0 ≤ a1) (h1 : a1 ≤ a2) (h2 : a3 = (a2 + 1)) : a0 ≤ a3 := by omega
theorem oz849 {a0 a1 a2 a3 a4 a5 : Int} (h0 : a0 = a1) (h1 : (a2 + 1) ≤ a3) (h2 : a4 = a3 + a5) (h3 : (a4 + 1) ≤ a1) (h4 : a5 = 1) : (a2 + 1) ≤ a0 := by omega
theorem oz850 {a0 a1 a2 a3 a4 a5 a6 a7 a8 a9 a10 a11 : Int} (h0 : a0 = a1) (h1 : (a2 - a3) ≤ (a4 - a5)) (h2 : a4 ≤ a2) (h3 : (a5 + 1) ≤ a3) (h4 : a6 = a3 + a7) (h5 : a8 = a0) (h6 : a6 ≤ a9) (h7 : a9 ≤ a10) (h8 : (a11 - a9) ≤ (a2 - a6)) (h9 : a2 ≤ a11) (h10 : a7 = 1) : (a8 = a1) ∧ (a5 ≤ a9) ∧ (a9 ≤ a10) ∧ ((a11 - a9) ≤ (a4 - a5)) ∧ (a4 ≤ a11) := by omega
theorem oz851 {a0 a1 a2 a3 a4 a5 a6 : Int} (h0 : a0 = a1) (h1 : a2 ≤ 120) (h2 : a3 = a4 + a5) (h3 : ((a0 = (-1)) ∧ (a2 ≤ a4)) ∨ ((a4 < a2) ∧ (a0 = a6))) (h4 : a1 = 45) (h5 : a5 = 1) : a3 ≤ 120 := by omega
theorem oz852 {a0 a1 a2 a3 a4 a5 a6 : Int} (h0 : a0 = a1) (h1 : a2 = a3 + a4) (h2 : ((a0 = (-1)) ∧ (a5 ≤ a3)) ∨ ((a3 < a5) ∧ (a0 = a6))) (h3 : a1 = 45) (h4 : a4 = 1) : a2 ≤ a5 := by omega
theorem oz853 {a0 : Int} (h0 : a0 = 12) : (6 : Int) ≤ a0 := by omega
theorem oz854 {a0 : Int} (h0 : a0 = 12) : a0 ≤ 15 := by omega
theorem oz855 {a0 a1 a2 a3 a4 a5 a6 a7 a8 a9 a10 a11 : Int} (h0 : a0 = a1) (h1 : a2 = a3) (h2 : a4 = a5) (h3 : a6 = a0 + a7) (h4 : (a8 - a5) ≤ (a2 - a6)) (h5 : a9 = (a8 + 1)) (h6 : (a3 - a1) ≤ (a10 - a11)) (h7 : a7 = 1) : (a9 - a4) ≤ (a10 - a11) := by omega
theorem oz856 {a0 a1 a2 a3 a4 : Int} (h0 : a0 = a1) (h1 : a0 ≤ a2) (h2 : a3 = (a2 + 1)) (h3 : a4 ≤ a1) : a4 ≤ a3 := by omega
theorem oz857 {a0 a1 a2 a3 a4 a5 a6 : Int} (h0 : a0 = a1) (h1 : a2 ≤ 120) (h2 : a3 = a4 + a5) (h3 : ((a0 = (-1)) ∧ (a2 ≤ a4)) ∨ ((a4 < a2) ∧ (a0 = a6))) (h4 : a1 = 43) (h5 : a5 = 1) : a3 ≤ 120 := by omega
theorem oz858 {a0 a1 a2 a3 a4 a5 a6 : Int} (h0 : a0 = a1) (h1 : a2 = a3 + a4) (h2 : ((a0 = (-1)) ∧ (a5 ≤ a3)) ∨ ((a3 < a5) ∧ (a0 = a6))) (h3 : a1 = 43) (h4 : a4 = 1) : a2 ≤ a5 := by omega
theorem oz859 {a0 : Int} (h0 : a0 = 11) : (6 : Int) ≤ a0 := by omega
theorem oz860 {a0 : Int} (h0 : a0 = 11) : a0 ≤ 15 := by omega
theorem oz861 {a0 a1 a2 a3 a4 a5 a6 : Int} (h0 : a0 = a1) (h1 : a2 ≤ 120) (h2 : a3 = a4 + a5) (h3 : ((a0 = (-1)) ∧ (a2 ≤ a4)) ∨ ((a4 < a2) ∧ (a0 = a6))) (h4 : a1 = 62) (h5 : a5 = 1) : a3 ≤ 120 := by omega
theorem oz862 {a0 a1 a2 a3 a4 a5 : Int} (h0 : a0 ≤ a1) (h1 : a2 = a3 + a4) (h2 : (a5 - a3) ≤ (a0 - a1)) (h3 : a4 = 1) : a5 ≤ a2 := by omega
theorem oz863 {a0 a1 a2 a3 a4 a5 a6 : Int} (h0 : a0 = a1) (h1 : a2 = a3 + a4) (h2 : ((a0 = (-1)) ∧ (a5 ≤ a3)) ∨ ((a3 < a5) ∧ (a0 = a6))) (h3 : a1 = 62) (h4 : a4 = 1) : a2 ≤ a5 := by omega
theorem oz864 {a0 a1 a2 a3 a4 a5 a6 a7 : Int} (h0 : a0 ≤ 120) (h1 : (0 : Int) ≤ a1) (h2 : a2 ≤ a3) (h3 : a4 = a5 + a6) (h4 : (a1 - a0) ≤ (a7 - a4)) (h5 : (a7 - a5) ≤ (a2 - a3)) (h6 : a6 = 1) : ((0 : Int) ≤ a1) ∧ (a1 ≤ 199) := by omega
theorem oz865 {a0 : Int} (h0 : a0 = 10) : (6 : Int) ≤ a0 := by omega
theorem oz866 {a0 : Int} (h0 : a0 = 10) : a0 ≤ 15 := by omega
theorem oz867 {a0 a1 a2 a3 a4 a5 a6 a7 a8 a9 a10 a11 a12 a13 a14 a15 : Int} (h0 : a0 = a1) (h1 : a2 = a3) (h2 : a4 = a5) (h3 : a6 = a7 + a8) (h4 : a5 = a9) (h5 : a3 ≤ a1) (h6 : (a10 - a3) ≤ (a11 - a6)) (h7 : a11 ≤ a10) (h8 : (a6 + 1) ≤ a3) (h9 : a9 = a12) (h10 : (a11 - a7) ≤ (a13 - a14)) (h11 : a13 ≤ a11) (h12 : (a14 + 1) ≤ a7) (h13 : a15 = (a10 + 1)) (h14 : a8 = 1) : (a4 = a12) ∧ (a14 ≤ a2) ∧ (a2 ≤ a0) ∧ ((a15 - a2) ≤ (a13 - a14)) ∧ (a13 ≤ a15) ∧ ((a14 + 1) ≤ a2) := by omega
theorem oz868 {a0 a1 a2 a3 a4 a5 a6 a7 a8 a9 a10 a11 : Int} (h0 : a0 = a1 + a2) (h1 : a3 = a4) (h2 : (a5 - a1) ≤ (a6 - a7)) (h3 : a6 ≤ a5) (h4 : (a7 + 1) ≤ a1) (h5 : a8 = a3) (h6 : a0 ≤ a9) (h7 : a9 ≤ a10) (h8 : (a11 - a9) ≤ (a5 - a0)) (h9 : a5 ≤ a11) (h10 : a2 = 1) : (a8 = a4) ∧ (a7 ≤ a9) ∧ (a9 ≤ a10) ∧ ((a11 - a9) ≤ (a6 - a7)) ∧ (a6 ≤ a11) := by omega
theorem oz869 {a0 a1 a2 a3 a4 a5 a6 : Int} (h0 : a0 = a1) (h1 : a2 ≤ 120) (h2 : a3 = a4 + a5) (h3 : ((a0 = (-1)) ∧ (a2 ≤ a4)) ∨ ((a4 < a2) ∧ (a0 = a6))) (h4 : a1 = 61) (h5 : a5 = 1) : a3 ≤ 120 := by omega
theorem oz870 {a0 a1 a2 a3 a4 a5 a6 : Int} (h0 : a0 = a1) (h1 : a2 = a3 + a4) (h2 : ((a0 = (-1)) ∧ (a5 ≤ a3)) ∨ ((a3 < a5) ∧ (a0 = a6))) (h3 : a1 = 61) (h4 : a4 = 1) : a2 ≤ a5 := by omega
theorem oz871 {a0 a1 a2 a3 a4 a5 a6 a7 : Int} (h0 : a0 ≤ 120) (h1 : (0 : Int) ≤ a1) (h2 : a2 ≤ a3) (h3 : a4 = a5 + a6) (h4 : (a7 - a5) ≤ (a2 - a3)) (h5 : (a1 - a0) ≤ (a7 - a4)) (h6 : a6 = 1) : ((0 : Int) ≤ a1) ∧ (a1 ≤ 199) := by omega
theorem oz872 {a0 : Int} (h0 : a0 = 9) : (6 : Int) ≤ a0 := by omega
theorem oz873 {a0 : Int} (h0 : a0 = 9) : a0 ≤ 15 := by omega
theorem oz874 {a0 a1 a2 a3 a4 a5 a6 a7 a8 a9 a10 a11 a12 a13 a14 a15 : Int} (h0 : a0 = a1) (h1 : a2 = a3) (h2 : a4 = a5) (h3 : a6 = a7 + a8) (h4 : a9 = a10) (h5 : (a11 - a7) ≤ (a12 - a13)) (h6 : a12 ≤ a11) (h7 : (a13 + 1) ≤ a7) (h8 : a5 = a9) (h9 : a3 ≤ a1) (h10 : (a14 - a3) ≤ (a11 - a6)) (h11 : a11 ≤ a14) (h12 : (a6 + 1) ≤ a3) (h13 : a15 = (a14 + 1)) (h14 : a8 = 1) : (a4 = a10) ∧ (a13 ≤ a2) ∧ (a2 ≤ a0) ∧ ((a15 - a2) ≤ (a12 - a13)) ∧ (a12 ≤ a15) ∧ ((a13 + 1) ≤ a2) := by omega
theorem oz875 {a0 a1 a2 a3 a4 a5 a6 : Int} (h0 : a0 = a1) (h1 : a2 ≤ 120) (h2 : a3 = a4 + a5) (h3 : ((a0 = (-1)) ∧ (a2 ≤ a4)) ∨ ((a4 < a2) ∧ (a0 = a6))) (h4 : a1 = 60) (h5 : a5 = 1) : a3 ≤ 120 := by omega
theorem oz876 {a0 a1 a2 a3 a4 a5 a6 : Int} (h0 : a0 = a1) (h1 : a2 = a3 + a4) (h2 : ((a0 = (-1)) ∧ (a5 ≤ a3)) ∨ ((a3 < a5) ∧ (a0 = a6))) (h3 : a1 = 60) (h4 : a4 = 1) : a2 ≤ a5 := by omega
theorem oz877 {a0 : Int} (h0 : a0 = 8) : (6 : Int) ≤ a0 := by omega
theorem oz878 {a0 : Int} (h0 : a0 = 8) : a0 ≤ 15 := by omega
theorem oz879 {a0 : Int} (h0 : a0 = 38) : (0 : Int) ≤ a0 := by omega
theorem oz880 {a0 a1 a2 a3 a4 : Int} (h0 : a0 = a1) (h1 : a2 = a0) (h2 : (a3 + a4) = 6) (h3 : a1 = a3) : (a2 + a4) = 6 := by omega
theorem oz881 {a0 a1 a2 a3 a4 a5 : Int} (h0 : a0 = a1) (h1 : a2 ≤ a3) (h2 : (a1 - a4) ≤ (a2 - a3)) (h3 : a5 = (a4 + 1)) : a0 ≤ a5 := by omega
theorem oz882 {a0 a1 a2 a3 a4 a5 a6 a7 : Int} (h0 : a0 = a1) (h1 : a2 ≤ 120) (h2 : (0 : Int) ≤ a3) (h3 : a4 ≤ a5) (h4 : (a1 - a6) ≤ (a4 - a5)) (h5 : a7 = (a6 + 1)) (h6 : (a3 - a2) ≤ (a0 - a7)) : ((0 : Int) ≤ a3) ∧ (a3 ≤ 199) := by omega
theorem oz883 {a0 : Int} (h0 : a0 = 7) : (6 : Int) ≤ a0 := by omega
theorem oz884 {a0 : Int} (h0 : a0 = 7) : a0 ≤ 15 := by omega
theorem oz885 {a0 a1 a2 a3 a4 a5 : Int} (h0 : a0 = a1) (h1 : a2 = a3) (h2 : a4 = a0) (h3 : a1 = a5) (h4 : a3 = a4) : a2 = a5 := by omega
theorem oz886 {a0 a1 a2 a3 a4 a5 : Int} (h0 : a0 = a1) (h1 : a2 = a3) (h2 : (a4 + 1) ≤ a1) (h3 : a5 = (a0 + 1)) (h4 : (a5 + 1) ≤ a3) : a4 ≤ a2 := by omega
theorem oz887 {a0 a1 a2 a3 a4 a5 a6 a7 a8 a9 a10 a11 : Int} (h0 : a0 = a1) (h1 : a2 = a3) (h2 : a4 = a5) (h3 : a6 = a2) (h4 : a7 = (a8 + 1)) (h5 : (a3 - a1) ≤ (a9 - a10)) (h6 : a11 = (a0 + 1)) (h7 : (a8 - a5) ≤ (a6 - a11)) : (a7 - a4) ≤ (a9 - a10) := by omega
theorem oz888 {a0 a1 a2 a3 a4 a5 : Int} (h0 : a0 = a1) (h1 : a2 = a0) (h2 : a3 = (a4 + 1)) (h3 : a5 ≤ a1) (h4 : a2 ≤ a4) : a5 ≤ a3 := by omega
theorem oz889 {a0 a1 a2 a3 a4 a5 : Int} (h0 : a0 = a1) (h1 : a2 = a3) (h2 : (a4 + 1) ≤ a1) (h3 : a5 = (a0 + 1)) (h4 : (a5 + 1) ≤ a3) : (a4 + 1) ≤ a2 := by omega
theorem oz890 {a0 a1 a2 a3 a4 a5 a6 a7 : Int} (h0 : a0 = a1) (h1 : a2 = a3) (h2 : a4 = a5) (h3 : a1 = a4) (h4 : a6 = (a7 + 1)) (h5 : (a6 + 1) ≤ a3) : (a0 - a2) < (a5 - a7) := by omega
theorem oz891 {a0 a1 a2 a3 : Int} (h0 : a0 = a1) (h1 : a2 = (a3 + 1)) (h2 : a2 ≤ a0) : (1 : Int) ≤ (a1 - a3) := by omega
theorem oz892 {a0 a1 a2 a3 a4 a5 a6 a7 a8 a9 a10 a11 a12 a13 a14 a15 : Int} (h0 : a0 = a1) (h1 : a2 = a3) (h2 : a4 = a5) (h3 : a6 = a2) (h4 : a7 = a4) (h5 : a8 = a6) (h6 : a9 ≤ a10) (h7 : a10 ≤ a11) (h8 : (a12 - a10) ≤ (a7 - a9)) (h9 : a7 ≤ a12) (h10 : a3 = a13) (h11 : (a5 - a1) ≤ (a14 - a15)) (h12 : a14 ≤ a5) (h13 : (a15 + 1) ≤ a1) (h14 : a9 = (a0 + 1)) : (a8 = a13) ∧ (a15 ≤ a10) ∧ (a10 ≤ a11) ∧ ((a12 - a10) ≤ (a14 - a15)) ∧ (a14 ≤ a12) := by omega
theorem oz893 {a0 a1 a2 a3 a4 a5 a6 a7 a8 a9 a10 a11 a12 a13 : Int} (h0 : a0 = a1) (h1 : a2 = a3) (h2 : a4 = a5) (h3 : a6 = a7) (h4 : a8 = a2) (h5 : a9 = a4) (h6 : a0 ≤ a7) (h7 : a10 = a0) (h8 : a3 = a11) (h9 : (a5 - a1) ≤ (a12 - a13)) (h10 : a12 ≤ a5) (h11 : (a13 + 1) ≤ a1) : (a8 = a11) ∧ (a13 ≤ a10) ∧ (a10 ≤ a6) ∧ ((a9 - a10) ≤ (a12 - a13)) ∧ (a12 ≤ a9) ∧ ((a13 + 1) ≤ a10) := by omega
theorem oz894 {a0 a1 a2 a3 a4 : Int} (h0 : a0 = a1) (h1 : a2 = a3) (h2 : a3 = a4) (h3 : a1 = a2) : a0 = a4 := by omega
theorem oz895 {a0 a1 a2 a3 a4 : Int} (h0 : a0 = a1) (h1 : (a2 + 1) ≤ a3) (h2 : a4 = (a3 + 1)) (h3 : (a4 + 1) ≤ a1) : a2 ≤ a0 := by omega
theorem oz896 {a0 a1 a2 a3 a4 a5 a6 a7 a8 a9 : Int} (h0 : a0 = a1) (h1 : a2 = a3) (h2 : (a3 - a4) ≤ (a5 - a6)) (h3 : a7 = (a8 + 1)) (h4 : a9 = (a4 + 1)) (h5 : (a8 - a1) ≤ (a2 - a9)) : (a7 - a0) ≤ (a5 - a6) := by omega
theorem oz897 {a0 a1 a2 a3 a4 : Int} (h0 : a0 = a1) (h1 : a2 ≤ a1) (h2 : a3 = (a4 + 1)) (h3 : a0 ≤ a4) : a2 ≤ a3 := by omega
theorem oz898 {a0 a1 a2 a3 a4 : Int} (h0 : a0 = a1) (h1 : (a2 + 1) ≤ a3) (h2 : a4 = (a3 + 1)) (h3 : (a4 + 1) ≤ a1) : (a2 + 1) ≤ a0 := by omega
theorem oz899 {a0 a1 a2 a3 a4 a5 a6 a7 a8 a9 a10 a11 a12 : Int} (h0 : a0 = a1) (h1 : a2 = a3) (h2 : a1 = a4) (h3 : (a3 - a5) ≤ (a6 - a7)) (h4 : a6 ≤ a3) (h5 : (a7 + 1) ≤ a5) (h6 : a8 = a0) (h7 : a9 ≤ a10) (h8 : a10 ≤ a11) (h9 : (a12 - a10) ≤ (a2 - a9)) (h10 : a2 ≤ a12) (h11 : a9 = (a5 + 1)) : (a8 = a4) ∧ (a7 ≤ a10) ∧ (a10 ≤ a11) ∧ ((a12 - a10) ≤ (a6 - a7)) ∧ (a6 ≤ a12) := by omega
theorem oz900 {a0 a1 a2 a3 a4 a5 a6 a7 a8 a9 a10 : Int} (h0 : a0 = a1) (h1 : a2 = a3) (h2 : a4 = a5) (h3 : a3 = a6) (h4 : a7 ≤ a1) (h5 : (a5 - a7) ≤ (a8 - a9)) (h6 : a8 ≤ a5) (h7 : (a9 + 1) ≤ a7) (h8 : a10 = a7) : (a2 = a6) ∧ (a9 ≤ a10) ∧ (a10 ≤ a0) ∧ ((a4 - a10) ≤ (a8 - a9)) ∧ (a8 ≤ a4) ∧ ((a9 + 1) ≤ a10) := by omega
theorem oz901 {a0 : Int} (h0 : a0 = 124) : (0 : Int) ≤ a0 := by omega
theorem oz902 {a0 : Int} (h0 : a0 = 6) : (6 : Int) ≤ a0 := by omega
theorem oz903 {a0 : Int} (h0 : a0 = 6) : a0 ≤ 15 := by omega
theorem oz904 {a0 a1 a2 : Int} (h0 : a0 = (-1)) : (a0 = (-1)) ∨ (a1 < a2) := by omega
theorem oz905 {a0 a1 : Int} (h0 : a0 < a1) (h1 : (0 : Int) ≤ a0) (h2 : a1 = 0) : False := by omega
theorem oz906 {a0 a1 a2 : Int} (h0 : a0 < a1) : (a2 = (-1)) ∨ (a0 < a1) := by omega
theorem oz907 {a0 a1 : Int} (h0 : a0 < a1) (h1 : a1 = 48) : ¬ (((48 : Int) ≤ a0) ∧ (a0 ≤ 57)) := by omega
theorem oz908 {a0 a1 : Int} (h0 : a0 < a1) (h1 : a0 = 57) : ¬ (((48 : Int) ≤ a1) ∧ (a1 ≤ 57)) := by omega
theorem oz909 {a0 a1 a2 : Int} (h0 : a0 ≤ a1) (h1 : a1 ≤ a2) (h2 : a0 = 48) (h3 : a2 = 57) : ((48 : Int) ≤ a1) ∧ (a1 ≤ 57) := by omega
theorem oz910 {a0 a1 a2 : Int} (h0 : a0 ≤ a1) (h1 : a0 = 121) (h2 : a2 = 1) : (-2147483648 : Int) ≤ a1 - a2 := by omega
theorem oz911 {a0 a1 : Int} (h0 : a0 ≤ 121) (h1 : a1 = 1) : a0 - a1 ≤ 2147483647 := by omega
theorem oz912 {a0 a1 : Int} (h0 : a0 < a1) (h1 : a1 = 121) : a0 < 121 := by omega
theorem oz913 {a0 a1 : Int} (h0 : a0 ≤ 121) (h1 : a1 = 1) : a0 + a1 ≤ 2147483647 := by omega
theorem oz914 {a0 a1 a2 a3 : Int} (h0 : a0 < a1) (h1 : a2 = a0 + a3) (h2 : a1 = 121) (h3 : a3 = 1) : a2 ≤ 121 := by omega
theorem oz915 {a0 a1 a2 : Int} (h0 : (0 : Int) ≤ a0) (h1 : a1 = a0 + a2) (h2 : a2 = 1) : (-2147483648 : Int) ≤ a1 - a2 := by omega
theorem oz916 {a0 a1 a2 : Int} (h0 : a0 ≤ 121) (h1 : a1 = a0 + a2) (h2 : a2 = 1) : a1 - a2 ≤ 2147483647 := by omega
theorem oz917 {a0 a1 a2 a3 a4 : Int} (h0 : a0 ≤ 120) (h1 : a1 = a2 + a3) (h2 : (48 : Int) ≤ a4) (h3 : (a4 = (-1)) ∨ (a2 < a0)) (h4 : a3 = 1) : a1 ≤ 120 := by omega
theorem oz918 {a0 a1 : Int} (h0 : a0 < a1) (h1 : a1 ≤ 6) : a0 < 6 := by omega
theorem oz919 {a0 a1 a2 : Int} (h0 : a0 < a1) (h1 : a1 ≤ 6) (h2 : a2 = 1) : a0 + a2 ≤ 2147483647 := by omega
theorem oz920 {a0 a1 : Int} (h0 : a0 ≤ a1) (h1 : a1 = 6) : a0 ≤ 6 := by omega
theorem oz921 {a0 a1 a2 a3 a4 a5 : Int} (h0 : a0 ≠ a1) (h1 : a2 ≤ 120) (h2 : a3 = a4 + a5) (h3 : (a0 = (-1)) ∨ (a4 < a2)) (h4 : a1 = (-1)) (h5 : a5 = 1) : a3 ≤ 120 := by omega
theorem oz922 {a0 a1 : Int} (h0 : a0 < a1) (h1 : a1 ≤ 3) : a0 < 3 := by omega
theorem oz923 {a0 a1 a2 : Int} (h0 : a0 < a1) (h1 : a1 ≤ 3) (h2 : a2 = 1) : a0 + a2 ≤ 2147483647 := by omega
theorem oz924 {a0 a1 : Int} (h0 : a0 ≤ a1) (h1 : a1 = 3) : a0 ≤ 3 := by omega
theorem oz925 {a0 a1 a2 : Int} (h0 : a0 < a1) (h1 : (a0 + a2) = 6) (h2 : a1 = 6) : (1 : Int) ≤ a2 := by omega
theorem oz926 {a0 a1 a2 a3 a4 : Int} (h0 : a0 = a1 + 1) (h1 : (0 : Int) ≤ a2) (h2 : (a2 + a0) = 6) (h3 : a3 = a2 + a4) (h4 : a4 = 1) : ((0 : Int) ≤ a3) ∧ ((a3 + a1) = 6) := by omega
theorem oz927 {a0 a1 a2 a3 a4 a5 : Int} (h0 : a0 = a1) (h1 : a2 ≤ 120) (h2 : (0 : Int) ≤ a1) (h3 : a3 = a4 + a5) (h4 : (a0 = (-1)) ∨ (a4 < a2)) (h5 : a5 = 1) : a3 ≤ 120 := by omega
theorem oz928 {a0 a1 : Int} (h0 : (0 : Int) ≤ a0) (h1 : (a0 + a1) = 6) : ((0 : Int) ≤ a0) ∧ ((a0 + a1) = 6) := by omega
theorem oz929 {a0 a1 a2 : Int} (h0 : a0 < a1) (h1 : a1 ≤ 120) (h2 : a2 = 1) : a0 + a2 ≤ 2147483647 := by omega
theorem oz930 {a0 a1 : Int} (h0 : a0 < a1) (h1 : a1 ≤ 2) : a0 < 2 := by omega
theorem oz931 {a0 a1 a2 : Int} (h0 : a0 < a1) (h1 : a1 ≤ 2) (h2 : a2 = 1) : a0 + a2 ≤ 2147483647 := by omega
theorem oz932 {a0 a1 : Int} (h0 : a0 ≤ a1) (h1 : a1 = 2) : a0 ≤ 2 := by omega
theorem oz933 {a0 a1 a2 a3 a4 a5 a6 : Int} (h0 : a0 = a1) (h1 : a2 = a3) (h2 : a1 = a2) (h3 : a4 = a5 + a6) (h4 : a6 = 1) : (a0 - a4) < (a3 - a5) := by omega
theorem oz934 {a0 a1 : Int} (h0 : a0 ≤ a1) (h1 : a1 = 6) : a0 < 7 := by omega
theorem oz935 {a0 a1 a2 : Int} (h0 : a0 ≤ a1) (h1 : a1 ≤ a2) (h2 : a0 = 0) (h3 : a2 = 6) : ((0 : Int) ≤ a1) ∧ (a1 ≤ 6) := by omega
theorem oz936 {a0 a1 : Int} (h0 : a0 < a1) (h1 : a1 = 8) : a0 < 8 := by omega
theorem oz937 {a0 a1 a2 a3 : Int} (h0 : a0 < a1) (h1 : a2 = a0 + a3) (h2 : a1 = 8) (h3 : a3 = 1) : a2 ≤ 8 := by omega
theorem oz938 {a0 a1 a2 : Int} (h0 : a0 ≤ 8) (h1 : a1 = a0 + a2) (h2 : a2 = 1) : a1 - a2 ≤ 2147483647 := by omega
theorem oz939 {a0 : Int} (h0 : (0 : Int) ≤ a0) (h1 : a0 ≤ 5) : (0 : Int) ≤ a0 ∧ a0 < 6 := by omega
theorem oz940 {a0 a1 a2 a3 : Int} (h0 : a0 ≠ a1) (h1 : a0 ≤ 2) (h2 : a1 = 2) : ¬ ((a0 = 2) ∧ (a2 = a3)) := by omega
theorem oz941 {a0 a1 a2 : Int} (h0 : a0 ≠ a1) : ¬ ((a2 = 2) ∧ (a0 = a1)) := by omega
theorem oz942 {a0 a1 a2 a3 : Int} (h0 : a0 = a1) (h1 : a2 = a3) (h2 : a0 ≤ 2) (h3 : a1 = 2) : (a0 = 2) ∧ (a2 = a3) := by omega
theorem oz943 {a0 : Int} (h0 : (0 : Int) ≤ a0) : (-2147483648 : Int) ≤ 3 * a0 := by omega
theorem oz944 {a0 a1 a2 : Int} (h0 : a0 < a1) (h1 : a1 ≤ a2) (h2 : a2 = 8) : 3 * a0 ≤ 2147483647 := by omega
theorem oz945 {a0 a1 a2 a3 : Int} (h0 : (0 : Int) ≤ a0) (h1 : a1 = 3 * a0) (h2 : a2 ≤ a3) (h3 : a2 = 0) : (-2147483648 : Int) ≤ a3 + a1 := by omega
theorem oz946 {a0 a1 a2 a3 a4 a5 : Int} (h0 : a0 < a1) (h1 : a2 = 3 * a0) (h2 : a3 ≤ a4) (h3 : a1 ≤ a5) (h4 : a4 = 60) (h5 : a5 = 8) : a3 + a2 ≤ 2147483647 := by omega
theorem oz947 {a0 a1 a2 : Int} (h0 : a0 ≤ a1) (h1 : a0 = 0) (h2 : a2 = 2) : (-2147483648 : Int) ≤ a1 + a2 := by omega
theorem oz948 {a0 a1 : Int} (h0 : a0 ≤ 1000) (h1 : a1 = 2) : a0 + a1 ≤ 2147483647 := by omega
theorem oz949 {a0 a1 a2 a3 : Int} (h0 : a0 < a1) (h1 : a1 ≤ 60) (h2 : a0 = a2 + a3) (h3 : a3 = 2) : a2 < 60 := by omega
theorem oz950 {a0 a1 a2 : Int} (h0 : a0 ≤ a1) (h1 : a0 = 0) (h2 : a2 = 1) : (-2147483648 : Int) ≤ a1 + a2 := by omega
theorem oz951 {a0 a1 : Int} (h0 : a0 ≤ 1000) (h1 : a1 = 1) : a0 + a1 ≤ 2147483647 := by omega
theorem oz952 {a0 a1 a2 a3 : Int} (h0 : a0 ≤ a1) (h1 : a2 = a1 + a3) (h2 : a0 = 0) (h3 : a3 = 1) : (0 : Int) ≤ a2 := by omega
theorem oz953 {a0 a1 a2 a3 a4 a5 : Int} (h0 : a0 < a1) (h1 : a1 ≤ 60) (h2 : a0 = a2 + a3) (h3 : a4 = a2 + a5) (h4 : a3 = 2) (h5 : a5 = 1) : a4 < 60 := by omega
theorem oz954 {a0 a1 a2 a3 : Int} (h0 : a0 ≤ a1) (h1 : a2 = a1 + a3) (h2 : a0 = 0) (h3 : a3 = 2) : (0 : Int) ≤ a2 := by omega
theorem oz955 {a0 a1 a2 a3 a4 a5 a6 : Int} (h0 : a0 < a1) (h1 : a2 = 3 * a0) (h2 : a3 = a4 + a2) (h3 : a4 ≤ a5) (h4 : a1 ≤ a6) (h5 : a5 = 60) (h6 : a6 = 8) : a3 ≤ 1000 := by omega
theorem oz956 {a0 a1 a2 a3 a4 a5 : Int} (h0 : a0 < a1) (h1 : a2 = 3 * a0) (h2 : a1 ≤ a3) (h3 : a4 ≤ a5) (h4 : a3 = 8) (h5 : a5 = 60) : a4 + a2 ≤ 2147483647 := by omega
theorem oz957 {a0 a1 a2 a3 a4 a5 a6 : Int} (h0 : a0 < a1) (h1 : a2 = 3 * a0) (h2 : a3 = a4 + a2) (h3 : a1 ≤ a5) (h4 : a4 ≤ a6) (h5 : a5 = 8) (h6 : a6 = 60) : a3 ≤ 1000 := by omega
theorem oz958 {a0 : Int} (h0 : ¬ (a0 = 5)) (h1 : ¬ (a0 = 1)) (h2 : ¬ (a0 = 2)) (h3 : ¬ (a0 = 0)) (h4 : ¬ (a0 = 3)) (h5 : ¬ (a0 = 4)) (h6 : (0 : Int) ≤ a0) (h7 : a0 ≤ 5) : False := by omega
theorem oz959 {a0 a1 a2 a3 : Int} (h0 : a0 < a1) (h1 : a1 = 0) : ¬ ((((0 : Int) ≤ a0) ∧ (a0 ≤ 3) ∧ ((0 : Int) ≤ a2) ∧ (a2 < a3)) ∨ (((4 : Int) ≤ a0) ∧ (a0 ≤ 6) ∧ (a2 = 0))) := by omega
theorem oz960 {a0 a1 a2 : Int} (h0 : a0 < a1) (h1 : a2 ≤ a0) (h2 : a1 = 0) (h3 : a2 = 4) : False := by omega
theorem oz961 {a0 a1 : Int} (h0 : a0 ≤ a1) (h1 : a1 < a0) (h2 : a0 = 4) : False := by omega
theorem oz962 {a0 a1 a2 a3 : Int} (h0 : a0 < a1) (h1 : a0 = 6) : ¬ ((((0 : Int) ≤ a1) ∧ (a1 ≤ 3) ∧ ((0 : Int) ≤ a2) ∧ (a2 < a3)) ∨ (((4 : Int) ≤ a1) ∧ (a1 ≤ 6) ∧ (a2 = 0))) := by omega
theorem oz963 {a0 a1 a2 : Int} (h0 : a0 < a1) (h1 : a1 = 0) : ¬ (((0 : Int) ≤ a0) ∧ (a0 < a2)) := by omega
theorem oz964 {a0 a1 : Int} (h0 : a0 ≤ a1) : ¬ (((0 : Int) ≤ a1) ∧ (a1 < a0)) := by omega
theorem oz965 {a0 a1 a2 : Int} (h0 : a0 < a1) (h1 : a2 ≤ a0) (h2 : a1 ≤ 8) (h3 : a2 = 8) : False := by omega
theorem oz966 {a0 a1 a2 : Int} (h0 : a0 ≤ a1) (h1 : a1 < a2) (h2 : a0 = 0) : ((0 : Int) ≤ a1) ∧ (a1 < a2) := by omega
theorem oz967 {a0 a1 : Int} (h0 : (0 : Int) ≤ a0) (h1 : a0 < a1) : ((0 : Int) ≤ a0) ∧ (a0 < a1) := by omega
theorem oz968 {a0 a1 : Int} (h0 : ¬ (((0 : Int) ≤ a0) ∧ (a0 < a1))) : ¬ (((0 : Int) ≤ a0) ∧ (a0 < a1)) := by omega
theorem oz969 {a0 a1 a2 a3 a4 : Int} (h0 : a0 < a1) (h1 : a2 ≤ a0) (h2 : (0 : Int) ≤ a3) (h3 : a3 < a4) (h4 : a1 = 4) (h5 : a2 = 0) : (((0 : Int) ≤ a0) ∧ (a0 ≤ 3) ∧ ((0 : Int) ≤ a3) ∧ (a3 < a4)) ∨ (((4 : Int) ≤ a0) ∧ (a0 ≤ 6) ∧ (a3 = 0)) := by omega
theorem oz970 {a0 a1 a2 a3 : Int} (h0 : a0 < a1) (h1 : ¬ (((0 : Int) ≤ a2) ∧ (a2 < a3))) (h2 : a1 = 4) : ¬ ((((0 : Int) ≤ a0) ∧ (a0 ≤ 3) ∧ ((0 : Int) ≤ a2) ∧ (a2 < a3)) ∨ (((4 : Int) ≤ a0) ∧ (a0 ≤ 6) ∧ (a2 = 0))) := by omega
theorem oz971 {a0 a1 : Int} (h0 : a0 < a1) (h1 : a1 ≤ a0) (h2 : a1 = 4) : False := by omega
theorem oz972 {a0 : Int} (h0 : ¬ (a0 = 4)) (h1 : ¬ (a0 = 5)) (h2 : ¬ (a0 = 6)) : a0 < 4 ∨ 6 < a0 := by omega
theorem oz973 {a0 : Int} (h0 : ¬ (a0 = 0)) (h1 : ¬ (a0 = 1)) (h2 : ¬ (a0 = 2)) : a0 < 0 ∨ 2 < a0 := by omega
theorem oz974 {a0 a1 : Int} (h0 : a0 ≤ 8) (h1 : a1 < a0) : a1 < 8 := by omega
theorem oz975 {a0 a1 : Int} (h0 : a0 < a1) (h1 : a1 = 40) : a0 < 40 := by omega
theorem oz976 {a0 a1 a2 a3 : Int} (h0 : a0 < a1) (h1 : a2 = a0 + a3) (h2 : a1 = 40) (h3 : a3 = 1) : a2 ≤ 40 := by omega
theorem oz977 {a0 : Int} (h0 : a0 = 39) : (0 : Int) ≤ a0 := by omega
theorem oz978 {a0 : Int} (h0 : a0 = 39) : a0 ≤ 40 := by omega
theorem oz979 {a0 a1 : Int} (h0 : a0 = 1) (h1 : a1 = 39) : a0 + a1 ≤ 40 := by omega
theorem oz980 {a0 a1 : Int} (h0 : a0 = 0) (h1 : a1 = 39) : a0 + a1 ≤ 40 := by omega
theorem oz981 {a0 : Int} (h0 : a0 = 39) : a0 = 39 := by omega
theorem oz982 {a0 : Int} (h0 : a0 = 39) : a0 < 40 := by omega
theorem oz983 {a0 a1 : Int} (h0 : a0 = 39) (h1 : a1 = 1) : (-2147483648 : Int) ≤ a0 + a1 := by omega
theorem oz984 {a0 a1 a2 : Int} (h0 : a0 = a1 + a2) (h1 : a1 = 39) (h2 : a2 = 1) : (0 : Int) ≤ a0 := by omega
theorem oz985 {a0 a1 a2 : Int} (h0 : a0 = a1 + a2) (h1 : a1 = 39) (h2 : a2 = 1) : a0 ≤ 40 := by omega
theorem oz986 {a0 a1 : Int} (h0 : a0 < a1) (h1 : a1 = 120) : a0 < 120 := by omega
theorem oz987 {a0 a1 a2 a3 : Int} (h0 : a0 < a1) (h1 : a2 = a0 + a3) (h2 : a1 = 120) (h3 : a3 = 1) : a2 ≤ 120 := by omega
theorem oz988 {a0 a1 : Int} (h0 : a0 < a1) (h1 : a1 ≤ 5) : a0 < 5 := by omega
theorem oz989 {a0 a1 : Int} (h0 : (0 : Int) ≤ a0) (h1 : a0 ≤ 5) (h2 : a1 = 0) : (a1 < 0) ∨ ((a1 = 0) ∧ ((0 : Int) ≤ a0) ∧ (a0 ≤ 5)) := by omega
theorem oz990 {a0 a1 : Int} (h0 : a0 = (-12)) : (a0 < 0) ∨ ((a0 = 0) ∧ ((0 : Int) ≤ a1) ∧ (a1 ≤ 5)) := by omega
theorem oz991 {a0 : Int} (h0 : a0 = 0) (h1 : ¬ (a0 = 0)) (h2 : (0 : Int) ≤ a0) : False := by omega
theorem oz992 {a0 a1 : Int} (h0 : a0 = (-11)) : (a0 < 0) ∨ ((a0 = 0) ∧ ((0 : Int) ≤ a1) ∧ (a1 ≤ 5)) := by omega
theorem oz993 {a0 : Int} (h0 : a0 = 1) (h1 : a0 ≤ 5) : (0 : Int) ≤ a0 ∧ a0 < 6 := by omega
theorem oz994 {a0 a1 : Int} (h0 : a0 = 1) (h1 : a0 ≤ 5) (h2 : a1 = 0) : (a1 < 0) ∨ ((a1 = 0) ∧ ((0 : Int) ≤ a0) ∧ (a0 ≤ 5)) := by omega
theorem oz995 {a0 : Int} (h0 : a0 = 1) (h1 : ¬ (a0 = 1)) : False := by omega
theorem oz996 {a0 : Int} (h0 : a0 = 2) (h1 : a0 ≤ 5) : (0 : Int) ≤ a0 ∧ a0 < 6 := by omega
theorem oz997 {a0 a1 : Int} (h0 : a0 = 2) (h1 : a0 ≤ 5) (h2 : a1 = 0) : (a1 < 0) ∨ ((a1 = 0) ∧ ((0 : Int) ≤ a0) ∧ (a0 ≤ 5)) := by omega
theorem oz998 {a0 : Int} (h0 : a0 = 2) (h1 : ¬ (a0 = 2)) : False := by omega
theorem oz999 {a0 : Int} (h0 : a0 = 3) (h1 : a0 ≤ 5) : (0 : Int) ≤ a0 ∧ a0 < 6 := by omega
theorem oz1000 {a0 a1 : Int} (h0 : a0 = 3) (h1 : a0 ≤ 5) (h2 : a1 = 0) : (a1 < 0) ∨ ((a1 = 0) ∧ ((0 : Int) ≤ a0) ∧ (a0 ≤ 5)) := by omega
theorem oz1001 {a0 : Int} (h0 : a0 = 3) (h1 : ¬ (a0 = 3)) : False := by omega
theorem oz1002 {a0 : Int} (h0 : a0 = 4) (h1 : a0 ≤ 5) : (0 : Int) ≤ a0 ∧ a0 < 6 := by omega
theorem oz1003 {a0 a1 : Int} (h0 : a0 = 4) (h1 : a0 ≤ 5) (h2 : a1 = 0) : (a1 < 0) ∨ ((a1 = 0) ∧ ((0 : Int) ≤ a0) ∧ (a0 ≤ 5)) := by omega
theorem oz1004 {a0 : Int} (h0 : a0 = 4) (h1 : ¬ (a0 = 4)) : False := by omega
theorem oz1005 {a0 : Int} (h0 : a0 = 5) (h1 : a0 ≤ 5) : (0 : Int) ≤ a0 ∧ a0 < 6 := by omega
theorem oz1006 {a0 a1 : Int} (h0 : a0 = 5) (h1 : a0 ≤ 5) (h2 : a1 = 0) : (a1 < 0) ∨ ((a1 = 0) ∧ ((0 : Int) ≤ a0) ∧ (a0 ≤ 5)) := by omega
theorem oz1007 {a0 : Int} (h0 : a0 = 5) (h1 : ¬ (a0 = 5)) (h2 : a0 ≤ 5) : False := by omega
theorem oz1008 {a0 : Int} (h0 : ¬ (a0 = 1)) (h1 : ¬ (a0 = 2)) (h2 : ¬ (a0 = 0)) (h3 : ¬ (a0 = 3)) (h4 : ¬ (a0 = 4)) (h5 : ¬ (a0 = 5)) (h6 : (0 : Int) ≤ a0) (h7 : a0 ≤ 5) : False := by omega
theorem oz1009 {a0 a1 : Int} (h0 : a0 = (-1)) : (a0 < 0) ∨ ((a0 = 0) ∧ ((0 : Int) ≤ a1) ∧ (a1 ≤ 5)) := by omega
theorem oz1010 {a0 a1 a2 : Int} (h0 : a0 ≠ a1) (h1 : (a0 < 0) ∨ ((a0 = 0) ∧ ((0 : Int) ≤ a2) ∧ (a2 ≤ 5))) (h2 : a1 = 0) : (a0 < 0) ∨ (a0 = 0) := by omega
theorem oz1011 {a0 a1 a2 : Int} (h0 : a0 = a1) (h1 : (a0 < 0) ∨ ((a0 = 0) ∧ ((0 : Int) ≤ a2) ∧ (a2 ≤ 5))) (h2 : a1 = 0) : (0 : Int) ≤ a2 ∧ a2 < 6 := by omega
theorem oz1012 {a0 a1 : Int} (h0 : a0 < a1) (h1 : a1 = 20) : a0 < 60 := by omega
theorem oz1013 {a0 a1 : Int} (h0 : a0 < a1) (h1 : a1 = 20) : a0 < 20 := by omega
theorem oz1014 {a0 a1 a2 : Int} (h0 : a0 < a1) (h1 : a1 = 20) (h2 : a2 = 1) : a0 + a2 ≤ 2147483647 := by omega
theorem oz1015 {a0 a1 : Int} (h0 : a0 = a1) (h1 : a1 = 0) : (a0 < 0) ∨ (a0 = 0) := by omega
theorem oz1016 {a0 a1 a2 : Int} (h0 : a0 = a1) (h1 : ¬ (a2 = 3)) (h2 : ¬ (a2 = 4)) (h3 : ¬ (a2 = 5)) (h4 : ¬ (a2 = 0)) (h5 : ¬ (a2 = 1)) (h6 : ¬ (a2 = 2)) (h7 : (a0 < 0) ∨ ((a0 = 0) ∧ ((0 : Int) ≤ a2) ∧ (a2 ≤ 5))) (h8 : a1 = 0) : False := by omega
theorem oz1017 {a0 a1 a2 a3 : Int} (h0 : a0 ≤ a1) (h1 : a2 = a3 ∨ a2 = a0) (h2 : a1 = 8) (h3 : a3 = 0) : a3 + a2 ≤ 8 := by omega
theorem oz1018 {a0 a1 : Int} (h0 : a0 = 0) (h1 : a1 = 5) : a0 + a1 ≤ 5 := by omega
theorem oz1019 {a0 a1 : Int} (h0 : a0 = 0) (h1 : a1 = 8) : a0 + a1 ≤ 8 := by omega
theorem oz1020 {a0 a1 : Int} (h0 : a0 < a1) (h1 : (0 : Int) ≤ a0) (h2 : a1 = 8) : (0 : Int) ≤ a0 ∧ a0 < 8 := by omega
theorem oz1021 {a0 a1 : Int} (h0 : a0 < a1) (h1 : a0 = 1) (h2 : a1 = 8) : ((0 : Int) ≤ a0) ∧ (a0 ≤ 7) := by omega
theorem oz1022 {a0 a1 : Int} (h0 : a0 < a1) (h1 : a0 = 2) (h2 : a1 = 8) : ((0 : Int) ≤ a0) ∧ (a0 ≤ 7) := by omega
theorem oz1023 {a0 a1 : Int} (h0 : a0 < a1) (h1 : a0 = 3) (h2 : a1 = 8) : ((0 : Int) ≤ a0) ∧ (a0 ≤ 7) := by omega
theorem oz1024 {a0 a1 : Int} (h0 : a0 < a1) (h1 : a0 = 4) (h2 : a1 = 8) : ((0 : Int) ≤ a0) ∧ (a0 ≤ 7) := by omega
theorem oz1025 {a0 a1 : Int} (h0 : a0 < a1) (h1 : a0 = 5) (h2 : a1 = 8) : ((0 : Int) ≤ a0) ∧ (a0 ≤ 7) := by omega
theorem oz1026 {a0 a1 : Int} (h0 : a0 < a1) (h1 : a0 = 6) (h2 : a1 = 8) : ((0 : Int) ≤ a0) ∧ (a0 ≤ 7) := by omega
theorem oz1027 {a0 a1 : Int} (h0 : a0 < a1) (h1 : a0 = 7) (h2 : a1 = 8) : ((0 : Int) ≤ a0) ∧ (a0 ≤ 7) := by omega
theorem oz1028 {a0 a1 : Int} (h0 : a0 < a1) (h1 : (0 : Int) ≤ a0) (h2 : ¬ (a0 = 0)) (h3 : ¬ (a0 = 1)) (h4 : ¬ (a0 = 2)) (h5 : ¬ (a0 = 3)) (h6 : ¬ (a0 = 4)) (h7 : ¬ (a0 = 5)) (h8 : ¬ (a0 = 6)) (h9 : ¬ (a0 = 7)) (h10 : a1 = 8) : False := by omega
theorem oz1029 {a0 a1 a2 : Int} (h0 : a0 ≤ a1) (h1 : a1 = 4) (h2 : a2 = 1) : a0 + a2 ≤ 2147483647 := by omega
theorem oz1030 {a0 a1 : Int} (h0 : a0 ≤ a1) (h1 : a1 = 4) : (1 : Int) ≤ (5 - a0) := by omega
theorem oz1031 {a0 a1 a2 : Int} (h0 : a0 < a1) (h1 : a2 ≤ a0) (h2 : a1 ≤ 20) (h3 : a2 = 20) : False := by omega
theorem oz1032 {a0 : Int} (h0 : a0 ≤ 7) : a0 < 8 := by omega
theorem oz1033 {a0 : Int} (h0 : a0 = 0) : a0 ≤ 121 := by omega
theorem oz1034 {a0 a1 : Int} (h0 : a0 < a1) (h1 : a1 ≤ 121) : a0 < 121 := by omega
theorem oz1035 {a0 a1 a2 : Int} (h0 : a0 < a1) (h1 : a1 ≤ 121) (h2 : a2 = 1) : a0 + a2 ≤ 2147483647 := by omega
theorem oz1036 {a0 a1 a2 : Int} (h0 : a0 < a1) (h1 : a1 = 121) (h2 : a2 = 1) : a0 + a2 ≤ 2147483647 := by omega
theorem oz1037 {a0 a1 a2 : Int} (h0 : a0 = a1 + a2) (h1 : a2 = 1) : (121 - a0) < (121 - a1) := by omega
theorem oz1038 {a0 a1 : Int} (h0 : a0 < a1) (h1 : a1 = 121) : (1 : Int) ≤ (121 - a0) := by omega
theorem oz1039 {a0 a1 : Int} (h0 : a0 < a1) (h1 : a1 = 6) : a0 < 6 := by omega
theorem oz1040 {a0 a1 a2 : Int} (h0 : a0 < a1) (h1 : a0 = 0) (h2 : a2 = 1) : (-2147483648 : Int) ≤ a1 - a2 := by omega
theorem oz1041 {a0 a1 a2 a3 : Int} (h0 : a0 < a1) (h1 : a2 = a1 - a3) (h2 : a0 = 0) (h3 : a3 = 1) : (0 : Int) ≤ a2 := by omega
theorem oz1042 {a0 a1 a2 : Int} (h0 : a0 ≤ 121) (h1 : a1 = a0 - a2) (h2 : a2 = 1) : a1 ≤ 121 := by omega
theorem oz1043 {a0 a1 a2 : Int} (h0 : a0 ≤ 121) (h1 : a1 = a0 - a2) (h2 : a2 = 1) : a1 < 121 := by omega
theorem oz1044 {a0 a1 a2 a3 : Int} (h0 : a0 < a1) (h1 : a2 = a0 + a3) (h2 : a1 = 5) (h3 : a3 = 1) : a2 ≤ 5 := by omega
theorem oz1045 {a0 a1 a2 a3 a4 : Int} (h0 : (-2147483648 : Int) ≤ a0) (h1 : a1 = a2) (h2 : a3 = a1) (h3 : a4 = a3) (h4 : a2 = 0) : (-2147483648 : Int) ≤ a0 + a4 := by omega
theorem oz1046 {a0 a1 a2 a3 a4 : Int} (h0 : a0 ≤ 2147483647) (h1 : a1 = a2) (h2 : a3 = a1) (h3 : a4 = a3) (h4 : a2 = 0) : a0 + a4 ≤ 2147483647 := by omega
theorem oz1047 {a0 a1 a2 : Int} (h0 : a0 ≤ 5) (h1 : a1 = a0 - a2) (h2 : a2 = 1) : a1 ≤ 5 := by omega
theorem oz1048 {a0 a1 a2 : Int} (h0 : a0 ≤ 5) (h1 : a1 = a0 - a2) (h2 : a2 = 1) : a2 + a1 ≤ 5 := by omega
theorem oz1049 {a0 a1 a2 a3 : Int} (h0 : a0 ≤ 5) (h1 : a1 = a0 - a2) (h2 : a2 = 1) (h3 : a3 = 0) : a3 + a1 ≤ 5 := by omega
theorem oz1050 {a0 a1 : Int} (h0 : a0 ≤ 8) (h1 : (0 : Int) ≤ a1) (h2 : a1 < a0) : (0 : Int) ≤ a1 ∧ a1 < 8 := by omega
theorem oz1051 {a0 a1 : Int} (h0 : a0 ≤ 8) (h1 : ¬ (a1 = 0)) (h2 : ¬ (a1 = 1)) (h3 : ¬ (a1 = 2)) (h4 : ¬ (a1 = 3)) (h5 : ¬ (a1 = 4)) (h6 : ¬ (a1 = 5)) (h7 : ¬ (a1 = 6)) (h8 : ¬ (a1 = 7)) (h9 : (0 : Int) ≤ a1) (h10 : a1 < a0) : False := by omega
theorem oz1052 {a0 a1 a2 : Int} (h0 : a0 ≠ a1) (h1 : ¬ (a0 = 1)) (h2 : ¬ (a0 = 2)) (h3 : ¬ (a0 = 0)) (h4 : a2 ≤ a0) (h5 : a0 ≤ a1) (h6 : a1 = 3) (h7 : a2 = 0) : False := by omega
theorem oz1053 {a0 a1 : Int} (h0 : a0 = a1) (h1 : a1 = 3) : ¬ (a0 = 0) := by omega
theorem oz1054 {a0 a1 : Int} (h0 : a0 = a1) (h1 : a1 = 3) : ¬ (a0 = 1) := by omega
theorem oz1055 {a0 a1 : Int} (h0 : a0 = a1) (h1 : a1 = 3) : ¬ (a0 = 2) := by omega
theorem oz1056 {a0 a1 : Int} (h0 : a0 < a1) (h1 : a1 ≤ 20) : a0 < 20 := by omega
theorem oz1057 {a0 a1 a2 : Int} (h0 : a0 < a1) (h1 : a1 ≤ 20) (h2 : a2 = 1) : a0 + a2 ≤ 2147483647 := by omega
theorem oz1058 {a0 a1 : Int} (h0 : a0 ≤ a1) (h1 : a1 = 20) : a0 ≤ 20 := by omega
theorem oz1059 {a0 a1 a2 : Int} (h0 : a0 ≤ a1) (h1 : a1 ≤ 20) (h2 : a2 = 1) : a0 + a2 ≤ 2147483647 := by omega
theorem oz1060 {a0 a1 a2 a3 : Int} (h0 : a0 < a1) (h1 : a2 ≤ a3) (h2 : a1 = 20) (h3 : a2 = 0) : a0 - a3 ≤ 2147483647 := by omega
theorem oz1061 {a0 a1 a2 : Int} (h0 : a0 ≤ a1) (h1 : a2 = a1 - a0) : (0 : Int) ≤ a2 := by omega
theorem oz1062 {a0 a1 a2 : Int} (h0 : a0 ≤ 20) (h1 : a1 = a0 - a2) : a2 + a1 ≤ 20 := by omega
theorem oz1063 {a0 a1 a2 a3 a4 a5 : Int} (h0 : a0 < a1) (h1 : a2 = a3 + a4) (h2 : a5 = a0 - a3) (h3 : a1 = 20) (h4 : a4 = 1) : a2 + a5 ≤ 20 := by omega
theorem oz1064 {a0 a1 a2 : Int} (h0 : a0 < a1) (h1 : a2 ≤ a0) (h2 : a1 = 20) : a2 < 20 := by omega
theorem oz1065 {a0 : Int} (h0 : a0 ≤ 19) : a0 < 20 := by omega
theorem oz1066 {a0 a1 : Int} (h0 : a0 < a1) (h1 : a1 ≤ 20) (h2 : (0 : Int) ≤ a0) : ((0 : Int) ≤ a0) ∧ (a0 ≤ 19) := by omega
theorem oz1067 {a0 a1 a2 a3 : Int} (h0 : a0 < a1) (h1 : a1 ≤ 20) (h2 : (0 : Int) ≤ a2) (h3 : a0 = a2 + a3) (h4 : a3 = 1) : ((0 : Int) ≤ a0) ∧ (a0 ≤ 19) := by omega
theorem oz1068 {a0 a1 a2 a3 a4 a5 : Int} (h0 : a0 = a1) (h1 : a1 = a2) (h2 : a3 = a4 + a5) (h3 : a5 = 1) : (a0 - a3) < (a2 - a4) := by omega
theorem oz1069 {a0 a1 a2 a3 : Int} (h0 : a0 ≤ a1) (h1 : a1 < a2) (h2 : a3 ≤ a0) (h3 : a2 = 20) (h4 : a3 = 0) : ((0 : Int) ≤ a0) ∧ (a0 ≤ 19) := by omega
theorem oz1070 {a0 a1 a2 a3 : Int} (h0 : a0 < a1) (h1 : a1 ≤ 20) (h2 : (0 : Int) ≤ a2) (h3 : a0 = a2 + a3) (h4 : a3 = 1) : ((0 : Int) ≤ a2) ∧ (a2 ≤ 19) := by omega
theorem oz1071 {a0 a1 a2 a3 : Int} (h0 : a0 < a1) (h1 : a1 ≤ 20) (h2 : (0 : Int) ≤ a2) (h3 : a0 = a2 + a3) (h4 : a3 = 1) : ((0 : Int) ≤ a0) ∧ (a0 ≤ 20) := by omega
theorem oz1072 {a0 a1 : Int} (h0 : (0 : Int) ≤ a0) (h1 : a1 = 2) : (-2147483648 : Int) ≤ a0 - a1 := by omega
theorem oz1073 {a0 a1 : Int} (h0 : a0 ≤ 20) (h1 : a1 = 2) : a0 - a1 ≤ 2147483647 := by omega
theorem oz1074 {a0 a1 : Int} (h0 : a0 < a1) (h1 : a1 ≤ a0) (h2 : a1 = 0) : False := by omega
theorem oz1075 {a0 a1 : Int} (h0 : a0 ≤ 20) (h1 : a1 ≤ (a0 - 2)) : a1 < 20 := by omega
theorem oz1076 {a0 a1 a2 : Int} (h0 : a0 ≤ 20) (h1 : a1 ≤ (a0 - 2)) (h2 : a2 = 1) : a1 + a2 ≤ 2147483647 := by omega
theorem oz1077 {a0 a1 a2 a3 : Int} (h0 : a0 ≤ 20) (h1 : a1 ≤ (a0 - 2)) (h2 : a2 = a1 + a3) (h3 : a3 = 1) : a2 < 20 := by omega
theorem oz1078 {a0 a1 : Int} (h0 : a0 ≤ 20) (h1 : a1 = 1) : a0 - a1 ≤ 2147483647 := by omega
theorem oz1079 {a0 a1 a2 : Int} (h0 : a0 ≤ a1) (h1 : a2 ≤ 20) (h2 : a1 ≤ (a2 - 2)) (h3 : a0 = 0) : ((0 : Int) ≤ a1) ∧ (a1 ≤ 19) := by omega
theorem oz1080 {a0 a1 a2 a3 : Int} (h0 : a0 ≤ a1) (h1 : a2 ≤ a1) (h2 : a3 ≤ 20) (h3 : a1 ≤ a0) (h4 : a1 ≤ (a3 - 2)) (h5 : a2 = 0) : ((0 : Int) ≤ a0) ∧ (a0 ≤ 19) := by omega
theorem oz1081 {a0 a1 a2 : Int} (h0 : a0 < a1) (h1 : a2 ≤ 20) (h2 : (1 : Int) ≤ a0) (h3 : a1 ≤ (a2 - 1)) : ((0 : Int) ≤ a0) ∧ (a0 ≤ 19) := by omega
theorem oz1082 {a0 a1 a2 : Int} (h0 : a0 < a1) (h1 : a2 ≤ 20) (h2 : (1 : Int) ≤ a0) (h3 : a1 ≤ (a2 - 1)) : ((0 : Int) ≤ a1) ∧ (a1 ≤ 19) := by omega
theorem oz1083 {a0 a1 a2 : Int} (h0 : a0 < a1) (h1 : (1 : Int) ≤ a0) (h2 : a2 = (-1)) : (-2147483648 : Int) ≤ a1 + a2 := by omega
theorem oz1084 {a0 a1 a2 : Int} (h0 : a0 ≤ 20) (h1 : a1 ≤ (a0 - 1)) (h2 : a2 = (-1)) : a1 + a2 ≤ 2147483647 := by omega
theorem oz1085 {a0 a1 a2 a3 : Int} (h0 : a0 < a1) (h1 : a2 ≤ 20) (h2 : a1 ≤ (a2 - 1)) (h3 : a3 = 1) : a0 + a3 ≤ 2147483647 := by omega
theorem oz1086 {a0 a1 a2 a3 a4 : Int} (h0 : a0 = a1) (h1 : a2 ≤ (a1 - 1)) (h2 : a3 = a2 + a4) (h3 : a4 = (-1)) : a3 ≤ (a0 - 1) := by omega
theorem oz1087 {a0 a1 a2 a3 a4 a5 : Int} (h0 : a0 = a1 + a2) (h1 : a3 = a4 + a5) (h2 : a2 = (-1)) (h3 : a5 = 1) : (a0 - a3) < (a1 - a4) := by omega
theorem oz1088 {a0 a1 a2 a3 : Int} (h0 : a0 ≤ a1) (h1 : a2 = a1 + a3) (h2 : a0 = 0) (h3 : a3 = 1) : (1 : Int) ≤ a2 := by omega
theorem oz1089 {a0 a1 a2 : Int} (h0 : a0 < a1) (h1 : a2 ≤ a0) (h2 : a2 = 0) : (0 : Int) ≤ a1 := by omega
theorem oz1090 {a0 a1 : Int} (h0 : a0 ≤ 20) (h1 : a1 ≤ (a0 - 1)) : a1 < 20 := by omega
theorem oz1091 {a0 a1 a2 a3 : Int} (h0 : a0 < a1) (h1 : a2 ≤ a0) (h2 : a3 ≤ 20) (h3 : a1 ≤ (a3 - 1)) (h4 : a2 = 0) : ((0 : Int) ≤ a1) ∧ (a1 ≤ 19) := by omega
theorem oz1092 {a0 a1 a2 a3 : Int} (h0 : a0 < a1) (h1 : a2 ≤ a0) (h2 : a2 = 0) (h3 : a3 = (-1)) : (-2147483648 : Int) ≤ a1 + a3 := by omega
theorem oz1093 {a0 a1 a2 a3 a4 : Int} (h0 : a0 < a1) (h1 : a2 ≤ a0) (h2 : a3 = a1 + a4) (h3 : a2 = 0) (h4 : a4 = (-1)) : ((0 : Int) ≤ a0) ∧ (a0 ≤ a3) := by omega
theorem oz1094 {a0 a1 a2 a3 a4 : Int} (h0 : a0 ≤ a1) (h1 : a1 ≤ (a2 - 2)) (h2 : a3 = a2 - a4) (h3 : a0 = 0) (h4 : a4 = 1) : ((0 : Int) ≤ a1) ∧ (a1 ≤ a3) := by omega
theorem oz1095 {a0 a1 a2 : Int} (h0 : a0 ≤ a1) (h1 : a0 = 0) (h2 : a2 = (-1)) : (-2147483648 : Int) ≤ a1 + a2 := by omega
theorem oz1096 {a0 a1 a2 : Int} (h0 : a0 ≤ 20) (h1 : a1 ≤ (a0 - 2)) (h2 : a2 = (-1)) : a1 + a2 ≤ 2147483647 := by omega
theorem oz1097 {a0 a1 a2 a3 : Int} (h0 : a0 ≤ (a1 - 2)) (h1 : a2 = a0 + a3) (h2 : a3 = (-1)) : a2 ≤ (a1 - 2) := by omega
theorem oz1098 {a0 a1 a2 : Int} (h0 : a0 = a1 - a2) (h1 : a2 = 2) : a0 ≤ (a1 - 2) := by omega
theorem oz1099 {a0 a1 : Int} (h0 : a0 = a1) (h1 : a1 ≤ 5) : a0 ≤ 5 := by omega
theorem oz1100 {a0 a1 a2 : Int} (h0 : a0 < a1) (h1 : a1 = 120) (h2 : a2 = 1) : a0 + a2 ≤ 2147483647 := by omega
theorem oz1101 {a0 a1 a2 : Int} (h0 : a0 = a1) (h1 : a2 = a0) (h2 : a1 ≤ 5) : a2 ≤ 5 := by omega
theorem oz1102 {a0 a1 a2 : Int} (h0 : a0 = a1 + a2) (h1 : a2 = 1) : (120 - a0) < (120 - a1) := by omega
theorem oz1103 {a0 a1 : Int} (h0 : a0 < a1) (h1 : a1 = 120) : (1 : Int) ≤ (120 - a0) := by omega
theorem oz1104 {a0 a1 : Int} (h0 : a0 ≤ 20) (h1 : a1 = 0) : a1 + a0 ≤ 20 := by omega
theorem oz1105 {a0 a1 a2 : Int} (h0 : a0 = a1) (h1 : a1 ≤ 5) (h2 : a2 = 0) : a2 + a0 ≤ 5 := by omega
theorem oz1106 {a0 a1 : Int} (h0 : a0 = a1) (h1 : a1 = 0) : a0 ≤ 5 := by omega
theorem oz1107 {a0 a1 a2 : Int} (h0 : a0 ≤ a1) (h1 : a1 = a2) (h2 : a0 = 5) (h3 : a2 = 0) : False := by omega
theorem oz1108 {a0 a1 : Int} (h0 : a0 = a1) (h1 : a1 = 0) : a0 < 20 := by omega
theorem oz1109 {a0 a1 a2 a3 : Int} (h0 : a0 = a1) (h1 : a2 = a0 + a3) (h2 : a1 = 0) (h3 : a3 = 1) : a2 ≤ 5 := by omega
theorem oz1110 {a0 : Int} (h0 : a0 = 0) : a0 ≤ 5 := by omega
theorem oz1111 {a0 a1 a2 a3 : Int} (h0 : a0 ≤ a1) (h1 : a2 = a1) (h2 : a3 = a2) (h3 : a0 = 5) : (0 : Int) ≤ a3 := by omega
theorem oz1112 {a0 : Int} (h0 : a0 ≤ 5) : a0 < 20 := by omega
theorem oz1113 {a0 a1 a2 : Int} (h0 : a0 ≤ 5) (h1 : a1 = a0 + a2) (h2 : a2 = 1) : a1 ≤ 20 := by omega
theorem oz1114 {a0 a1 a2 : Int} (h0 : a0 < a1) (h1 : a1 ≤ a2) (h2 : a2 = 5) : a0 < 5 := by omega
theorem oz1115 {a0 a1 a2 : Int} (h0 : a0 ≤ 8) (h1 : a1 = (a2 / 10)) (h2 : (0 : Int) ≤ a2) (h3 : (a2 / 10) < a0) (h4 : (a2 % 10) < a0) (h5 : (a2 / 10) ≠ (a2 % 10)) : (0 : Int) ≤ a1 ∧ a1 < 8 := by omega
theorem oz1116 {a0 a1 : Int} (h0 : a0 = (a1 % 10)) : (0 : Int) ≤ a0 := by omega
theorem oz1117 {a0 a1 a2 : Int} (h0 : a0 ≤ 8) (h1 : a1 = (a2 % 10)) (h2 : (a2 % 10) < a0) : a1 < 8 := by omega
theorem oz1118 {a0 a1 a2 : Int} (h0 : a0 ≤ 8) (h1 : a1 = (a2 / 10)) (h2 : ¬ (a1 = 1)) (h3 : ¬ (a1 = 2)) (h4 : ¬ (a1 = 3)) (h5 : ¬ (a1 = 4)) (h6 : ¬ (a1 = 5)) (h7 : ¬ (a1 = 6)) (h8 : ¬ (a1 = 7)) (h9 : ¬ (a1 = 0)) (h10 : (0 : Int) ≤ a2) (h11 : (a2 / 10) < a0) (h12 : (a2 % 10) < a0) : False := by omega
theorem oz1119 {a0 a1 : Int} (h0 : a0 < a1) (h1 : a1 ≤ 8) : a0 < 8 := by omega
theorem oz1120 {a0 a1 : Int} (h0 : a0 = 1) (h1 : a1 = 1) : (-2147483648 : Int) ≤ a0 + a1 := by omega
theorem oz1121 {a0 a1 a2 : Int} (h0 : a0 = a1 + a2) (h1 : a1 = 1) (h2 : a2 = 1) : (0 : Int) ≤ a0 := by omega
theorem oz1122 {a0 a1 : Int} (h0 : a0 = 2) (h1 : a1 = 1) : (-2147483648 : Int) ≤ a0 + a1 := by omega
theorem oz1123 {a0 a1 a2 : Int} (h0 : a0 = a1 + a2) (h1 : a1 = 2) (h2 : a2 = 1) : (0 : Int) ≤ a0 := by omega
theorem oz1124 {a0 a1 : Int} (h0 : a0 = 3) (h1 : a1 = 1) : (-2147483648 : Int) ≤ a0 + a1 := by omega
theorem oz1125 {a0 a1 a2 : Int} (h0 : a0 = a1 + a2) (h1 : a1 = 3) (h2 : a2 = 1) : (0 : Int) ≤ a0 := by omega
theorem oz1126 {a0 a1 : Int} (h0 : a0 = 4) (h1 : a1 = 1) : (-2147483648 : Int) ≤ a0 + a1 := by omega
theorem oz1127 {a0 a1 a2 : Int} (h0 : a0 = a1 + a2) (h1 : a1 = 4) (h2 : a2 = 1) : (0 : Int) ≤ a0 := by omega
theorem oz1128 {a0 a1 : Int} (h0 : a0 = 5) (h1 : a1 = 1) : (-2147483648 : Int) ≤ a0 + a1 := by omega
theorem oz1129 {a0 a1 a2 : Int} (h0 : a0 = a1 + a2) (h1 : a1 = 5) (h2 : a2 = 1) : (0 : Int) ≤ a0 := by omega
theorem oz1130 {a0 : Int} (h0 : a0 = 6) : (0 : Int) ≤ a0 := by omega
theorem oz1131 {a0 a1 : Int} (h0 : a0 = 6) (h1 : a1 = 1) : (-2147483648 : Int) ≤ a0 + a1 := by omega
theorem oz1132 {a0 a1 a2 : Int} (h0 : a0 = a1 + a2) (h1 : a1 = 6) (h2 : a2 = 1) : (0 : Int) ≤ a0 := by omega
theorem oz1133 {a0 : Int} (h0 : a0 = 7) : (0 : Int) ≤ a0 := by omega
theorem oz1134 {a0 a1 : Int} (h0 : a0 = 7) (h1 : a1 = 1) : (-2147483648 : Int) ≤ a0 + a1 := by omega
theorem oz1135 {a0 a1 a2 : Int} (h0 : a0 = a1 + a2) (h1 : a1 = 7) (h2 : a2 = 1) : (0 : Int) ≤ a0 := by omega
theorem oz1136 {a0 a1 : Int} (h0 : a0 < a1) (h1 : (0 : Int) ≤ a0) (h2 : ¬ (a0 = 6)) (h3 : ¬ (a0 = 7)) (h4 : ¬ (a0 = 0)) (h5 : ¬ (a0 = 1)) (h6 : ¬ (a0 = 2)) (h7 : ¬ (a0 = 3)) (h8 : ¬ (a0 = 4)) (h9 : ¬ (a0 = 5)) (h10 : a1 = 8) : False := by omega
theorem oz1137 {a0 : Int} (h0 : (0 : Int) ≤ a0) (h1 : a0 = 0) (h2 : ¬ (a0 = 0)) : False := by omega
theorem oz1138 {a0 a1 : Int} (h0 : a0 < a1) (h1 : a0 = 1) (h2 : a1 = 8) : (0 : Int) ≤ a0 ∧ a0 < 8 := by omega
theorem oz1139 {a0 a1 : Int} (h0 : a0 < a1) (h1 : a0 = 2) (h2 : a1 = 8) : (0 : Int) ≤ a0 ∧ a0 < 8 := by omega
theorem oz1140 {a0 a1 : Int} (h0 : a0 < a1) (h1 : a0 = 3) (h2 : a1 = 8) : (0 : Int) ≤ a0 ∧ a0 < 8 := by omega
theorem oz1141 {a0 a1 : Int} (h0 : a0 < a1) (h1 : a0 = 4) (h2 : a1 = 8) : (0 : Int) ≤ a0 ∧ a0 < 8 := by omega
theorem oz1142 {a0 a1 : Int} (h0 : a0 < a1) (h1 : a0 = 5) (h2 : a1 = 8) : (0 : Int) ≤ a0 ∧ a0 < 8 := by omega
theorem oz1143 {a0 : Int} (h0 : a0 = 5) (h1 : ¬ (a0 = 5)) : False := by omega
theorem oz1144 {a0 a1 : Int} (h0 : a0 < a1) (h1 : a0 = 6) (h2 : a1 = 8) : (0 : Int) ≤ a0 ∧ a0 < 8 := by omega
theorem oz1145 {a0 : Int} (h0 : a0 = 6) (h1 : ¬ (a0 = 6)) : False := by omega
theorem oz1146 {a0 a1 : Int} (h0 : a0 < a1) (h1 : a0 = 7) (h2 : a1 = 8) : (0 : Int) ≤ a0 ∧ a0 < 8 := by omega
theorem oz1147 {a0 a1 : Int} (h0 : a0 < a1) (h1 : a0 = 7) (h2 : ¬ (a0 = 7)) (h3 : a1 = 8) : False := by omega
theorem oz1148 {a0 a1 : Int} (h0 : a0 < a1) (h1 : (0 : Int) ≤ a0) (h2 : ¬ (a0 = 1)) (h3 : ¬ (a0 = 2)) (h4 : ¬ (a0 = 3)) (h5 : ¬ (a0 = 4)) (h6 : ¬ (a0 = 5)) (h7 : ¬ (a0 = 6)) (h8 : ¬ (a0 = 0)) (h9 : ¬ (a0 = 7)) (h10 : a1 = 8) : False := by omega
theorem oz1149 {a0 a1 : Int} (h0 : a0 = a1) (h1 : a0 = 1) : (0 : Int) ≤ a1 := by omega
theorem oz1150 {a0 a1 a2 : Int} (h0 : a0 = a1) (h1 : a0 = 1) (h2 : a2 = 1) : (-2147483648 : Int) ≤ a1 + a2 := by omega
theorem oz1151 {a0 a1 a2 a3 : Int} (h0 : a0 = a1) (h1 : a2 = a1 + a3) (h2 : a0 = 1) (h3 : a3 = 1) : (0 : Int) ≤ a2 := by omega
theorem oz1152 {a0 a1 : Int} (h0 : a0 = a1) (h1 : a0 = 2) : (0 : Int) ≤ a1 := by omega
theorem oz1153 {a0 a1 a2 : Int} (h0 : a0 = a1) (h1 : a0 = 2) (h2 : a2 = 1) : (-2147483648 : Int) ≤ a1 + a2 := by omega
theorem oz1154 {a0 a1 a2 a3 : Int} (h0 : a0 = a1) (h1 : a2 = a1 + a3) (h2 : a0 = 2) (h3 : a3 = 1) : (0 : Int) ≤ a2 := by omega
theorem oz1155 {a0 a1 : Int} (h0 : a0 = a1) (h1 : a0 = 3) : (0 : Int) ≤ a1 := by omega
theorem oz1156 {a0 a1 a2 : Int} (h0 : a0 = a1) (h1 : a0 = 3) (h2 : a2 = 1) : (-2147483648 : Int) ≤ a1 + a2 := by omega
theorem oz1157 {a0 a1 a2 a3 : Int} (h0 : a0 = a1) (h1 : a2 = a1 + a3) (h2 : a0 = 3) (h3 : a3 = 1) : (0 : Int) ≤ a2 := by omega
theorem oz1158 {a0 a1 : Int} (h0 : a0 = a1) (h1 : a0 = 4) : (0 : Int) ≤ a1 := by omega
theorem oz1159 {a0 a1 a2 : Int} (h0 : a0 = a1) (h1 : a0 = 4) (h2 : a2 = 1) : (-2147483648 : Int) ≤ a1 + a2 := by omega
theorem oz1160 {a0 a1 a2 a3 : Int} (h0 : a0 = a1) (h1 : a2 = a1 + a3) (h2 : a0 = 4) (h3 : a3 = 1) : (0 : Int) ≤ a2 := by omega
theorem oz1161 {a0 a1 : Int} (h0 : a0 = a1) (h1 : a0 = 5) : (0 : Int) ≤ a1 := by omega
theorem oz1162 {a0 a1 a2 : Int} (h0 : a0 = a1) (h1 : a0 = 5) (h2 : a2 = 1) : (-2147483648 : Int) ≤ a1 + a2 := by omega
theorem oz1163 {a0 a1 a2 a3 : Int} (h0 : a0 = a1) (h1 : a2 = a1 + a3) (h2 : a0 = 5) (h3 : a3 = 1) : (0 : Int) ≤ a2 := by omega
theorem oz1164 {a0 a1 : Int} (h0 : a0 = a1) (h1 : a0 = 6) : (0 : Int) ≤ a1 := by omega
theorem oz1165 {a0 a1 a2 : Int} (h0 : a0 = a1) (h1 : a0 = 6) (h2 : a2 = 1) : (-2147483648 : Int) ≤ a1 + a2 := by omega
theorem oz1166 {a0 a1 a2 a3 : Int} (h0 : a0 = a1) (h1 : a2 = a1 + a3) (h2 : a0 = 6) (h3 : a3 = 1) : (0 : Int) ≤ a2 := by omega
theorem oz1167 {a0 a1 : Int} (h0 : a0 = a1) (h1 : a0 = 7) : (0 : Int) ≤ a1 := by omega
theorem oz1168 {a0 a1 a2 : Int} (h0 : a0 = a1) (h1 : a0 = 7) (h2 : a2 = 1) : (-2147483648 : Int) ≤ a1 + a2 := by omega
theorem oz1169 {a0 a1 a2 a3 : Int} (h0 : a0 = a1) (h1 : a2 = a1 + a3) (h2 : a0 = 7) (h3 : a3 = 1) : (0 : Int) ≤ a2 := by omega
theorem oz1170 {a0 a1 : Int} (h0 : a0 ≠ a1) (h1 : a1 ≤ a0) (h2 : (a0 < 0) ∨ (a0 = 0)) (h3 : a1 = 0) : False := by omega
theorem oz1171 {a0 a1 : Int} (h0 : a0 = (a1 % 10)) (h1 : (a1 % 10) ≤ 5) : (0 : Int) ≤ a0 ∧ a0 < 6 := by omega
theorem oz1172 {a0 a1 : Int} (h0 : a0 = (a1 % 10)) (h1 : ¬ (a0 = 0)) (h2 : ¬ (a0 = 1)) (h3 : ¬ (a0 = 2)) (h4 : ¬ (a0 = 3)) (h5 : ¬ (a0 = 4)) (h6 : ¬ (a0 = 5)) (h7 : (a1 % 10) ≤ 5) : False := by omega
theorem oz1173 {a0 a1 a2 a3 : Int} (h0 : a0 ≠ a1) (h1 : a0 ≠ a2) (h2 : a0 < a3) (h3 : a2 ≤ a0) (h4 : a1 = 1) (h5 : a2 = 0) (h6 : a3 = 2) : False := by omega
theorem oz1174 {a0 a1 : Int} (h0 : a0 = a1) (h1 : a1 = 1) : ¬ (a0 = 0) := by omega
theorem oz1175 {a0 a1 a2 a3 a4 a5 : Int} (h0 : a0 = a1) (h1 : a2 = a0) (h2 : a3 = a4 + a5) (h3 : a5 = 1) : (a2 - a3) < (a1 - a4) := by omega
theorem oz1176 {a0 a1 a2 : Int} (h0 : a0 < a1) (h1 : a2 ≤ a0) (h2 : a1 ≤ 20) (h3 : a2 = 0) : ((0 : Int) ≤ a0) ∧ (a0 ≤ 19) := by omega
theorem oz1177 {a0 a1 a2 : Int} (h0 : a0 = a1) (h1 : a0 < a2) (h2 : ¬ (a0 = 1)) (h3 : a1 = 1) (h4 : a2 = 2) : ¬ (a0 = 2) := by omega
theorem oz1178 {a0 a1 a2 : Int} (h0 : a0 = a1) (h1 : a0 < a2) (h2 : ¬ (a0 = 1)) (h3 : a1 = 1) (h4 : a2 = 2) : False := by omega
theorem oz1179 {a0 a1 : Int} (h0 : a0 ≤ a1) (h1 : a0 = 2) : ¬ (a1 = 0) := by omega
theorem oz1180 {a0 a1 : Int} (h0 : a0 ≤ a1) (h1 : a0 = 2) : ¬ (a1 = 1) := by omega
theorem oz1181 {a0 : Int} (h0 : a0 = 1) : a0 < 7 := by omega
theorem oz1182 {a0 a1 a2 : Int} (h0 : a0 ≤ a1) (h1 : a1 ≤ 999) (h2 : a2 = 1) : a0 + a2 ≤ 2147483647 := by omega
theorem oz1183 {a0 a1 a2 : Int} (h0 : a0 = a1 + a2) (h1 : a2 = 1) : (1001 - a0) < (1001 - a1) := by omega
theorem oz1184 {a0 a1 : Int} (h0 : a0 ≤ a1) (h1 : a1 ≤ 999) : (1 : Int) ≤ (1001 - a0) := by omega
theorem oz1185 {a0 a1 a2 : Int} (h0 : a0 < a1) (h1 : a1 = 32) (h2 : a2 = 1) : a0 + a2 ≤ 2147483647 := by omega
theorem oz1186 {a0 a1 a2 : Int} (h0 : a0 = a1 + a2) (h1 : a2 = 1) : (32 - a0) < (32 - a1) := by omega
theorem oz1187 {a0 a1 : Int} (h0 : a0 < a1) (h1 : a1 = 32) : (1 : Int) ≤ (32 - a0) := by omega
theorem oz1188 {a0 a1 : Int} (h0 : a0 = (a1 % 10)) (h1 : ¬ (a0 = 4)) (h2 : ¬ (a0 = 5)) (h3 : ¬ (a0 = 0)) (h4 : ¬ (a0 = 1)) (h5 : ¬ (a0 = 2)) (h6 : ¬ (a0 = 3)) (h7 : (a1 % 10) ≤ 5) : False := by omega
theorem oz1189 {a0 a1 a2 : Int} (h0 : a0 = a1) (h1 : a2 ≤ a0) (h2 : a1 = 1) (h3 : a2 = 2) : False := by omega
theorem oz1190 {a0 a1 a2 : Int} (h0 : a0 ≤ a1) (h1 : a1 = 5) (h2 : a2 = 1) : a0 + a2 ≤ 2147483647 := by omega
theorem oz1191 {a0 a1 : Int} (h0 : a0 ≤ a1) (h1 : a1 = 5) : (1 : Int) ≤ (6 - a0) := by omega
theorem oz1192 {a0 a1 : Int} (h0 : a0 ≤ a1) (h1 : a1 = 5) : a0 ≤ 8 := by omega
theorem oz1193 {a0 a1 : Int} (h0 : a0 ≤ a1) (h1 : a1 = 5) : a0 ≤ 5 := by omega
theorem oz1194 {a0 a1 : Int} (h0 : a0 = a1) (h1 : ¬ (a0 = 0)) (h2 : a1 ≤ a0) (h3 : a1 = 0) : ¬ (a0 = 1) := by omega
theorem oz1195 {a0 a1 : Int} (h0 : a0 = a1) (h1 : ¬ (a0 = 0)) (h2 : a1 ≤ a0) (h3 : a1 = 0) : ¬ (a0 = 2) := by omega
theorem oz1196 {a0 a1 : Int} (h0 : a0 = a1) (h1 : ¬ (a0 = 0)) (h2 : a1 ≤ a0) (h3 : a1 = 0) : False := by omega
theorem oz1197 {a0 a1 a2 : Int} (h0 : a0 = a1) (h1 : a2 ≤ a0) (h2 : a1 = 0) (h3 : a2 = 2) : False := by omega
theorem oz1198 {a0 : Int} (h0 : a0 ≤ 5) : a0 ≤ 8 := by omega
theorem oz1199 {a0 a1 : Int} (h0 : a0 < a1) (h1 : a0 = 0) : (0 : Int) ≤ a1 := by omega
theorem oz1200 {a0 : Int} (h0 : a0 ≤ 4) : a0 ≤ 8 := by omega
theorem oz1201 {a0 : Int} (h0 : a0 ≤ 4) : a0 ≤ 4 := by omega
theorem oz1202 {a0 a1 a2 : Int} (h0 : a0 < a1) (h1 : a0 = 0) (h2 : a2 = (-1)) : (-2147483648 : Int) ≤ a1 + a2 := by omega
theorem oz1203 {a0 a1 : Int} (h0 : a0 ≤ 4) (h1 : a1 = (-1)) : a0 + a1 ≤ 2147483647 := by omega
theorem oz1204 {a0 a1 a2 : Int} (h0 : a0 ≤ 4) (h1 : a1 = a0 + a2) (h2 : a2 = (-1)) : a1 ≤ 4 := by omega
theorem oz1205 {a0 a1 a2 : Int} (h0 : a0 = a1 + a2) (h1 : a2 = (-1)) : a0 < a1 := by omega
theorem oz1206 {a0 : Int} (h0 : (0 : Int) ≤ a0) : (-2147483648 : Int) ≤ 2 * a0 := by omega
theorem oz1207 {a0 a1 : Int} (h0 : a0 < a1) (h1 : a1 ≤ 256) : 2 * a0 ≤ 2147483647 := by omega
theorem oz1208 {a0 a1 : Int} (h0 : (0 : Int) ≤ a0) (h1 : a1 = 2 * a0) : (0 : Int) ≤ a1 := by omega
theorem oz1209 {a0 a1 a2 : Int} (h0 : a0 < a1) (h1 : a1 ≤ 16) (h2 : a2 = 2 * a0) : a2 < 32 := by omega
theorem oz1210 {a0 a1 a2 : Int} (h0 : (0 : Int) ≤ a0) (h1 : a1 = 2 * a0) (h2 : a2 = 1) : (-2147483648 : Int) ≤ a1 + a2 := by omega
theorem oz1211 {a0 a1 a2 a3 : Int} (h0 : a0 < a1) (h1 : a1 ≤ 256) (h2 : a2 = 2 * a0) (h3 : a3 = 1) : a2 + a3 ≤ 2147483647 := by omega
theorem oz1212 {a0 a1 a2 a3 : Int} (h0 : (0 : Int) ≤ a0) (h1 : a1 = 2 * a0) (h2 : a2 = a1 + a3) (h3 : a3 = 1) : (0 : Int) ≤ a2 := by omega
theorem oz1213 {a0 a1 a2 a3 a4 : Int} (h0 : a0 < a1) (h1 : a1 ≤ 16) (h2 : a2 = 2 * a0) (h3 : a3 = a2 + a4) (h4 : a4 = 1) : a3 < 32 := by omega
theorem oz1214 {a0 a1 : Int} (h0 : a0 < a1) (h1 : a1 ≤ 16) : a0 < 32 := by omega
theorem oz1215 {a0 a1 a2 : Int} (h0 : a0 < a1) (h1 : a1 ≤ 256) (h2 : a2 = 1) : a0 + a2 ≤ 2147483647 := by omega
theorem oz1216 {a0 a1 : Int} (h0 : a0 < a1) (h1 : a1 ≤ 4) (h2 : a0 = 0) : ((1 : Int) ≤ a1) ∧ (a1 ≤ 4) := by omega
theorem oz1217 {a0 a1 a2 : Int} (h0 : a0 = a1 + a2) (h1 : a2 = 1) : (16 - a0) < (16 - a1) := by omega
theorem oz1218 {a0 a1 : Int} (h0 : a0 < a1) (h1 : a1 ≤ 16) : (1 : Int) ≤ (16 - a0) := by omega
theorem oz1219 {a0 a1 a2 : Int} (h0 : a0 ≤ 5) (h1 : a1 = a0 - a2) (h2 : a2 = 1) : a1 ≤ 4 := by omega
theorem oz1220 {a0 : Int} (h0 : a0 ≤ 31) : a0 < 32 := by omega
theorem oz1221 {a0 a1 : Int} (h0 : a0 ≤ 31) (h1 : a1 = 1) : a0 + a1 ≤ 2147483647 := by omega
theorem oz1222 {a0 : Int} (h0 : a0 ≤ 31) : (1 : Int) ≤ (32 - a0) := by omega
theorem oz1223 {a0 a1 a2 a3 : Int} (h0 : a0 < a1) (h1 : a2 = a1 - a3) (h2 : a3 = 1) : (-2147483648 : Int) ≤ a2 - a0 := by omega
theorem oz1224 {a0 a1 a2 a3 : Int} (h0 : a0 ≤ 5) (h1 : (0 : Int) ≤ a1) (h2 : a2 = a0 - a3) (h3 : a3 = 1) : a2 - a1 ≤ 2147483647 := by omega
theorem oz1225 {a0 : Int} (h0 : (0 : Int) ≤ a0) (h1 : a0 ≤ 31) : ((0 : Int) ≤ a0) ∧ (a0 ≤ 31) := by omega
theorem oz1226 {a0 a1 : Int} (h0 : a0 < a1) (h1 : (0 : Int) ≤ a0) (h2 : a1 ≤ 32) : ((0 : Int) ≤ a0) ∧ (a0 ≤ 31) := by omega
theorem oz1227 {a0 a1 a2 : Int} (h0 : a0 ≤ a1) (h1 : a1 ≤ a2) (h2 : a0 = 1) (h3 : a2 = 5) : ((1 : Int) ≤ a1) ∧ (a1 ≤ 5) := by omega
theorem oz1228 {a0 : Int} (h0 : a0 = 0) : a0 < 32 := by omega
theorem oz1229 {a0 : Int} (h0 : a0 = 1) : a0 < 32 := by omega
theorem oz1230 {a0 a1 : Int} (h0 : a0 < a1) (h1 : a0 = 0) : a1 ≠ 0 := by omega
theorem oz1231 {a0 a1 a2 : Int} (h0 : a0 < a1) (h1 : a1 ≤ 99) (h2 : a2 = 1) : a0 + a2 ≤ 2147483647 := by omega
theorem oz1232 {a0 a1 : Int} (h0 : a0 ≤ a1) (h1 : a1 = 60) : a0 ≤ 99 := by omega
theorem oz1233 {a0 a1 a2 : Int} (h0 : a0 ≤ 40) (h1 : a1 = a0 - a2) (h2 : a2 = 1) : a1 < 40 := by omega
theorem oz1234 {a0 a1 : Int} (h0 : a0 < a1) (h1 : a1 ≤ 40) : a0 < 40 := by omega
theorem oz1235 {a0 a1 a2 a3 a4 : Int} (h0 : a0 < a1) (h1 : a2 = a0) (h2 : a1 ≤ 40) (h3 : a3 = a2 + a4) (h4 : a4 = 1) : a3 ≤ 40 := by omega
theorem oz1236 {a0 a1 : Int} (h0 : a0 < a1) (h1 : a1 = 50) : a0 < 50 := by omega
theorem oz1237 {a0 a1 a2 a3 : Int} (h0 : a0 < a1) (h1 : a2 = a0 + a3) (h2 : a1 = 50) (h3 : a3 = 1) : a2 ≤ 50 := by omega
theorem oz1238 {a0 a1 a2 : Int} (h0 : a0 ≤ 50) (h1 : a1 = a0 + a2) (h2 : a2 = 1) : a1 - a2 ≤ 2147483647 := by omega
theorem oz1239 {a0 a1 a2 : Int} (h0 : a0 ≤ a1) (h1 : a1 ≤ a2) (h2 : a0 = 0) (h3 : a2 = 7) : ((0 : Int) ≤ a1) ∧ (a1 ≤ 7) := by omega
theorem oz1240 {a0 a1 a2 a3 : Int} (h0 : (0 : Int) ≤ a0) (h1 : a1 = a0 ∨ a1 = a2) (h2 : a2 = 24) (h3 : a3 = 1) : (-2147483648 : Int) ≤ a1 - a3 := by omega
theorem oz1241 {a0 : Int} (h0 : a0 = 1) : a0 ≤ 2 := by omega
theorem oz1242 {a0 : Int} (h0 : a0 = 0) : a0 ≤ 2 := by omega
theorem oz1243 {a0 : Int} (h0 : ¬ (a0 = 3)) (h1 : ¬ (a0 = 4)) (h2 : ¬ (a0 = 5)) (h3 : ¬ (a0 = 0)) (h4 : ¬ (a0 = 1)) (h5 : ¬ (a0 = 2)) (h6 : (0 : Int) ≤ a0) (h7 : a0 ≤ 5) : False := by omega
theorem oz1244 {a0 a1 a2 : Int} (h0 : a0 < a1) (h1 : a2 ≤ a0) (h2 : a1 ≤ 50) (h3 : a2 = 50) : False := by omega
theorem oz1245 {a0 : Int} (h0 : ¬ (a0 = 0)) (h1 : ¬ (a0 = 1)) (h2 : ¬ (a0 = 2)) (h3 : ¬ (a0 = 3)) (h4 : ¬ (a0 = 4)) (h5 : ¬ (a0 = 5)) (h6 : (0 : Int) ≤ a0) (h7 : a0 ≤ 5) : False := by omega
theorem oz1246 {a0 : Int} (h0 : a0 = 2) : a0 ≤ 2 := by omega
theorem oz1247 {a0 a1 a2 a3 : Int} (h0 : a0 ≤ a1) (h1 : a2 = a3 ∨ a2 = a0) (h2 : a1 = 60) (h3 : a3 = 0) : a2 ≤ 60 := by omega
theorem oz1248 {a0 : Int} (h0 : ¬ (a0 = 2)) (h1 : ¬ (a0 = 3)) (h2 : ¬ (a0 = 4)) (h3 : ¬ (a0 = 5)) (h4 : ¬ (a0 = 0)) (h5 : ¬ (a0 = 1)) (h6 : (0 : Int) ≤ a0) (h7 : a0 ≤ 5) : False := by omega
theorem oz1249 {a0 a1 a2 a3 a4 a5 : Int} (h0 : a0 ≤ 60) (h1 : a1 = a0 - a2) (h2 : (0 : Int) ≤ a3) (h3 : a3 ≤ 5) (h4 : a4 ≤ a5) (h5 : a5 ≤ a1) (h6 : a2 = 1) (h7 : a4 = 0) : (a4 < 0) ∨ ((a4 = 0) ∧ ((0 : Int) ≤ a3) ∧ (a3 ≤ 5) ∧ ((0 : Int) ≤ a5) ∧ (a5 ≤ 59)) := by omega
theorem oz1250 {a0 a1 a2 : Int} (h0 : a0 = (-13)) : (a0 < 0) ∨ ((a0 = 0) ∧ ((0 : Int) ≤ a1) ∧ (a1 ≤ 5) ∧ ((0 : Int) ≤ a2) ∧ (a2 ≤ 59)) := by omega
theorem oz1251 {a0 a1 a2 : Int} (h0 : a0 = (-12)) : (a0 < 0) ∨ ((a0 = 0) ∧ ((0 : Int) ≤ a1) ∧ (a1 ≤ 5) ∧ ((0 : Int) ≤ a2) ∧ (a2 ≤ 59)) := by omega
theorem oz1252 {a0 a1 a2 : Int} (h0 : a0 = (-11)) : (a0 < 0) ∨ ((a0 = 0) ∧ ((0 : Int) ≤ a1) ∧ (a1 ≤ 5) ∧ ((0 : Int) ≤ a2) ∧ (a2 ≤ 59)) := by omega
theorem oz1253 {a0 a1 a2 a3 a4 a5 : Int} (h0 : a0 ≤ 60) (h1 : a1 = a0 - a2) (h2 : a3 = 1) (h3 : a4 ≤ a5) (h4 : a5 ≤ a1) (h5 : a3 ≤ 5) (h6 : a2 = 1) (h7 : a4 = 0) : (a4 < 0) ∨ ((a4 = 0) ∧ ((0 : Int) ≤ a3) ∧ (a3 ≤ 5) ∧ ((0 : Int) ≤ a5) ∧ (a5 ≤ 59)) := by omega
theorem oz1254 {a0 a1 a2 a3 a4 a5 : Int} (h0 : a0 ≤ 60) (h1 : a1 = a0 - a2) (h2 : a3 = 2) (h3 : a3 ≤ 5) (h4 : a4 ≤ a5) (h5 : a5 ≤ a1) (h6 : a2 = 1) (h7 : a4 = 0) : (a4 < 0) ∨ ((a4 = 0) ∧ ((0 : Int) ≤ a3) ∧ (a3 ≤ 5) ∧ ((0 : Int) ≤ a5) ∧ (a5 ≤ 59)) := by omega
theorem oz1255 {a0 a1 a2 a3 a4 a5 : Int} (h0 : a0 ≤ 60) (h1 : a1 = a0 - a2) (h2 : a3 = 3) (h3 : a3 ≤ 5) (h4 : a4 ≤ a5) (h5 : a5 ≤ a1) (h6 : a2 = 1) (h7 : a4 = 0) : (a4 < 0) ∨ ((a4 = 0) ∧ ((0 : Int) ≤ a3) ∧ (a3 ≤ 5) ∧ ((0 : Int) ≤ a5) ∧ (a5 ≤ 59)) := by omega
theorem oz1256 {a0 a1 a2 a3 a4 a5 : Int} (h0 : a0 ≤ 60) (h1 : a1 = a0 - a2) (h2 : a3 = 4) (h3 : a3 ≤ 5) (h4 : a4 ≤ a5) (h5 : a5 ≤ a1) (h6 : a2 = 1) (h7 : a4 = 0) : (a4 < 0) ∨ ((a4 = 0) ∧ ((0 : Int) ≤ a3) ∧ (a3 ≤ 5) ∧ ((0 : Int) ≤ a5) ∧ (a5 ≤ 59)) := by omega
theorem oz1257 {a0 a1 a2 a3 a4 a5 : Int} (h0 : a0 ≤ 60) (h1 : a1 = a0 - a2) (h2 : a3 = 5) (h3 : a3 ≤ 5) (h4 : a4 ≤ a5) (h5 : a5 ≤ a1) (h6 : a2 = 1) (h7 : a4 = 0) : (a4 < 0) ∨ ((a4 = 0) ∧ ((0 : Int) ≤ a3) ∧ (a3 ≤ 5) ∧ ((0 : Int) ≤ a5) ∧ (a5 ≤ 59)) := by omega
theorem oz1258 {a0 a1 a2 : Int} (h0 : a0 = (-1)) : (a0 < 0) ∨ ((a0 = 0) ∧ ((0 : Int) ≤ a1) ∧ (a1 ≤ 5) ∧ ((0 : Int) ≤ a2) ∧ (a2 ≤ 59)) := by omega
theorem oz1259 {a0 a1 a2 a3 : Int} (h0 : a0 ≤ a1) (h1 : (a1 < 0) ∨ ((a1 = 0) ∧ ((0 : Int) ≤ a2) ∧ (a2 ≤ 5) ∧ ((0 : Int) ≤ a3) ∧ (a3 ≤ 59))) (h2 : a0 = 0) : (0 : Int) ≤ a2 ∧ a2 < 6 := by omega
theorem oz1260 {a0 : Int} (h0 : a0 = 0) : (0 : Int) ≤ a0 ∧ a0 < 6 := by omega
theorem oz1261 {a0 a1 a2 a3 : Int} (h0 : a0 ≤ a1) (h1 : (a1 < 0) ∨ ((a1 = 0) ∧ ((0 : Int) ≤ a2) ∧ (a2 ≤ 5) ∧ ((0 : Int) ≤ a3) ∧ (a3 ≤ 59))) (h2 : a0 = 0) : (0 : Int) ≤ a3 := by omega
theorem oz1262 {a0 a1 a2 a3 : Int} (h0 : a0 ≤ a1) (h1 : (a1 < 0) ∨ ((a1 = 0) ∧ ((0 : Int) ≤ a2) ∧ (a2 ≤ 5) ∧ ((0 : Int) ≤ a3) ∧ (a3 ≤ 59))) (h2 : a0 = 0) : a3 < 60 := by omega
theorem oz1263 {a0 : Int} (h0 : a0 = 0) (h1 : ¬ (a0 = 0)) : False := by omega
theorem oz1264 {a0 : Int} (h0 : a0 = 1) : (0 : Int) ≤ a0 ∧ a0 < 6 := by omega
theorem oz1265 {a0 : Int} (h0 : a0 = 2) : (0 : Int) ≤ a0 ∧ a0 < 6 := by omega
theorem oz1266 {a0 : Int} (h0 : a0 = 3) : (0 : Int) ≤ a0 ∧ a0 < 6 := by omega
theorem oz1267 {a0 : Int} (h0 : a0 = 4) : (0 : Int) ≤ a0 ∧ a0 < 6 := by omega
theorem oz1268 {a0 : Int} (h0 : a0 = 5) : (0 : Int) ≤ a0 ∧ a0 < 6 := by omega
theorem oz1269 {a0 a1 a2 a3 : Int} (h0 : a0 ≤ a1) (h1 : ¬ (a2 = 1)) (h2 : ¬ (a2 = 2)) (h3 : ¬ (a2 = 3)) (h4 : ¬ (a2 = 0)) (h5 : ¬ (a2 = 4)) (h6 : ¬ (a2 = 5)) (h7 : (a1 < 0) ∨ ((a1 = 0) ∧ ((0 : Int) ≤ a2) ∧ (a2 ≤ 5) ∧ ((0 : Int) ≤ a3) ∧ (a3 ≤ 59))) (h8 : a0 = 0) : False := by omega
theorem oz1270 {a0 a1 a2 a3 : Int} (h0 : a0 ≤ a1) (h1 : ¬ (a2 = 0)) (h2 : ¬ (a2 = 1)) (h3 : ¬ (a2 = 2)) (h4 : ¬ (a2 = 3)) (h5 : ¬ (a2 = 4)) (h6 : ¬ (a2 = 5)) (h7 : (a1 < 0) ∨ ((a1 = 0) ∧ ((0 : Int) ≤ a2) ∧ (a2 ≤ 5) ∧ ((0 : Int) ≤ a3) ∧ (a3 ≤ 59))) (h8 : a0 = 0) : False := by omega
theorem oz1271 {a0 a1 : Int} (h0 : a0 = a1) (h1 : a0 ≠ a1) (h2 : a0 ≤ 2) (h3 : a1 = 2) : False := by omega
theorem oz1272 {a0 a1 a2 a3 : Int} (h0 : a0 < a1) (h1 : a1 = 0) : ¬ (((0 : Int) ≤ a0) ∧ (a0 ≤ a2) ∧ ((0 : Int) ≤ a3) ∧ ((a3 + a0) ≤ a2)) := by omega
theorem oz1273 {a0 a1 a2 : Int} (h0 : a0 < a1) : ¬ (((0 : Int) ≤ a1) ∧ (a1 ≤ a0) ∧ ((0 : Int) ≤ a2) ∧ ((a2 + a1) ≤ a0)) := by omega
theorem oz1274 {a0 a1 a2 a3 : Int} (h0 : a0 < a1) (h1 : a1 = 0) : ¬ (((0 : Int) ≤ a2) ∧ (a2 ≤ a3) ∧ ((0 : Int) ≤ a0) ∧ ((a0 + a2) ≤ a3)) := by omega
theorem oz1275 {a0 a1 a2 : Int} (h0 : a0 ≤ a1) (h1 : a2 ≤ 60) (h2 : a0 = 0) : a2 - a1 ≤ 2147483647 := by omega
theorem oz1276 {a0 a1 a2 a3 : Int} (h0 : a0 < a1) (h1 : a0 = a2 - a3) : ¬ (((0 : Int) ≤ a3) ∧ (a3 ≤ a2) ∧ ((0 : Int) ≤ a1) ∧ ((a1 + a3) ≤ a2)) := by omega
theorem oz1277 {a0 a1 a2 a3 a4 : Int} (h0 : a0 ≤ a1) (h1 : a1 ≤ a2) (h2 : a0 ≤ a3) (h3 : a3 ≤ a4) (h4 : a4 = a2 - a1) (h5 : a0 = 0) : ((0 : Int) ≤ a1) ∧ (a1 ≤ a2) ∧ ((0 : Int) ≤ a3) ∧ ((a3 + a1) ≤ a2) := by omega
theorem oz1278 {a0 a1 a2 : Int} (h0 : a0 ≤ 60) (h1 : (a1 + a2) ≤ a0) : a1 + a2 ≤ 60 := by omega
theorem oz1279 {a0 : Int} (h0 : a0 ≠ a0) : False := by omega
theorem oz1280 {a0 a1 : Int} (h0 : a0 = a1) (h1 : a0 ≠ a1) (h2 : (0 : Int) ≤ a0) (h3 : a1 = 0) : False := by omega
theorem oz1281 {a0 a1 : Int} (h0 : a0 ≠ a1) (h1 : a0 = a1) (h2 : (0 : Int) ≤ a0) (h3 : a1 = 0) : False := by omega
theorem oz1282 {a0 : Int} (h0 : ¬ (a0 = 1)) (h1 : ¬ (a0 = 2)) (h2 : ¬ (a0 = 3)) (h3 : ¬ (a0 = 4)) (h4 : ¬ (a0 = 0)) (h5 : ¬ (a0 = 5)) (h6 : (0 : Int) ≤ a0) (h7 : a0 ≤ 5) : False := by omega
theorem oz1283 {a0 a1 : Int} (h0 : a0 ≤ 50) (h1 : a1 < a0) : a1 < 50 := by omega
theorem oz1284 {a0 a1 : Int} (h0 : a0 ≤ 120) (h1 : (2 * a1) ≤ a0) : a1 < 61 := by omega
theorem oz1285 {a0 a1 a2 : Int} (h0 : a0 = a1) (h1 : a2 ≤ 120) (h2 : (2 * a1) ≤ a2) : a0 < 61 := by omega
theorem oz1286 {a0 : Int} (h0 : a0 = 63) : (0 : Int) ≤ a0 := by omega
theorem oz1287 {a0 a1 a2 a3 : Int} (h0 : a0 = a1) (h1 : a2 = a0) (h2 : a3 ≤ 120) (h3 : (2 * a1) ≤ a3) : a2 < 61 := by omega
theorem oz1288 {a0 a1 : Int} (h0 : a0 ≤ 61) (h1 : a1 = 1) : a0 + a1 ≤ 2147483647 := by omega
theorem oz1289 {a0 a1 a2 a3 a4 a5 a6 : Int} (h0 : a0 = a1) (h1 : a2 = a0) (h2 : a3 = a2) (h3 : a4 ≤ 120) (h4 : (2 * a1) ≤ a4) (h5 : a5 = a3 + a6) (h6 : a6 = 1) : a5 ≤ 61 := by omega
theorem oz1290 {a0 a1 a2 a3 a4 : Int} (h0 : a0 = a1) (h1 : a2 = a0) (h2 : a3 = a2) (h3 : a4 ≤ 120) (h4 : (2 * a1) ≤ a4) : a3 < 61 := by omega
theorem oz1291 {a0 a1 a2 a3 a4 a5 a6 a7 a8 a9 a10 a11 a12 a13 a14 a15 a16 a17 a18 : Int} (h0 : a0 = a1) (h1 : a2 = a3) (h2 : a4 = a5) (h3 : a6 = a0) (h4 : a7 = a6) (h5 : a8 = 0) (h6 : a9 ≤ a10) (h7 : (2 * a1) ≤ a10) (h8 : a11 = a7 + a12) (h9 : a3 = a8) (h10 : (a5 - a13) ≤ (a9 - a10)) (h11 : (a10 + 1) ≤ a13) (h12 : a14 = (a13 + 1)) (h13 : a15 = a2) (h14 : a16 ≤ a17) (h15 : (a18 - a16) ≤ (a4 - a14)) (h16 : (a14 + 1) ≤ a16) (h17 : a12 = 1) : (a15 = 0) ∧ (a18 ≤ a16) ∧ (a16 ≤ a17) ∧ ((2 * a11) ≤ (a16 + 1)) ∧ (a11 = (a1 + 1)) ∧ (a10 ≤ a16) := by omega
theorem oz1292 {a0 a1 a2 a3 a4 a5 : Int} (h0 : a0 = a1) (h1 : a2 = a0) (h2 : a3 = a2) (h3 : a4 = a3 + a5) (h4 : a5 = 1) : a4 = a1 + 1 := by omega
theorem oz1293 {a0 : Int} (h0 : a0 ≤ 200) : a0 ≤ 200 := by omega
theorem oz1294 {a0 a1 a2 a3 a4 a5 : Int} (h0 : a0 = a1) (h1 : a2 = a0) (h2 : a3 ≤ 120) (h3 : (2 * a1) ≤ a3) (h4 : a4 = a2 + a5) (h5 : a5 = 1) : a4 ≤ 61 := by omega
theorem oz1295 {a0 a1 a2 a3 a4 a5 a6 a7 a8 a9 a10 a11 a12 a13 a14 a15 : Int} (h0 : a0 = a1) (h1 : a2 = a3) (h2 : a4 = a5) (h3 : a6 = a7) (h4 : a8 = a0) (h5 : a9 = 0) (h6 : a10 ≤ a11) (h7 : (2 * a1) ≤ a11) (h8 : a12 = a8 + a13) (h9 : a14 = a15) (h10 : a5 = a9) (h11 : a15 ≤ a3) (h12 : (a7 - a15) ≤ (a10 - a11)) (h13 : (a11 + 1) ≤ a15) (h14 : a13 = 1) : (a4 = 0) ∧ (a6 ≤ a14) ∧ (a14 ≤ a2) ∧ ((2 * a12) ≤ (a14 + 1)) ∧ (a12 = (a1 + 1)) ∧ (a11 ≤ a14) := by omega
theorem oz1296 {a0 a1 a2 a3 a4 : Int} (h0 : a0 = a1) (h1 : a2 = a0) (h2 : a3 = a2 + a4) (h3 : a4 = 1) : a3 = a1 + 1 := by omega
theorem oz1297 {a0 : Int} (h0 : a0 = 0) : a0 ≤ 120 := by omega
theorem oz1298 {a0 : Int} (h0 : a0 = 0) : a0 ≤ 200 := by omega
theorem oz1299 {a0 : Int} (h0 : a0 = 0) : a0 ≤ 61 := by omega
theorem oz1300 {a0 a1 : Int} (h0 : (0 : Int) ≤ a0) (h1 : a1 = 0) : (a1 = 0) ∧ (a1 ≤ a1) ∧ (a1 ≤ a0) := by omega
theorem oz1301 {a0 : Int} (h0 : a0 = 0) : (2 * a0) ≤ a0 := by omega
theorem oz1302 {a0 a1 : Int} (h0 : a0 ≤ 120) (h1 : a1 = (-100)) : (-2147483648 : Int) ≤ a1 - a0 := by omega
theorem oz1303 {a0 a1 a2 a3 a4 : Int} (h0 : a0 = a1) (h1 : (2 * a2) ≤ (a1 + 1)) (h2 : a2 = (a3 + 1)) (h3 : a3 = 0) (h4 : a4 = (-100)) : a4 - a0 ≤ 2147483647 := by omega
theorem oz1304 {a0 : Int} (h0 : a0 = 59) : (0 : Int) ≤ a0 := by omega
theorem oz1305 {a0 a1 a2 a3 a4 a5 a6 a7 a8 a9 : Int} (h0 : a0 = a1) (h1 : a2 = a3) (h2 : a4 = a5) (h3 : a6 = a2) (h4 : a7 = a4) (h5 : a8 = (a0 + 1)) (h6 : a8 ≤ a9) (h7 : a3 = 0) (h8 : a5 ≤ a1) : (a6 = 0) ∧ (a7 ≤ a8) ∧ (a8 ≤ a9) := by omega
theorem oz1306 {a0 a1 a2 a3 a4 a5 : Int} (h0 : a0 = a1) (h1 : a2 = a3) (h2 : a4 = a2) (h3 : a5 = (a0 + 1)) (h4 : (2 * a3) ≤ (a1 + 1)) : (2 * a4) ≤ a5 := by omega
theorem oz1307 {a0 a1 : Int} (h0 : a0 ≠ a1) (h1 : (0 : Int) ≤ a0) (h2 : a0 ≤ 1) (h3 : a1 = 0) : a0 = 1 := by omega
theorem oz1308 {a0 : Int} (h0 : a0 = 1) : ((0 : Int) ≤ a0) ∧ (a0 ≤ 1) := by omega
theorem oz1309 {a0 a1 a2 a3 a4 a5 : Int} (h0 : a0 = 0) (h1 : a1 ≤ a2) (h2 : a2 ≤ a3) (h3 : (2 * a4) ≤ (a2 + 1)) (h4 : a5 = 1) : ((a5 = 1) → ((a0 = 0) ∧ (a1 ≤ a2) ∧ (a2 ≤ a3) ∧ ((2 * a4) ≤ (a2 + 1)))) := by omega
theorem oz1310 {a0 a1 a2 a3 a4 a5 a6 a7 a8 : Int} (h0 : a0 ≠ a1) (h1 : a2 = a3) (h2 : a4 = a2) (h3 : (0 : Int) ≤ a0) (h4 : a5 = (a6 + 1)) (h5 : a5 ≤ a7) (h6 : a1 = 0) (h7 : a8 = 1) : (((200 * a8) + a4) - a7) < (((200 * a0) + a3) - a6) := by omega
theorem oz1311 {a0 a1 a2 a3 a4 : Int} (h0 : a0 = a1) (h1 : (0 : Int) ≤ a2) (h2 : a3 = (a4 + 1)) (h3 : a3 ≤ a0) : (1 : Int) ≤ (((200 * a2) + a1) - a4) := by omega
theorem oz1312 {a0 : Int} (h0 : a0 = 0) : ((0 : Int) ≤ a0) ∧ (a0 ≤ 1) := by omega
theorem oz1313 {a0 a1 a2 a3 a4 a5 : Int} (h0 : a0 = 0) : ((a0 = 1) → ((a1 = 0) ∧ (a2 ≤ a3) ∧ (a3 ≤ a4) ∧ ((2 * a5) ≤ (a3 + 1)))) := by omega
theorem oz1314 {a0 a1 a2 a3 a4 a5 a6 a7 : Int} (h0 : a0 ≠ a1) (h1 : a2 = a3) (h2 : a4 ≤ 120) (h3 : (0 : Int) ≤ a5) (h4 : (0 : Int) ≤ a0) (h5 : a6 = (a7 + 1)) (h6 : a6 ≤ a2) (h7 : a1 = 0) : (((200 * a1) + a4) - a5) < (((200 * a0) + a3) - a7) := by omega
theorem oz1315 {a0 a1 a2 a3 a4 a5 : Int} (h0 : a0 = a1) (h1 : a2 = a0) (h2 : (2 * a3) ≤ (a1 + 1)) (h3 : a3 = (a4 + 1)) (h4 : a4 = 0) (h5 : a5 = (-100)) : a5 - a2 ≤ 2147483647 := by omega
theorem oz1316 {a0 a1 a2 a3 : Int} (h0 : a0 = a1) (h1 : a2 = a0) (h2 : a1 = (a3 + 1)) (h3 : a3 = 0) : (0 : Int) ≤ a2 := by omega
theorem oz1317 {a0 a1 a2 a3 : Int} (h0 : a0 = a1) (h1 : a2 = a0) (h2 : a1 = (a3 + 1)) (h3 : a3 = 0) : a2 ≤ 60 := by omega
theorem oz1318 {a0 a1 a2 : Int} (h0 : a0 ≤ a1) (h1 : a0 = a2) : a2 ≤ a1 := by omega
theorem oz1319 {a0 a1 a2 a3 : Int} (h0 : a0 ≤ a1) (h1 : a2 = a3) (h2 : a0 = a2) : a3 ≤ a1 := by omega
theorem oz1320 {a0 a1 a2 a3 : Int} (h0 : a0 < a1) (h1 : (0 : Int) ≤ a0) (h2 : a2 = a0 + a3) (h3 : a3 = 1) : ((0 : Int) ≤ a2) ∧ (a2 ≤ a1) := by omega
theorem oz1321 {a0 a1 : Int} (h0 : (0 : Int) ≤ a0) (h1 : a1 = 0) : ((0 : Int) ≤ a1) ∧ (a1 ≤ a0) := by omega
theorem oz1322 {a0 a1 : Int} (h0 : a0 < a1) (h1 : a1 ≤ 60) : a0 < 61 := by omega
theorem oz1323 {a0 a1 a2 a3 : Int} (h0 : a0 = a1) (h1 : a2 = a0) (h2 : a1 = (a3 + 1)) (h3 : a3 = 0) : ((0 : Int) ≤ a3) ∧ (a3 ≤ a2) := by omega
theorem oz1324 {a0 a1 : Int} (h0 : (0 : Int) ≤ a0) (h1 : a1 = (-100)) : a1 - a0 ≤ 2147483647 := by omega
theorem oz1325 {a0 a1 a2 a3 a4 a5 a6 a7 a8 a9 a10 : Int} (h0 : a0 ≠ a1) (h1 : a2 = a3) (h2 : a4 = a5) (h3 : (0 : Int) ≤ a0) (h4 : a0 ≤ 1) (h5 : ((a0 = 1) → ((a3 = 0) ∧ (a5 ≤ a6) ∧ (a6 ≤ a7) ∧ ((2 * a8) ≤ (a6 + 1))))) (h6 : a9 = (a6 + 1)) (h7 : a9 ≤ a10) (h8 : a1 = 0) : (a2 = 0) ∧ (a4 ≤ a9) ∧ (a9 ≤ a10) := by omega
theorem oz1326 {a0 a1 a2 a3 a4 a5 a6 a7 a8 : Int} (h0 : a0 ≠ a1) (h1 : a2 = a3) (h2 : (0 : Int) ≤ a0) (h3 : a0 ≤ 1) (h4 : ((a0 = 1) → ((a4 = 0) ∧ (a5 ≤ a6) ∧ (a6 ≤ a7) ∧ ((2 * a3) ≤ (a6 + 1))))) (h5 : a8 = (a6 + 1)) (h6 : a1 = 0) : (2 * a2) ≤ a8 := by omega
theorem oz1327 {a0 a1 a2 a3 a4 a5 a6 a7 : Int} (h0 : a0 ≠ a1) (h1 : a2 = a3) (h2 : a4 ≤ 120) (h3 : (0 : Int) ≤ a0) (h4 : a0 ≤ 1) (h5 : ((a0 = 1) → ((a5 = 0) ∧ (a6 ≤ a4) ∧ (a4 ≤ a7) ∧ ((2 * a3) ≤ (a4 + 1))))) (h6 : a1 = 0) : a2 ≤ 60 := by omega
theorem oz1328 {a0 : Int} (h0 : a0 = 0) : a0 ≤ 1 := by omega
theorem oz1329 {a0 : Int} (h0 : (0 : Int) ≤ a0) : (a0 = (-1)) ∨ ((0 : Int) ≤ a0) := by omega
theorem oz1330 {a0 : Int} (h0 : a0 = (-1)) : (a0 = (-1)) ∨ ((0 : Int) ≤ a0) := by omega
theorem oz1331 {a0 : Int} (h0 : a0 = 0) : a0 ≤ 1000 := by omega
theorem oz1332 {a0 a1 a2 : Int} (h0 : a0 ≤ a1) (h1 : a0 = 24) (h2 : a2 = 1) : (-2147483648 : Int) ≤ a1 + a2 := by omega
theorem oz1333 {a0 a1 a2 a3 : Int} (h0 : a0 ≤ a1) (h1 : a2 = a1 + a3) (h2 : a0 = 24) (h3 : a3 = 1) : (0 : Int) ≤ a2 := by omega
theorem oz1334 {a0 a1 a2 : Int} (h0 : (a0 + 1) ≤ 900) (h1 : a1 = a0 + a2) (h2 : a2 = 1) : a1 ≤ 1000 := by omega
theorem oz1335 {a0 a1 : Int} (h0 : (a0 + 1) ≤ 39) (h1 : a1 = 1) : a0 + a1 ≤ 2147483647 := by omega
theorem oz1336 {a0 : Int} (h0 : a0 ≤ 49) : a0 < 50 := by omega
theorem oz1337 {a0 : Int} (h0 : a0 = 0) (h1 : (0 : Int) ≤ a0) : a0 = 0 := by omega
theorem oz1338 {a0 : Int}  : a0 = (a0 + 0) := by omega
theorem oz1339 {a0 : Int} (h0 : (0 : Int) ≤ a0) (h1 : a0 ≤ 49) : ((0 : Int) ≤ a0) ∧ (a0 ≤ 49) := by omega
theorem oz1340 {a0 a1 a2 : Int} (h0 : (0 : Int) ≤ a0) (h1 : (a0 + 1) ≤ 39) (h2 : a1 = a0 + a2) (h3 : a2 = 1) : ((0 : Int) ≤ a1) ∧ ((a1 + 0) ≤ 39) := by omega
theorem oz1341 {a0 a1 a2 a3 : Int} (h0 : a0 ≤ a1) (h1 : (a1 + 1) ≤ 900) (h2 : a2 = a1 + a3) (h3 : a0 = 24) (h4 : a3 = 1) : ((0 : Int) ≤ a2) ∧ ((a2 + 0) ≤ 900) := by omega
theorem oz1342 {a0 a1 a2 a3 : Int} (h0 : a0 = a1) (h1 : a1 = a2 + a3) (h2 : a3 = 1) : a0 = (a2 + 1) := by omega
theorem oz1343 {a0 a1 : Int} (h0 : a0 < a1) (h1 : a1 = 24) : a0 < 24 := by omega
theorem oz1344 {a0 a1 : Int} (h0 : a0 = 0) (h1 : (0 : Int) ≤ a1) (h2 : a1 = a0) : a1 = 0 := by omega
theorem oz1345 {a0 a1 a2 : Int} (h0 : (0 : Int) ≤ a0) (h1 : (a0 + 1) ≤ 900) (h2 : a1 = a0 + a2) (h3 : a2 = 1) : ((0 : Int) ≤ a1) ∧ ((a1 + 0) ≤ 900) := by omega
theorem oz1346 {a0 a1 : Int} (h0 : a0 ≤ a1) (h1 : (a1 + 1) ≤ 39) (h2 : a0 = 40) : False := by omega
theorem oz1347 {a0 a1 : Int} (h0 : a0 ≤ 50) (h1 : (0 : Int) ≤ a1) (h2 : a1 < a0) : ((0 : Int) ≤ a1) ∧ (a1 ≤ 49) := by omega
theorem oz1348 {a0 : Int} (h0 : (0 : Int) ≤ a0) (h1 : a0 = 0) : a0 = 0 := by omega
theorem oz1349 {a0 : Int} (h0 : a0 = 0) : ((0 : Int) ≤ a0) ∧ ((a0 + 1) ≤ 39) := by omega
theorem oz1350 {a0 : Int} (h0 : a0 = 0) : ((0 : Int) ≤ a0) ∧ ((a0 + 1) ≤ 900) := by omega
theorem oz1351 {a0 a1 a2 : Int} (h0 : (a0 + 2) ≤ 900) (h1 : a1 = a0 + a2) (h2 : a2 = 1) : a1 ≤ 1000 := by omega
theorem oz1352 {a0 a1 : Int} (h0 : (a0 + 2) ≤ 39) (h1 : a1 = 1) : a0 + a1 ≤ 2147483647 := by omega
theorem oz1353 {a0 : Int} (h0 : (0 : Int) ≤ a0) (h1 : (a0 + 1) ≤ 39) : ((0 : Int) ≤ a0) ∧ ((a0 + 1) ≤ 39) := by omega
theorem oz1354 {a0 : Int} (h0 : (0 : Int) ≤ a0) (h1 : (a0 + 1) ≤ 900) : ((0 : Int) ≤ a0) ∧ ((a0 + 1) ≤ 900) := by omega
theorem oz1355 {a0 a1 : Int} (h0 : a0 = (a1 + 1)) : a0 = (a1 + 1) := by omega
theorem oz1356 {a0 a1 a2 : Int} (h0 : (0 : Int) ≤ a0) (h1 : (a0 + 2) ≤ 39) (h2 : a1 = a0 + a2) (h3 : a2 = 1) : ((0 : Int) ≤ a1) ∧ ((a1 + 1) ≤ 39) := by omega
theorem oz1357 {a0 a1 a2 a3 : Int} (h0 : a0 ≤ a1) (h1 : (a1 + 2) ≤ 900) (h2 : a2 = a1 + a3) (h3 : a0 = 24) (h4 : a3 = 1) : ((0 : Int) ≤ a2) ∧ ((a2 + 1) ≤ 900) := by omega
theorem oz1358 {a0 a1 a2 a3 : Int} (h0 : a0 = a1 + a2) (h1 : a3 = (a0 + 1)) (h2 : a2 = 1) : a3 = (a1 + 2) := by omega
theorem oz1359 {a0 a1 a2 : Int} (h0 : (0 : Int) ≤ a0) (h1 : (a0 + 2) ≤ 900) (h2 : a1 = a0 + a2) (h3 : a2 = 1) : ((0 : Int) ≤ a1) ∧ ((a1 + 1) ≤ 900) := by omega
theorem oz1360 {a0 a1 : Int} (h0 : a0 ≤ a1) (h1 : (a1 + 2) ≤ 39) (h2 : a0 = 40) : False := by omega
theorem oz1361 {a0 : Int} (h0 : a0 = 0) : ((0 : Int) ≤ a0) ∧ ((a0 + 2) ≤ 39) := by omega
theorem oz1362 {a0 : Int} (h0 : a0 = 0) : ((0 : Int) ≤ a0) ∧ ((a0 + 2) ≤ 900) := by omega
theorem oz1363 {a0 : Int} (h0 : a0 = 2) : a0 < 32 := by omega
theorem oz1364 {a0 : Int} (h0 : a0 = 3) : a0 < 32 := by omega
theorem oz1365 {a0 a1 a2 : Int} (h0 : (a0 + 4) ≤ 900) (h1 : a1 = a0 + a2) (h2 : a2 = 1) : a1 ≤ 1000 := by omega
theorem oz1366 {a0 a1 : Int} (h0 : (a0 + 3) ≤ 39) (h1 : a1 = 1) : a0 + a1 ≤ 2147483647 := by omega
theorem oz1367 {a0 : Int} (h0 : (0 : Int) ≤ a0) (h1 : (a0 + 2) ≤ 39) : ((0 : Int) ≤ a0) ∧ ((a0 + 2) ≤ 39) := by omega
theorem oz1368 {a0 : Int} (h0 : (0 : Int) ≤ a0) (h1 : (a0 + 3) ≤ 900) : ((0 : Int) ≤ a0) ∧ ((a0 + 2) ≤ 900) := by omega
theorem oz1369 {a0 : Int} (h0 : (0 : Int) ≤ a0) (h1 : (a0 + 2) ≤ 39) : ((0 : Int) ≤ a0) ∧ ((a0 + 1) ≤ 39) := by omega
theorem oz1370 {a0 a1 : Int} (h0 : (0 : Int) ≤ a0) (h1 : (a1 + 3) ≤ 900) (h2 : a0 = (a1 + 2)) : ((0 : Int) ≤ a0) ∧ ((a0 + 1) ≤ 900) := by omega
theorem oz1371 {a0 a1 a2 : Int} (h0 : a0 = (a1 + 2)) (h1 : a2 = (a0 + 1)) : a2 = (a1 + 3) := by omega
theorem oz1372 {a0 a1 a2 : Int} (h0 : (0 : Int) ≤ a0) (h1 : (a0 + 3) ≤ 39) (h2 : a1 = a0 + a2) (h3 : a2 = 1) : ((0 : Int) ≤ a1) ∧ ((a1 + 2) ≤ 39) := by omega
theorem oz1373 {a0 a1 a2 a3 : Int} (h0 : a0 ≤ a1) (h1 : (a1 + 4) ≤ 900) (h2 : a2 = a1 + a3) (h3 : a0 = 24) (h4 : a3 = 1) : ((0 : Int) ≤ a2) ∧ ((a2 + 3) ≤ 900) := by omega
theorem oz1374 {a0 a1 a2 a3 : Int} (h0 : a0 = a1 + a2) (h1 : a3 = (a0 + 3)) (h2 : a2 = 1) : a3 = (a1 + 4) := by omega
theorem oz1375 {a0 a1 a2 : Int} (h0 : (0 : Int) ≤ a0) (h1 : (a0 + 4) ≤ 900) (h2 : a1 = a0 + a2) (h3 : a2 = 1) : ((0 : Int) ≤ a1) ∧ ((a1 + 3) ≤ 900) := by omega
theorem oz1376 {a0 a1 : Int} (h0 : a0 ≤ a1) (h1 : (a1 + 3) ≤ 39) (h2 : a0 = 40) : False := by omega
theorem oz1377 {a0 : Int} (h0 : a0 = 0) : ((0 : Int) ≤ a0) ∧ ((a0 + 3) ≤ 39) := by omega
theorem oz1378 {a0 : Int} (h0 : a0 = 0) : ((0 : Int) ≤ a0) ∧ ((a0 + 4) ≤ 900) := by omega
theorem oz1379 {a0 a1 a2 : Int} (h0 : a0 ≤ a1) (h1 : a1 < a2) (h2 : ¬ (a1 = 1)) (h3 : ¬ (a1 = 2)) (h4 : ¬ (a1 = 3)) (h5 : ¬ (a1 = 0)) (h6 : a0 = 0) (h7 : a2 = 4) : False := by omega
theorem oz1380 {a0 : Int} (h0 : a0 = 4) : a0 < 32 := by omega
theorem oz1381 {a0 : Int} (h0 : a0 = 1) : a0 = 1 := by omega
theorem oz1382 {a0 : Int} (h0 : a0 = 1) : a0 < 8 := by omega
theorem oz1383 {a0 a1 : Int} (h0 : a0 = 1) (h1 : a1 = a0) : a1 = 1 := by omega
theorem oz1384 {a0 : Int} (h0 : a0 = 5) : a0 < 32 := by omega
theorem oz1385 {a0 a1 a2 : Int} (h0 : (a0 + 3) ≤ 900) (h1 : a1 = a0 + a2) (h2 : a2 = 1) : a1 ≤ 1000 := by omega
theorem oz1386 {a0 : Int} (h0 : (0 : Int) ≤ a0) (h1 : (a0 + 2) ≤ 900) : ((0 : Int) ≤ a0) ∧ ((a0 + 2) ≤ 900) := by omega
theorem oz1387 {a0 a1 : Int} (h0 : a0 = (a1 + 2)) : a0 = (a1 + 2) := by omega
theorem oz1388 {a0 a1 a2 a3 : Int} (h0 : a0 ≤ a1) (h1 : (a1 + 3) ≤ 900) (h2 : a2 = a1 + a3) (h3 : a0 = 24) (h4 : a3 = 1) : ((0 : Int) ≤ a2) ∧ ((a2 + 2) ≤ 900) := by omega
theorem oz1389 {a0 a1 a2 a3 : Int} (h0 : a0 = a1 + a2) (h1 : a3 = (a0 + 2)) (h2 : a2 = 1) : a3 = (a1 + 3) := by omega
theorem oz1390 {a0 a1 a2 : Int} (h0 : (0 : Int) ≤ a0) (h1 : (a0 + 3) ≤ 900) (h2 : a1 = a0 + a2) (h3 : a2 = 1) : ((0 : Int) ≤ a1) ∧ ((a1 + 2) ≤ 900) := by omega
theorem oz1391 {a0 : Int} (h0 : a0 = 0) : ((0 : Int) ≤ a0) ∧ ((a0 + 3) ≤ 900) := by omega
theorem oz1392 {a0 : Int} (h0 : a0 = 6) : a0 < 32 := by omega
theorem oz1393 {a0 : Int} (h0 : a0 = 7) : a0 < 32 := by omega
theorem oz1394 {a0 a1 a2 : Int} (h0 : (a0 + 5) ≤ 900) (h1 : a1 = a0 + a2) (h2 : a2 = 1) : a1 ≤ 1000 := by omega
theorem oz1395 {a0 a1 : Int} (h0 : (a0 + 4) ≤ 39) (h1 : a1 = 1) : a0 + a1 ≤ 2147483647 := by omega
theorem oz1396 {a0 : Int} (h0 : (0 : Int) ≤ a0) (h1 : (a0 + 3) ≤ 39) : ((0 : Int) ≤ a0) ∧ ((a0 + 3) ≤ 39) := by omega
theorem oz1397 {a0 : Int} (h0 : (0 : Int) ≤ a0) (h1 : (a0 + 4) ≤ 900) : ((0 : Int) ≤ a0) ∧ ((a0 + 3) ≤ 900) := by omega
theorem oz1398 {a0 : Int} (h0 : (0 : Int) ≤ a0) (h1 : (a0 + 3) ≤ 39) : ((0 : Int) ≤ a0) ∧ ((a0 + 1) ≤ 39) := by omega
theorem oz1399 {a0 a1 : Int} (h0 : (0 : Int) ≤ a0) (h1 : (a1 + 4) ≤ 900) (h2 : a0 = (a1 + 3)) : ((0 : Int) ≤ a0) ∧ ((a0 + 1) ≤ 900) := by omega
theorem oz1400 {a0 a1 a2 : Int} (h0 : a0 = (a1 + 3)) (h1 : a2 = (a0 + 1)) : a2 = (a1 + 4) := by omega
theorem oz1401 {a0 a1 a2 : Int} (h0 : (0 : Int) ≤ a0) (h1 : (a0 + 4) ≤ 39) (h2 : a1 = a0 + a2) (h3 : a2 = 1) : ((0 : Int) ≤ a1) ∧ ((a1 + 3) ≤ 39) := by omega
theorem oz1402 {a0 a1 a2 a3 : Int} (h0 : a0 ≤ a1) (h1 : (a1 + 5) ≤ 900) (h2 : a2 = a1 + a3) (h3 : a0 = 24) (h4 : a3 = 1) : ((0 : Int) ≤ a2) ∧ ((a2 + 4) ≤ 900) := by omega
theorem oz1403 {a0 a1 a2 a3 : Int} (h0 : a0 = a1 + a2) (h1 : a3 = (a0 + 4)) (h2 : a2 = 1) : a3 = (a1 + 5) := by omega
theorem oz1404 {a0 a1 a2 : Int} (h0 : (0 : Int) ≤ a0) (h1 : (a0 + 5) ≤ 900) (h2 : a1 = a0 + a2) (h3 : a2 = 1) : ((0 : Int) ≤ a1) ∧ ((a1 + 4) ≤ 900) := by omega
theorem oz1405 {a0 a1 : Int} (h0 : a0 ≤ a1) (h1 : (a1 + 4) ≤ 39) (h2 : a0 = 40) : False := by omega
theorem oz1406 {a0 : Int} (h0 : a0 = 0) : ((0 : Int) ≤ a0) ∧ ((a0 + 4) ≤ 39) := by omega
theorem oz1407 {a0 : Int} (h0 : a0 = 0) : ((0 : Int) ≤ a0) ∧ ((a0 + 5) ≤ 900) := by omega
theorem oz1408 {a0 a1 a2 : Int} (h0 : a0 ≤ a1) (h1 : a1 < a2) (h2 : ¬ (a1 = 0)) (h3 : ¬ (a1 = 1)) (h4 : ¬ (a1 = 2)) (h5 : ¬ (a1 = 3)) (h6 : a0 = 0) (h7 : a2 = 4) : False := by omega
theorem oz1409 {a0 : Int} (h0 : a0 = 8) : a0 < 32 := by omega
theorem oz1410 {a0 : Int} (h0 : a0 = 2) : a0 < 8 := by omega
theorem oz1411 {a0 : Int} (h0 : a0 = 2) : a0 = 2 := by omega
theorem oz1412 {a0 a1 : Int} (h0 : a0 = 2) (h1 : a1 = a0) : a1 = 2 := by omega
theorem oz1413 {a0 : Int} (h0 : a0 = 9) : a0 < 32 := by omega
theorem oz1414 {a0 : Int} (h0 : a0 = 10) : (0 : Int) ≤ a0 := by omega
theorem oz1415 {a0 : Int} (h0 : a0 = 10) : a0 < 32 := by omega
theorem oz1416 {a0 : Int} (h0 : a0 = 11) : (0 : Int) ≤ a0 := by omega
theorem oz1417 {a0 : Int} (h0 : a0 = 11) : a0 < 32 := by omega
theorem oz1418 {a0 : Int} (h0 : a0 = 12) : (0 : Int) ≤ a0 := by omega
theorem oz1419 {a0 : Int} (h0 : a0 = 12) : a0 < 32 := by omega
theorem oz1420 {a0 : Int} (h0 : a0 = 3) : a0 < 8 := by omega
theorem oz1421 {a0 : Int} (h0 : a0 = 3) : a0 = 3 := by omega
theorem oz1422 {a0 a1 : Int} (h0 : a0 = 3) (h1 : a1 = a0) : a1 = 3 := by omega
theorem oz1423 {a0 : Int} (h0 : a0 = 13) : (0 : Int) ≤ a0 := by omega
theorem oz1424 {a0 : Int} (h0 : a0 = 13) : a0 < 32 := by omega
theorem oz1425 {a0 : Int} (h0 : a0 = 14) : (0 : Int) ≤ a0 := by omega
theorem oz1426 {a0 : Int} (h0 : a0 = 14) : a0 < 32 := by omega
theorem oz1427 {a0 : Int} (h0 : a0 = 15) : (0 : Int) ≤ a0 := by omega
theorem oz1428 {a0 : Int} (h0 : a0 = 15) : a0 < 32 := by omega
theorem oz1429 {a0 a1 a2 : Int} (h0 : (a0 + 7) ≤ 900) (h1 : a1 = a0 + a2) (h2 : a2 = 1) : a1 ≤ 1000 := by omega
theorem oz1430 {a0 a1 : Int} (h0 : (a0 + 5) ≤ 39) (h1 : a1 = 1) : a0 + a1 ≤ 2147483647 := by omega
theorem oz1431 {a0 : Int} (h0 : (0 : Int) ≤ a0) (h1 : (a0 + 4) ≤ 39) : ((0 : Int) ≤ a0) ∧ ((a0 + 4) ≤ 39) := by omega
theorem oz1432 {a0 : Int} (h0 : (0 : Int) ≤ a0) (h1 : (a0 + 6) ≤ 900) : ((0 : Int) ≤ a0) ∧ ((a0 + 4) ≤ 900) := by omega
theorem oz1433 {a0 : Int} (h0 : (0 : Int) ≤ a0) (h1 : (a0 + 4) ≤ 39) : ((0 : Int) ≤ a0) ∧ ((a0 + 2) ≤ 39) := by omega
theorem oz1434 {a0 a1 : Int} (h0 : (0 : Int) ≤ a0) (h1 : (a1 + 6) ≤ 900) (h2 : a0 = (a1 + 4)) : ((0 : Int) ≤ a0) ∧ ((a0 + 2) ≤ 900) := by omega
theorem oz1435 {a0 a1 a2 : Int} (h0 : a0 = (a1 + 4)) (h1 : a2 = (a0 + 2)) : a2 = (a1 + 6) := by omega
theorem oz1436 {a0 a1 a2 : Int} (h0 : (0 : Int) ≤ a0) (h1 : (a0 + 5) ≤ 39) (h2 : a1 = a0 + a2) (h3 : a2 = 1) : ((0 : Int) ≤ a1) ∧ ((a1 + 4) ≤ 39) := by omega
theorem oz1437 {a0 a1 a2 a3 : Int} (h0 : a0 ≤ a1) (h1 : (a1 + 7) ≤ 900) (h2 : a2 = a1 + a3) (h3 : a0 = 24) (h4 : a3 = 1) : ((0 : Int) ≤ a2) ∧ ((a2 + 6) ≤ 900) := by omega
theorem oz1438 {a0 a1 a2 a3 : Int} (h0 : a0 = a1 + a2) (h1 : a3 = (a0 + 6)) (h2 : a2 = 1) : a3 = (a1 + 7) := by omega
theorem oz1439 {a0 a1 a2 : Int} (h0 : (0 : Int) ≤ a0) (h1 : (a0 + 7) ≤ 900) (h2 : a1 = a0 + a2) (h3 : a2 = 1) : ((0 : Int) ≤ a1) ∧ ((a1 + 6) ≤ 900) := by omega
theorem oz1440 {a0 a1 : Int} (h0 : a0 ≤ a1) (h1 : (a1 + 5) ≤ 39) (h2 : a0 = 40) : False := by omega
theorem oz1441 {a0 : Int} (h0 : a0 = 0) : ((0 : Int) ≤ a0) ∧ ((a0 + 5) ≤ 39) := by omega
theorem oz1442 {a0 : Int} (h0 : a0 = 0) : ((0 : Int) ≤ a0) ∧ ((a0 + 7) ≤ 900) := by omega
theorem oz1443 {a0 : Int} (h0 : a0 = 16) : (0 : Int) ≤ a0 := by omega
theorem oz1444 {a0 : Int} (h0 : a0 = 16) : a0 < 32 := by omega
theorem oz1445 {a0 : Int} (h0 : a0 = 4) : a0 < 8 := by omega
theorem oz1446 {a0 : Int} (h0 : a0 = 4) : a0 = 4 := by omega
theorem oz1447 {a0 a1 : Int} (h0 : a0 = 4) (h1 : a1 = a0) : a1 = 4 := by omega
theorem oz1448 {a0 : Int} (h0 : a0 = 17) : (0 : Int) ≤ a0 := by omega
theorem oz1449 {a0 : Int} (h0 : a0 = 17) : a0 < 32 := by omega
theorem oz1450 {a0 : Int} (h0 : a0 = 18) : a0 < 32 := by omega
theorem oz1451 {a0 a1 a2 : Int} (h0 : (0 : Int) ≤ a0) (h1 : (a0 + 3) ≤ 39) (h2 : a1 = a0 + a2) (h3 : a2 = 1) : ((0 : Int) ≤ a1) ∧ ((a1 + 1) ≤ 39) := by omega
theorem oz1452 {a0 a1 a2 a3 : Int} (h0 : a0 ≤ a1) (h1 : (a1 + 4) ≤ 900) (h2 : a2 = a1 + a3) (h3 : a0 = 24) (h4 : a3 = 1) : ((0 : Int) ≤ a2) ∧ ((a2 + 1) ≤ 900) := by omega
theorem oz1453 {a0 a1 a2 a3 a4 : Int} (h0 : a0 ≤ a1) (h1 : (a1 + 4) ≤ 900) (h2 : a2 = a1 + a3) (h3 : a4 = (a2 + 1)) (h4 : a0 = 24) (h5 : a3 = 1) : ((0 : Int) ≤ a4) ∧ ((a4 + 2) ≤ 900) := by omega
theorem oz1454 {a0 a1 a2 a3 a4 : Int} (h0 : a0 = a1 + a2) (h1 : a3 = (a0 + 1)) (h2 : a4 = (a3 + 2)) (h3 : a2 = 1) : a4 = (a1 + 4) := by omega
theorem oz1455 {a0 a1 a2 : Int} (h0 : (0 : Int) ≤ a0) (h1 : (a0 + 4) ≤ 900) (h2 : a1 = a0 + a2) (h3 : a2 = 1) : ((0 : Int) ≤ a1) ∧ ((a1 + 1) ≤ 900) := by omega
theorem oz1456 {a0 a1 a2 : Int} (h0 : a0 = 4) (h1 : a1 = a0) (h2 : a2 = a1) : a2 = 4 := by omega
theorem oz1457 {a0 a1 a2 a3 : Int} (h0 : (0 : Int) ≤ a0) (h1 : (a1 + 4) ≤ 900) (h2 : a2 = a1 + a3) (h3 : a0 = (a2 + 1)) (h4 : a3 = 1) : ((0 : Int) ≤ a0) ∧ ((a0 + 2) ≤ 900) := by omega
theorem oz1458 {a0 : Int} (h0 : a0 = 19) : a0 < 32 := by omega
theorem oz1459 {a0 a1 a2 : Int} (h0 : (a0 + 8) ≤ 900) (h1 : a1 = a0 + a2) (h2 : a2 = 1) : a1 ≤ 1000 := by omega
theorem oz1460 {a0 : Int} (h0 : (0 : Int) ≤ a0) (h1 : (a0 + 7) ≤ 900) : ((0 : Int) ≤ a0) ∧ ((a0 + 3) ≤ 900) := by omega
theorem oz1461 {a0 a1 : Int} (h0 : (0 : Int) ≤ a0) (h1 : (a1 + 7) ≤ 900) (h2 : a0 = (a1 + 3)) : ((0 : Int) ≤ a0) ∧ ((a0 + 4) ≤ 900) := by omega
theorem oz1462 {a0 a1 a2 : Int} (h0 : a0 = (a1 + 3)) (h1 : a2 = (a0 + 4)) : a2 = (a1 + 7) := by omega
theorem oz1463 {a0 a1 a2 a3 : Int} (h0 : a0 ≤ a1) (h1 : (a1 + 8) ≤ 900) (h2 : a2 = a1 + a3) (h3 : a0 = 24) (h4 : a3 = 1) : ((0 : Int) ≤ a2) ∧ ((a2 + 7) ≤ 900) := by omega
theorem oz1464 {a0 a1 a2 a3 : Int} (h0 : a0 = a1 + a2) (h1 : a3 = (a0 + 7)) (h2 : a2 = 1) : a3 = (a1 + 8) := by omega
theorem oz1465 {a0 a1 a2 : Int} (h0 : (0 : Int) ≤ a0) (h1 : (a0 + 8) ≤ 900) (h2 : a1 = a0 + a2) (h3 : a2 = 1) : ((0 : Int) ≤ a1) ∧ ((a1 + 7) ≤ 900) := by omega
theorem oz1466 {a0 : Int} (h0 : a0 = 0) : ((0 : Int) ≤ a0) ∧ ((a0 + 8) ≤ 900) := by omega
theorem oz1467 {a0 : Int} (h0 : a0 = 20) : (0 : Int) ≤ a0 := by omega
theorem oz1468 {a0 : Int} (h0 : a0 = 20) : a0 < 32 := by omega
theorem oz1469 {a0 : Int} (h0 : a0 = 5) : a0 < 8 := by omega
theorem oz1470 {a0 : Int} (h0 : a0 = 5) : a0 = 5 := by omega
theorem oz1471 {a0 a1 : Int} (h0 : a0 = 5) (h1 : a1 = a0) : a1 = 5 := by omega
theorem oz1472 {a0 : Int} (h0 : a0 = 21) : (0 : Int) ≤ a0 := by omega
theorem oz1473 {a0 : Int} (h0 : a0 = 21) : a0 < 32 := by omega
theorem oz1474 {a0 : Int} (h0 : a0 = 22) : (0 : Int) ≤ a0 := by omega
theorem oz1475 {a0 : Int} (h0 : a0 = 22) : a0 < 32 := by omega
theorem oz1476 {a0 : Int} (h0 : a0 = 23) : (0 : Int) ≤ a0 := by omega
theorem oz1477 {a0 : Int} (h0 : a0 = 23) : a0 < 32 := by omega
theorem oz1478 {a0 a1 : Int} (h0 : (a0 + 6) ≤ 39) (h1 : a1 = 1) : a0 + a1 ≤ 2147483647 := by omega
theorem oz1479 {a0 a1 a2 : Int} (h0 : (0 : Int) ≤ a0) (h1 : (a0 + 6) ≤ 39) (h2 : a1 = a0 + a2) (h3 : a2 = 1) : ((0 : Int) ≤ a1) ∧ ((a1 + 5) ≤ 39) := by omega
theorem oz1480 {a0 a1 : Int} (h0 : a0 ≤ a1) (h1 : (a1 + 6) ≤ 39) (h2 : a0 = 40) : False := by omega
theorem oz1481 {a0 : Int} (h0 : a0 = 0) : ((0 : Int) ≤ a0) ∧ ((a0 + 6) ≤ 39) := by omega
theorem oz1482 {a0 : Int} (h0 : a0 = 24) : (0 : Int) ≤ a0 := by omega
theorem oz1483 {a0 : Int} (h0 : a0 = 24) : a0 < 32 := by omega
theorem oz1484 {a0 : Int} (h0 : a0 = 6) : a0 = 6 := by omega
theorem oz1485 {a0 : Int} (h0 : a0 = 6) : a0 < 8 := by omega
theorem oz1486 {a0 a1 : Int} (h0 : a0 = 6) (h1 : a1 = a0) : a1 = 6 := by omega
theorem oz1487 {a0 : Int} (h0 : a0 = 25) : a0 < 32 := by omega
theorem oz1488 {a0 : Int} (h0 : a0 = 26) : (0 : Int) ≤ a0 := by omega
theorem oz1489 {a0 : Int} (h0 : a0 = 26) : a0 < 32 := by omega
theorem oz1490 {a0 : Int} (h0 : a0 = 27) : (0 : Int) ≤ a0 := by omega
theorem oz1491 {a0 : Int} (h0 : a0 = 27) : a0 < 32 := by omega
theorem oz1492 {a0 : Int} (h0 : a0 = 28) : (0 : Int) ≤ a0 := by omega
theorem oz1493 {a0 : Int} (h0 : a0 = 28) : a0 < 32 := by omega
theorem oz1494 {a0 : Int} (h0 : a0 = 7) : a0 < 8 := by omega
theorem oz1495 {a0 : Int} (h0 : a0 = 7) (h1 : a0 ≤ 7) : a0 = 7 := by omega
theorem oz1496 {a0 a1 : Int} (h0 : a0 = 7) (h1 : a1 ≤ 7) (h2 : a1 = a0) : a1 = 7 := by omega
theorem oz1497 {a0 : Int} (h0 : a0 ≤ 7) (h1 : a0 = 7) : a0 = 7 := by omega
theorem oz1498 {a0 : Int} (h0 : a0 = 29) : (0 : Int) ≤ a0 := by omega
theorem oz1499 {a0 : Int} (h0 : a0 = 29) : a0 < 32 := by omega
theorem oz1500 {a0 : Int} (h0 : a0 = 7) : a0 = 7 := by omega
theorem oz1501 {a0 a1 a2 a3 : Int} (h0 : a0 ≤ a1) (h1 : (a1 + 8) ≤ 900) (h2 : a2 = a1 + a3) (h3 : a0 = 24) (h4 : a3 = 1) : ((0 : Int) ≤ a2) ∧ ((a2 + 3) ≤ 900) := by omega
theorem oz1502 {a0 : Int} (h0 : a0 = 30) : (0 : Int) ≤ a0 := by omega
theorem oz1503 {a0 : Int} (h0 : a0 = 30) : a0 < 32 := by omega
theorem oz1504 {a0 a1 a2 : Int} (h0 : a0 = 7) (h1 : a1 ≤ 7) (h2 : a2 = a0) (h3 : a1 = a2) : a1 = 7 := by omega
theorem oz1505 {a0 a1 a2 a3 a4 : Int} (h0 : a0 ≤ a1) (h1 : (a1 + 8) ≤ 900) (h2 : a2 = a1 + a3) (h3 : a4 = (a2 + 3)) (h4 : a0 = 24) (h5 : a3 = 1) : ((0 : Int) ≤ a4) ∧ ((a4 + 4) ≤ 900) := by omega
theorem oz1506 {a0 a1 a2 a3 a4 : Int} (h0 : a0 = a1 + a2) (h1 : a3 = (a0 + 3)) (h2 : a4 = (a3 + 4)) (h3 : a2 = 1) : a4 = (a1 + 8) := by omega
theorem oz1507 {a0 a1 a2 : Int} (h0 : (0 : Int) ≤ a0) (h1 : (a0 + 8) ≤ 900) (h2 : a1 = a0 + a2) (h3 : a2 = 1) : ((0 : Int) ≤ a1) ∧ ((a1 + 3) ≤ 900) := by omega
theorem oz1508 {a0 a1 a2 a3 : Int} (h0 : (0 : Int) ≤ a0) (h1 : (a1 + 8) ≤ 900) (h2 : a2 = a1 + a3) (h3 : a0 = (a2 + 3)) (h4 : a3 = 1) : ((0 : Int) ≤ a0) ∧ ((a0 + 4) ≤ 900) := by omega
theorem oz1509 {a0 : Int} (h0 : a0 = 31) : (0 : Int) ≤ a0 := by omega
theorem oz1510 {a0 : Int} (h0 : a0 = 31) : a0 < 32 := by omega
theorem oz1511 {a0 a1 a2 : Int} (h0 : (a0 + 14) ≤ 900) (h1 : a1 = a0 + a2) (h2 : a2 = 1) : a1 ≤ 1000 := by omega
theorem oz1512 {a0 a1 a2 : Int} (h0 : (a0 + 13) ≤ 900) (h1 : a1 = a0 + a2) (h2 : a2 = 1) : a1 ≤ 1000 := by omega
theorem oz1513 {a0 : Int} (h0 : (0 : Int) ≤ a0) (h1 : (a0 + 12) ≤ 900) : ((0 : Int) ≤ a0) ∧ ((a0 + 8) ≤ 900) := by omega
theorem oz1514 {a0 : Int} (h0 : (0 : Int) ≤ a0) (h1 : (a0 + 4) ≤ 39) : ((0 : Int) ≤ a0) ∧ ((a0 + 3) ≤ 39) := by omega
theorem oz1515 {a0 a1 : Int} (h0 : (0 : Int) ≤ a0) (h1 : (a1 + 12) ≤ 900) (h2 : a0 = (a1 + 8)) : ((0 : Int) ≤ a0) ∧ ((a0 + 4) ≤ 900) := by omega
theorem oz1516 {a0 a1 a2 : Int} (h0 : a0 = (a1 + 8)) (h1 : a2 = (a0 + 4)) : a2 = (a1 + 12) := by omega
theorem oz1517 {a0 a1 a2 a3 : Int} (h0 : a0 ≤ a1) (h1 : (a1 + 13) ≤ 900) (h2 : a2 = a1 + a3) (h3 : a0 = 24) (h4 : a3 = 1) : ((0 : Int) ≤ a2) ∧ ((a2 + 12) ≤ 900) := by omega
theorem oz1518 {a0 a1 a2 a3 : Int} (h0 : a0 = a1 + a2) (h1 : a3 = (a0 + 12)) (h2 : a2 = 1) : a3 = (a1 + 13) := by omega
theorem oz1519 {a0 a1 a2 : Int} (h0 : (0 : Int) ≤ a0) (h1 : (a0 + 13) ≤ 900) (h2 : a1 = a0 + a2) (h3 : a2 = 1) : ((0 : Int) ≤ a1) ∧ ((a1 + 12) ≤ 900) := by omega
theorem oz1520 {a0 a1 a2 a3 : Int} (h0 : a0 ≤ a1) (h1 : (a1 + 14) ≤ 900) (h2 : a2 = a1 + a3) (h3 : a0 = 24) (h4 : a3 = 1) : ((0 : Int) ≤ a2) ∧ ((a2 + 13) ≤ 900) := by omega
theorem oz1521 {a0 a1 a2 a3 : Int} (h0 : a0 = a1 + a2) (h1 : a3 = (a0 + 13)) (h2 : a2 = 1) : a3 = (a1 + 14) := by omega
theorem oz1522 {a0 a1 a2 : Int} (h0 : (0 : Int) ≤ a0) (h1 : (a0 + 14) ≤ 900) (h2 : a1 = a0 + a2) (h3 : a2 = 1) : ((0 : Int) ≤ a1) ∧ ((a1 + 13) ≤ 900) := by omega
theorem oz1523 {a0 : Int} (h0 : a0 = 0) : ((0 : Int) ≤ a0) ∧ ((a0 + 14) ≤ 900) := by omega
theorem oz1524 {a0 : Int} (h0 : (0 : Int) ≤ a0) (h1 : a0 ≤ 7) (h2 : ¬ (a0 = 1)) (h3 : ¬ (a0 = 2)) (h4 : ¬ (a0 = 3)) (h5 : ¬ (a0 = 4)) (h6 : ¬ (a0 = 5)) (h7 : ¬ (a0 = 0)) (h8 : ¬ (a0 = 6)) (h9 : ¬ (a0 = 7)) : False := by omega
theorem oz1525 {a0 a1 a2 a3 : Int} (h0 : a0 ≤ 50) (h1 : a1 = a0 - a2) (h2 : a3 ≤ a1) (h3 : a2 = 1) : a3 < 50 := by omega
theorem oz1526 {a0 a1 a2 : Int} (h0 : a0 ≤ 999) (h1 : a1 = a0 + a2) (h2 : a2 = 1) : a1 ≤ 1000 := by omega
theorem oz1527 {a0 : Int} (h0 : (0 : Int) ≤ a0) (h1 : (a0 + 4) ≤ 900) : ((0 : Int) ≤ a0) ∧ (a0 ≤ 999) := by omega
theorem oz1528 {a0 : Int} (h0 : (0 : Int) ≤ a0) (h1 : (a0 + 2) ≤ 900) : ((0 : Int) ≤ a0) ∧ (a0 ≤ 999) := by omega
theorem oz1529 {a0 : Int} (h0 : (0 : Int) ≤ a0) (h1 : (a0 + 1) ≤ 900) : ((0 : Int) ≤ a0) ∧ (a0 ≤ 999) := by omega
theorem oz1530 {a0 a1 : Int} (h0 : (0 : Int) ≤ a0) (h1 : (a1 + 2) ≤ 900) (h2 : a0 = (a1 + 1)) : ((0 : Int) ≤ a0) ∧ ((a0 + 1) ≤ 900) := by omega
theorem oz1531 {a0 a1 a2 : Int} (h0 : a0 = (a1 + 1)) (h1 : a2 = (a0 + 1)) : a2 = (a1 + 2) := by omega
theorem oz1532 {a0 a1 : Int} (h0 : (0 : Int) ≤ a0) (h1 : (a1 + 4) ≤ 900) (h2 : a0 = (a1 + 1)) : ((0 : Int) ≤ a0) ∧ ((a0 + 2) ≤ 900) := by omega
theorem oz1533 {a0 a1 a2 : Int} (h0 : a0 = 0) (h1 : (0 : Int) ≤ a1) (h2 : a2 = a0) (h3 : a1 = a2) : a1 = 0 := by omega
theorem oz1534 {a0 a1 a2 : Int} (h0 : (0 : Int) ≤ a0) (h1 : (a1 + 4) ≤ 900) (h2 : a2 = (a1 + 1)) (h3 : a0 = (a2 + 2)) : ((0 : Int) ≤ a0) ∧ ((a0 + 1) ≤ 900) := by omega
theorem oz1535 {a0 a1 a2 a3 : Int} (h0 : a0 = (a1 + 1)) (h1 : a2 = (a3 + 1)) (h2 : a1 = (a2 + 2)) : a0 = (a3 + 4) := by omega
theorem oz1536 {a0 a1 a2 a3 a4 : Int} (h0 : a0 ≤ 50) (h1 : a1 = a0 - a2) (h2 : a3 ≤ a4) (h3 : a4 ≤ a1) (h4 : a2 = 1) (h5 : a3 = 0) : ((0 : Int) ≤ a4) ∧ (a4 ≤ 49) := by omega
theorem oz1537 {a0 : Int} (h0 : (0 : Int) ≤ a0) (h1 : (a0 + 5) ≤ 900) : ((0 : Int) ≤ a0) ∧ (a0 ≤ 999) := by omega
theorem oz1538 {a0 : Int} (h0 : (0 : Int) ≤ a0) (h1 : (a0 + 3) ≤ 900) : ((0 : Int) ≤ a0) ∧ (a0 ≤ 999) := by omega
theorem oz1539 {a0 a1 : Int} (h0 : (0 : Int) ≤ a0) (h1 : (a1 + 3) ≤ 900) (h2 : a0 = (a1 + 1)) : ((0 : Int) ≤ a0) ∧ ((a0 + 2) ≤ 900) := by omega
theorem oz1540 {a0 a1 a2 : Int} (h0 : a0 = (a1 + 1)) (h1 : a2 = (a0 + 2)) : a2 = (a1 + 3) := by omega
theorem oz1541 {a0 : Int} (h0 : (0 : Int) ≤ a0) (h1 : (a0 + 3) ≤ 900) : ((0 : Int) ≤ a0) ∧ ((a0 + 3) ≤ 900) := by omega
theorem oz1542 {a0 a1 : Int} (h0 : a0 = (a1 + 3)) : a0 = (a1 + 3) := by omega
theorem oz1543 {a0 a1 : Int} (h0 : (0 : Int) ≤ a0) (h1 : (a1 + 5) ≤ 900) (h2 : a0 = (a1 + 1)) : ((0 : Int) ≤ a0) ∧ ((a0 + 3) ≤ 900) := by omega
theorem oz1544 {a0 a1 a2 : Int} (h0 : a0 = 1) (h1 : a1 = a0) (h2 : a2 = a1) : a2 = 1 := by omega
theorem oz1545 {a0 a1 a2 : Int} (h0 : (0 : Int) ≤ a0) (h1 : (a1 + 5) ≤ 900) (h2 : a2 = (a1 + 1)) (h3 : a0 = (a2 + 3)) : ((0 : Int) ≤ a0) ∧ ((a0 + 1) ≤ 900) := by omega
theorem oz1546 {a0 a1 a2 a3 : Int} (h0 : a0 = (a1 + 1)) (h1 : a2 = (a3 + 1)) (h2 : a1 = (a2 + 3)) : a0 = (a3 + 5) := by omega
theorem oz1547 {a0 : Int} (h0 : (0 : Int) ≤ a0) (h1 : (a0 + 5) ≤ 900) : ((0 : Int) ≤ a0) ∧ ((a0 + 5) ≤ 900) := by omega
theorem oz1548 {a0 a1 : Int} (h0 : a0 = (a1 + 5)) : a0 = (a1 + 5) := by omega
theorem oz1549 {a0 a1 a2 : Int} (h0 : a0 = 2) (h1 : a1 = a0) (h2 : a2 = a1) : a2 = 2 := by omega
theorem oz1550 {a0 : Int} (h0 : (0 : Int) ≤ a0) (h1 : (a0 + 7) ≤ 900) : ((0 : Int) ≤ a0) ∧ (a0 ≤ 999) := by omega
theorem oz1551 {a0 a1 : Int} (h0 : (0 : Int) ≤ a0) (h1 : (a1 + 4) ≤ 900) (h2 : a0 = (a1 + 1)) : ((0 : Int) ≤ a0) ∧ ((a0 + 3) ≤ 900) := by omega
theorem oz1552 {a0 a1 a2 : Int} (h0 : a0 = (a1 + 1)) (h1 : a2 = (a0 + 3)) : a2 = (a1 + 4) := by omega
theorem oz1553 {a0 a1 : Int} (h0 : (0 : Int) ≤ a0) (h1 : (a1 + 7) ≤ 900) (h2 : a0 = (a1 + 1)) : ((0 : Int) ≤ a0) ∧ ((a0 + 4) ≤ 900) := by omega
theorem oz1554 {a0 a1 a2 : Int} (h0 : a0 = 3) (h1 : a1 = a0) (h2 : a2 = a1) : a2 = 3 := by omega
theorem oz1555 {a0 a1 a2 : Int} (h0 : (0 : Int) ≤ a0) (h1 : (a1 + 7) ≤ 900) (h2 : a2 = (a1 + 1)) (h3 : a0 = (a2 + 4)) : ((0 : Int) ≤ a0) ∧ ((a0 + 2) ≤ 900) := by omega
theorem oz1556 {a0 a1 a2 a3 : Int} (h0 : a0 = (a1 + 2)) (h1 : a2 = (a3 + 1)) (h2 : a1 = (a2 + 4)) : a0 = (a3 + 7) := by omega
theorem oz1557 {a0 : Int} (h0 : (0 : Int) ≤ a0) (h1 : (a0 + 7) ≤ 900) : ((0 : Int) ≤ a0) ∧ ((a0 + 7) ≤ 900) := by omega
theorem oz1558 {a0 a1 : Int} (h0 : a0 = (a1 + 7)) : a0 = (a1 + 7) := by omega
theorem oz1559 {a0 : Int} (h0 : (0 : Int) ≤ a0) (h1 : (a0 + 8) ≤ 900) : ((0 : Int) ≤ a0) ∧ (a0 ≤ 999) := by omega
theorem oz1560 {a0 a1 : Int} (h0 : (0 : Int) ≤ a0) (h1 : (a1 + 8) ≤ 900) (h2 : a0 = (a1 + 1)) : ((0 : Int) ≤ a0) ∧ ((a0 + 3) ≤ 900) := by omega
theorem oz1561 {a0 a1 : Int} (h0 : (0 : Int) ≤ a0) (h1 : (a1 + 4) ≤ 900) (h2 : a0 = (a1 + 1)) : ((0 : Int) ≤ a0) ∧ ((a0 + 1) ≤ 900) := by omega
theorem oz1562 {a0 a1 a2 : Int} (h0 : (0 : Int) ≤ a0) (h1 : (a1 + 4) ≤ 900) (h2 : a2 = (a1 + 1)) (h3 : a0 = (a2 + 1)) : ((0 : Int) ≤ a0) ∧ ((a0 + 2) ≤ 900) := by omega
theorem oz1563 {a0 a1 a2 a3 : Int} (h0 : a0 = (a1 + 2)) (h1 : a2 = (a3 + 1)) (h2 : a1 = (a2 + 1)) : a0 = (a3 + 4) := by omega
theorem oz1564 {a0 a1 a2 : Int} (h0 : (0 : Int) ≤ a0) (h1 : (a1 + 8) ≤ 900) (h2 : a2 = (a1 + 1)) (h3 : a0 = (a2 + 3)) : ((0 : Int) ≤ a0) ∧ ((a0 + 4) ≤ 900) := by omega
theorem oz1565 {a0 a1 a2 a3 : Int} (h0 : a0 = (a1 + 4)) (h1 : a2 = (a3 + 1)) (h2 : a1 = (a2 + 3)) : a0 = (a3 + 8) := by omega
theorem oz1566 {a0 : Int} (h0 : (0 : Int) ≤ a0) (h1 : (a0 + 8) ≤ 900) : ((0 : Int) ≤ a0) ∧ ((a0 + 8) ≤ 900) := by omega
theorem oz1567 {a0 a1 : Int} (h0 : a0 = (a1 + 8)) : a0 = (a1 + 8) := by omega
theorem oz1568 {a0 : Int} (h0 : (0 : Int) ≤ a0) (h1 : (a0 + 4) ≤ 900) : ((0 : Int) ≤ a0) ∧ ((a0 + 4) ≤ 900) := by omega
theorem oz1569 {a0 a1 : Int} (h0 : a0 = (a1 + 4)) : a0 = (a1 + 4) := by omega
theorem oz1570 {a0 a1 a2 : Int} (h0 : a0 = 5) (h1 : a1 = a0) (h2 : a2 = a1) : a2 = 5 := by omega
theorem oz1571 {a0 a1 : Int} (h0 : (0 : Int) ≤ a0) (h1 : (a1 + 8) ≤ 900) (h2 : a0 = (a1 + 1)) : ((0 : Int) ≤ a0) ∧ ((a0 + 7) ≤ 900) := by omega
theorem oz1572 {a0 a1 a2 : Int} (h0 : a0 = (a1 + 1)) (h1 : a2 = (a0 + 7)) : a2 = (a1 + 8) := by omega
theorem oz1573 {a0 a1 a2 : Int} (h0 : a0 = 6) (h1 : a1 = a0) (h2 : a2 = a1) : a2 = 6 := by omega
theorem oz1574 {a0 : Int} (h0 : (0 : Int) ≤ a0) (h1 : (a0 + 14) ≤ 900) : ((0 : Int) ≤ a0) ∧ (a0 ≤ 999) := by omega
theorem oz1575 {a0 : Int} (h0 : (0 : Int) ≤ a0) (h1 : (a0 + 13) ≤ 900) : ((0 : Int) ≤ a0) ∧ (a0 ≤ 999) := by omega
theorem oz1576 {a0 a1 : Int} (h0 : (0 : Int) ≤ a0) (h1 : (a1 + 13) ≤ 900) (h2 : a0 = (a1 + 1)) : ((0 : Int) ≤ a0) ∧ ((a0 + 8) ≤ 900) := by omega
theorem oz1577 {a0 a1 a2 : Int} (h0 : (0 : Int) ≤ a0) (h1 : (a1 + 13) ≤ 900) (h2 : a2 = (a1 + 1)) (h3 : a0 = (a2 + 8)) : ((0 : Int) ≤ a0) ∧ ((a0 + 4) ≤ 900) := by omega
theorem oz1578 {a0 a1 a2 a3 : Int} (h0 : a0 = (a1 + 4)) (h1 : a2 = (a3 + 1)) (h2 : a1 = (a2 + 8)) : a0 = (a3 + 13) := by omega
theorem oz1579 {a0 : Int} (h0 : (0 : Int) ≤ a0) (h1 : (a0 + 13) ≤ 900) : ((0 : Int) ≤ a0) ∧ ((a0 + 13) ≤ 900) := by omega
theorem oz1580 {a0 a1 : Int} (h0 : a0 = (a1 + 13)) : a0 = (a1 + 13) := by omega
theorem oz1581 {a0 a1 : Int} (h0 : (0 : Int) ≤ a0) (h1 : (a1 + 14) ≤ 900) (h2 : a0 = (a1 + 1)) : ((0 : Int) ≤ a0) ∧ ((a0 + 13) ≤ 900) := by omega
theorem oz1582 {a0 a1 a2 : Int} (h0 : a0 = (a1 + 1)) (h1 : a2 = (a0 + 13)) : a2 = (a1 + 14) := by omega
theorem oz1583 {a0 : Int} (h0 : (0 : Int) ≤ a0) (h1 : a0 ≤ 7) (h2 : ¬ (a0 = 0)) (h3 : ¬ (a0 = 1)) (h4 : ¬ (a0 = 2)) (h5 : ¬ (a0 = 3)) (h6 : ¬ (a0 = 4)) (h7 : ¬ (a0 = 5)) (h8 : ¬ (a0 = 6)) (h9 : ¬ (a0 = 7)) : False := by omega
theorem oz1584 {a0 : Int} (h0 : (0 : Int) ≤ a0) (h1 : a0 ≤ 7) (h2 : ¬ (a0 = 5)) (h3 : ¬ (a0 = 6)) (h4 : ¬ (a0 = 7)) (h5 : ¬ (a0 = 0)) (h6 : ¬ (a0 = 1)) (h7 : ¬ (a0 = 2)) (h8 : ¬ (a0 = 3)) (h9 : ¬ (a0 = 4)) : False := by omega
