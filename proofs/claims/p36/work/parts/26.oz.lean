/-! LINEAR LEMMAS, by program: what callers need of numbers -/
theorem knm3 : ((-3) : Int32).toInt = (-3) := by decide
theorem knm1 : ((-1) : Int32).toInt = (-1) := by decide
theorem kn0 : (0 : Int32).toInt = 0 := by decide
theorem kn1 : (1 : Int32).toInt = 1 := by decide
theorem kn2 : (2 : Int32).toInt = 2 := by decide
theorem kn3 : (3 : Int32).toInt = 3 := by decide
theorem kn4 : (4 : Int32).toInt = 4 := by decide
theorem kn5 : (5 : Int32).toInt = 5 := by decide
theorem kn6 : (6 : Int32).toInt = 6 := by decide
theorem kn7 : (7 : Int32).toInt = 7 := by decide
theorem kn8 : (8 : Int32).toInt = 8 := by decide
theorem kn10 : (10 : Int32).toInt = 10 := by decide
theorem kn33 : (33 : Int32).toInt = 33 := by decide
theorem kn37 : (37 : Int32).toInt = 37 := by decide
theorem kn38 : (38 : Int32).toInt = 38 := by decide
theorem kn42 : (42 : Int32).toInt = 42 := by decide
theorem kn43 : (43 : Int32).toInt = 43 := by decide
theorem kn45 : (45 : Int32).toInt = 45 := by decide
theorem kn47 : (47 : Int32).toInt = 47 := by decide
theorem kn48 : (48 : Int32).toInt = 48 := by decide
theorem kn50 : (50 : Int32).toInt = 50 := by decide
theorem kn57 : (57 : Int32).toInt = 57 := by decide
theorem kn60 : (60 : Int32).toInt = 60 := by decide
theorem kn61 : (61 : Int32).toInt = 61 := by decide
theorem kn62 : (62 : Int32).toInt = 62 := by decide
theorem kn99 : (99 : Int32).toInt = 99 := by decide
theorem kn121 : (121 : Int32).toInt = 121 := by decide
theorem kn124 : (124 : Int32).toInt = 124 := by decide
theorem kn126 : (126 : Int32).toInt = 126 := by decide
theorem kn999 : (999 : Int32).toInt = 999 := by decide
theorem oz0 {a0 a1 a2 : Int} (h0 : a0 < a1) : ¬ ((a1 ≤ a0) ∧ (a0 ≤ a2)) := by omega
theorem oz1 {a0 a1 a2 : Int} (h0 : a0 < a1) : ¬ ((a2 ≤ a1) ∧ (a1 ≤ a0)) := by omega
theorem oz2 {a0 a1 a2 : Int} (h0 : a0 ≤ a1) (h1 : a1 ≤ a2) : (a0 ≤ a1) ∧ (a1 ≤ a2) := by omega
theorem oz3 {a0 a1 a2 : Int} (h0 : a0 ≤ a1) (h1 : a1 ≤ a2) (h2 : a0 = 0) (h3 : a2 = 5) : ((0 : Int) ≤ a1) ∧ (a1 ≤ 5) := by omega
theorem oz4 {a0 a1 a2 : Int} (h0 : ¬ ((a0 ≤ a1) ∧ (a1 ≤ a2))) (h1 : a0 = 0) (h2 : a2 = 5) : ¬ (((0 : Int) ≤ a1) ∧ (a1 ≤ 5)) := by omega
theorem oz5 {a0 a1 a2 : Int} (h0 : a0 < a1) (h1 : a1 = 0) : ¬ (((0 : Int) ≤ a0) ∧ (a0 < a2)) := by omega
theorem oz6 {a0 a1 : Int} (h0 : a0 ≤ a1) : ¬ (((0 : Int) ≤ a1) ∧ (a1 < a0)) := by omega
theorem oz7 {a0 a1 a2 : Int} (h0 : a0 < a1) (h1 : a2 ≤ a0) (h2 : a1 ≤ 8) (h3 : a2 = 8) : False := by omega
theorem oz8 {a0 a1 a2 : Int} (h0 : a0 ≤ a1) (h1 : a1 < a2) (h2 : a0 = 0) : ((0 : Int) ≤ a1) ∧ (a1 < a2) := by omega
theorem oz9 {a0 a1 : Int} (h0 : (0 : Int) ≤ a0) (h1 : a0 < a1) : ((0 : Int) ≤ a0) ∧ (a0 < a1) := by omega
theorem oz10 {a0 a1 : Int} (h0 : ¬ (((0 : Int) ≤ a0) ∧ (a0 < a1))) : ¬ (((0 : Int) ≤ a0) ∧ (a0 < a1)) := by omega
theorem oz11 {a0 a1 : Int} (h0 : (0 : Int) ≤ a0) (h1 : a1 = 1) : (-2147483648 : Int) ≤ a0 - a1 := by omega
theorem oz12 {a0 a1 : Int} (h0 : a0 ≤ 8) (h1 : a1 = 1) : a0 - a1 ≤ 2147483647 := by omega
theorem oz13 {a0 a1 a2 a3 a4 : Int} (h0 : a0 = a1 - a2) (h1 : a3 ≤ a4) (h2 : a4 ≤ a0) (h3 : a2 = 1) (h4 : a3 = 0) : ((0 : Int) ≤ a4) ∧ (a4 < a1) := by omega
theorem oz14 {a0 a1 a2 a3 a4 : Int} (h0 : a0 = a1 - a2) (h1 : ¬ ((a3 ≤ a4) ∧ (a4 ≤ a0))) (h2 : a2 = 1) (h3 : a3 = 0) : ¬ (((0 : Int) ≤ a4) ∧ (a4 < a1)) := by omega
theorem oz15 {a0 a1 : Int} (h0 : a0 < a1) (h1 : a1 = 0) : ¬ (((0 : Int) ≤ a0) ∧ (((0 : Int) ≤ (a0 / 10)) ∧ ((a0 / 10) ≤ 5)) ∧ ((a0 % 10) ≤ 5)) := by omega
theorem oz16 {a0 a1 : Int} (h0 : a0 ≤ a1) (h1 : a0 = 0) : (0 : Int) ≤ a1 := by omega
theorem oz17 {a0 a1 a2 a3 : Int} (h0 : a0 ≤ a1) (h1 : a2 = (a1 / 10)) (h2 : a3 = (a1 % 10)) (h3 : (0 : Int) ≤ a2) (h4 : a2 ≤ 5) (h5 : a3 ≤ 5) (h6 : a0 = 0) : ((0 : Int) ≤ a1) ∧ (((0 : Int) ≤ (a1 / 10)) ∧ ((a1 / 10) ≤ 5)) ∧ ((a1 % 10) ≤ 5) := by omega
theorem oz18 {a0 a1 : Int} (h0 : a0 = (a1 % 10)) (h1 : ¬ (((0 : Int) ≤ a0) ∧ (a0 ≤ 5))) : ¬ (((0 : Int) ≤ a1) ∧ (((0 : Int) ≤ (a1 / 10)) ∧ ((a1 / 10) ≤ 5)) ∧ ((a1 % 10) ≤ 5)) := by omega
theorem oz19 {a0 a1 a2 : Int} (h0 : a0 ≤ a1) (h1 : a2 = (a1 / 10)) (h2 : ¬ (((0 : Int) ≤ a2) ∧ (a2 ≤ 5))) (h3 : a0 = 0) : ¬ (((0 : Int) ≤ a1) ∧ (((0 : Int) ≤ (a1 / 10)) ∧ ((a1 / 10) ≤ 5)) ∧ ((a1 % 10) ≤ 5)) := by omega
theorem oz20 {a0 a1 a2 : Int} (h0 : a0 < a1) (h1 : a1 = 0) : ¬ (((0 : Int) ≤ a0) ∧ (((a0 / 10) < a2) ∧ ((a0 % 10) < a2)) ∧ ((a0 / 10) ≠ (a0 % 10))) := by omega
theorem oz21 {a0 a1 a2 a3 : Int} (h0 : a0 = a1) (h1 : a0 = (a2 / 10)) (h2 : a1 = (a2 % 10)) : ¬ (((0 : Int) ≤ a2) ∧ (((a2 / 10) < a3) ∧ ((a2 % 10) < a3)) ∧ ((a2 / 10) ≠ (a2 % 10))) := by omega
theorem oz22 {a0 a1 a2 a3 a4 : Int} (h0 : a0 ≠ a1) (h1 : a2 ≤ a3) (h2 : a0 = (a3 / 10)) (h3 : a1 = (a3 % 10)) (h4 : a0 < a4) (h5 : a1 < a4) (h6 : a2 = 0) : ((0 : Int) ≤ a3) ∧ (((a3 / 10) < a4) ∧ ((a3 % 10) < a4)) ∧ ((a3 / 10) ≠ (a3 % 10)) := by omega
theorem oz23 {a0 a1 a2 : Int} (h0 : a0 = (a1 % 10)) (h1 : ¬ (((0 : Int) ≤ a0) ∧ (a0 < a2))) : ¬ (((0 : Int) ≤ a1) ∧ (((a1 / 10) < a2) ∧ ((a1 % 10) < a2)) ∧ ((a1 / 10) ≠ (a1 % 10))) := by omega
theorem oz24 {a0 a1 a2 a3 : Int} (h0 : a0 ≤ a1) (h1 : a2 = (a1 / 10)) (h2 : ¬ (((0 : Int) ≤ a2) ∧ (a2 < a3))) (h3 : a0 = 0) : ¬ (((0 : Int) ≤ a1) ∧ (((a1 / 10) < a3) ∧ ((a1 % 10) < a3)) ∧ ((a1 / 10) ≠ (a1 % 10))) := by omega
theorem oz25 {a0 a1 a2 a3 : Int} (h0 : a0 < a1) (h1 : a1 = 0) : ¬ ((((0 : Int) ≤ a0) ∧ (a0 ≤ 3) ∧ ((0 : Int) ≤ a2) ∧ (a2 < a3)) ∨ (((4 : Int) ≤ a0) ∧ (a0 ≤ 6) ∧ (a2 = 0))) := by omega
theorem oz26 {a0 a1 a2 : Int} (h0 : a0 < a1) (h1 : a2 ≤ a0) (h2 : a1 = 0) (h3 : a2 = 4) : False := by omega
theorem oz27 {a0 a1 : Int} (h0 : a0 ≤ a1) (h1 : a1 < a0) (h2 : a0 = 4) : False := by omega
theorem oz28 {a0 a1 a2 a3 : Int} (h0 : a0 < a1) (h1 : a0 = 6) : ¬ ((((0 : Int) ≤ a1) ∧ (a1 ≤ 3) ∧ ((0 : Int) ≤ a2) ∧ (a2 < a3)) ∨ (((4 : Int) ≤ a1) ∧ (a1 ≤ 6) ∧ (a2 = 0))) := by omega
theorem oz29 {a0 a1 a2 a3 a4 : Int} (h0 : a0 ≠ a1) (h1 : a2 ≤ a3) (h2 : a1 = 0) (h3 : a2 = 4) : ¬ ((((0 : Int) ≤ a3) ∧ (a3 ≤ 3) ∧ ((0 : Int) ≤ a0) ∧ (a0 < a4)) ∨ (((4 : Int) ≤ a3) ∧ (a3 ≤ 6) ∧ (a0 = 0))) := by omega
theorem oz30 {a0 a1 a2 a3 a4 a5 : Int} (h0 : a0 = a1) (h1 : a2 ≤ a3) (h2 : a3 ≤ a4) (h3 : a1 = 0) (h4 : a2 = 4) (h5 : a4 = 6) : (((0 : Int) ≤ a3) ∧ (a3 ≤ 3) ∧ ((0 : Int) ≤ a0) ∧ (a0 < a5)) ∨ (((4 : Int) ≤ a3) ∧ (a3 ≤ 6) ∧ (a0 = 0)) := by omega
theorem oz31 {a0 a1 a2 a3 a4 : Int} (h0 : a0 < a1) (h1 : a2 ≤ a0) (h2 : (0 : Int) ≤ a3) (h3 : a3 < a4) (h4 : a1 = 4) (h5 : a2 = 0) : (((0 : Int) ≤ a0) ∧ (a0 ≤ 3) ∧ ((0 : Int) ≤ a3) ∧ (a3 < a4)) ∨ (((4 : Int) ≤ a0) ∧ (a0 ≤ 6) ∧ (a3 = 0)) := by omega
theorem oz32 {a0 a1 a2 a3 : Int} (h0 : a0 < a1) (h1 : ¬ (((0 : Int) ≤ a2) ∧ (a2 < a3))) (h2 : a1 = 4) : ¬ ((((0 : Int) ≤ a0) ∧ (a0 ≤ 3) ∧ ((0 : Int) ≤ a2) ∧ (a2 < a3)) ∨ (((4 : Int) ≤ a0) ∧ (a0 ≤ 6) ∧ (a2 = 0))) := by omega
theorem oz33 {a0 a1 : Int} (h0 : a0 < a1) (h1 : a1 ≤ a0) (h2 : a1 = 4) : False := by omega
theorem oz34 {a0 a1 : Int} (h0 : a0 ≤ a1) (h1 : a1 = 6) : a0 < 7 := by omega
theorem oz35 {a0 a1 a2 : Int} (h0 : a0 ≤ a1) (h1 : a1 ≤ a2) (h2 : a0 = 0) (h3 : a2 = 6) : ((0 : Int) ≤ a1) ∧ (a1 ≤ 6) := by omega
theorem oz36 {a0 a1 a2 : Int} (h0 : a0 < a1) (h1 : a2 ≤ a0) (h2 : a1 ≤ 50) (h3 : a2 = 50) : False := by omega
theorem oz37 {a0 a1 a2 a3 : Int} (h0 : a0 ≠ a1) (h1 : a0 ≤ 2) (h2 : a1 = 2) : ¬ ((a0 = 2) ∧ (a2 = a3)) := by omega
theorem oz38 {a0 a1 a2 : Int} (h0 : a0 ≠ a1) : ¬ ((a2 = 2) ∧ (a0 = a1)) := by omega
theorem oz39 {a0 a1 a2 a3 : Int} (h0 : a0 = a1) (h1 : a2 = a3) (h2 : a0 ≤ 2) (h3 : a1 = 2) : (a0 = 2) ∧ (a2 = a3) := by omega
theorem oz40 {a0 a1 a2 a3 : Int} (h0 : a0 < a1) (h1 : a1 = 0) : ¬ (((0 : Int) ≤ a0) ∧ (a0 ≤ a2) ∧ ((0 : Int) ≤ a3) ∧ ((a3 + a0) ≤ a2)) := by omega
theorem oz41 {a0 a1 a2 : Int} (h0 : a0 < a1) : ¬ (((0 : Int) ≤ a1) ∧ (a1 ≤ a0) ∧ ((0 : Int) ≤ a2) ∧ ((a2 + a1) ≤ a0)) := by omega
theorem oz42 {a0 a1 a2 a3 : Int} (h0 : a0 < a1) (h1 : a1 = 0) : ¬ (((0 : Int) ≤ a2) ∧ (a2 ≤ a3) ∧ ((0 : Int) ≤ a0) ∧ ((a0 + a2) ≤ a3)) := by omega
theorem oz43 {a0 a1 : Int} (h0 : a0 ≤ a1) : (-2147483648 : Int) ≤ a1 - a0 := by omega
theorem oz44 {a0 a1 a2 : Int} (h0 : a0 ≤ a1) (h1 : a2 ≤ 60) (h2 : a0 = 0) : a2 - a1 ≤ 2147483647 := by omega
theorem oz45 {a0 a1 a2 a3 : Int} (h0 : a0 < a1) (h1 : a0 = a2 - a3) : ¬ (((0 : Int) ≤ a3) ∧ (a3 ≤ a2) ∧ ((0 : Int) ≤ a1) ∧ ((a1 + a3) ≤ a2)) := by omega
theorem oz46 {a0 a1 a2 a3 a4 : Int} (h0 : a0 ≤ a1) (h1 : a1 ≤ a2) (h2 : a0 ≤ a3) (h3 : a3 ≤ a4) (h4 : a4 = a2 - a1) (h5 : a0 = 0) : ((0 : Int) ≤ a1) ∧ (a1 ≤ a2) ∧ ((0 : Int) ≤ a3) ∧ ((a3 + a1) ≤ a2) := by omega
theorem oz47 {a0 a1 : Int} (h0 : a0 < a1) (h1 : a1 = 48) : ¬ (((48 : Int) ≤ a0) ∧ (a0 ≤ 57)) := by omega
theorem oz48 {a0 a1 : Int} (h0 : a0 < a1) (h1 : a0 = 57) : ¬ (((48 : Int) ≤ a1) ∧ (a1 ≤ 57)) := by omega
theorem oz49 {a0 a1 a2 : Int} (h0 : a0 ≤ a1) (h1 : a1 ≤ a2) (h2 : a0 = 48) (h3 : a2 = 57) : ((48 : Int) ≤ a1) ∧ (a1 ≤ 57) := by omega
theorem oz50 {a0 : Int} (h0 : (0 : Int) ≤ a0) : (0 : Int) ≤ a0 := by omega
theorem oz51 {a0 a1 : Int} (h0 : a0 < a1) (h1 : a1 = 8) : a0 < 8 := by omega
theorem oz52 {a0 a1 : Int} (h0 : (0 : Int) ≤ a0) (h1 : a1 = 1) : (-2147483648 : Int) ≤ a0 + a1 := by omega
theorem oz53 {a0 a1 : Int} (h0 : a0 ≤ 8) (h1 : a1 = 1) : a0 + a1 ≤ 2147483647 := by omega
theorem oz54 {a0 a1 a2 : Int} (h0 : (0 : Int) ≤ a0) (h1 : a1 = a0 + a2) (h2 : a2 = 1) : (0 : Int) ≤ a1 := by omega
theorem oz55 {a0 a1 a2 a3 : Int} (h0 : a0 < a1) (h1 : a2 = a0 + a3) (h2 : a1 = 8) (h3 : a3 = 1) : a2 ≤ 8 := by omega
theorem oz56 {a0 a1 a2 : Int} (h0 : (0 : Int) ≤ a0) (h1 : a1 = a0 + a2) (h2 : a2 = 1) : (-2147483648 : Int) ≤ a1 - a2 := by omega
theorem oz57 {a0 a1 a2 : Int} (h0 : a0 ≤ 8) (h1 : a1 = a0 + a2) (h2 : a2 = 1) : a1 - a2 ≤ 2147483647 := by omega
theorem oz58 {a0 : Int} (h0 : ¬ (a0 = 4)) (h1 : ¬ (a0 = 5)) (h2 : ¬ (a0 = 6)) : a0 < 4 ∨ 6 < a0 := by omega
theorem oz59 {a0 : Int} (h0 : ¬ (a0 = 0)) (h1 : ¬ (a0 = 1)) (h2 : ¬ (a0 = 2)) : a0 < 0 ∨ 2 < a0 := by omega
theorem oz60 {a0 a1 : Int} (h0 : a0 ≤ 8) (h1 : a1 < a0) : a1 < 8 := by omega
theorem oz61 {a0 : Int} (h0 : a0 = 3) : (0 : Int) ≤ a0 := by omega
theorem oz62 {a0 : Int} (h0 : a0 = 3) : a0 < 5 := by omega
theorem oz63 {a0 a1 a2 : Int} (h0 : a0 < a1) (h1 : a1 = 8) (h2 : a2 = 1) : a0 + a2 ≤ 2147483647 := by omega
theorem oz64 {a0 a1 a2 : Int} (h0 : a0 = a1 + a2) (h1 : a2 = 1) : (8 - a0) < (8 - a1) := by omega
theorem oz65 {a0 a1 : Int} (h0 : a0 < a1) (h1 : a1 = 8) : (1 : Int) ≤ (8 - a0) := by omega
theorem oz66 {a0 : Int} (h0 : a0 = 0) : (0 : Int) ≤ a0 := by omega
theorem oz67 {a0 a1 : Int} (h0 : a0 < a1) (h1 : a1 = 5) : a0 < 5 := by omega
theorem oz68 {a0 a1 : Int} (h0 : a0 ≤ 5) (h1 : a1 = 1) : a0 + a1 ≤ 2147483647 := by omega
theorem oz69 {a0 a1 a2 a3 : Int} (h0 : a0 < a1) (h1 : a2 = a0 + a3) (h2 : a1 = 5) (h3 : a3 = 1) : a2 ≤ 5 := by omega
theorem oz70 {a0 a1 a2 : Int} (h0 : a0 < a1) (h1 : a0 = 0) (h2 : a2 = 1) : (-2147483648 : Int) ≤ a1 - a2 := by omega
theorem oz71 {a0 a1 : Int} (h0 : a0 ≤ 5) (h1 : a1 = 1) : a0 - a1 ≤ 2147483647 := by omega
theorem oz72 {a0 a1 a2 a3 : Int} (h0 : a0 < a1) (h1 : a2 = a1 - a3) (h2 : a0 = 0) (h3 : a3 = 1) : (0 : Int) ≤ a2 := by omega
theorem oz73 {a0 a1 a2 : Int} (h0 : a0 ≤ 5) (h1 : a1 = a0 - a2) (h2 : a2 = 1) : a1 ≤ 5 := by omega
theorem oz74 {a0 : Int} (h0 : a0 = 1) : (0 : Int) ≤ a0 := by omega
theorem oz75 {a0 a1 a2 : Int} (h0 : a0 ≤ 5) (h1 : a1 = a0 - a2) (h2 : a2 = 1) : a2 + a1 ≤ 5 := by omega
theorem oz76 {a0 a1 a2 a3 : Int} (h0 : a0 ≤ 5) (h1 : a1 = a0 - a2) (h2 : a2 = 1) (h3 : a3 = 0) : a3 + a1 ≤ 5 := by omega
theorem oz77 {a0 : Int} (h0 : a0 = 5) : (0 : Int) ≤ a0 := by omega
theorem oz78 {a0 a1 : Int} (h0 : a0 = 0) (h1 : a1 = 5) : a0 + a1 ≤ 5 := by omega
theorem oz79 {a0 : Int} (h0 : a0 ≤ 5) : a0 ≤ 5 := by omega
theorem oz80 {a0 a1 : Int} (h0 : a0 < a1) (h1 : a1 = 121) : a0 < 121 := by omega
theorem oz81 {a0 a1 : Int} (h0 : a0 ≤ 121) (h1 : a1 = 1) : a0 + a1 ≤ 2147483647 := by omega
theorem oz82 {a0 a1 a2 a3 : Int} (h0 : a0 < a1) (h1 : a2 = a0 + a3) (h2 : a1 = 121) (h3 : a3 = 1) : a2 ≤ 121 := by omega
theorem oz83 {a0 a1 : Int} (h0 : a0 ≤ 121) (h1 : a1 = 1) : a0 - a1 ≤ 2147483647 := by omega
theorem oz84 {a0 a1 a2 : Int} (h0 : a0 ≤ 121) (h1 : a1 = a0 - a2) (h2 : a2 = 1) : a1 ≤ 121 := by omega
theorem oz85 {a0 a1 a2 : Int} (h0 : a0 ≤ 121) (h1 : a1 = a0 - a2) (h2 : a2 = 1) : a1 < 121 := by omega
theorem oz86 {a0 a1 a2 : Int} (h0 : a0 ≤ a1) (h1 : a0 = 121) (h2 : a2 = 1) : (-2147483648 : Int) ≤ a1 - a2 := by omega
theorem oz87 {a0 a1 a2 : Int} (h0 : a0 ≤ 121) (h1 : a1 = a0 + a2) (h2 : a2 = 1) : a1 - a2 ≤ 2147483647 := by omega
theorem oz88 {a0 a1 : Int} (h0 : a0 < a1) (h1 : a1 ≤ 121) : a0 < 121 := by omega
theorem oz89 {a0 : Int} (h0 : a0 = 0) : a0 ≤ 1 := by omega
theorem oz90 {a0 : Int} (h0 : a0 = 0) : a0 ≤ 121 := by omega
theorem oz91 {a0 a1 a2 a3 : Int} (h0 : a0 ≤ a1) (h1 : a2 = a3 ∨ a2 = a0) (h2 : a1 = 8) (h3 : a3 = 0) : a3 + a2 ≤ 8 := by omega
theorem oz92 {a0 : Int} (h0 : a0 ≤ 8) : a0 ≤ 8 := by omega
theorem oz93 {a0 : Int} (h0 : a0 = 8) : (0 : Int) ≤ a0 := by omega
theorem oz94 {a0 a1 : Int} (h0 : a0 = 0) (h1 : a1 = 8) : a0 + a1 ≤ 8 := by omega
theorem oz95 {a0 a1 : Int} (h0 : a0 < a1) (h1 : (0 : Int) ≤ a0) (h2 : a1 = 8) : (0 : Int) ≤ a0 ∧ a0 < 8 := by omega
theorem oz96 {a0 a1 : Int} (h0 : a0 < a1) (h1 : (0 : Int) ≤ a0) (h2 : a1 = 8) : ((0 : Int) ≤ a0) ∧ (a0 ≤ 7) := by omega
theorem oz97 {a0 a1 : Int} (h0 : a0 < a1) (h1 : a0 = 1) (h2 : a1 = 8) : ((0 : Int) ≤ a0) ∧ (a0 ≤ 7) := by omega
theorem oz98 {a0 a1 : Int} (h0 : a0 < a1) (h1 : a0 = 2) (h2 : a1 = 8) : ((0 : Int) ≤ a0) ∧ (a0 ≤ 7) := by omega
theorem oz99 {a0 a1 : Int} (h0 : a0 < a1) (h1 : a0 = 3) (h2 : a1 = 8) : ((0 : Int) ≤ a0) ∧ (a0 ≤ 7) := by omega
theorem oz100 {a0 a1 : Int} (h0 : a0 < a1) (h1 : a0 = 4) (h2 : a1 = 8) : ((0 : Int) ≤ a0) ∧ (a0 ≤ 7) := by omega
theorem oz101 {a0 a1 : Int} (h0 : a0 < a1) (h1 : a0 = 5) (h2 : a1 = 8) : ((0 : Int) ≤ a0) ∧ (a0 ≤ 7) := by omega
theorem oz102 {a0 a1 : Int} (h0 : a0 < a1) (h1 : a0 = 6) (h2 : a1 = 8) : ((0 : Int) ≤ a0) ∧ (a0 ≤ 7) := by omega
theorem oz103 {a0 a1 : Int} (h0 : a0 < a1) (h1 : a0 = 7) (h2 : a1 = 8) : ((0 : Int) ≤ a0) ∧ (a0 ≤ 7) := by omega
theorem oz104 {a0 a1 : Int} (h0 : a0 < a1) (h1 : (0 : Int) ≤ a0) (h2 : ¬ (a0 = 0)) (h3 : ¬ (a0 = 1)) (h4 : ¬ (a0 = 2)) (h5 : ¬ (a0 = 3)) (h6 : ¬ (a0 = 4)) (h7 : ¬ (a0 = 5)) (h8 : ¬ (a0 = 6)) (h9 : ¬ (a0 = 7)) (h10 : a1 = 8) : False := by omega
theorem oz105 {a0 a1 : Int} (h0 : a0 ≤ a1) (h1 : a1 = 4) : a0 < 5 := by omega
theorem oz106 {a0 a1 a2 : Int} (h0 : a0 ≤ a1) (h1 : a1 = 4) (h2 : a2 = 1) : a0 + a2 ≤ 2147483647 := by omega
theorem oz107 {a0 a1 a2 : Int} (h0 : a0 = a1 + a2) (h1 : a2 = 1) : (5 - a0) < (5 - a1) := by omega
theorem oz108 {a0 a1 : Int} (h0 : a0 ≤ a1) (h1 : a1 = 4) : (1 : Int) ≤ (5 - a0) := by omega
theorem oz109 {a0 : Int} (h0 : a0 = 0) : ((0 : Int) ≤ a0) ∧ (a0 ≤ 7) := by omega
theorem oz110 {a0 a1 : Int} (h0 : a0 < a1) (h1 : a0 = 0) : (-2147483648 : Int) ≤ a1 * 4 := by omega
theorem oz111 {a0 a1 : Int} (h0 : a0 < a1) (h1 : a1 = 8) : a0 * 4 ≤ 2147483647 := by omega
theorem oz112 {a0 a1 a2 a3 : Int} (h0 : a0 < a1) (h1 : (0 : Int) ≤ a2) (h2 : a3 = a1 * 4) (h3 : a0 = 0) : (-2147483648 : Int) ≤ a3 + a2 := by omega
theorem oz113 {a0 a1 a2 a3 : Int} (h0 : a0 < a1) (h1 : a2 ≤ 3) (h2 : a3 = a0 * 4) (h3 : a1 = 8) : a3 + a2 ≤ 2147483647 := by omega
theorem oz114 {a0 a1 a2 a3 a4 : Int} (h0 : a0 < a1) (h1 : (0 : Int) ≤ a2) (h2 : a3 = a1 * 4) (h3 : a4 = a3 + a2) (h4 : a0 = 0) : (0 : Int) ≤ a4 := by omega
theorem oz115 {a0 a1 a2 a3 a4 : Int} (h0 : a0 < a1) (h1 : a2 ≤ 3) (h2 : a3 = a0 * 4) (h3 : a4 = a3 + a2) (h4 : a1 = 8) : a4 < 32 := by omega
theorem oz116 {a0 a1 : Int} (h0 : a0 < a1) (h1 : a0 = 0) : (0 : Int) ≤ a1 := by omega
theorem oz117 {a0 a1 a2 : Int} (h0 : a0 < a1) (h1 : a1 < a2) (h2 : a0 = 0) (h3 : a2 = 8) : ((0 : Int) ≤ a1) ∧ (a1 ≤ 7) := by omega
theorem oz118 {a0 a1 : Int} (h0 : a0 < a1) (h1 : a1 = 50) : a0 < 50 := by omega
theorem oz119 {a0 : Int} (h0 : a0 ≤ 7) : a0 ≤ 7 := by omega
theorem oz120 {a0 a1 : Int} (h0 : a0 ≤ 50) (h1 : a1 = 1) : a0 + a1 ≤ 2147483647 := by omega
theorem oz121 {a0 a1 a2 a3 : Int} (h0 : a0 < a1) (h1 : a2 = a0 + a3) (h2 : a1 = 50) (h3 : a3 = 1) : a2 ≤ 50 := by omega
theorem oz122 {a0 a1 a2 : Int} (h0 : a0 ≤ 50) (h1 : a1 = a0 + a2) (h2 : a2 = 1) : a1 - a2 ≤ 2147483647 := by omega
theorem oz123 {a0 a1 a2 : Int} (h0 : a0 ≤ a1) (h1 : a0 = 0) (h2 : a2 = 1) : (-2147483648 : Int) ≤ a1 + a2 := by omega
theorem oz124 {a0 a1 a2 : Int} (h0 : a0 < a1) (h1 : a1 ≤ 121) (h2 : a2 = 1) : a0 + a2 ≤ 2147483647 := by omega
theorem oz125 {a0 a1 a2 : Int} (h0 : a0 < a1) (h1 : a1 = 121) (h2 : a2 = 1) : a0 + a2 ≤ 2147483647 := by omega
theorem oz126 {a0 a1 a2 : Int} (h0 : a0 = a1 + a2) (h1 : a2 = 1) : (121 - a0) < (121 - a1) := by omega
theorem oz127 {a0 a1 : Int} (h0 : a0 < a1) (h1 : a1 = 121) : (1 : Int) ≤ (121 - a0) := by omega
theorem oz128 {a0 a1 : Int} (h0 : a0 < a1) (h1 : a1 = 6) : a0 < 6 := by omega
theorem oz129 {a0 a1 : Int} (h0 : a0 ≠ a1) (h1 : a1 = 0) : a0 ≠ 0 := by omega
theorem oz130 {a0 : Int} (h0 : a0 ≤ 7) : a0 < 8 := by omega
theorem oz131 {a0 : Int} (h0 : a0 = 0) : a0 < 6 := by omega
theorem oz132 {a0 : Int} (h0 : a0 = 1) : a0 < 6 := by omega
theorem oz133 {a0 : Int} (h0 : a0 = 2) : (0 : Int) ≤ a0 := by omega
theorem oz134 {a0 : Int} (h0 : a0 = 2) : a0 < 6 := by omega
theorem oz135 {a0 : Int} (h0 : a0 = 3) : a0 < 6 := by omega
theorem oz136 {a0 : Int} (h0 : a0 = 4) : (0 : Int) ≤ a0 := by omega
theorem oz137 {a0 : Int} (h0 : a0 = 4) : a0 < 6 := by omega
theorem oz138 {a0 : Int} (h0 : a0 = 5) : a0 < 6 := by omega
theorem oz139 {a0 a1 : Int} (h0 : a0 ≤ 8) (h1 : (0 : Int) ≤ a1) (h2 : a1 < a0) : ((0 : Int) ≤ a1) ∧ (a1 ≤ 7) := by omega
theorem oz140 {a0 : Int} (h0 : a0 = 0) : a0 < 5 := by omega
theorem oz141 {a0 : Int} (h0 : a0 = 1) : a0 < 5 := by omega
theorem oz142 {a0 a1 a2 a3 a4 : Int} (h0 : (-2147483648 : Int) ≤ a0) (h1 : a1 = a2) (h2 : a3 = a1) (h3 : a4 = a3) (h4 : a2 = 0) : (-2147483648 : Int) ≤ a0 + a4 := by omega
theorem oz143 {a0 a1 a2 a3 a4 : Int} (h0 : a0 ≤ 2147483647) (h1 : a1 = a2) (h2 : a3 = a1) (h3 : a4 = a3) (h4 : a2 = 0) : a0 + a4 ≤ 2147483647 := by omega
theorem oz144 {a0 : Int} (h0 : a0 = 2) : a0 < 5 := by omega
theorem oz145 {a0 a1 : Int} (h0 : a0 ≤ 8) (h1 : (0 : Int) ≤ a1) (h2 : a1 < a0) : (0 : Int) ≤ a1 ∧ a1 < 8 := by omega
theorem oz146 {a0 a1 : Int} (h0 : a0 ≤ 8) (h1 : ¬ (a1 = 0)) (h2 : ¬ (a1 = 1)) (h3 : ¬ (a1 = 2)) (h4 : ¬ (a1 = 3)) (h5 : ¬ (a1 = 4)) (h6 : ¬ (a1 = 5)) (h7 : ¬ (a1 = 6)) (h8 : ¬ (a1 = 7)) (h9 : (0 : Int) ≤ a1) (h10 : a1 < a0) : False := by omega
theorem oz147 {a0 a1 a2 : Int} (h0 : a0 < a1) (h1 : a1 = 5) (h2 : a2 = 1) : a0 + a2 ≤ 2147483647 := by omega
theorem oz148 {a0 a1 : Int} (h0 : a0 < a1) (h1 : a1 = 5) : (1 : Int) ≤ (5 - a0) := by omega
