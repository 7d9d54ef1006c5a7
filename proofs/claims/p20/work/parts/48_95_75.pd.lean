theorem kop0 : (0 : Int32).toInt = 0 := by decide
theorem kopm1 : ((-1) : Int32).toInt = (-1) := by decide
theorem kop1 : (1 : Int32).toInt = 1 := by decide
theorem kop4 : (4 : Int32).toInt = 4 := by decide
theorem kop121 : (121 : Int32).toInt = 121 := by decide
theorem kop6 : (6 : Int32).toInt = 6 := by decide
theorem kop255 : (255 : Int32).toInt = 255 := by decide
theorem kop119 : (119 : Int32).toInt = 119 := by decide
theorem kop112 : (112 : Int32).toInt = 112 := by decide
theorem kop2 : (2 : Int32).toInt = 2 := by decide
theorem kop104 : (104 : Int32).toInt = 104 := by decide
theorem kop3 : (3 : Int32).toInt = 3 := by decide
theorem kop110 : (110 : Int32).toInt = 110 := by decide
theorem kop111 : (111 : Int32).toInt = 111 := by decide
theorem kop5 : (5 : Int32).toInt = 5 := by decide
theorem kop100 : (100 : Int32).toInt = 100 := by decide
theorem kop40 : (40 : Int32).toInt = 40 := by decide
theorem kop33 : (33 : Int32).toInt = 33 := by decide
theorem kop45 : (45 : Int32).toInt = 45 := by decide
theorem kop41 : (41 : Int32).toInt = 41 := by decide
theorem kop42 : (42 : Int32).toInt = 42 := by decide
theorem kop47 : (47 : Int32).toInt = 47 := by decide
theorem kop37 : (37 : Int32).toInt = 37 := by decide
theorem kop43 : (43 : Int32).toInt = 43 := by decide
theorem kop60 : (60 : Int32).toInt = 60 := by decide
theorem kop61 : (61 : Int32).toInt = 61 := by decide
theorem kop62 : (62 : Int32).toInt = 62 := by decide
theorem kop38 : (38 : Int32).toInt = 38 := by decide
theorem kop124 : (124 : Int32).toInt = 124 := by decide
theorem kop63 : (63 : Int32).toInt = 63 := by decide
theorem kop59 : (59 : Int32).toInt = 59 := by decide
theorem op0 {a0 a1 a2 a3 : Int} (h0 : a0 = (-1)) : (((-1) : Int) ≤ a0) ∧ (a0 ≤ 255) ∧ ((a0 = (-1)) ∨ ((a1 = 0) ∧ (a2 < a3))) := by omega
theorem op1 {a0 a1 a2 a3 : Int} (h0 : a0 ≠ a1) (h1 : (0 : Int) ≤ a0) (h2 : a1 = 0) : ¬ (a0 = 0 ∧ a2 < a3) := by omega
theorem op2 {a0 a1 : Int} (h0 : a0 < a1) (h1 : (0 : Int) ≤ a0) (h2 : a1 = 0) : False := oz905 h0 h1 h2
theorem op3 {a0 a1 a2 a3 : Int} (h0 : a0 ≤ a1) (h1 : a0 = a2) : ¬ (a3 = 0 ∧ a1 < a2) := by omega
theorem op4 {a0 : Int} (h0 : (0 : Int) ≤ a0) : (0 : Int) ≤ a0 := oz3 h0
theorem op5 {a0 a1 : Int} (h0 : a0 < a1) (h1 : a1 ≤ 120) : a0 < 120 := oz702 h0 h1
theorem op6 {a0 a1 a2 a3 a4 : Int} (h0 : a0 = a1) (h1 : a2 < a3) (h2 : (0 : Int) ≤ a0) (h3 : (0 : Int) ≤ a4) (h4 : a4 ≤ 255) (h5 : a1 = 0) : (((-1) : Int) ≤ a4) ∧ (a4 ≤ 255) ∧ ((a4 = (-1)) ∨ ((a0 = 0) ∧ (a2 < a3))) := by omega
theorem op7 {a0 a1 : Int} (h0 : a0 = a1) (h1 : (0 : Int) ≤ a0) (h2 : a1 = 0) : a0 = 0 := od48 h0 h1 h2
theorem op8 {a0 a1 a2 : Int} (h0 : a0 < a1) (h1 : a1 = a2) : a0 < a2 := od20 h0 h1
theorem op12 {a0 a1 : Int} (h0 : a0 ≤ a1) (h1 : a0 = 4) : 4 ≤ a1 := by omega
theorem op13 {a0 a1 a2 : Int} (h0 : a0 ≤ a1) (h1 : a0 = 121) (h2 : a2 = 1) : (-2147483648 : Int) ≤ a1 - a2 := oz910 h0 h1 h2
theorem op14 {a0 a1 : Int} (h0 : a0 ≤ 121) (h1 : a1 = 1) : a0 - a1 ≤ 2147483647 := oz911 h0 h1
theorem op15 {a0 a1 : Int} (h0 : a0 ≤ a1) (h1 : a0 = 121) : ((a1 ≤ 120) ∧ (a1 = (a1 + 1))) ∨ (((121 : Int) ≤ a1) ∧ (a1 = a1)) := od9 h0 h1
theorem op16 {a0 a1 : Int} (h0 : a0 ≤ a1) (h1 : a0 = 121) : ¬ (a1 ≤ 120) := od10 h0 h1
theorem op17 {a0 a1 : Int} (h0 : a0 < a1) (h1 : a1 = 121) : a0 < 121 := oz912 h0 h1
theorem op18 {a0 a1 : Int} (h0 : (0 : Int) ≤ a0) (h1 : a1 = 1) : (-2147483648 : Int) ≤ a0 + a1 := oz12 h0 h1
theorem op19 {a0 a1 : Int} (h0 : a0 ≤ 121) (h1 : a1 = 1) : a0 + a1 ≤ 2147483647 := oz913 h0 h1
theorem op20 {a0 a1 a2 : Int} (h0 : (0 : Int) ≤ a0) (h1 : a1 = a0 + a2) (h2 : a2 = 1) : (0 : Int) ≤ a1 := oz14 h0 h1 h2
theorem op21 {a0 a1 a2 a3 : Int} (h0 : a0 < a1) (h1 : a2 = a0 + a3) (h2 : a1 = 121) (h3 : a3 = 1) : a2 ≤ 121 := oz914 h0 h1 h2 h3
theorem op22 {a0 a1 a2 : Int} (h0 : (0 : Int) ≤ a0) (h1 : a1 = a0 + a2) (h2 : a2 = 1) : (-2147483648 : Int) ≤ a1 - a2 := oz915 h0 h1 h2
theorem op23 {a0 a1 a2 : Int} (h0 : a0 ≤ 121) (h1 : a1 = a0 + a2) (h2 : a2 = 1) : a1 - a2 ≤ 2147483647 := oz916 h0 h1 h2
theorem op24 {a0 a1 a2 a3 : Int} (h0 : a0 < a1) (h1 : a2 = a0 + a3) (h2 : a1 = 121) (h3 : a3 = 1) : ((a0 ≤ 120) ∧ (a2 = (a0 + 1))) ∨ (((121 : Int) ≤ a0) ∧ (a2 = a0)) := od17 h0 h1 h2 h3
theorem op25 {a0 a1 : Int} (h0 : a0 < a1) (h1 : a1 = 121) : a0 ≤ 120 := od18 h0 h1
theorem op26 {a0 a1 : Int} (h0 : a0 ≤ 120) (h1 : a1 = 1) : a0 + a1 ≤ 2147483647 := oz192 h0 h1
theorem op27 {a0 a1 a2 a3 a4 a5 : Int} (h0 : a0 ≤ 120) (h1 : a1 = a2 + a3) (h2 : (a4 = (-1)) ∨ ((a5 = 0) ∧ (a2 < a0))) (h3 : (48 : Int) ≤ a4) (h4 : a3 = 1) : a1 ≤ 120 := by omega
theorem op28 {a0 a1 a2 : Int} (h0 : a0 < a1) (h1 : a1 = 4) (h2 : a2 = 1) : a0 + a2 ≤ 2147483647 := oz717 h0 h1 h2
theorem op29 {a0 a1 : Int} (h0 : a0 < a1) (h1 : a1 = 4) : a0 < 4 := by omega
theorem op30 {a0 a1 a2 : Int} (h0 : a0 = a1 + a2) (h1 : a2 = 1) : a0 = a1 + 1 := oz169 h0 h1
theorem op31 {a0 a1 : Int} (h0 : a0 = a1) (h1 : (48 : Int) ≤ a0) : 48 ≤ a1 := by omega
theorem op32 {a0 a1 : Int} (h0 : a0 = a1) (h1 : a0 ≤ 57) : a1 ≤ 57 := by omega
theorem op33 {a0 a1 a2 : Int} (h0 : a0 = a1 + a2) (h1 : a2 = 1) : (4 - a0) < (4 - a1) := oz723 h0 h1
theorem op34 {a0 a1 : Int} (h0 : a0 < a1) (h1 : a1 = 4) : (1 : Int) ≤ (4 - a0) := oz724 h0 h1
theorem op35 {a0 a1 : Int} (h0 : a0 = a1) (h1 : ¬ (((48 : Int) ≤ a0) ∧ (a0 ≤ 57))) : ¬ (48 ≤ a1 ∧ a1 ≤ 57) := by omega
theorem op36 {a0 : Int} (h0 : a0 = 0) : (0 : Int) ≤ a0 := oz46 h0
theorem op37 {a0 a1 a2 a3 : Int} (h0 : a0 = (-1)) : ((a0 = (-1)) ∧ (a1 = a1)) ∨ ((a1 = (a1 + 1)) ∧ (a1 < a2) ∧ (a3 = 0) ∧ ((a0 = 119) ∨ (a0 = 112) ∨ (a0 = 104) ∨ (a0 = 110) ∨ (a0 = 111) ∨ (a0 = 100))) := by omega
theorem op38 {a0 a1 a2 : Int} (h0 : a0 = a1) (h1 : a0 = a2) (h2 : a1 = (-1)) : ¬ (a2 = 119 ∨ a2 = 112 ∨ a2 = 104 ∨ a2 = 110 ∨ a2 = 111 ∨ a2 = 100) := by omega
theorem op39 {a0 a1 : Int} (h0 : a0 ≠ a1) (h1 : ((-1) : Int) ≤ a0) (h2 : a1 = (-1)) : (0 : Int) ≤ a0 := by omega
theorem op40 {a0 : Int} (h0 : a0 ≤ 255) : a0 ≤ 255 := oz661 h0
theorem op41 {a0 : Int} (h0 : a0 = 0) : a0 = 0 := oz236 h0
theorem op42 {a0 : Int} (h0 : a0 = 6) : a0 = 6 := oz1484 h0
theorem op43 {a0 a1 : Int} (h0 : a0 < a1) (h1 : a1 = 0) : ¬ (((0 : Int) ≤ a0) ∧ (a0 ≤ 255)) := by omega
theorem op44 {a0 a1 : Int} (h0 : a0 < a1) (h1 : a0 = 255) : ¬ (((0 : Int) ≤ a1) ∧ (a1 ≤ 255)) := by omega
theorem op45 {a0 a1 a2 : Int} (h0 : a0 ≤ a1) (h1 : a1 ≤ a2) (h2 : a0 = 0) (h3 : a2 = 255) : ((0 : Int) ≤ a1) ∧ (a1 ≤ 255) := by omega
theorem op46 {a0 a1 a2 a3 a4 a5 a6 a7 a8 : Int} (h0 : a0 ≠ a1) (h1 : a2 ≠ a1) (h2 : a3 ≠ a1) (h3 : a4 ≠ a1) (h4 : a5 ≠ a1) (h5 : a6 ≠ a1) (h6 : (a7 ≤ 127 → a1 = a7)) (h7 : a0 = 119) (h8 : a2 = 112) (h9 : a3 = 104) (h10 : a4 = 110) (h11 : a5 = 111) (h12 : a6 = 100) (h13 : a8 = (-1)) : (((-1) : Int) ≤ a8) ∧ (a8 ≤ 5) ∧ (((a7 = 119) → (a8 = 0))) ∧ (((a7 = 112) → (a8 = 1))) ∧ (((a7 = 104) → (a8 = 2))) ∧ (((a7 = 110) → (a8 = 3))) ∧ (((a7 = 111) → (a8 = 4))) ∧ (((a7 = 100) → (a8 = 5))) ∧ (((a8 = 0) → (a7 = 119))) ∧ (((a8 = 1) → (a7 = 112))) ∧ (((a8 = 2) → (a7 = 104))) ∧ (((a8 = 3) → (a7 = 110))) ∧ (((a8 = 4) → (a7 = 111))) ∧ (((a8 = 5) → (a7 = 100))) ∧ ((a8 = (-1)) ∨ (a7 = 119) ∨ (a7 = 112) ∨ (a7 = 104) ∨ (a7 = 110) ∨ (a7 = 111) ∨ (a7 = 100)) := ⟨by omega, by omega, by omega, by omega, by omega, by omega, by omega, by omega, by omega, by omega, by omega, by omega, by omega, by omega, by omega⟩
theorem op47 {a0 a1 a2 a3 : Int} (h0 : a0 = a1) (h1 : a2 ≤ 255) (h2 : (a2 ≤ 127 → a1 = a2)) (h3 : (128 ≤ a2 → a1 = a2 - 256)) (h4 : a0 = 100) (h5 : a3 = 5) : (((-1) : Int) ≤ a3) ∧ (a3 ≤ 5) ∧ (((a2 = 119) → (a3 = 0))) ∧ (((a2 = 112) → (a3 = 1))) ∧ (((a2 = 104) → (a3 = 2))) ∧ (((a2 = 110) → (a3 = 3))) ∧ (((a2 = 111) → (a3 = 4))) ∧ (((a2 = 100) → (a3 = 5))) ∧ (((a3 = 0) → (a2 = 119))) ∧ (((a3 = 1) → (a2 = 112))) ∧ (((a3 = 2) → (a2 = 104))) ∧ (((a3 = 3) → (a2 = 110))) ∧ (((a3 = 4) → (a2 = 111))) ∧ (((a3 = 5) → (a2 = 100))) ∧ ((a3 = (-1)) ∨ (a2 = 119) ∨ (a2 = 112) ∨ (a2 = 104) ∨ (a2 = 110) ∨ (a2 = 111) ∨ (a2 = 100)) := ⟨by omega, by omega, by omega, by omega, by omega, by omega, by omega, by omega, by omega, by omega, by omega, by omega, by omega, by omega, by omega⟩
theorem op48 {a0 a1 a2 a3 : Int} (h0 : a0 = a1) (h1 : a2 ≤ 255) (h2 : (a2 ≤ 127 → a1 = a2)) (h3 : (128 ≤ a2 → a1 = a2 - 256)) (h4 : a0 = 111) (h5 : a3 = 4) : (((-1) : Int) ≤ a3) ∧ (a3 ≤ 5) ∧ (((a2 = 119) → (a3 = 0))) ∧ (((a2 = 112) → (a3 = 1))) ∧ (((a2 = 104) → (a3 = 2))) ∧ (((a2 = 110) → (a3 = 3))) ∧ (((a2 = 111) → (a3 = 4))) ∧ (((a2 = 100) → (a3 = 5))) ∧ (((a3 = 0) → (a2 = 119))) ∧ (((a3 = 1) → (a2 = 112))) ∧ (((a3 = 2) → (a2 = 104))) ∧ (((a3 = 3) → (a2 = 110))) ∧ (((a3 = 4) → (a2 = 111))) ∧ (((a3 = 5) → (a2 = 100))) ∧ ((a3 = (-1)) ∨ (a2 = 119) ∨ (a2 = 112) ∨ (a2 = 104) ∨ (a2 = 110) ∨ (a2 = 111) ∨ (a2 = 100)) := ⟨by omega, by omega, by omega, by omega, by omega, by omega, by omega, by omega, by omega, by omega, by omega, by omega, by omega, by omega, by omega⟩
theorem op49 {a0 a1 a2 a3 : Int} (h0 : a0 = a1) (h1 : a2 ≤ 255) (h2 : (a2 ≤ 127 → a1 = a2)) (h3 : (128 ≤ a2 → a1 = a2 - 256)) (h4 : a0 = 110) (h5 : a3 = 3) : (((-1) : Int) ≤ a3) ∧ (a3 ≤ 5) ∧ (((a2 = 119) → (a3 = 0))) ∧ (((a2 = 112) → (a3 = 1))) ∧ (((a2 = 104) → (a3 = 2))) ∧ (((a2 = 110) → (a3 = 3))) ∧ (((a2 = 111) → (a3 = 4))) ∧ (((a2 = 100) → (a3 = 5))) ∧ (((a3 = 0) → (a2 = 119))) ∧ (((a3 = 1) → (a2 = 112))) ∧ (((a3 = 2) → (a2 = 104))) ∧ (((a3 = 3) → (a2 = 110))) ∧ (((a3 = 4) → (a2 = 111))) ∧ (((a3 = 5) → (a2 = 100))) ∧ ((a3 = (-1)) ∨ (a2 = 119) ∨ (a2 = 112) ∨ (a2 = 104) ∨ (a2 = 110) ∨ (a2 = 111) ∨ (a2 = 100)) := ⟨by omega, by omega, by omega, by omega, by omega, by omega, by omega, by omega, by omega, by omega, by omega, by omega, by omega, by omega, by omega⟩
theorem op50 {a0 a1 a2 a3 : Int} (h0 : a0 = a1) (h1 : a2 ≤ 255) (h2 : (a2 ≤ 127 → a1 = a2)) (h3 : (128 ≤ a2 → a1 = a2 - 256)) (h4 : a0 = 104) (h5 : a3 = 2) : (((-1) : Int) ≤ a3) ∧ (a3 ≤ 5) ∧ (((a2 = 119) → (a3 = 0))) ∧ (((a2 = 112) → (a3 = 1))) ∧ (((a2 = 104) → (a3 = 2))) ∧ (((a2 = 110) → (a3 = 3))) ∧ (((a2 = 111) → (a3 = 4))) ∧ (((a2 = 100) → (a3 = 5))) ∧ (((a3 = 0) → (a2 = 119))) ∧ (((a3 = 1) → (a2 = 112))) ∧ (((a3 = 2) → (a2 = 104))) ∧ (((a3 = 3) → (a2 = 110))) ∧ (((a3 = 4) → (a2 = 111))) ∧ (((a3 = 5) → (a2 = 100))) ∧ ((a3 = (-1)) ∨ (a2 = 119) ∨ (a2 = 112) ∨ (a2 = 104) ∨ (a2 = 110) ∨ (a2 = 111) ∨ (a2 = 100)) := ⟨by omega, by omega, by omega, by omega, by omega, by omega, by omega, by omega, by omega, by omega, by omega, by omega, by omega, by omega, by omega⟩
theorem op51 {a0 a1 a2 a3 : Int} (h0 : a0 = a1) (h1 : a2 ≤ 255) (h2 : (a2 ≤ 127 → a1 = a2)) (h3 : (128 ≤ a2 → a1 = a2 - 256)) (h4 : a0 = 112) (h5 : a3 = 1) : (((-1) : Int) ≤ a3) ∧ (a3 ≤ 5) ∧ (((a2 = 119) → (a3 = 0))) ∧ (((a2 = 112) → (a3 = 1))) ∧ (((a2 = 104) → (a3 = 2))) ∧ (((a2 = 110) → (a3 = 3))) ∧ (((a2 = 111) → (a3 = 4))) ∧ (((a2 = 100) → (a3 = 5))) ∧ (((a3 = 0) → (a2 = 119))) ∧ (((a3 = 1) → (a2 = 112))) ∧ (((a3 = 2) → (a2 = 104))) ∧ (((a3 = 3) → (a2 = 110))) ∧ (((a3 = 4) → (a2 = 111))) ∧ (((a3 = 5) → (a2 = 100))) ∧ ((a3 = (-1)) ∨ (a2 = 119) ∨ (a2 = 112) ∨ (a2 = 104) ∨ (a2 = 110) ∨ (a2 = 111) ∨ (a2 = 100)) := ⟨by omega, by omega, by omega, by omega, by omega, by omega, by omega, by omega, by omega, by omega, by omega, by omega, by omega, by omega, by omega⟩
theorem op52 {a0 a1 a2 a3 : Int} (h0 : a0 = a1) (h1 : a2 ≤ 255) (h2 : (a2 ≤ 127 → a1 = a2)) (h3 : (128 ≤ a2 → a1 = a2 - 256)) (h4 : a0 = 119) (h5 : a3 = 0) : (((-1) : Int) ≤ a3) ∧ (a3 ≤ 5) ∧ (((a2 = 119) → (a3 = 0))) ∧ (((a2 = 112) → (a3 = 1))) ∧ (((a2 = 104) → (a3 = 2))) ∧ (((a2 = 110) → (a3 = 3))) ∧ (((a2 = 111) → (a3 = 4))) ∧ (((a2 = 100) → (a3 = 5))) ∧ (((a3 = 0) → (a2 = 119))) ∧ (((a3 = 1) → (a2 = 112))) ∧ (((a3 = 2) → (a2 = 104))) ∧ (((a3 = 3) → (a2 = 110))) ∧ (((a3 = 4) → (a2 = 111))) ∧ (((a3 = 5) → (a2 = 100))) ∧ ((a3 = (-1)) ∨ (a2 = 119) ∨ (a2 = 112) ∨ (a2 = 104) ∨ (a2 = 110) ∨ (a2 = 111) ∨ (a2 = 100)) := ⟨by omega, by omega, by omega, by omega, by omega, by omega, by omega, by omega, by omega, by omega, by omega, by omega, by omega, by omega, by omega⟩
theorem op53 {a0 : Int} (h0 : (0 : Int) ≤ a0) (h1 : a0 ≤ 255) : ((0 : Int) ≤ a0) ∧ (a0 ≤ 255) := oz666 h0 h1
theorem op54 {a0 a1 : Int} (h0 : ((-1) : Int) ≤ a0) (h1 : a0 ≤ 5) (h2 : ((a1 = 119) → (a0 = 0))) (h3 : ((a1 = 112) → (a0 = 1))) (h4 : ((a1 = 104) → (a0 = 2))) (h5 : ((a1 = 110) → (a0 = 3))) (h6 : ((a1 = 111) → (a0 = 4))) (h7 : ((a1 = 100) → (a0 = 5))) (h8 : ((a0 = 0) → (a1 = 119))) (h9 : ((a0 = 1) → (a1 = 112))) (h10 : ((a0 = 2) → (a1 = 104))) (h11 : ((a0 = 3) → (a1 = 110))) (h12 : ((a0 = 4) → (a1 = 111))) (h13 : ((a0 = 5) → (a1 = 100))) (h14 : (a0 = (-1)) ∨ (a1 = 119) ∨ (a1 = 112) ∨ (a1 = 104) ∨ (a1 = 110) ∨ (a1 = 111) ∨ (a1 = 100)) : (((-1) : Int) ≤ a0) ∧ (a0 ≤ 5) ∧ (((a1 = 119) → (a0 = 0))) ∧ (((a1 = 112) → (a0 = 1))) ∧ (((a1 = 104) → (a0 = 2))) ∧ (((a1 = 110) → (a0 = 3))) ∧ (((a1 = 111) → (a0 = 4))) ∧ (((a1 = 100) → (a0 = 5))) ∧ (((a0 = 0) → (a1 = 119))) ∧ (((a0 = 1) → (a1 = 112))) ∧ (((a0 = 2) → (a1 = 104))) ∧ (((a0 = 3) → (a1 = 110))) ∧ (((a0 = 4) → (a1 = 111))) ∧ (((a0 = 5) → (a1 = 100))) ∧ ((a0 = (-1)) ∨ (a1 = 119) ∨ (a1 = 112) ∨ (a1 = 104) ∨ (a1 = 110) ∨ (a1 = 111) ∨ (a1 = 100)) := ⟨h0, h1, h2, h3, h4, h5, h6, h7, h8, h9, h10, h11, h12, h13, h14⟩
theorem op55 {a0 : Int} (h0 : (0 : Int) ≤ a0) (h1 : a0 ≤ 255) (h2 : ¬ (((0 : Int) ≤ a0) ∧ (a0 ≤ 255))) : False := by omega
theorem op56 (h0 : (2 : Int) ≤ 1) : False := by omega
theorem op57 {a0 a1 a2 : Int} (h0 : a0 ≠ a1) (h1 : a2 = a0) (h2 : ((-1) : Int) ≤ a0) (h3 : a0 ≤ 255) (h4 : a1 = (-1)) : ((0 : Int) ≤ a2) ∧ (a2 ≤ 255) := by omega
theorem op58 {a0 a1 a2 a3 a4 a5 a6 : Int} (h0 : a0 ≠ a1) (h1 : a2 ≤ 120) (h2 : a3 = a4 + a5) (h3 : ((-1) : Int) ≤ a0) (h4 : (a0 = (-1)) ∨ ((a6 = 0) ∧ (a4 < a2))) (h5 : a1 = (-1)) (h6 : a5 = 1) : a3 ≤ 120 := by omega
theorem op59 {a0 a1 a2 a3 a4 a5 a6 a7 a8 : Int} (h0 : a0 ≤ a1) (h1 : (0 : Int) ≤ a2) (h2 : a3 = a4 + a5) (h3 : a6 = a7) (h4 : (a1 = (-1)) ∨ (a6 = 119) ∨ (a6 = 112) ∨ (a6 = 104) ∨ (a6 = 110) ∨ (a6 = 111) ∨ (a6 = 100)) (h5 : (a7 = (-1)) ∨ ((a2 = 0) ∧ (a4 < a8))) (h6 : a0 = 0) (h7 : a5 = 1) : ((a7 = (-1)) ∧ (a3 = a4)) ∨ ((a3 = (a4 + 1)) ∧ (a4 < a8) ∧ (a2 = 0) ∧ ((a7 = 119) ∨ (a7 = 112) ∨ (a7 = 104) ∨ (a7 = 110) ∨ (a7 = 111) ∨ (a7 = 100))) := by omega
theorem op60 {a0 a1 a2 a3 a4 : Int} (h0 : a0 ≤ a1) (h1 : a2 = a3) (h2 : a4 = a2) (h3 : (a1 = (-1)) ∨ (a4 = 119) ∨ (a4 = 112) ∨ (a4 = 104) ∨ (a4 = 110) ∨ (a4 = 111) ∨ (a4 = 100)) (h4 : a0 = 0) : a3 = 119 ∨ a3 = 112 ∨ a3 = 104 ∨ a3 = 110 ∨ a3 = 111 ∨ a3 = 100 := by omega
theorem op61 {a0 a1 a2 a3 a4 : Int} (h0 : a0 < a1) (h1 : a2 = a3) (h2 : a4 = a2) (h3 : ((a4 = 119) → (a0 = 0))) (h4 : ((a4 = 112) → (a0 = 1))) (h5 : ((a4 = 104) → (a0 = 2))) (h6 : ((a4 = 110) → (a0 = 3))) (h7 : ((a4 = 111) → (a0 = 4))) (h8 : ((a4 = 100) → (a0 = 5))) (h9 : a1 = 0) : ¬ (a3 = 119 ∨ a3 = 112 ∨ a3 = 104 ∨ a3 = 110 ∨ a3 = 111 ∨ a3 = 100) := by omega
theorem op62 {a0 : Int} (h0 : a0 = 1) : (0 : Int) ≤ a0 := oz246 h0
theorem op63 {a0 : Int} (h0 : a0 = 1) : a0 ≤ 1 := oz558 h0
theorem op64 {a0 a1 : Int} (h0 : a0 = a1) (h1 : a1 = (-1)) : a0 = -1 := by omega
theorem op65 {a0 a1 a2 : Int} (h0 : a0 ≤ a1) (h1 : (a1 + a2) = 6) (h2 : a0 = 6) : a2 ≤ 0 := by omega
theorem op66 {a0 a1 a2 : Int} (h0 : a0 < a1) (h1 : (a0 + a2) = 6) (h2 : a1 = 6) : (1 : Int) ≤ a2 := oz925 h0 h1 h2
theorem op67 {a0 a1 a2 a3 a4 a5 : Int} (h0 : a0 = a1) (h1 : ((a0 = (-1)) ∧ (a2 = a3)) ∨ ((a2 = (a3 + 1)) ∧ (a3 < a4) ∧ (a5 = 0) ∧ ((a0 = 119) ∨ (a0 = 112) ∨ (a0 = 104) ∨ (a0 = 110) ∨ (a0 = 111) ∨ (a0 = 100)))) (h2 : a1 = (-1)) : a2 = a3 := by rcases h1 with ⟨h1_0, h1_1⟩ | ⟨h1_0, h1_1, h1_2, h1_z | h1_z | h1_z | h1_z | h1_z | h1_z⟩ <;> omega
theorem op68 {a0 a1 a2 a3 : Int} (h0 : a0 = (-1)) : ((a0 = (-1)) ∧ (a1 = a1)) ∨ ((a1 = (a1 + 1)) ∧ (a1 < a2) ∧ (a3 = 0) ∧ ((a0 = 40) ∨ (a0 = 33) ∨ (a0 = 45))) := by omega
theorem op69 {a0 a1 a2 : Int} (h0 : a0 = a1) (h1 : a0 = a2) (h2 : a1 = (-1)) : ¬ (a2 = 40 ∨ a2 = 33 ∨ a2 = 45) := by omega
theorem op70 {a0 : Int} (h0 : a0 = 3) : a0 = 3 := oz1421 h0
theorem op71 {a0 a1 a2 a3 a4 a5 : Int} (h0 : a0 ≠ a1) (h1 : a2 ≠ a1) (h2 : a3 ≠ a1) (h3 : (a4 ≤ 127 → a1 = a4)) (h4 : a0 = 40) (h5 : a2 = 33) (h6 : a3 = 45) (h7 : a5 = (-1)) : (((-1) : Int) ≤ a5) ∧ (a5 ≤ 2) ∧ (((a4 = 40) → (a5 = 0))) ∧ (((a4 = 33) → (a5 = 1))) ∧ (((a4 = 45) → (a5 = 2))) ∧ (((a5 = 0) → (a4 = 40))) ∧ (((a5 = 1) → (a4 = 33))) ∧ (((a5 = 2) → (a4 = 45))) ∧ ((a5 = (-1)) ∨ (a4 = 40) ∨ (a4 = 33) ∨ (a4 = 45)) := ⟨by omega, by omega, by omega, by omega, by omega, by omega, by omega, by omega, by omega⟩
theorem op72 {a0 a1 a2 a3 : Int} (h0 : a0 = a1) (h1 : a2 ≤ 255) (h2 : (a2 ≤ 127 → a1 = a2)) (h3 : (128 ≤ a2 → a1 = a2 - 256)) (h4 : a0 = 45) (h5 : a3 = 2) : (((-1) : Int) ≤ a3) ∧ (a3 ≤ 2) ∧ (((a2 = 40) → (a3 = 0))) ∧ (((a2 = 33) → (a3 = 1))) ∧ (((a2 = 45) → (a3 = 2))) ∧ (((a3 = 0) → (a2 = 40))) ∧ (((a3 = 1) → (a2 = 33))) ∧ (((a3 = 2) → (a2 = 45))) ∧ ((a3 = (-1)) ∨ (a2 = 40) ∨ (a2 = 33) ∨ (a2 = 45)) := ⟨by omega, by omega, by omega, by omega, by omega, by omega, by omega, by omega, by omega⟩
theorem op73 {a0 a1 a2 a3 : Int} (h0 : a0 = a1) (h1 : a2 ≤ 255) (h2 : (a2 ≤ 127 → a1 = a2)) (h3 : (128 ≤ a2 → a1 = a2 - 256)) (h4 : a0 = 33) (h5 : a3 = 1) : (((-1) : Int) ≤ a3) ∧ (a3 ≤ 2) ∧ (((a2 = 40) → (a3 = 0))) ∧ (((a2 = 33) → (a3 = 1))) ∧ (((a2 = 45) → (a3 = 2))) ∧ (((a3 = 0) → (a2 = 40))) ∧ (((a3 = 1) → (a2 = 33))) ∧ (((a3 = 2) → (a2 = 45))) ∧ ((a3 = (-1)) ∨ (a2 = 40) ∨ (a2 = 33) ∨ (a2 = 45)) := ⟨by omega, by omega, by omega, by omega, by omega, by omega, by omega, by omega, by omega⟩
theorem op74 {a0 a1 a2 a3 : Int} (h0 : a0 = a1) (h1 : a2 ≤ 255) (h2 : (a2 ≤ 127 → a1 = a2)) (h3 : (128 ≤ a2 → a1 = a2 - 256)) (h4 : a0 = 40) (h5 : a3 = 0) : (((-1) : Int) ≤ a3) ∧ (a3 ≤ 2) ∧ (((a2 = 40) → (a3 = 0))) ∧ (((a2 = 33) → (a3 = 1))) ∧ (((a2 = 45) → (a3 = 2))) ∧ (((a3 = 0) → (a2 = 40))) ∧ (((a3 = 1) → (a2 = 33))) ∧ (((a3 = 2) → (a2 = 45))) ∧ ((a3 = (-1)) ∨ (a2 = 40) ∨ (a2 = 33) ∨ (a2 = 45)) := ⟨by omega, by omega, by omega, by omega, by omega, by omega, by omega, by omega, by omega⟩
theorem op75 {a0 a1 : Int} (h0 : ((-1) : Int) ≤ a0) (h1 : a0 ≤ 2) (h2 : ((a1 = 40) → (a0 = 0))) (h3 : ((a1 = 33) → (a0 = 1))) (h4 : ((a1 = 45) → (a0 = 2))) (h5 : ((a0 = 0) → (a1 = 40))) (h6 : ((a0 = 1) → (a1 = 33))) (h7 : ((a0 = 2) → (a1 = 45))) (h8 : (a0 = (-1)) ∨ (a1 = 40) ∨ (a1 = 33) ∨ (a1 = 45)) : (((-1) : Int) ≤ a0) ∧ (a0 ≤ 2) ∧ (((a1 = 40) → (a0 = 0))) ∧ (((a1 = 33) → (a0 = 1))) ∧ (((a1 = 45) → (a0 = 2))) ∧ (((a0 = 0) → (a1 = 40))) ∧ (((a0 = 1) → (a1 = 33))) ∧ (((a0 = 2) → (a1 = 45))) ∧ ((a0 = (-1)) ∨ (a1 = 40) ∨ (a1 = 33) ∨ (a1 = 45)) := ⟨h0, h1, h2, h3, h4, h5, h6, h7, h8⟩
theorem op76 {a0 a1 a2 a3 a4 a5 a6 a7 a8 a9 : Int} (h0 : a0 ≤ a1) (h1 : a2 ≠ a3) (h2 : (0 : Int) ≤ a4) (h3 : a5 = a6 + a7) (h4 : a8 = a2) (h5 : a1 ≤ 2) (h6 : ((a8 = 40) → (a1 = 0))) (h7 : ((a1 = 0) → (a8 = 40))) (h8 : ((a1 = 1) → (a8 = 33))) (h9 : ((a1 = 2) → (a8 = 45))) (h10 : ((-1) : Int) ≤ a2) (h11 : (a2 = (-1)) ∨ ((a4 = 0) ∧ (a6 < a9))) (h12 : a0 = 0) (h13 : a3 = (-1)) (h14 : a7 = 1) : ((a2 = (-1)) ∧ (a5 = a6)) ∨ ((a5 = (a6 + 1)) ∧ (a6 < a9) ∧ (a4 = 0) ∧ ((a2 = 40) ∨ (a2 = 33) ∨ (a2 = 45))) := by omega
theorem op77 {a0 a1 a2 a3 a4 : Int} (h0 : a0 ≤ a1) (h1 : a2 = a3) (h2 : a4 = a2) (h3 : a1 ≤ 2) (h4 : ((a4 = 40) → (a1 = 0))) (h5 : ((a1 = 0) → (a4 = 40))) (h6 : ((a1 = 1) → (a4 = 33))) (h7 : ((a1 = 2) → (a4 = 45))) (h8 : a0 = 0) : a3 = 40 ∨ a3 = 33 ∨ a3 = 45 := by omega
theorem op78 {a0 a1 a2 a3 a4 : Int} (h0 : a0 < a1) (h1 : a2 = a3) (h2 : a4 = a2) (h3 : ((a4 = 40) → (a0 = 0))) (h4 : ((a4 = 33) → (a0 = 1))) (h5 : ((a4 = 45) → (a0 = 2))) (h6 : a1 = 0) : ¬ (a3 = 40 ∨ a3 = 33 ∨ a3 = 45) := by omega
theorem op79 {a0 a1 a2 : Int} (h0 : (0 : Int) ≤ a0) (h1 : (a1 + a0) = 6) (h2 : a2 = 1) : a1 + a2 ≤ 2147483647 := oz739 h0 h1 h2
theorem op80 {a0 a1 a2 a3 a4 : Int} (h0 : a0 = a1 + 1) (h1 : (0 : Int) ≤ a2) (h2 : (a2 + a0) = 6) (h3 : a3 = a2 + a4) (h4 : a4 = 1) : ((0 : Int) ≤ a3) ∧ ((a3 + a1) = 6) := oz926 h0 h1 h2 h3 h4
theorem op81 {a0 a1 a2 a3 a4 a5 a6 a7 a8 : Int} (h0 : a0 ≠ a1) (h1 : a2 = a3) (h2 : a0 = (-1) ∨ a0 = a2) (h3 : a4 = a3) (h4 : ((a0 = (-1)) ∧ (a5 = a6)) ∨ ((a5 = (a6 + 1)) ∧ (a6 < a7) ∧ (a8 = 0) ∧ ((a0 = 40) ∨ (a0 = 33) ∨ (a0 = 45)))) (h5 : ¬ (((48 : Int) ≤ a4) ∧ (a4 ≤ 57))) (h6 : a1 = (-1)) : ¬ (48 ≤ a3 ∧ a3 ≤ 57) := by rcases h4 with ⟨h4_0, h4_1⟩ | ⟨h4_0, h4_1, h4_2, h4_z | h4_z | h4_z⟩ <;> omega
theorem op82 {a0 a1 a2 a3 a4 : Int} (h0 : a0 ≠ a1) (h1 : a2 = a3) (h2 : a0 = (-1) ∨ a0 = a2) (h3 : a4 = a3) (h4 : ((-1) : Int) ≤ a4) (h5 : a1 = (-1)) : a4 = a0 := by omega
theorem op83 {a0 a1 a2 a3 a4 a5 a6 a7 a8 : Int} (h0 : a0 ≠ a1) (h1 : a2 = a3) (h2 : a4 = (-1) ∨ a4 = a2) (h3 : a0 = a3) (h4 : ((a4 = (-1)) ∧ (a5 = a6)) ∨ ((a5 = (a6 + 1)) ∧ (a6 < a7) ∧ (a8 = 0) ∧ ((a4 = 40) ∨ (a4 = 33) ∨ (a4 = 45)))) (h5 : a1 = 45) : ¬ (a4 = 45) := by rcases h4 with ⟨h4_0, h4_1⟩ | ⟨h4_0, h4_1, h4_2, h4_z | h4_z | h4_z⟩ <;> omega
theorem op84 {a0 a1 a2 a3 a4 a5 : Int} (h0 : a0 ≠ a1) (h1 : ((a0 = (-1)) ∧ (a2 = a3)) ∨ ((a2 = (a3 + 1)) ∧ (a3 < a4) ∧ (a5 = 0) ∧ ((a0 = 40) ∨ (a0 = 33) ∨ (a0 = 45)))) (h2 : a1 = (-1)) : a0 ≠ -1 := by rcases h1 with ⟨h1_0, h1_1⟩ | ⟨h1_0, h1_1, h1_2, h1_z | h1_z | h1_z⟩ <;> omega
theorem op85 {a0 a1 a2 a3 a4 a5 a6 a7 a8 a9 : Int} (h0 : a0 ≠ a1) (h1 : a0 ≠ a2) (h2 : a3 = a4) (h3 : a5 = (-1) ∨ a5 = a3) (h4 : a0 = a4) (h5 : ((a5 = (-1)) ∧ (a6 = a7)) ∨ ((a6 = (a7 + 1)) ∧ (a7 < a8) ∧ (a9 = 0) ∧ ((a5 = 40) ∨ (a5 = 33) ∨ (a5 = 45)))) (h6 : a1 = 40) (h7 : a2 = 45) : a5 ≠ 40 := by rcases h5 with ⟨h5_0, h5_1⟩ | ⟨h5_0, h5_1, h5_2, h5_z | h5_z | h5_z⟩ <;> omega
theorem op86 {a0 a1 a2 : Int} (h0 : a0 = a1) (h1 : a0 = a2) (h2 : a1 = 45) : ¬ (48 ≤ a2 ∧ a2 ≤ 57) := by omega
theorem op87 {a0 a1 a2 a3 a4 a5 a6 a7 a8 a9 : Int} (h0 : a0 ≠ a1) (h1 : a2 = a3) (h2 : a4 = a5) (h3 : a0 = (-1) ∨ a0 = a4) (h4 : a2 = a5) (h5 : ((a0 = (-1)) ∧ (a6 = a7)) ∨ ((a6 = (a7 + 1)) ∧ (a7 < a8) ∧ (a9 = 0) ∧ ((a0 = 40) ∨ (a0 = 33) ∨ (a0 = 45)))) (h6 : a1 = (-1)) (h7 : a3 = 45) : a0 = 45 := by rcases h5 with ⟨h5_0, h5_1⟩ | ⟨h5_0, h5_1, h5_2, h5_z | h5_z | h5_z⟩ <;> omega
theorem op88 {a0 a1 a2 a3 a4 a5 : Int} (h0 : a0 ≠ a1) (h1 : a2 = a3) (h2 : a4 = a5) (h3 : a0 = (-1) ∨ a0 = a4) (h4 : a2 = a5) (h5 : a1 = (-1)) (h6 : a3 = 45) : a0 ≠ 40 := by omega
theorem op89 {a0 a1 a2 a3 a4 a5 a6 : Int} (h0 : a0 = a1) (h1 : a2 ≤ 120) (h2 : (0 : Int) ≤ a1) (h3 : a3 = a4 + a5) (h4 : (a0 = (-1)) ∨ ((a6 = 0) ∧ (a4 < a2))) (h5 : a5 = 1) : a3 ≤ 120 := by omega
theorem op90 {a0 a1 a2 a3 a4 a5 a6 : Int} (h0 : a0 = a1) (h1 : (0 : Int) ≤ a2) (h2 : (0 : Int) ≤ a1) (h3 : a3 = a4 + a5) (h4 : (a0 = (-1)) ∨ ((a2 = 0) ∧ (a4 < a6))) (h5 : a5 = 1) : ((a5 = 1) ∧ (a3 = (a4 + 1)) ∧ (a4 < a6) ∧ (a2 = 0)) ∨ ((a5 = 0) ∧ (a3 = a4)) := by omega
theorem op91 {a0 a1 a2 : Int} (h0 : a0 = a1) (h1 : a0 = a2) : a2 = a1 := ou85 h0 h1
theorem op92 {a0 a1 a2 a3 : Int} (h0 : a0 = 0) : ((a0 = 1) ∧ (a1 = (a1 + 1)) ∧ (a1 < a2) ∧ (a3 = 0)) ∨ ((a0 = 0) ∧ (a1 = a1)) := by omega
theorem op93 {a0 a1 a2 : Int} (h0 : a0 ≠ a1) (h1 : a0 = a2) : ¬ (a2 = a1) := ou86 h0 h1
theorem op94 {a0 : Int} (h0 : a0 = 41) : (0 : Int) ≤ a0 := oz774 h0
theorem op95 {a0 a1 a2 : Int} (h0 : a0 = a1) (h1 : a0 = a2) (h2 : a1 = 40) : ¬ (48 ≤ a2 ∧ a2 ≤ 57) := by omega
theorem op96 {a0 a1 a2 a3 a4 a5 : Int} (h0 : a0 ≠ a1) (h1 : ((a0 = 1) ∧ (a2 = (a3 + 1)) ∧ (a3 < a4) ∧ (a5 = 0)) ∨ ((a0 = 0) ∧ (a2 = a3))) (h2 : a1 = 0) : a0 ≠ 0 := by omega
theorem op97 {a0 a1 a2 a3 a4 a5 a6 a7 a8 a9 : Int} (h0 : a0 ≠ a1) (h1 : a2 = a3) (h2 : a4 = a5) (h3 : a0 = (-1) ∨ a0 = a4) (h4 : a2 = a5) (h5 : ((a0 = (-1)) ∧ (a6 = a7)) ∨ ((a6 = (a7 + 1)) ∧ (a7 < a8) ∧ (a9 = 0) ∧ ((a0 = 40) ∨ (a0 = 33) ∨ (a0 = 45)))) (h6 : a1 = (-1)) (h7 : a3 = 40) : a0 = 40 := by rcases h5 with ⟨h5_0, h5_1⟩ | ⟨h5_0, h5_1, h5_2, h5_z | h5_z | h5_z⟩ <;> omega
theorem op98 {a0 a1 : Int} (h0 : a0 = a1) (h1 : a1 = 0) : a0 = 0 := og41 h0 h1
theorem op99 {a0 a1 a2 a3 a4 a5 : Int} (h0 : a0 ≠ a1) (h1 : ((a0 = (-1)) ∧ (a2 = a3)) ∨ ((a2 = (a3 + 1)) ∧ (a3 < a4) ∧ (a5 = 0) ∧ ((a0 = 119) ∨ (a0 = 112) ∨ (a0 = 104) ∨ (a0 = 110) ∨ (a0 = 111) ∨ (a0 = 100)))) (h2 : a1 = (-1)) : (0 : Int) ≤ a0 := by rcases h1 with ⟨h1_0, h1_1⟩ | ⟨h1_0, h1_1, h1_2, h1_z | h1_z | h1_z | h1_z | h1_z | h1_z⟩ <;> omega
theorem op100 {a0 a1 a2 a3 a4 : Int} (h0 : ((a0 = (-1)) ∧ (a1 = a2)) ∨ ((a1 = (a2 + 1)) ∧ (a2 < a3) ∧ (a4 = 0) ∧ ((a0 = 119) ∨ (a0 = 112) ∨ (a0 = 104) ∨ (a0 = 110) ∨ (a0 = 111) ∨ (a0 = 100)))) : a0 ≤ 255 := by rcases h0 with ⟨h0_0, h0_1⟩ | ⟨h0_0, h0_1, h0_2, h0_z | h0_z | h0_z | h0_z | h0_z | h0_z⟩ <;> omega
theorem op101 {a0 a1 a2 a3 a4 a5 a6 : Int} (h0 : a0 ≠ a1) (h1 : a2 = a0) (h2 : ((a0 = (-1)) ∧ (a3 = a4)) ∨ ((a3 = (a4 + 1)) ∧ (a4 < a5) ∧ (a6 = 0) ∧ ((a0 = 119) ∨ (a0 = 112) ∨ (a0 = 104) ∨ (a0 = 110) ∨ (a0 = 111) ∨ (a0 = 100)))) (h3 : a1 = (-1)) : ((0 : Int) ≤ a2) ∧ (a2 ≤ 255) := by rcases h2 with ⟨h2_0, h2_1⟩ | ⟨h2_0, h2_1, h2_2, h2_z | h2_z | h2_z | h2_z | h2_z | h2_z⟩ <;> omega
theorem op102 {a0 a1 a2 a3 a4 a5 a6 a7 : Int} (h0 : a0 ≠ a1) (h1 : a0 = (-1) ∨ a0 = a2) (h2 : a3 = a2) (h3 : ((a0 = (-1)) ∧ (a4 = a5)) ∨ ((a4 = (a5 + 1)) ∧ (a5 < a6) ∧ (a7 = 0) ∧ ((a0 = 119) ∨ (a0 = 112) ∨ (a0 = 104) ∨ (a0 = 110) ∨ (a0 = 111) ∨ (a0 = 100)))) (h4 : ((-1) : Int) ≤ a3) (h5 : a1 = (-1)) : ¬ (48 ≤ a2 ∧ a2 ≤ 57) := by rcases h3 with ⟨h3_0, h3_1⟩ | ⟨h3_0, h3_1, h3_2, h3_z | h3_z | h3_z | h3_z | h3_z | h3_z⟩ <;> omega
theorem op103 {a0 a1 a2 a3 a4 a5 a6 a7 : Int} (h0 : a0 ≠ a1) (h1 : a2 = a0) (h2 : ((a0 = (-1)) ∧ (a3 = a4)) ∨ ((a3 = (a4 + 1)) ∧ (a4 < a5) ∧ (a6 = 0) ∧ ((a0 = 119) ∨ (a0 = 112) ∨ (a0 = 104) ∨ (a0 = 110) ∨ (a0 = 111) ∨ (a0 = 100)))) (h3 : a7 ≤ 5) (h4 : ((a2 = 119) → (a7 = 0))) (h5 : ((a2 = 112) → (a7 = 1))) (h6 : ((a2 = 104) → (a7 = 2))) (h7 : ((a2 = 110) → (a7 = 3))) (h8 : ((a2 = 111) → (a7 = 4))) (h9 : ((a2 = 100) → (a7 = 5))) (h10 : a1 = (-1)) : (a0 = 119 ∧ a7 = 0) ∨ (a0 = 112 ∧ a7 = 1) ∨ (a0 = 104 ∧ a7 = 2) ∨ (a0 = 110 ∧ a7 = 3) ∨ (a0 = 111 ∧ a7 = 4) ∨ (a0 = 100 ∧ a7 = 5) := by rcases h2 with ⟨h2_0, h2_1⟩ | ⟨h2_0, h2_1, h2_2, h2_z | h2_z | h2_z | h2_z | h2_z | h2_z⟩ <;> omega
theorem op104 {a0 a1 a2 a3 a4 a5 : Int} (h0 : a0 ≠ a1) (h1 : ((a0 = (-1)) ∧ (a2 = a3)) ∨ ((a2 = (a3 + 1)) ∧ (a3 < a4) ∧ (a5 = 0) ∧ ((a0 = 119) ∨ (a0 = 112) ∨ (a0 = 104) ∨ (a0 = 110) ∨ (a0 = 111) ∨ (a0 = 100)))) (h2 : a1 = (-1)) : a0 ≠ -1 := by rcases h1 with ⟨h1_0, h1_1⟩ | ⟨h1_0, h1_1, h1_2, h1_z | h1_z | h1_z | h1_z | h1_z | h1_z⟩ <;> omega
theorem op105 {a0 a1 : Int} (h0 : (0 : Int) ≤ a0) (h1 : (a0 + a1) = 6) : ((0 : Int) ≤ a0) ∧ ((a0 + a1) = 6) := oz928 h0 h1
theorem op106 {a0 a1 a2 a3 : Int} (h0 : a0 = (-1)) : ((a0 = (-1)) ∧ (a1 = a1)) ∨ ((a1 = (a1 + 1)) ∧ (a1 < a2) ∧ (a3 = 0) ∧ ((a0 = 42) ∨ (a0 = 47) ∨ (a0 = 37))) := by omega
theorem op107 {a0 a1 a2 : Int} (h0 : a0 = a1) (h1 : a0 = a2) (h2 : a1 = (-1)) : ¬ (a2 = 42 ∨ a2 = 47 ∨ a2 = 37) := by omega
theorem op108 {a0 a1 a2 a3 a4 a5 : Int} (h0 : a0 ≠ a1) (h1 : a2 ≠ a1) (h2 : a3 ≠ a1) (h3 : (a4 ≤ 127 → a1 = a4)) (h4 : a0 = 42) (h5 : a2 = 47) (h6 : a3 = 37) (h7 : a5 = (-1)) : (((-1) : Int) ≤ a5) ∧ (a5 ≤ 2) ∧ (((a4 = 42) → (a5 = 0))) ∧ (((a4 = 47) → (a5 = 1))) ∧ (((a4 = 37) → (a5 = 2))) ∧ (((a5 = 0) → (a4 = 42))) ∧ (((a5 = 1) → (a4 = 47))) ∧ (((a5 = 2) → (a4 = 37))) ∧ ((a5 = (-1)) ∨ (a4 = 42) ∨ (a4 = 47) ∨ (a4 = 37)) := ⟨by omega, by omega, by omega, by omega, by omega, by omega, by omega, by omega, by omega⟩
theorem op109 {a0 a1 a2 a3 : Int} (h0 : a0 = a1) (h1 : a2 ≤ 255) (h2 : (a2 ≤ 127 → a1 = a2)) (h3 : (128 ≤ a2 → a1 = a2 - 256)) (h4 : a0 = 37) (h5 : a3 = 2) : (((-1) : Int) ≤ a3) ∧ (a3 ≤ 2) ∧ (((a2 = 42) → (a3 = 0))) ∧ (((a2 = 47) → (a3 = 1))) ∧ (((a2 = 37) → (a3 = 2))) ∧ (((a3 = 0) → (a2 = 42))) ∧ (((a3 = 1) → (a2 = 47))) ∧ (((a3 = 2) → (a2 = 37))) ∧ ((a3 = (-1)) ∨ (a2 = 42) ∨ (a2 = 47) ∨ (a2 = 37)) := ⟨by omega, by omega, by omega, by omega, by omega, by omega, by omega, by omega, by omega⟩
theorem op110 {a0 a1 a2 a3 : Int} (h0 : a0 = a1) (h1 : a2 ≤ 255) (h2 : (a2 ≤ 127 → a1 = a2)) (h3 : (128 ≤ a2 → a1 = a2 - 256)) (h4 : a0 = 47) (h5 : a3 = 1) : (((-1) : Int) ≤ a3) ∧ (a3 ≤ 2) ∧ (((a2 = 42) → (a3 = 0))) ∧ (((a2 = 47) → (a3 = 1))) ∧ (((a2 = 37) → (a3 = 2))) ∧ (((a3 = 0) → (a2 = 42))) ∧ (((a3 = 1) → (a2 = 47))) ∧ (((a3 = 2) → (a2 = 37))) ∧ ((a3 = (-1)) ∨ (a2 = 42) ∨ (a2 = 47) ∨ (a2 = 37)) := ⟨by omega, by omega, by omega, by omega, by omega, by omega, by omega, by omega, by omega⟩
theorem op111 {a0 a1 a2 a3 : Int} (h0 : a0 = a1) (h1 : a2 ≤ 255) (h2 : (a2 ≤ 127 → a1 = a2)) (h3 : (128 ≤ a2 → a1 = a2 - 256)) (h4 : a0 = 42) (h5 : a3 = 0) : (((-1) : Int) ≤ a3) ∧ (a3 ≤ 2) ∧ (((a2 = 42) → (a3 = 0))) ∧ (((a2 = 47) → (a3 = 1))) ∧ (((a2 = 37) → (a3 = 2))) ∧ (((a3 = 0) → (a2 = 42))) ∧ (((a3 = 1) → (a2 = 47))) ∧ (((a3 = 2) → (a2 = 37))) ∧ ((a3 = (-1)) ∨ (a2 = 42) ∨ (a2 = 47) ∨ (a2 = 37)) := ⟨by omega, by omega, by omega, by omega, by omega, by omega, by omega, by omega, by omega⟩
theorem op112 {a0 a1 : Int} (h0 : ((-1) : Int) ≤ a0) (h1 : a0 ≤ 2) (h2 : ((a1 = 42) → (a0 = 0))) (h3 : ((a1 = 47) → (a0 = 1))) (h4 : ((a1 = 37) → (a0 = 2))) (h5 : ((a0 = 0) → (a1 = 42))) (h6 : ((a0 = 1) → (a1 = 47))) (h7 : ((a0 = 2) → (a1 = 37))) (h8 : (a0 = (-1)) ∨ (a1 = 42) ∨ (a1 = 47) ∨ (a1 = 37)) : (((-1) : Int) ≤ a0) ∧ (a0 ≤ 2) ∧ (((a1 = 42) → (a0 = 0))) ∧ (((a1 = 47) → (a0 = 1))) ∧ (((a1 = 37) → (a0 = 2))) ∧ (((a0 = 0) → (a1 = 42))) ∧ (((a0 = 1) → (a1 = 47))) ∧ (((a0 = 2) → (a1 = 37))) ∧ ((a0 = (-1)) ∨ (a1 = 42) ∨ (a1 = 47) ∨ (a1 = 37)) := ⟨h0, h1, h2, h3, h4, h5, h6, h7, h8⟩
theorem op113 {a0 a1 a2 a3 a4 a5 a6 a7 a8 a9 : Int} (h0 : a0 ≤ a1) (h1 : a2 ≠ a3) (h2 : (0 : Int) ≤ a4) (h3 : a5 = a6 + a7) (h4 : a8 = a2) (h5 : a1 ≤ 2) (h6 : ((a8 = 42) → (a1 = 0))) (h7 : ((a1 = 0) → (a8 = 42))) (h8 : ((a1 = 1) → (a8 = 47))) (h9 : ((a1 = 2) → (a8 = 37))) (h10 : ((-1) : Int) ≤ a2) (h11 : (a2 = (-1)) ∨ ((a4 = 0) ∧ (a6 < a9))) (h12 : a0 = 0) (h13 : a3 = (-1)) (h14 : a7 = 1) : ((a2 = (-1)) ∧ (a5 = a6)) ∨ ((a5 = (a6 + 1)) ∧ (a6 < a9) ∧ (a4 = 0) ∧ ((a2 = 42) ∨ (a2 = 47) ∨ (a2 = 37))) := by omega
theorem op114 {a0 a1 a2 a3 a4 : Int} (h0 : a0 ≤ a1) (h1 : a2 = a3) (h2 : a4 = a2) (h3 : a1 ≤ 2) (h4 : ((a4 = 42) → (a1 = 0))) (h5 : ((a1 = 0) → (a4 = 42))) (h6 : ((a1 = 1) → (a4 = 47))) (h7 : ((a1 = 2) → (a4 = 37))) (h8 : a0 = 0) : a3 = 42 ∨ a3 = 47 ∨ a3 = 37 := by omega
theorem op115 {a0 a1 a2 a3 a4 : Int} (h0 : a0 < a1) (h1 : a2 = a3) (h2 : a4 = a2) (h3 : ((a4 = 42) → (a0 = 0))) (h4 : ((a4 = 47) → (a0 = 1))) (h5 : ((a4 = 37) → (a0 = 2))) (h6 : a1 = 0) : ¬ (a3 = 42 ∨ a3 = 47 ∨ a3 = 37) := by omega
theorem op116 {a0 a1 a2 a3 a4 a5 : Int} (h0 : a0 ≤ a1) (h1 : a0 = a2) (h2 : a3 = a4) (h3 : a2 = a3) (h4 : a4 = a5) : a5 ≤ a1 := by omega
theorem op117 {a0 a1 a2 : Int} (h0 : a0 < a1) (h1 : a1 ≤ 120) (h2 : a2 = 1) : a0 + a2 ≤ 2147483647 := oz929 h0 h1 h2
theorem op118 {a0 a1 a2 a3 a4 a5 : Int} (h0 : a0 < a1) (h1 : a1 = a2) (h2 : a3 = a4) (h3 : a2 = a3) (h4 : a4 = a5) : a0 < a5 := by omega
theorem op119 {a0 a1 : Int} (h0 : a0 ≠ a1) (h1 : a1 = (-1)) : ¬ (a0 = -1) := by omega
theorem op120 {a0 a1 a2 a3 a4 a5 a6 : Int} (h0 : a0 = a1) (h1 : a2 = a0) (h2 : a3 = a2) (h3 : a4 = a5 + a6) (h4 : a6 = 1) : (a3 - a4) < (a1 - a5) := oz445 h0 h1 h2 h3 h4
theorem op121 {a0 a1 : Int} (h0 : a0 < a1) : (1 : Int) ≤ (a1 - a0) := oz45 h0
theorem op122 {a0 a1 a2 a3 : Int} (h0 : a0 = (-1)) : ((a0 = (-1)) ∧ (a1 = a1)) ∨ ((a1 = (a1 + 1)) ∧ (a1 < a2) ∧ (a3 = 0) ∧ ((a0 = 43) ∨ (a0 = 45))) := by omega
theorem op123 {a0 a1 a2 : Int} (h0 : a0 = a1) (h1 : a0 = a2) (h2 : a1 = (-1)) : ¬ (a2 = 43 ∨ a2 = 45) := by omega
theorem op124 {a0 : Int} (h0 : a0 = 2) : a0 = 2 := oz1411 h0
theorem op125 {a0 a1 a2 a3 a4 : Int} (h0 : a0 ≠ a1) (h1 : a2 ≠ a1) (h2 : (a3 ≤ 127 → a1 = a3)) (h3 : a0 = 43) (h4 : a2 = 45) (h5 : a4 = (-1)) : (((-1) : Int) ≤ a4) ∧ (a4 ≤ 1) ∧ (((a3 = 43) → (a4 = 0))) ∧ (((a3 = 45) → (a4 = 1))) ∧ (((a4 = 0) → (a3 = 43))) ∧ (((a4 = 1) → (a3 = 45))) ∧ ((a4 = (-1)) ∨ (a3 = 43) ∨ (a3 = 45)) := ⟨by omega, by omega, by omega, by omega, by omega, by omega, by omega⟩
theorem op126 {a0 a1 a2 a3 : Int} (h0 : a0 = a1) (h1 : a2 ≤ 255) (h2 : (a2 ≤ 127 → a1 = a2)) (h3 : (128 ≤ a2 → a1 = a2 - 256)) (h4 : a0 = 45) (h5 : a3 = 1) : (((-1) : Int) ≤ a3) ∧ (a3 ≤ 1) ∧ (((a2 = 43) → (a3 = 0))) ∧ (((a2 = 45) → (a3 = 1))) ∧ (((a3 = 0) → (a2 = 43))) ∧ (((a3 = 1) → (a2 = 45))) ∧ ((a3 = (-1)) ∨ (a2 = 43) ∨ (a2 = 45)) := ⟨by omega, by omega, by omega, by omega, by omega, by omega, by omega⟩
theorem op127 {a0 a1 a2 a3 : Int} (h0 : a0 = a1) (h1 : a2 ≤ 255) (h2 : (a2 ≤ 127 → a1 = a2)) (h3 : (128 ≤ a2 → a1 = a2 - 256)) (h4 : a0 = 43) (h5 : a3 = 0) : (((-1) : Int) ≤ a3) ∧ (a3 ≤ 1) ∧ (((a2 = 43) → (a3 = 0))) ∧ (((a2 = 45) → (a3 = 1))) ∧ (((a3 = 0) → (a2 = 43))) ∧ (((a3 = 1) → (a2 = 45))) ∧ ((a3 = (-1)) ∨ (a2 = 43) ∨ (a2 = 45)) := ⟨by omega, by omega, by omega, by omega, by omega, by omega, by omega⟩
theorem op128 {a0 a1 : Int} (h0 : ((-1) : Int) ≤ a0) (h1 : a0 ≤ 1) (h2 : ((a1 = 43) → (a0 = 0))) (h3 : ((a1 = 45) → (a0 = 1))) (h4 : ((a0 = 0) → (a1 = 43))) (h5 : ((a0 = 1) → (a1 = 45))) : (((-1) : Int) ≤ a0) ∧ (a0 ≤ 1) ∧ (((a1 = 43) → (a0 = 0))) ∧ (((a1 = 45) → (a0 = 1))) ∧ (((a0 = 0) → (a1 = 43))) ∧ (((a0 = 1) → (a1 = 45))) ∧ ((a0 = (-1)) ∨ (a1 = 43) ∨ (a1 = 45)) := ⟨h0, h1, h2, h3, h4, h5, by omega⟩
theorem op129 {a0 a1 a2 a3 a4 a5 a6 a7 a8 a9 : Int} (h0 : a0 ≤ a1) (h1 : a2 ≠ a3) (h2 : (0 : Int) ≤ a4) (h3 : a5 = a6 + a7) (h4 : a8 = a2) (h5 : a1 ≤ 1) (h6 : ((a8 = 43) → (a1 = 0))) (h7 : ((a1 = 0) → (a8 = 43))) (h8 : ((a1 = 1) → (a8 = 45))) (h9 : ((-1) : Int) ≤ a2) (h10 : (a2 = (-1)) ∨ ((a4 = 0) ∧ (a6 < a9))) (h11 : a0 = 0) (h12 : a3 = (-1)) (h13 : a7 = 1) : ((a2 = (-1)) ∧ (a5 = a6)) ∨ ((a5 = (a6 + 1)) ∧ (a6 < a9) ∧ (a4 = 0) ∧ ((a2 = 43) ∨ (a2 = 45))) := by omega
theorem op130 {a0 a1 a2 a3 a4 : Int} (h0 : a0 ≤ a1) (h1 : a2 = a3) (h2 : a4 = a2) (h3 : a1 ≤ 1) (h4 : ((a4 = 43) → (a1 = 0))) (h5 : ((a1 = 0) → (a4 = 43))) (h6 : ((a1 = 1) → (a4 = 45))) (h7 : a0 = 0) : a3 = 43 ∨ a3 = 45 := by omega
theorem op131 {a0 a1 a2 a3 a4 : Int} (h0 : a0 < a1) (h1 : a2 = a3) (h2 : a4 = a2) (h3 : ((a4 = 43) → (a0 = 0))) (h4 : ((a4 = 45) → (a0 = 1))) (h5 : a1 = 0) : ¬ (a3 = 43 ∨ a3 = 45) := by omega
theorem op132 {a0 a1 a2 a3 : Int} (h0 : a0 = (-1)) : ((a0 = (-1)) ∧ (a1 = a1)) ∨ ((a1 = (a1 + 1)) ∧ (a1 < a2) ∧ (a3 = 0) ∧ ((a0 = 60) ∨ (a0 = 61) ∨ (a0 = 62))) := by omega
theorem op133 {a0 a1 a2 : Int} (h0 : a0 = a1) (h1 : a0 = a2) (h2 : a1 = (-1)) : ¬ (a2 = 60 ∨ a2 = 61 ∨ a2 = 62) := by omega
theorem op134 {a0 a1 a2 a3 a4 a5 : Int} (h0 : a0 ≠ a1) (h1 : a2 ≠ a1) (h2 : a3 ≠ a1) (h3 : (a4 ≤ 127 → a1 = a4)) (h4 : a0 = 60) (h5 : a2 = 61) (h6 : a3 = 62) (h7 : a5 = (-1)) : (((-1) : Int) ≤ a5) ∧ (a5 ≤ 2) ∧ (((a4 = 60) → (a5 = 0))) ∧ (((a4 = 61) → (a5 = 1))) ∧ (((a4 = 62) → (a5 = 2))) ∧ (((a5 = 0) → (a4 = 60))) ∧ (((a5 = 1) → (a4 = 61))) ∧ (((a5 = 2) → (a4 = 62))) ∧ ((a5 = (-1)) ∨ (a4 = 60) ∨ (a4 = 61) ∨ (a4 = 62)) := ⟨by omega, by omega, by omega, by omega, by omega, by omega, by omega, by omega, by omega⟩
theorem op135 {a0 a1 a2 a3 : Int} (h0 : a0 = a1) (h1 : a2 ≤ 255) (h2 : (a2 ≤ 127 → a1 = a2)) (h3 : (128 ≤ a2 → a1 = a2 - 256)) (h4 : a0 = 62) (h5 : a3 = 2) : (((-1) : Int) ≤ a3) ∧ (a3 ≤ 2) ∧ (((a2 = 60) → (a3 = 0))) ∧ (((a2 = 61) → (a3 = 1))) ∧ (((a2 = 62) → (a3 = 2))) ∧ (((a3 = 0) → (a2 = 60))) ∧ (((a3 = 1) → (a2 = 61))) ∧ (((a3 = 2) → (a2 = 62))) ∧ ((a3 = (-1)) ∨ (a2 = 60) ∨ (a2 = 61) ∨ (a2 = 62)) := ⟨by omega, by omega, by omega, by omega, by omega, by omega, by omega, by omega, by omega⟩
theorem op136 {a0 a1 a2 a3 : Int} (h0 : a0 = a1) (h1 : a2 ≤ 255) (h2 : (a2 ≤ 127 → a1 = a2)) (h3 : (128 ≤ a2 → a1 = a2 - 256)) (h4 : a0 = 61) (h5 : a3 = 1) : (((-1) : Int) ≤ a3) ∧ (a3 ≤ 2) ∧ (((a2 = 60) → (a3 = 0))) ∧ (((a2 = 61) → (a3 = 1))) ∧ (((a2 = 62) → (a3 = 2))) ∧ (((a3 = 0) → (a2 = 60))) ∧ (((a3 = 1) → (a2 = 61))) ∧ (((a3 = 2) → (a2 = 62))) ∧ ((a3 = (-1)) ∨ (a2 = 60) ∨ (a2 = 61) ∨ (a2 = 62)) := ⟨by omega, by omega, by omega, by omega, by omega, by omega, by omega, by omega, by omega⟩
theorem op137 {a0 a1 a2 a3 : Int} (h0 : a0 = a1) (h1 : a2 ≤ 255) (h2 : (a2 ≤ 127 → a1 = a2)) (h3 : (128 ≤ a2 → a1 = a2 - 256)) (h4 : a0 = 60) (h5 : a3 = 0) : (((-1) : Int) ≤ a3) ∧ (a3 ≤ 2) ∧ (((a2 = 60) → (a3 = 0))) ∧ (((a2 = 61) → (a3 = 1))) ∧ (((a2 = 62) → (a3 = 2))) ∧ (((a3 = 0) → (a2 = 60))) ∧ (((a3 = 1) → (a2 = 61))) ∧ (((a3 = 2) → (a2 = 62))) ∧ ((a3 = (-1)) ∨ (a2 = 60) ∨ (a2 = 61) ∨ (a2 = 62)) := ⟨by omega, by omega, by omega, by omega, by omega, by omega, by omega, by omega, by omega⟩
theorem op138 {a0 a1 : Int} (h0 : ((-1) : Int) ≤ a0) (h1 : a0 ≤ 2) (h2 : ((a1 = 60) → (a0 = 0))) (h3 : ((a1 = 61) → (a0 = 1))) (h4 : ((a1 = 62) → (a0 = 2))) (h5 : ((a0 = 0) → (a1 = 60))) (h6 : ((a0 = 1) → (a1 = 61))) (h7 : ((a0 = 2) → (a1 = 62))) (h8 : (a0 = (-1)) ∨ (a1 = 60) ∨ (a1 = 61) ∨ (a1 = 62)) : (((-1) : Int) ≤ a0) ∧ (a0 ≤ 2) ∧ (((a1 = 60) → (a0 = 0))) ∧ (((a1 = 61) → (a0 = 1))) ∧ (((a1 = 62) → (a0 = 2))) ∧ (((a0 = 0) → (a1 = 60))) ∧ (((a0 = 1) → (a1 = 61))) ∧ (((a0 = 2) → (a1 = 62))) ∧ ((a0 = (-1)) ∨ (a1 = 60) ∨ (a1 = 61) ∨ (a1 = 62)) := ⟨h0, h1, h2, h3, h4, h5, h6, h7, h8⟩
theorem op139 {a0 a1 a2 a3 a4 a5 a6 a7 a8 a9 : Int} (h0 : a0 ≤ a1) (h1 : a2 ≠ a3) (h2 : (0 : Int) ≤ a4) (h3 : a5 = a6 + a7) (h4 : a8 = a2) (h5 : a1 ≤ 2) (h6 : ((a8 = 61) → (a1 = 1))) (h7 : ((a8 = 62) → (a1 = 2))) (h8 : ((a1 = 0) → (a8 = 60))) (h9 : ((a1 = 1) → (a8 = 61))) (h10 : ((a1 = 2) → (a8 = 62))) (h11 : ((-1) : Int) ≤ a2) (h12 : (a2 = (-1)) ∨ ((a4 = 0) ∧ (a6 < a9))) (h13 : a0 = 0) (h14 : a3 = (-1)) (h15 : a7 = 1) : ((a2 = (-1)) ∧ (a5 = a6)) ∨ ((a5 = (a6 + 1)) ∧ (a6 < a9) ∧ (a4 = 0) ∧ ((a2 = 60) ∨ (a2 = 61) ∨ (a2 = 62))) := by omega
theorem op140 {a0 a1 a2 a3 a4 : Int} (h0 : a0 ≤ a1) (h1 : a2 = a3) (h2 : a4 = a2) (h3 : a1 ≤ 2) (h4 : ((a4 = 61) → (a1 = 1))) (h5 : ((a4 = 62) → (a1 = 2))) (h6 : ((a1 = 0) → (a4 = 60))) (h7 : ((a1 = 1) → (a4 = 61))) (h8 : ((a1 = 2) → (a4 = 62))) (h9 : a0 = 0) : a3 = 60 ∨ a3 = 61 ∨ a3 = 62 := by omega
theorem op141 {a0 a1 a2 a3 a4 : Int} (h0 : a0 < a1) (h1 : a2 = a3) (h2 : a4 = a2) (h3 : ((a4 = 60) → (a0 = 0))) (h4 : ((a4 = 61) → (a0 = 1))) (h5 : ((a4 = 62) → (a0 = 2))) (h6 : a1 = 0) : ¬ (a3 = 60 ∨ a3 = 61 ∨ a3 = 62) := by omega
theorem op142 {a0 a1 a2 a3 a4 a5 : Int} (h0 : a0 ≠ a1) (h1 : ((a0 = (-1)) ∧ (a2 = a3)) ∨ ((a2 = (a3 + 1)) ∧ (a3 < a4) ∧ (a5 = 0) ∧ ((a0 = 60) ∨ (a0 = 61) ∨ (a0 = 62)))) (h2 : a1 = (-1)) : ¬ (a0 = -1) := by rcases h1 with ⟨h1_0, h1_1⟩ | ⟨h1_0, h1_1, h1_2, h1_z | h1_z | h1_z⟩ <;> omega
theorem op143 {a0 a1 a2 a3 a4 : Int} (h0 : a0 ≤ a1) (h1 : a0 = a2) (h2 : a2 = a3) (h3 : a3 = a4) : a4 ≤ a1 := by omega
theorem op144 {a0 : Int} (h0 : a0 = 38) : (0 : Int) ≤ a0 := oz879 h0
theorem op145 {a0 a1 a2 a3 a4 : Int} (h0 : a0 < a1) (h1 : a1 = a2) (h2 : a2 = a3) (h3 : a3 = a4) : a0 < a4 := by omega
theorem op146 {a0 a1 a2 a3 a4 a5 : Int} (h0 : a0 ≠ a1) (h1 : ((a0 = 1) ∧ (a2 = (a3 + 1)) ∧ (a3 < a4) ∧ (a5 = 0)) ∨ ((a0 = 0) ∧ (a2 = a3))) (h2 : a1 = 0) : ¬ (a0 = 0) := by omega
theorem op147 {a0 a1 a2 a3 a4 a5 a6 : Int} (h0 : a0 = a1) (h1 : a2 = a0) (h2 : a1 = a3) (h3 : a4 = a5 + a6) (h4 : a6 = 1) : (a2 - a4) < (a3 - a5) := by omega
theorem op148 {a0 : Int} (h0 : a0 = 124) : (0 : Int) ≤ a0 := oz901 h0
theorem op149 {a0 : Int} (h0 : a0 = 63) : (0 : Int) ≤ a0 := oz1286 h0
theorem op150 {a0 : Int}  : a0 = a0 := oz34
theorem op151 {a0 a1 a2 : Int} (h0 : a0 < a1) (h1 : a1 = 0) : ¬ ((0 : Int) ≤ a0 ∧ a0 < a2) := by omega
theorem op152 {a0 a1 : Int} (h0 : a0 ≤ a1) : ¬ ((0 : Int) ≤ a1 ∧ a1 < a0) := by omega
theorem op153 {a0 a1 : Int} (h0 : a0 ≤ a1) (h1 : a0 = 0) : (0 : Int) ≤ a1 := oz389 h0 h1
theorem op154 {a0 a1 : Int} (h0 : a0 < a1) (h1 : a1 ≤ 121) : a0 < 121 := oz1034 h0 h1
theorem op155 {a0 a1 : Int} (h0 : a0 < a1) : a0 < a1 := oz270 h0
theorem op156 {a0 : Int} (h0 : a0 = 0) : a0 ≤ 120 := oz1297 h0
theorem op157 {a0 : Int} (h0 : a0 = 0) : a0 ≤ 1 := oz1328 h0
theorem op158 {a0 : Int} (h0 : a0 = 0) : a0 ≤ 121 := oz1033 h0
theorem op159 {a0 : Int} (h0 : (0 : Int) ≤ a0) : (a0 = (-1)) ∨ ((0 : Int) ≤ a0) := oz1329 h0
theorem op160 {a0 a1 a2 a3 : Int} (h0 : a0 ≠ a1) (h1 : (0 : Int) ≤ a0) (h2 : a1 = 0) : ¬ (a0 = 0 ∧ a2 ≤ a3) := by omega
theorem op161 {a0 : Int} (h0 : a0 = (-1)) : (a0 = (-1)) ∨ ((0 : Int) ≤ a0) := oz1330 h0
theorem op162 {a0 a1 a2 a3 a4 a5 a6 : Int} (h0 : a0 < a1) (h1 : a1 = a2) (h2 : a3 = a4) (h3 : a2 = a3) (h4 : a4 = a5) : ¬ (a6 = 0 ∧ a5 ≤ a0) := by omega
theorem op163 {a0 : Int} (h0 : a0 = 59) : (0 : Int) ≤ a0 := oz1304 h0
theorem op164 {a0 a1 a2 a3 a4 a5 a6 : Int} (h0 : a0 ≤ a1) (h1 : a2 = a3) (h2 : a0 = a2) (h3 : a4 = a5) (h4 : a3 = a4) (h5 : a5 = a6) : a6 ≤ a1 := by omega
theorem op165 {a0 a1 a2 a3 a4 a5 a6 a7 : Int} (h0 : a0 < a1) (h1 : a2 = a3) (h2 : a1 = a2) (h3 : a4 = a5) (h4 : a3 = a4) (h5 : a5 = a6) : ¬ (a7 = 0 ∧ a6 ≤ a0) := by omega
theorem op166 {a0 a1 a2 a3 a4 a5 : Int} (h0 : a0 = a1) (h1 : a2 = a0) (h2 : a3 = a4 + a5) (h3 : a5 = 1) : (a2 - a3) < (a1 - a4) := oz1175 h0 h1 h2 h3
theorem op167 {a0 a1 : Int} (h0 : a0 < a1) (h1 : a1 = 0) : a0 < 0 := oz1670 h0 h1
set_option maxRecDepth 100000 in
theorem ke45_98 {i : Nat → Int32} {a : Nat → List Int32} {q : Nat → List Int64} {r : Nat → Nat} (hI : kI i a q) (hr : kr r) (t : List Int32) (nn : Int32) (hT : a 99 = t) (hN : i 6273 = nn) (hX : kBy t) : km 1 45 [.ref 98] (ks i a q r) (kPI (ks i a q r) (fun v => ((((-1) : Int) ≤ v.toInt) ∧ (v.toInt ≤ 255) ∧ ((v.toInt = (-1)) ∨ (((i 6275).toInt = 0) ∧ ((i 6274).toInt < (i 6273).toInt)))) ∧ v = cHr t nn (i 6274) (i 6275))) := by
  have hG := kG_self kW0 hI hr
  refine km_ofPI (q := (mi_h45, mi_c45)) rfl (by decide) (Nat.le_of_ble_eq_true rfl) ?_
  intro P hP
  have hn1 : (i 6273).toInt = nn.toInt := congrArg Int32.toInt hN
  have fi_6275 : ((0 : Int) ≤ (i 6275).toInt) ∧ ((i 6275).toInt ≤ 1) := hG.I.1 6275
  refine ft_go mi_k45 2 4 [(0, .ref 98)] [.int (i 6275)] i a q r (by rfl) ?_
  refine ft_if mi_k45 ((i 6275) != 0) 37 7 [(0, .ref 98)] [] (by rfl) (fun c => ?_) (fun c => ?_)
  ·
    have c2 : (i 6275).toInt ≠ (0 : Int32).toInt := kd_ne c; clear c
    refine ft_go mi_k45 1 38 [(0, .ref 98)] [.int (-1)] i a q r (by rfl) ?_
    exact ft_ret mi_k45 (by rfl) (hP (-1) ⟨(op0 kopm1), (show ((-1) : Int32) = cHr t nn (i 6274) (i 6275) from (cHr_out (op1 c2 fi_6275.1 kop0)))⟩)
  ·
    have c3 : (i 6275).toInt = (0 : Int32).toInt := kd_neF c; clear c
    have fi_6274 : ((0 : Int) ≤ (i 6274).toInt) ∧ ((i 6274).toInt ≤ 120) := hG.I.1 6274
    refine ft_go mi_k45 2 11 [(0, .ref 98)] [.int (i 6274)] i a q r (by rfl) ?_
    refine ft_if mi_k45 (decide ((i 6274) < 0)) 37 14 [(0, .ref 98)] [] (by rfl) (fun c => ?_) (fun c => ?_)
    ·
      have c4 : (i 6274).toInt < (0 : Int32).toInt := kd_lt c; clear c
      exact (op2 c4 fi_6274.1 kop0).elim
    ·
      have c5 : (0 : Int32).toInt ≤ (i 6274).toInt := kd_ltF c; clear c
      have fi_6273 : ((0 : Int) ≤ (i 6273).toInt) ∧ ((i 6273).toInt ≤ 120) := hG.I.1 6273
      refine ft_go mi_k45 4 22 [(0, .ref 98)] [.int (i 6273), .int (i 6274)] i a q r (by rfl) ?_
      refine ft_if mi_k45 (decide ((i 6273) ≤ (i 6274))) 37 25 [(0, .ref 98)] [] (by rfl) (fun c => ?_) (fun c => ?_)
      ·
        have c6 : (i 6273).toInt ≤ (i 6274).toInt := kd_le c; clear c
        refine ft_go mi_k45 1 38 [(0, .ref 98)] [.int (-1)] i a q r (by rfl) ?_
        exact ft_ret mi_k45 (by rfl) (hP (-1) ⟨(op0 kopm1), (show ((-1) : Int32) = cHr t nn (i 6274) (i 6275) from (cHr_out (op3 c6 hn1)))⟩)
      ·
        have c7 : (i 6274).toInt < (i 6273).toInt := kd_leF c; clear c
        refine ft_go mi_k45 4 33 [(0, .ref 98)] [.int (i 6274), .ref 99] i a q r (by rfl) ?_
        refine ko_iald3 mi_k45.1 (n := 120) (c := 120) (ax := (0, 0, 0, 0, 0)) (mi_k45.2 _ _ (by rfl)) (by rfl) (ksG99 _ _ _ _) (hG.I.2.1 99) rfl (op4 fi_6274.1) (op5 c7 fi_6273.2) ?_
        have hx8 : ((0 : Int) ≤ ((a 99).getD (i 6274).toNatClampNeg 0).toInt) ∧ (((a 99).getD (i 6274).toNatClampNeg 0).toInt ≤ 255) := (hT ▸ hX ((i 6274).toNatClampNeg) : (0 : Int) ≤ ((a 99).getD ((i 6274).toNatClampNeg) 0).toInt ∧ ((a 99).getD ((i 6274).toNatClampNeg) 0).toInt ≤ 255)
        refine ft_go mi_k45 1 38 [(0, .ref 98)] [.int ((a 99).getD (i 6274).toNatClampNeg 0)] i a q r (by rfl) ?_
        exact ft_ret mi_k45 (by rfl) (hP ((a 99).getD (i 6274).toNatClampNeg 0) ⟨(op6 c3 c7 fi_6275.1 hx8.1 hx8.2 kop0), (show ((a 99).getD (i 6274).toNatClampNeg 0) = cHr t nn (i 6274) (i 6275) from (by rw [hT]; exact cHr_in (op7 c3 fi_6275.1 kop0) (op8 c7 hn1)))⟩)
def zw17_10 : kW := ([643], [11, 12], [], [])
set_option maxRecDepth 100000 in
theorem kf17_10 {i : Nat → Int32} {a : Nat → List Int32} {q : Nat → List Int64} {r : Nat → Nat} (hI : kI i a q) (hr : kr r) (x1 : Int32) (x2 : Int32) : km 1 17 [.ref 10, .int x1, .int x2] (ks i a q r) (kVI zw17_10 i a q r (fun v i1 a1 q1 r1 => ((((i 643).toInt ≤ 120) ∧ ((i1 643).toInt = ((i 643).toInt + 1))) ∨ (((121 : Int) ≤ (i 643).toInt) ∧ ((i1 643).toInt = (i 643).toInt))) ∧ ((a1 11, a1 12, i1 643) = lAdd x1 x2 (a 11, a 12, i 643) ∧ v = i1 643 - 1))) := by
  have hG := kG_self zw17_10 hI hr
  refine km_ofI (q := (mi_h17, mi_c17)) rfl (by decide) (Nat.le_of_ble_eq_true rfl) ?_
  intro P hP
  have fi_643 : ((0 : Int) ≤ (i 643).toInt) ∧ ((i 643).toInt ≤ 121) := hG.I.1 643
  refine ft_go mi_k17 3 6 [(0, .ref 10), (1, .int x1), (2, .int x2)] [.int 121, .int (i 643)] i a q r (by rfl) ?_
  refine ft_if mi_k17 (decide (121 ≤ (i 643))) 39 9 [(0, .ref 10), (1, .int x1), (2, .int x2)] [] (by rfl) (fun c => ?_) (fun c => ?_)
  ·
    have c1 : (121 : Int32).toInt ≤ (i 643).toInt := kd_le c; clear c
    have s2 : ((i 643) - 1).toInt = (i 643).toInt - (1 : Int32).toInt := kd_sub (op13 c1 kop121 kop1) (op14 fi_643.2 kop1)
    refine ft_go mi_k17 4 45 [(0, .ref 10), (1, .int x1), (2, .int x2)] [.int ((i 643) - 1)] i a q r (by rfl) ?_
    exact ft_ret mi_k17 (by rfl) (hP ((i 643) - 1) _ _ _ _ hG ⟨(op15 c1 kop121), ⟨(show (a 11, a 12, i 643) = (a 11, a 12, i 643) from rfl).trans (if_neg (op16 c1 kop121)).symm, rfl⟩⟩)
  ·
    have c3 : (i 643).toInt < (121 : Int32).toInt := kd_leF c; clear c
    refine ft_go mi_k17 5 18 [(0, .ref 10), (1, .int x1), (2, .int x2)] [.int x1, .int (i 643), .ref 11] i a q r (by rfl) ?_
    refine ko_iast3 mi_k17.1 (n := 121) (c := 121) (ax := (0, 0, 0, 0, 0)) (mi_k17.2 _ _ (by rfl)) (by rfl) (ksG11 _ _ _ _) (ksA11 _ _ _ _) (hG.I.2.1 11) rfl (op4 fi_643.1) (op17 c3 kop121) ?_
    intro a4 ea4 fa4
    have hJ4 := kG_a3 hG 11 rfl ea4 fa4 (kd_bd _)
    refine ft_go mi_k17 5 28 [(0, .ref 10), (1, .int x1), (2, .int x2)] [.int x2, .int (i 643), .ref 12] i a4 q r (by rfl) ?_
    refine ko_iast3 mi_k17.1 (n := 121) (c := 121) (ax := (0, 0, 0, 0, 0)) (mi_k17.2 _ _ (by rfl)) (by rfl) (ksG12 _ _ _ _) (ksA12 _ _ _ _) (hJ4.I.2.1 12) rfl (op4 fi_643.1) (op17 c3 kop121) ?_
    intro a5 ea5 fa5
    have hJ5 := kG_a3 hJ4 12 rfl ea5 fa5 (kd_bd _)
    have s6 : ((i 643) + 1).toInt = (i 643).toInt + (1 : Int32).toInt := kd_add (op18 fi_643.1 kop1) (op19 fi_643.2 kop1)
    have hJ7 := kG_i hJ5 643 rfl (v := ((i 643) + 1)) ⟨(op20 fi_643.1 s6 kop1), (op21 c3 s6 kop121 kop1)⟩
    have s8 : (((i 643) + 1) - 1).toInt = ((i 643) + 1).toInt - (1 : Int32).toInt := kd_sub (op22 fi_643.1 s6 kop1) (op23 fi_643.2 s6 kop1)
    refine ft_go mi_k17 10 45 [(0, .ref 10), (1, .int x1), (2, .int x2)] [.int (((i 643) + 1) - 1)] (ku i 643 ((i 643) + 1)) a5 q r (by rfl) ?_
    exact ft_ret mi_k17 (by rfl) (hP (((i 643) + 1) - 1) _ _ _ _ hJ7 ⟨(op24 c3 s6 kop121 kop1), ⟨(show (a5 11, a5 12, ((i 643) + 1)) = ((a 11).set (i 643).toNatClampNeg x1, (a 12).set (i 643).toNatClampNeg x2, i 643 + 1) from by rw [fa5 11 (by decide), ea4, ea5, fa4 12 (by decide)]).trans (if_pos (op25 c3 kop121)).symm, rfl⟩⟩)
def yw55_98_L10 : kW := ([643, 6274], [11, 12], [], [])
def yw55_98_L10_L4 : kW := ([6274], [], [], [])
set_option maxRecDepth 100000 in
theorem ke55_98_L10 {i : Nat → Int32} {a : Nat → List Int32} {q : Nat → List Int64} {r : Nat → Nat} (hI : kI i a q) (hr : kr r) (t : List Int32) (nn : Int32) (hT : a 99 = t) (hN : i 6273 = nn) (hL : r 2 = 10) (hX : kBy t) : km 3 55 [.ref 98] (ks i a q r) (kVN yw55_98_L10 i a q r (fun i1 a1 q1 r1 => (True) ∧ (i1 6274, i1 6275, a1 11, a1 12, i1 643) = cNum t nn (i 6274, i 6275, a 11, a 12, i 643))) := by
  have hG := kG_self yw55_98_L10 hI hr
  refine km_ofN (q := (mi_h55, mi_c55)) rfl (by decide) (Nat.le_of_ble_eq_true rfl) ?_
  intro P hP
  have hn1 : (i 6273).toInt = nn.toInt := congrArg Int32.toInt hN
  have eRr_2 : r 2 = 10 := hL
  refine ft_go mi_k55 4 4 [(2, .int 0), (1, .int 0), (0, .ref 98)] [] i a q r (by rfl) ?_
  have lp2 : ∀ (nz : Nat) (i2 : Nat → Int32) (a2 : Nat → List Int32) (q2 : Nat → List Int64) (r2 : Nat → Nat) (l2_2 : Int32) (l1_2 : Int32), kG yw55_98_L10_L4 i a q r i2 a2 q2 r2 → (0 : Int) ≤ l2_2.toInt → cDig t nn (4 - l2_2.toInt).toNat (l1_2, (i2 6274, i2 6275, a2 11, a2 12, i2 643)) = cDig t nn 4 (0, (i 6274, i 6275, a 11, a 12, i 643)) → ((4 - l2_2.toInt)).toNat < nz → ko 3 (mi_h55, mi_c55) P (4, [(2, .int l2_2), (1, .int l1_2), (0, .ref 98)], [], (0, 0), ks i2 a2 q2 r2) := by
    intro nz
    induction nz with
    | zero =>
      intro _ _ _ _ _ _ _ _ _ hm
      exact absurd hm (Nat.not_lt_zero _)
    | succ nz ih2 =>
      intro i2 a2 q2 r2 l2_2 l1_2 hL2 p2_0 O2_0 hm2
      have eRr2_2 : r2 2 = 10 := (hL2.fr 2 rfl).trans eRr_2
      refine ft_go mi_k55 2 6 [(2, .int l2_2), (1, .int l1_2), (0, .ref 98)] [.int 4, .int l2_2] i2 a2 q2 r2 (by rfl) ?_
      refine ft_if mi_k55 (decide (4 ≤ l2_2)) 48 9 [(2, .int l2_2), (1, .int l1_2), (0, .ref 98)] [] (by rfl) (fun c => ?_) (fun c => ?_)
      ·
        have c3 : (4 : Int32).toInt ≤ l2_2.toInt := kd_le c; clear c
        have hG4 := kG_call hG hL2 (by decide +kernel)
        have hD5 : (l1_2, (i2 6274, i2 6275, a2 11, a2 12, i2 643)) = cDig t nn 4 (0, (i 6274, i 6275, a 11, a 12, i 643)) := cDg_end O2_0 (kj_sub0 (n := 4) (op12 c3 kop4))
        refine ft_go mi_k55 2 52 [(2, .int l2_2), (1, .int l1_2), (0, .ref 98)] [.ref (r2 2)] i2 a2 q2 r2 (by rfl) ?_
        refine ko_eq (x1 := (52, [(2, .int l2_2), (1, .int l1_2), (0, .ref 98)], [.ref 10], (0, 0), ks i2 a2 q2 r2)) (by rw [eRr2_2]) ?_
        refine ft_go mi_k55 2 54 [(2, .int l2_2), (1, .int l1_2), (0, .ref 98)] [.int l1_2, .int 0, .ref 10] i2 a2 q2 r2 (by rfl) ?_
        refine ko_callI mi_k55.1 (pc := 54) (ls := [(2, .int l2_2), (1, .int l1_2), (0, .ref 98)]) (st := [.int l1_2, .int 0, .ref 10]) (h := ks i2 a2 q2 r2) (i := (.invokevirtual 60, 3, 17, 0, 9, 0, 187)) (mi_k55.2 _ _ (by rfl)) (ft_invS mi_pq17 (by rfl)) (cy := mi_c17) mi_pq17 rfl (kf17_10 hG4.I hG4.R 0 l1_2) (by decide) ?_
        intro vg6 ig6 ag6 qg6 rg6 kg6 hg6
        have hGg6 := kG_call hG4 kg6 (by decide +kernel)
        have eRrg6_2 : rg6 2 = 10 := (kg6.fr 2 rfl).trans eRr2_2
        obtain ⟨hg6, og6⟩ := hg6
        refine ft_go mi_k55 1 58 [(2, .int l2_2), (1, .int l1_2), (0, .ref 98)] [] ig6 ag6 qg6 rg6 (by rfl) ?_
        exact ft_ret mi_k55 (by rfl) (hP  _ _ _ _ hGg6 ⟨trivial, (cNu_of hD5 (tAdd og6.1 (kg6.fi 6274 rfl) (kg6.fi 6275 rfl)))⟩)
      ·
        have c8 : l2_2.toInt < (4 : Int32).toInt := kd_leF c; clear c
        refine ft_go mi_k55 1 10 [(2, .int l2_2), (1, .int l1_2), (0, .ref 98)] [.ref 98] i2 a2 q2 r2 (by rfl) ?_
        refine ko_callPI mi_k55.1 (pc := 10) (ls := [(2, .int l2_2), (1, .int l1_2), (0, .ref 98)]) (st := [.ref 98]) (h := ks i2 a2 q2 r2) (i := (.invokevirtual 46, 3, 45, 0, 9, 0, 184)) (mi_k55.2 _ _ (by rfl)) (ft_invS mi_pq45 (by rfl)) (cy := mi_c45) mi_pq45 rfl (ke45_98 hL2.I hL2.R t nn ((hL2.fa 99 rfl).trans hT) ((hL2.fi 6273 rfl).trans hN) hX) (by decide) ?_
        intro vg9 hg9
        obtain ⟨hg9, og9⟩ := hg9
        have fi2_6274 : ((0 : Int) ≤ (i2 6274).toInt) ∧ ((i2 6274).toInt ≤ 120) := hL2.I.1 6274
        have fi2_6273 : ((0 : Int) ≤ (i2 6273).toInt) ∧ ((i2 6273).toInt ≤ 120) := hL2.I.1 6273
        have z10 : (((-1) : Int) ≤ vg9.toInt) ∧ (vg9.toInt ≤ 255) ∧ ((vg9.toInt = (-1)) ∨ (((i2 6275).toInt = 0) ∧ ((i2 6274).toInt < (i2 6273).toInt))) := hg9
        have q11 : vg9 = cHr t nn (i2 6274) (i2 6275) := og9
        have hv12 : vg9.toInt = (cHr t nn (i2 6274) (i2 6275)).toInt := congrArg Int32.toInt og9
        refine ko_callPI mi_k55.1 (pc := 13) (ls := [(2, .int l2_2), (1, .int l1_2), (0, .ref 98)]) (st := [.int vg9]) (h := ks i2 a2 q2 r2) (i := (.invokestatic 92, 3, 56, 0, 9, 0, 185)) (mi_k55.2 _ _ (by rfl)) (ft_invS mi_pq56 (by rfl)) (cy := mi_c56) mi_pq56 rfl (kc56 hL2.I hL2.R vg9) (by decide) ?_
        intro vg13 hg13
        rcases hg13 with ⟨eg13, hg13⟩ | ⟨eg13, hg13⟩
        ·
          subst eg13
          have z14 : ((48 : Int) ≤ vg9.toInt) ∧ (vg9.toInt ≤ 57) := hg13
          have b15 : ((-2147483648 : Int) ≤ l1_2.toInt) ∧ (l1_2.toInt ≤ 2147483647) := kd_bd l1_2
          refine ft_go mi_k55 5 24 [(2, .int l2_2), (1, .int l1_2), (0, .ref 98)] [.ref 98, .int (l1_2 * 10)] i2 a2 q2 r2 (by rfl) ?_
          refine ko_callPI mi_k55.1 (pc := 24) (ls := [(2, .int l2_2), (1, .int l1_2), (0, .ref 98)]) (st := [.ref 98, .int (l1_2 * 10)]) (h := ks i2 a2 q2 r2) (i := (.invokevirtual 46, 3, 45, 0, 9, 0, 184)) (mi_k55.2 _ _ (by rfl)) (ft_invS mi_pq45 (by rfl)) (cy := mi_c45) mi_pq45 rfl (ke45_98 hL2.I hL2.R t nn ((hL2.fa 99 rfl).trans hT) ((hL2.fi 6273 rfl).trans hN) hX) (by decide) ?_
          intro vg16 hg16
          obtain ⟨hg16, og16⟩ := hg16
          have q18 : vg16 = cHr t nn (i2 6274) (i2 6275) := og16
          have hv19 : vg16.toInt = (cHr t nn (i2 6274) (i2 6275)).toInt := congrArg Int32.toInt og16
          have b20 : ((-2147483648 : Int) ≤ (l1_2 * 10).toInt) ∧ ((l1_2 * 10).toInt ≤ 2147483647) := kd_bd (l1_2 * 10)
          have b21 : ((-2147483648 : Int) ≤ vg16.toInt) ∧ (vg16.toInt ≤ 2147483647) := kd_bd vg16
          have b22 : ((-2147483648 : Int) ≤ ((l1_2 * 10) + vg16).toInt) ∧ (((l1_2 * 10) + vg16).toInt ≤ 2147483647) := kd_bd ((l1_2 * 10) + vg16)
          have s23 : ((i2 6274) + 1).toInt = (i2 6274).toInt + (1 : Int32).toInt := kd_add (op18 fi2_6274.1 kop1) (op26 fi2_6274.2 kop1)
          have hJ24 := kG_i hL2 6274 rfl (v := ((i2 6274) + 1)) ⟨(op20 fi2_6274.1 s23 kop1), (op27 fi2_6273.2 s23 z10.2.2 z14.1 kop1)⟩
          have s25 : (l2_2 + 1).toInt = l2_2.toInt + (1 : Int32).toInt := kd_add (op18 p2_0 kop1) (op28 c8 kop4 kop1)
          refine ft_go mi_k55 12 4 [(2, .int (l2_2 + 1)), (1, .int (((l1_2 * 10) + vg16) - 48)), (0, .ref 98)] [] (ku i2 6274 ((i2 6274) + 1)) a2 q2 r2 (by rfl) ?_
          exact ih2 _ _ _ _ _ _ hJ24 (op20 p2_0 s25 kop1) (cDg_again O2_0 (kj_sub2 (n := 4) (op29 c8 kop4) (op4 p2_0) (op30 s25 kop1)) (op31 hv12 z14.1) (op32 hv12 z14.2) (congrArg (fun z : Int32 => ((l1_2 * 10) + z) - 48) og16) rfl) (kj_meas (op33 s25 kop1) (op34 c8 kop4) hm2)
        ·
          subst eg13
          have z26 : ¬ (((48 : Int) ≤ vg9.toInt) ∧ (vg9.toInt ≤ 57)) := hg13
          refine ft_go mi_k55 1 48 [(2, .int l2_2), (1, .int l1_2), (0, .ref 98)] [] i2 a2 q2 r2 (by rfl) ?_
          have hG27 := kG_call hG hL2 (by decide +kernel)
          have hD28 : (l1_2, (i2 6274, i2 6275, a2 11, a2 12, i2 643)) = cDig t nn 4 (0, (i 6274, i 6275, a 11, a 12, i 643)) := cDg_out O2_0 (op35 hv12 z26)
          refine ft_go mi_k55 2 52 [(2, .int l2_2), (1, .int l1_2), (0, .ref 98)] [.ref (r2 2)] i2 a2 q2 r2 (by rfl) ?_
          refine ko_eq (x1 := (52, [(2, .int l2_2), (1, .int l1_2), (0, .ref 98)], [.ref 10], (0, 0), ks i2 a2 q2 r2)) (by rw [eRr2_2]) ?_
          refine ft_go mi_k55 2 54 [(2, .int l2_2), (1, .int l1_2), (0, .ref 98)] [.int l1_2, .int 0, .ref 10] i2 a2 q2 r2 (by rfl) ?_
          refine ko_callI mi_k55.1 (pc := 54) (ls := [(2, .int l2_2), (1, .int l1_2), (0, .ref 98)]) (st := [.int l1_2, .int 0, .ref 10]) (h := ks i2 a2 q2 r2) (i := (.invokevirtual 60, 3, 17, 0, 9, 0, 187)) (mi_k55.2 _ _ (by rfl)) (ft_invS mi_pq17 (by rfl)) (cy := mi_c17) mi_pq17 rfl (kf17_10 hG27.I hG27.R 0 l1_2) (by decide) ?_
          intro vg29 ig29 ag29 qg29 rg29 kg29 hg29
          have hGg29 := kG_call hG27 kg29 (by decide +kernel)
          have eRrg29_2 : rg29 2 = 10 := (kg29.fr 2 rfl).trans eRr2_2
          obtain ⟨hg29, og29⟩ := hg29
          refine ft_go mi_k55 1 58 [(2, .int l2_2), (1, .int l1_2), (0, .ref 98)] [] ig29 ag29 qg29 rg29 (by rfl) ?_
          exact ft_ret mi_k55 (by rfl) (hP  _ _ _ _ hGg29 ⟨trivial, (cNu_of hD28 (tAdd og29.1 (kg29.fi 6274 rfl) (kg29.fi 6275 rfl)))⟩)
  exact lp2 _ _ _ _ _ _ _ (kG_self _ hG.I hG.R) (op36 kop0) (by rw [kop0]; rfl) (Nat.lt_succ_self _)
set_option maxRecDepth 100000 in
theorem ke230_1000010 {i : Nat → Int32} {a : Nat → List Int32} {q : Nat → List Int64} {r : Nat → Nat} (hI : kI i a q) (hr : kr r)  : km 1 230 [.ref (mi_RO + 10)] (ks i a q r) (kPI (ks i a q r) (fun v => v.toInt = 0)) := by
  have hG := kG_self kW0 hI hr
  refine km_ofPI (q := (mi_h230, mi_c230)) rfl (by decide) (Nat.le_of_ble_eq_true rfl) ?_
  intro P hP
  refine ft_go mi_k230 5 14 [(0, .ref (mi_RO + 10))] [.int 0] i a q r (by rfl) ?_
  exact ft_ret mi_k230 (by rfl) (hP 0 (op41 kop0))
set_option maxRecDepth 100000 in
theorem ke227_1000010 {i : Nat → Int32} {a : Nat → List Int32} {q : Nat → List Int64} {r : Nat → Nat} (hI : kI i a q) (hr : kr r)  : km 3 227 [.ref (mi_RO + 10)] (ks i a q r) (kPI (ks i a q r) (fun v => v.toInt = 6)) := by
  have hG := kG_self kW0 hI hr
  refine km_ofPI (q := (mi_h227, mi_c227)) rfl (by decide) (Nat.le_of_ble_eq_true rfl) ?_
  intro P hP
  first | refine ft_go mi_k227 4 6 [(0, .ref (mi_RO + 10))] [.ref (mi_RO + 10), .int 6] i a q r (by rfl) ?_ | refine ko_steps mi_in227 4 _ (6, [(0, .ref (mi_RO + 10))], [.ref (mi_RO + 10), .int 6], (0, 0), ks i a q r) (by rfl) ?_
  refine ko_callPI mi_k227.1 (pc := 6) (ls := [(0, .ref (mi_RO + 10))]) (st := [.ref (mi_RO + 10), .int 6]) (h := ks i a q r) (i := (.invokevirtual 335, 3, 230, 0, 9, 0, 32)) (mi_k227.2 _ _ (by rfl)) (ft_invS mi_pq230 (by rfl)) (cy := mi_c230) mi_pq230 rfl (ke230_1000010 hG.I hG.R ) (by decide) ?_
  intro vg1 hg1
  have z2 : vg1.toInt = 0 := hg1
  refine ko_eq (x1 := (9, [(0, .ref (mi_RO + 10))], [.int 0, .int 6], (0, 0), ks i a q r)) (by rw [(kj_eq (op41 z2) (by decide) : vg1 = 0)]) ?_
  first | refine ft_go mi_k227 1 10 [(0, .ref (mi_RO + 10))] [.int ((6 : Int32) >>> ((0 : Int32) &&& 31))] i a q r (by rfl) ?_ | refine ko_steps mi_in227 1 _ (10, [(0, .ref (mi_RO + 10))], [.int ((6 : Int32) >>> ((0 : Int32) &&& 31))], (0, 0), ks i a q r) (by rfl) ?_
  refine ko_eq (x1 := (10, [(0, .ref (mi_RO + 10))], [.int 6], (0, 0), ks i a q r)) (by rw [(by decide : ((6 : Int32) >>> ((0 : Int32) &&& 31) : Int32) = 6)]) ?_
  exact ft_ret mi_k227 (by rfl) (hP 6 (op42 kop6))
set_option maxRecDepth 100000 in
theorem ke232 {i : Nat → Int32} {a : Nat → List Int32} {q : Nat → List Int64} {r : Nat → Nat} (hI : kI i a q) (hr : kr r) (x1 : Int32) : km 1 232 [.int x1] (ks i a q r) (kPI (ks i a q r) (fun v => (v = 1 ∧ (((0 : Int) ≤ x1.toInt) ∧ (x1.toInt ≤ 255))) ∨ (v = 0 ∧ (¬ (((0 : Int) ≤ x1.toInt) ∧ (x1.toInt ≤ 255)))))) := by
  have hG := kG_self kW0 hI hr
  refine km_ofPI (q := (mi_h232, mi_c232)) rfl (by decide) (Nat.le_of_ble_eq_true rfl) ?_
  intro P hP
  refine ft_go mi_k232 1 1 [(0, .int x1)] [.int x1] i a q r (by rfl) ?_
  refine ft_if mi_k232 (decide (x1 < 0)) 15 4 [(0, .int x1)] [] (by rfl) (fun c => ?_) (fun c => ?_)
  ·
    have c1 : x1.toInt < (0 : Int32).toInt := kd_lt c; clear c
    refine ft_go mi_k232 1 16 [(0, .int x1)] [.int 0] i a q r (by rfl) ?_
    exact ft_ret mi_k232 (by rfl) (hP 0 (Or.inr ⟨rfl, (op43 c1 kop0)⟩))
  ·
    have c2 : (0 : Int32).toInt ≤ x1.toInt := kd_ltF c; clear c
    refine ft_go mi_k232 2 8 [(0, .int x1)] [.int 255, .int x1] i a q r (by rfl) ?_
    refine ft_if mi_k232 (decide (255 < x1)) 15 11 [(0, .int x1)] [] (by rfl) (fun c => ?_) (fun c => ?_)
    ·
      have c3 : (255 : Int32).toInt < x1.toInt := kd_lt c; clear c
      refine ft_go mi_k232 1 16 [(0, .int x1)] [.int 0] i a q r (by rfl) ?_
      exact ft_ret mi_k232 (by rfl) (hP 0 (Or.inr ⟨rfl, (op44 c3 kop255)⟩))
    ·
      have c4 : x1.toInt ≤ (255 : Int32).toInt := kd_ltF c; clear c
      refine ft_go mi_k232 2 16 [(0, .int x1)] [.int 1] i a q r (by rfl) ?_
      exact ft_ret mi_k232 (by rfl) (hP 1 (Or.inl ⟨rfl, (op45 c2 c4 kop0 kop255)⟩))
set_option maxRecDepth 100000 in
theorem ke234_1000020_l10_l26 {i : Nat → Int32} {a : Nat → List Int32} {q : Nat → List Int64} {r : Nat → Nat} (hI : kI i a q) (hr : kr r) (x2 : Int32) (hp0 : ((0 : Int) ≤ x2.toInt) ∧ (x2.toInt ≤ 255)) : km 1 234 [.ref (mi_RO + 20), .int x2, .int 0, .int 6] (ks i a q r) (kPI (ks i a q r) (fun v => (((-1) : Int) ≤ v.toInt) ∧ (v.toInt ≤ 5) ∧ (((x2.toInt = 119) → (v.toInt = 0))) ∧ (((x2.toInt = 112) → (v.toInt = 1))) ∧ (((x2.toInt = 104) → (v.toInt = 2))) ∧ (((x2.toInt = 110) → (v.toInt = 3))) ∧ (((x2.toInt = 111) → (v.toInt = 4))) ∧ (((x2.toInt = 100) → (v.toInt = 5))) ∧ (((v.toInt = 0) → (x2.toInt = 119))) ∧ (((v.toInt = 1) → (x2.toInt = 112))) ∧ (((v.toInt = 2) → (x2.toInt = 104))) ∧ (((v.toInt = 3) → (x2.toInt = 110))) ∧ (((v.toInt = 4) → (x2.toInt = 111))) ∧ (((v.toInt = 5) → (x2.toInt = 100))) ∧ ((v.toInt = (-1)) ∨ (x2.toInt = 119) ∨ (x2.toInt = 112) ∨ (x2.toInt = 104) ∨ (x2.toInt = 110) ∨ (x2.toInt = 111) ∨ (x2.toInt = 100)))) := by
  have hG := kG_self kW0 hI hr
  refine km_ofPI (q := (mi_h234, mi_c234)) rfl (by decide) (Nat.le_of_ble_eq_true rfl) ?_
  intro P hP
  have s1 : ((x2.toInt ≤ 127 → x2.toInt8.toInt32.toInt = x2.toInt)) ∧ ((128 ≤ x2.toInt → x2.toInt8.toInt32.toInt = x2.toInt - 256)) := kd_i2b (op4 hp0.1) (op40 hp0.2)
  first | refine ft_go mi_k234 12 19 [(5, .int 0), (4, .int x2.toInt8.toInt32), (0, .ref (mi_RO + 20)), (1, .int x2), (2, .int 0), (3, .int 6)] [.int x2.toInt8.toInt32, .int 119] i a q r (by rfl) ?_ | refine ko_steps mi_in234 12 _ (19, [(5, .int 0), (4, .int x2.toInt8.toInt32), (0, .ref (mi_RO + 20)), (1, .int x2), (2, .int 0), (3, .int 6)], [.int x2.toInt8.toInt32, .int 119], (0, 0), ks i a q r) (by rfl) ?_
  refine ft_if mi_k234 (119 != x2.toInt8.toInt32) 25 22 [(5, .int 0), (4, .int x2.toInt8.toInt32), (0, .ref (mi_RO + 20)), (1, .int x2), (2, .int 0), (3, .int 6)] [] (by rfl) (fun c => ?_) (fun c => ?_)
  ·
    have c2 : (119 : Int32).toInt ≠ x2.toInt8.toInt32.toInt := kd_ne c; clear c
    first | refine ft_go mi_k234 1 28 [(5, .int (0 + 1)), (4, .int x2.toInt8.toInt32), (0, .ref (mi_RO + 20)), (1, .int x2), (2, .int 0), (3, .int 6)] [] i a q r (by rfl) ?_ | refine ko_steps mi_in234 1 _ (28, [(5, .int (0 + 1)), (4, .int x2.toInt8.toInt32), (0, .ref (mi_RO + 20)), (1, .int x2), (2, .int 0), (3, .int 6)], [], (0, 0), ks i a q r) (by rfl) ?_
    refine ko_eq (x1 := (28, [(5, .int 1), (4, .int x2.toInt8.toInt32), (0, .ref (mi_RO + 20)), (1, .int x2), (2, .int 0), (3, .int 6)], [], (0, 0), ks i a q r)) (by rw [(by decide : (0 + 1 : Int32) = 1)]) ?_
    first | refine ft_go mi_k234 8 19 [(5, .int 1), (4, .int x2.toInt8.toInt32), (0, .ref (mi_RO + 20)), (1, .int x2), (2, .int 0), (3, .int 6)] [.int x2.toInt8.toInt32, .int 112] i a q r (by rfl) ?_ | refine ko_steps mi_in234 8 _ (19, [(5, .int 1), (4, .int x2.toInt8.toInt32), (0, .ref (mi_RO + 20)), (1, .int x2), (2, .int 0), (3, .int 6)], [.int x2.toInt8.toInt32, .int 112], (0, 0), ks i a q r) (by rfl) ?_
    refine ft_if mi_k234 (112 != x2.toInt8.toInt32) 25 22 [(5, .int 1), (4, .int x2.toInt8.toInt32), (0, .ref (mi_RO + 20)), (1, .int x2), (2, .int 0), (3, .int 6)] [] (by rfl) (fun c => ?_) (fun c => ?_)
    ·
      have c3 : (112 : Int32).toInt ≠ x2.toInt8.toInt32.toInt := kd_ne c; clear c
      first | refine ft_go mi_k234 1 28 [(5, .int (1 + 1)), (4, .int x2.toInt8.toInt32), (0, .ref (mi_RO + 20)), (1, .int x2), (2, .int 0), (3, .int 6)] [] i a q r (by rfl) ?_ | refine ko_steps mi_in234 1 _ (28, [(5, .int (1 + 1)), (4, .int x2.toInt8.toInt32), (0, .ref (mi_RO + 20)), (1, .int x2), (2, .int 0), (3, .int 6)], [], (0, 0), ks i a q r) (by rfl) ?_
      refine ko_eq (x1 := (28, [(5, .int 2), (4, .int x2.toInt8.toInt32), (0, .ref (mi_RO + 20)), (1, .int x2), (2, .int 0), (3, .int 6)], [], (0, 0), ks i a q r)) (by rw [(by decide : (1 + 1 : Int32) = 2)]) ?_
      first | refine ft_go mi_k234 8 19 [(5, .int 2), (4, .int x2.toInt8.toInt32), (0, .ref (mi_RO + 20)), (1, .int x2), (2, .int 0), (3, .int 6)] [.int x2.toInt8.toInt32, .int 104] i a q r (by rfl) ?_ | refine ko_steps mi_in234 8 _ (19, [(5, .int 2), (4, .int x2.toInt8.toInt32), (0, .ref (mi_RO + 20)), (1, .int x2), (2, .int 0), (3, .int 6)], [.int x2.toInt8.toInt32, .int 104], (0, 0), ks i a q r) (by rfl) ?_
      refine ft_if mi_k234 (104 != x2.toInt8.toInt32) 25 22 [(5, .int 2), (4, .int x2.toInt8.toInt32), (0, .ref (mi_RO + 20)), (1, .int x2), (2, .int 0), (3, .int 6)] [] (by rfl) (fun c => ?_) (fun c => ?_)
      ·
        have c4 : (104 : Int32).toInt ≠ x2.toInt8.toInt32.toInt := kd_ne c; clear c
        first | refine ft_go mi_k234 1 28 [(5, .int (2 + 1)), (4, .int x2.toInt8.toInt32), (0, .ref (mi_RO + 20)), (1, .int x2), (2, .int 0), (3, .int 6)] [] i a q r (by rfl) ?_ | refine ko_steps mi_in234 1 _ (28, [(5, .int (2 + 1)), (4, .int x2.toInt8.toInt32), (0, .ref (mi_RO + 20)), (1, .int x2), (2, .int 0), (3, .int 6)], [], (0, 0), ks i a q r) (by rfl) ?_
        refine ko_eq (x1 := (28, [(5, .int 3), (4, .int x2.toInt8.toInt32), (0, .ref (mi_RO + 20)), (1, .int x2), (2, .int 0), (3, .int 6)], [], (0, 0), ks i a q r)) (by rw [(by decide : (2 + 1 : Int32) = 3)]) ?_
        first | refine ft_go mi_k234 8 19 [(5, .int 3), (4, .int x2.toInt8.toInt32), (0, .ref (mi_RO + 20)), (1, .int x2), (2, .int 0), (3, .int 6)] [.int x2.toInt8.toInt32, .int 110] i a q r (by rfl) ?_ | refine ko_steps mi_in234 8 _ (19, [(5, .int 3), (4, .int x2.toInt8.toInt32), (0, .ref (mi_RO + 20)), (1, .int x2), (2, .int 0), (3, .int 6)], [.int x2.toInt8.toInt32, .int 110], (0, 0), ks i a q r) (by rfl) ?_
        refine ft_if mi_k234 (110 != x2.toInt8.toInt32) 25 22 [(5, .int 3), (4, .int x2.toInt8.toInt32), (0, .ref (mi_RO + 20)), (1, .int x2), (2, .int 0), (3, .int 6)] [] (by rfl) (fun c => ?_) (fun c => ?_)
        ·
          have c5 : (110 : Int32).toInt ≠ x2.toInt8.toInt32.toInt := kd_ne c; clear c
          first | refine ft_go mi_k234 1 28 [(5, .int (3 + 1)), (4, .int x2.toInt8.toInt32), (0, .ref (mi_RO + 20)), (1, .int x2), (2, .int 0), (3, .int 6)] [] i a q r (by rfl) ?_ | refine ko_steps mi_in234 1 _ (28, [(5, .int (3 + 1)), (4, .int x2.toInt8.toInt32), (0, .ref (mi_RO + 20)), (1, .int x2), (2, .int 0), (3, .int 6)], [], (0, 0), ks i a q r) (by rfl) ?_
          refine ko_eq (x1 := (28, [(5, .int 4), (4, .int x2.toInt8.toInt32), (0, .ref (mi_RO + 20)), (1, .int x2), (2, .int 0), (3, .int 6)], [], (0, 0), ks i a q r)) (by rw [(by decide : (3 + 1 : Int32) = 4)]) ?_
          first | refine ft_go mi_k234 8 19 [(5, .int 4), (4, .int x2.toInt8.toInt32), (0, .ref (mi_RO + 20)), (1, .int x2), (2, .int 0), (3, .int 6)] [.int x2.toInt8.toInt32, .int 111] i a q r (by rfl) ?_ | refine ko_steps mi_in234 8 _ (19, [(5, .int 4), (4, .int x2.toInt8.toInt32), (0, .ref (mi_RO + 20)), (1, .int x2), (2, .int 0), (3, .int 6)], [.int x2.toInt8.toInt32, .int 111], (0, 0), ks i a q r) (by rfl) ?_
          refine ft_if mi_k234 (111 != x2.toInt8.toInt32) 25 22 [(5, .int 4), (4, .int x2.toInt8.toInt32), (0, .ref (mi_RO + 20)), (1, .int x2), (2, .int 0), (3, .int 6)] [] (by rfl) (fun c => ?_) (fun c => ?_)
          ·
            have c6 : (111 : Int32).toInt ≠ x2.toInt8.toInt32.toInt := kd_ne c; clear c
            first | refine ft_go mi_k234 1 28 [(5, .int (4 + 1)), (4, .int x2.toInt8.toInt32), (0, .ref (mi_RO + 20)), (1, .int x2), (2, .int 0), (3, .int 6)] [] i a q r (by rfl) ?_ | refine ko_steps mi_in234 1 _ (28, [(5, .int (4 + 1)), (4, .int x2.toInt8.toInt32), (0, .ref (mi_RO + 20)), (1, .int x2), (2, .int 0), (3, .int 6)], [], (0, 0), ks i a q r) (by rfl) ?_
            refine ko_eq (x1 := (28, [(5, .int 5), (4, .int x2.toInt8.toInt32), (0, .ref (mi_RO + 20)), (1, .int x2), (2, .int 0), (3, .int 6)], [], (0, 0), ks i a q r)) (by rw [(by decide : (4 + 1 : Int32) = 5)]) ?_
            first | refine ft_go mi_k234 8 19 [(5, .int 5), (4, .int x2.toInt8.toInt32), (0, .ref (mi_RO + 20)), (1, .int x2), (2, .int 0), (3, .int 6)] [.int x2.toInt8.toInt32, .int 100] i a q r (by rfl) ?_ | refine ko_steps mi_in234 8 _ (19, [(5, .int 5), (4, .int x2.toInt8.toInt32), (0, .ref (mi_RO + 20)), (1, .int x2), (2, .int 0), (3, .int 6)], [.int x2.toInt8.toInt32, .int 100], (0, 0), ks i a q r) (by rfl) ?_
            refine ft_if mi_k234 (100 != x2.toInt8.toInt32) 25 22 [(5, .int 5), (4, .int x2.toInt8.toInt32), (0, .ref (mi_RO + 20)), (1, .int x2), (2, .int 0), (3, .int 6)] [] (by rfl) (fun c => ?_) (fun c => ?_)
            ·
              have c7 : (100 : Int32).toInt ≠ x2.toInt8.toInt32.toInt := kd_ne c; clear c
              first | refine ft_go mi_k234 1 28 [(5, .int (5 + 1)), (4, .int x2.toInt8.toInt32), (0, .ref (mi_RO + 20)), (1, .int x2), (2, .int 0), (3, .int 6)] [] i a q r (by rfl) ?_ | refine ko_steps mi_in234 1 _ (28, [(5, .int (5 + 1)), (4, .int x2.toInt8.toInt32), (0, .ref (mi_RO + 20)), (1, .int x2), (2, .int 0), (3, .int 6)], [], (0, 0), ks i a q r) (by rfl) ?_
              refine ko_eq (x1 := (28, [(5, .int 6), (4, .int x2.toInt8.toInt32), (0, .ref (mi_RO + 20)), (1, .int x2), (2, .int 0), (3, .int 6)], [], (0, 0), ks i a q r)) (by rw [(by decide : (5 + 1 : Int32) = 6)]) ?_
              first | refine ft_go mi_k234 5 32 [(5, .int 6), (4, .int x2.toInt8.toInt32), (0, .ref (mi_RO + 20)), (1, .int x2), (2, .int 0), (3, .int 6)] [.int (-1)] i a q r (by rfl) ?_ | refine ko_steps mi_in234 5 _ (32, [(5, .int 6), (4, .int x2.toInt8.toInt32), (0, .ref (mi_RO + 20)), (1, .int x2), (2, .int 0), (3, .int 6)], [.int (-1)], (0, 0), ks i a q r) (by rfl) ?_
              exact ft_ret mi_k234 (by rfl) (hP (-1) (op46 c2 c3 c4 c5 c6 c7 s1.1 kop119 kop112 kop104 kop110 kop111 kop100 kopm1))
            ·
              have c8 : (100 : Int32).toInt = x2.toInt8.toInt32.toInt := kd_neF c; clear c
              first | refine ft_go mi_k234 1 24 [(5, .int 5), (4, .int x2.toInt8.toInt32), (0, .ref (mi_RO + 20)), (1, .int x2), (2, .int 0), (3, .int 6)] [.int 5] i a q r (by rfl) ?_ | refine ko_steps mi_in234 1 _ (24, [(5, .int 5), (4, .int x2.toInt8.toInt32), (0, .ref (mi_RO + 20)), (1, .int x2), (2, .int 0), (3, .int 6)], [.int 5], (0, 0), ks i a q r) (by rfl) ?_
              exact ft_ret mi_k234 (by rfl) (hP 5 (op47 c8 hp0.2 s1.1 s1.2 kop100 kop5))
          ·
            have c9 : (111 : Int32).toInt = x2.toInt8.toInt32.toInt := kd_neF c; clear c
            first | refine ft_go mi_k234 1 24 [(5, .int 4), (4, .int x2.toInt8.toInt32), (0, .ref (mi_RO + 20)), (1, .int x2), (2, .int 0), (3, .int 6)] [.int 4] i a q r (by rfl) ?_ | refine ko_steps mi_in234 1 _ (24, [(5, .int 4), (4, .int x2.toInt8.toInt32), (0, .ref (mi_RO + 20)), (1, .int x2), (2, .int 0), (3, .int 6)], [.int 4], (0, 0), ks i a q r) (by rfl) ?_
            exact ft_ret mi_k234 (by rfl) (hP 4 (op48 c9 hp0.2 s1.1 s1.2 kop111 kop4))
        ·
          have c10 : (110 : Int32).toInt = x2.toInt8.toInt32.toInt := kd_neF c; clear c
          first | refine ft_go mi_k234 1 24 [(5, .int 3), (4, .int x2.toInt8.toInt32), (0, .ref (mi_RO + 20)), (1, .int x2), (2, .int 0), (3, .int 6)] [.int 3] i a q r (by rfl) ?_ | refine ko_steps mi_in234 1 _ (24, [(5, .int 3), (4, .int x2.toInt8.toInt32), (0, .ref (mi_RO + 20)), (1, .int x2), (2, .int 0), (3, .int 6)], [.int 3], (0, 0), ks i a q r) (by rfl) ?_
          exact ft_ret mi_k234 (by rfl) (hP 3 (op49 c10 hp0.2 s1.1 s1.2 kop110 kop3))
      ·
        have c11 : (104 : Int32).toInt = x2.toInt8.toInt32.toInt := kd_neF c; clear c
        first | refine ft_go mi_k234 1 24 [(5, .int 2), (4, .int x2.toInt8.toInt32), (0, .ref (mi_RO + 20)), (1, .int x2), (2, .int 0), (3, .int 6)] [.int 2] i a q r (by rfl) ?_ | refine ko_steps mi_in234 1 _ (24, [(5, .int 2), (4, .int x2.toInt8.toInt32), (0, .ref (mi_RO + 20)), (1, .int x2), (2, .int 0), (3, .int 6)], [.int 2], (0, 0), ks i a q r) (by rfl) ?_
        exact ft_ret mi_k234 (by rfl) (hP 2 (op50 c11 hp0.2 s1.1 s1.2 kop104 kop2))
    ·
      have c12 : (112 : Int32).toInt = x2.toInt8.toInt32.toInt := kd_neF c; clear c
      first | refine ft_go mi_k234 1 24 [(5, .int 1), (4, .int x2.toInt8.toInt32), (0, .ref (mi_RO + 20)), (1, .int x2), (2, .int 0), (3, .int 6)] [.int 1] i a q r (by rfl) ?_ | refine ko_steps mi_in234 1 _ (24, [(5, .int 1), (4, .int x2.toInt8.toInt32), (0, .ref (mi_RO + 20)), (1, .int x2), (2, .int 0), (3, .int 6)], [.int 1], (0, 0), ks i a q r) (by rfl) ?_
      exact ft_ret mi_k234 (by rfl) (hP 1 (op51 c12 hp0.2 s1.1 s1.2 kop112 kop1))
  ·
    have c13 : (119 : Int32).toInt = x2.toInt8.toInt32.toInt := kd_neF c; clear c
    first | refine ft_go mi_k234 1 24 [(5, .int 0), (4, .int x2.toInt8.toInt32), (0, .ref (mi_RO + 20)), (1, .int x2), (2, .int 0), (3, .int 6)] [.int 0] i a q r (by rfl) ?_ | refine ko_steps mi_in234 1 _ (24, [(5, .int 0), (4, .int x2.toInt8.toInt32), (0, .ref (mi_RO + 20)), (1, .int x2), (2, .int 0), (3, .int 6)], [.int 0], (0, 0), ks i a q r) (by rfl) ?_
    exact ft_ret mi_k234 (by rfl) (hP 0 (op52 c13 hp0.2 s1.1 s1.2 kop119 kop0))
set_option maxRecDepth 100000 in
theorem ke233_1000020_l10_l26 {i : Nat → Int32} {a : Nat → List Int32} {q : Nat → List Int64} {r : Nat → Nat} (hI : kI i a q) (hr : kr r) (x2 : Int32) (hp0 : ((0 : Int) ≤ x2.toInt) ∧ (x2.toInt ≤ 255)) : km 3 233 [.ref (mi_RO + 20), .int x2, .int 0, .int 6] (ks i a q r) (kPI (ks i a q r) (fun v => (((-1) : Int) ≤ v.toInt) ∧ (v.toInt ≤ 5) ∧ (((x2.toInt = 119) → (v.toInt = 0))) ∧ (((x2.toInt = 112) → (v.toInt = 1))) ∧ (((x2.toInt = 104) → (v.toInt = 2))) ∧ (((x2.toInt = 110) → (v.toInt = 3))) ∧ (((x2.toInt = 111) → (v.toInt = 4))) ∧ (((x2.toInt = 100) → (v.toInt = 5))) ∧ (((v.toInt = 0) → (x2.toInt = 119))) ∧ (((v.toInt = 1) → (x2.toInt = 112))) ∧ (((v.toInt = 2) → (x2.toInt = 104))) ∧ (((v.toInt = 3) → (x2.toInt = 110))) ∧ (((v.toInt = 4) → (x2.toInt = 111))) ∧ (((v.toInt = 5) → (x2.toInt = 100))) ∧ ((v.toInt = (-1)) ∨ (x2.toInt = 119) ∨ (x2.toInt = 112) ∨ (x2.toInt = 104) ∨ (x2.toInt = 110) ∨ (x2.toInt = 111) ∨ (x2.toInt = 100)))) := by
  have hG := kG_self kW0 hI hr
  refine km_ofPI (q := (mi_h233, mi_c233)) rfl (by decide) (Nat.le_of_ble_eq_true rfl) ?_
  intro P hP
  first | refine ft_go mi_k233 1 1 [(0, .ref (mi_RO + 20)), (1, .int x2), (2, .int 0), (3, .int 6)] [.int x2] i a q r (by rfl) ?_ | refine ko_steps mi_in233 1 _ (1, [(0, .ref (mi_RO + 20)), (1, .int x2), (2, .int 0), (3, .int 6)], [.int x2], (0, 0), ks i a q r) (by rfl) ?_
  refine ko_callPI mi_k233.1 (pc := 1) (ls := [(0, .ref (mi_RO + 20)), (1, .int x2), (2, .int 0), (3, .int 6)]) (st := [.int x2]) (h := ks i a q r) (i := (.invokestatic 88, 3, 232, 0, 9, 0, 195)) (mi_k233.2 _ _ (by rfl)) (ft_invS mi_pq232 (by rfl)) (cy := mi_c232) mi_pq232 rfl (ke232 hG.I hG.R x2) (by decide) ?_
  intro vg1 hg1
  rcases hg1 with ⟨eg1, hg1⟩ | ⟨eg1, hg1⟩
  ·
    subst eg1
    first | refine ft_go mi_k233 4 14 [(0, .ref (mi_RO + 20)), (1, .int x2), (2, .int 0), (3, .int 6)] [.int (bif decide ((0 : Int32) < 0) then 0 else 0)] i a q r (by rfl) ?_ | refine ko_steps mi_in233 4 _ (14, [(0, .ref (mi_RO + 20)), (1, .int x2), (2, .int 0), (3, .int 6)], [.int (bif decide ((0 : Int32) < 0) then 0 else 0)], (0, 0), ks i a q r) (by rfl) ?_
    refine ko_eq (x1 := (14, [(0, .ref (mi_RO + 20)), (1, .int x2), (2, .int 0), (3, .int 6)], [.int 0], (0, 0), ks i a q r)) (by rw [(by decide : (bif decide ((0 : Int32) < 0) then 0 else 0 : Int32) = 0)]) ?_
    first | refine ft_go mi_k233 5 21 [(2, .int 0), (0, .ref (mi_RO + 20)), (1, .int x2), (3, .int 6)] [.int (bif decide ((6 : Int32) < 6) then 6 else 6)] i a q r (by rfl) ?_ | refine ko_steps mi_in233 5 _ (21, [(2, .int 0), (0, .ref (mi_RO + 20)), (1, .int x2), (3, .int 6)], [.int (bif decide ((6 : Int32) < 6) then 6 else 6)], (0, 0), ks i a q r) (by rfl) ?_
    refine ko_eq (x1 := (21, [(2, .int 0), (0, .ref (mi_RO + 20)), (1, .int x2), (3, .int 6)], [.int 6], (0, 0), ks i a q r)) (by rw [(by decide : (bif decide ((6 : Int32) < 6) then 6 else 6 : Int32) = 6)]) ?_
    first | refine ft_go mi_k233 8 33 [(3, .int 6), (2, .int 0), (0, .ref (mi_RO + 20)), (1, .int x2)] [.int 6, .int 0, .int x2, .ref (mi_RO + 20)] i a q r (by rfl) ?_ | refine ko_steps mi_in233 8 _ (33, [(3, .int 6), (2, .int 0), (0, .ref (mi_RO + 20)), (1, .int x2)], [.int 6, .int 0, .int x2, .ref (mi_RO + 20)], (0, 0), ks i a q r) (by rfl) ?_
    refine ko_callPI mi_k233.1 (pc := 33) (ls := [(3, .int 6), (2, .int 0), (0, .ref (mi_RO + 20)), (1, .int x2)]) (st := [.int 6, .int 0, .int x2, .ref (mi_RO + 20)]) (h := ks i a q r) (i := (.invokestatic 95, 3, 234, 0, 9, 0, 198)) (mi_k233.2 _ _ (by rfl)) (ft_invS mi_pq234 (by rfl)) (cy := mi_c234) mi_pq234 rfl (ke234_1000020_l10_l26 hG.I hG.R x2 (op53 hp0.1 hp0.2)) (by decide) ?_
    intro vg3 hg3
    have z4 : (((-1) : Int) ≤ vg3.toInt) ∧ (vg3.toInt ≤ 5) ∧ (((x2.toInt = 119) → (vg3.toInt = 0))) ∧ (((x2.toInt = 112) → (vg3.toInt = 1))) ∧ (((x2.toInt = 104) → (vg3.toInt = 2))) ∧ (((x2.toInt = 110) → (vg3.toInt = 3))) ∧ (((x2.toInt = 111) → (vg3.toInt = 4))) ∧ (((x2.toInt = 100) → (vg3.toInt = 5))) ∧ (((vg3.toInt = 0) → (x2.toInt = 119))) ∧ (((vg3.toInt = 1) → (x2.toInt = 112))) ∧ (((vg3.toInt = 2) → (x2.toInt = 104))) ∧ (((vg3.toInt = 3) → (x2.toInt = 110))) ∧ (((vg3.toInt = 4) → (x2.toInt = 111))) ∧ (((vg3.toInt = 5) → (x2.toInt = 100))) ∧ ((vg3.toInt = (-1)) ∨ (x2.toInt = 119) ∨ (x2.toInt = 112) ∨ (x2.toInt = 104) ∨ (x2.toInt = 110) ∨ (x2.toInt = 111) ∨ (x2.toInt = 100)) := hg3
    exact ft_ret mi_k233 (by rfl) (hP vg3 (op54 z4.1 z4.2.1 z4.2.2.1 z4.2.2.2.1 z4.2.2.2.2.1 z4.2.2.2.2.2.1 z4.2.2.2.2.2.2.1 z4.2.2.2.2.2.2.2.1 z4.2.2.2.2.2.2.2.2.1 z4.2.2.2.2.2.2.2.2.2.1 z4.2.2.2.2.2.2.2.2.2.2.1 z4.2.2.2.2.2.2.2.2.2.2.2.1 z4.2.2.2.2.2.2.2.2.2.2.2.2.1 z4.2.2.2.2.2.2.2.2.2.2.2.2.2.1 z4.2.2.2.2.2.2.2.2.2.2.2.2.2.2))
  ·
    subst eg1
    have z5 : ¬ (((0 : Int) ≤ x2.toInt) ∧ (x2.toInt ≤ 255)) := hg1
    exact (op55 hp0.1 hp0.2 z5).elim
set_option maxRecDepth 100000 in
theorem ke229_1000010_l10 {i : Nat → Int32} {a : Nat → List Int32} {q : Nat → List Int64} {r : Nat → Nat} (hI : kI i a q) (hr : kr r) (x1 : Int32) (hp0 : ((0 : Int) ≤ x1.toInt) ∧ (x1.toInt ≤ 255)) : km 5 229 [.ref (mi_RO + 10), .int x1, .int 0] (ks i a q r) (kPI (ks i a q r) (fun v => (((-1) : Int) ≤ v.toInt) ∧ (v.toInt ≤ 5) ∧ (((x1.toInt = 119) → (v.toInt = 0))) ∧ (((x1.toInt = 112) → (v.toInt = 1))) ∧ (((x1.toInt = 104) → (v.toInt = 2))) ∧ (((x1.toInt = 110) → (v.toInt = 3))) ∧ (((x1.toInt = 111) → (v.toInt = 4))) ∧ (((x1.toInt = 100) → (v.toInt = 5))) ∧ (((v.toInt = 0) → (x1.toInt = 119))) ∧ (((v.toInt = 1) → (x1.toInt = 112))) ∧ (((v.toInt = 2) → (x1.toInt = 104))) ∧ (((v.toInt = 3) → (x1.toInt = 110))) ∧ (((v.toInt = 4) → (x1.toInt = 111))) ∧ (((v.toInt = 5) → (x1.toInt = 100))) ∧ ((v.toInt = (-1)) ∨ (x1.toInt = 119) ∨ (x1.toInt = 112) ∨ (x1.toInt = 104) ∨ (x1.toInt = 110) ∨ (x1.toInt = 111) ∨ (x1.toInt = 100)))) := by
  have hG := kG_self kW0 hI hr
  refine km_ofPI (q := (mi_h229, mi_c229)) rfl (by decide) (Nat.le_of_ble_eq_true rfl) ?_
  intro P hP
  refine ft_go mi_k229 1 1 [(0, .ref (mi_RO + 10)), (1, .int x1), (2, .int 0)] [.ref (mi_RO + 10)] i a q r (by rfl) ?_
  refine ko_callPI mi_k229.1 (pc := 1) (ls := [(0, .ref (mi_RO + 10)), (1, .int x1), (2, .int 0)]) (st := [.ref (mi_RO + 10)]) (h := ks i a q r) (i := (.invokevirtual 492, 3, 231, 0, 9, 0, 192)) (mi_k229.2 _ _ (by rfl)) (ft_invS mi_pq231 (by rfl)) (cy := mi_c231) mi_pq231 rfl (kc231_S10 hG.I hG.R ) (by decide) ?_
  intro vg1 hg1
  rcases hg1 with ⟨eg1, hg1⟩ | ⟨eg1, hg1⟩
  ·
    subst eg1
    refine ft_go mi_k229 6 14 [(0, .ref (mi_RO + 10)), (1, .int x1), (2, .int 0)] [.ref (mi_RO + 10), .int 0, .int x1, .ref (mi_RO + 20)] i a q r (by rfl) ?_
    refine ko_callPI mi_k229.1 (pc := 14) (ls := [(0, .ref (mi_RO + 10)), (1, .int x1), (2, .int 0)]) (st := [.ref (mi_RO + 10), .int 0, .int x1, .ref (mi_RO + 20)]) (h := ks i a q r) (i := (.invokevirtual 505, 3, 227, 0, 9, 0, 193)) (mi_k229.2 _ _ (by rfl)) (ft_invS mi_pq227 (by rfl)) (cy := mi_c227) mi_pq227 rfl (ke227_1000010 hG.I hG.R ) (by decide) ?_
    intro vg2 hg2
    have z3 : vg2.toInt = 6 := hg2
    refine ko_eq (x1 := (17, [(0, .ref (mi_RO + 10)), (1, .int x1), (2, .int 0)], [.int 6, .int 0, .int x1, .ref (mi_RO + 20)], (0, 0), ks i a q r)) (by rw [(kj_eq (op42 z3) (by decide) : vg2 = 6)]) ?_
    refine ko_callPI mi_k229.1 (pc := 17) (ls := [(0, .ref (mi_RO + 10)), (1, .int x1), (2, .int 0)]) (st := [.int 6, .int 0, .int x1, .ref (mi_RO + 20)]) (h := ks i a q r) (i := (.invokestatic 637, 3, 233, 0, 9, 0, 194)) (mi_k229.2 _ _ (by rfl)) (ft_invS mi_pq233 (by rfl)) (cy := mi_c233) mi_pq233 rfl (ke233_1000020_l10_l26 hG.I hG.R x1 (op53 hp0.1 hp0.2)) (by decide) ?_
    intro vg4 hg4
    have z5 : (((-1) : Int) ≤ vg4.toInt) ∧ (vg4.toInt ≤ 5) ∧ (((x1.toInt = 119) → (vg4.toInt = 0))) ∧ (((x1.toInt = 112) → (vg4.toInt = 1))) ∧ (((x1.toInt = 104) → (vg4.toInt = 2))) ∧ (((x1.toInt = 110) → (vg4.toInt = 3))) ∧ (((x1.toInt = 111) → (vg4.toInt = 4))) ∧ (((x1.toInt = 100) → (vg4.toInt = 5))) ∧ (((vg4.toInt = 0) → (x1.toInt = 119))) ∧ (((vg4.toInt = 1) → (x1.toInt = 112))) ∧ (((vg4.toInt = 2) → (x1.toInt = 104))) ∧ (((vg4.toInt = 3) → (x1.toInt = 110))) ∧ (((vg4.toInt = 4) → (x1.toInt = 111))) ∧ (((vg4.toInt = 5) → (x1.toInt = 100))) ∧ ((vg4.toInt = (-1)) ∨ (x1.toInt = 119) ∨ (x1.toInt = 112) ∨ (x1.toInt = 104) ∨ (x1.toInt = 110) ∨ (x1.toInt = 111) ∨ (x1.toInt = 100)) := hg4
    refine ft_go mi_k229 1 36 [(0, .ref (mi_RO + 10)), (1, .int x1), (2, .int 0)] [.int vg4] i a q r (by rfl) ?_
    exact ft_ret mi_k229 (by rfl) (hP vg4 (op54 z5.1 z5.2.1 z5.2.2.1 z5.2.2.2.1 z5.2.2.2.2.1 z5.2.2.2.2.2.1 z5.2.2.2.2.2.2.1 z5.2.2.2.2.2.2.2.1 z5.2.2.2.2.2.2.2.2.1 z5.2.2.2.2.2.2.2.2.2.1 z5.2.2.2.2.2.2.2.2.2.2.1 z5.2.2.2.2.2.2.2.2.2.2.2.1 z5.2.2.2.2.2.2.2.2.2.2.2.2.1 z5.2.2.2.2.2.2.2.2.2.2.2.2.2.1 z5.2.2.2.2.2.2.2.2.2.2.2.2.2.2))
  ·
    subst eg1
    have z6 : (2 : Int) ≤ 1 := hg1
    exact (op56 z6).elim
set_option maxRecDepth 100000 in
theorem ke228_1000010 {i : Nat → Int32} {a : Nat → List Int32} {q : Nat → List Int64} {r : Nat → Nat} (hI : kI i a q) (hr : kr r) (x1 : Int32) (hp0 : ((0 : Int) ≤ x1.toInt) ∧ (x1.toInt ≤ 255)) : km 7 228 [.ref (mi_RO + 10), .int x1] (ks i a q r) (kPI (ks i a q r) (fun v => (((-1) : Int) ≤ v.toInt) ∧ (v.toInt ≤ 5) ∧ (((x1.toInt = 119) → (v.toInt = 0))) ∧ (((x1.toInt = 112) → (v.toInt = 1))) ∧ (((x1.toInt = 104) → (v.toInt = 2))) ∧ (((x1.toInt = 110) → (v.toInt = 3))) ∧ (((x1.toInt = 111) → (v.toInt = 4))) ∧ (((x1.toInt = 100) → (v.toInt = 5))) ∧ (((v.toInt = 0) → (x1.toInt = 119))) ∧ (((v.toInt = 1) → (x1.toInt = 112))) ∧ (((v.toInt = 2) → (x1.toInt = 104))) ∧ (((v.toInt = 3) → (x1.toInt = 110))) ∧ (((v.toInt = 4) → (x1.toInt = 111))) ∧ (((v.toInt = 5) → (x1.toInt = 100))) ∧ ((v.toInt = (-1)) ∨ (x1.toInt = 119) ∨ (x1.toInt = 112) ∨ (x1.toInt = 104) ∨ (x1.toInt = 110) ∨ (x1.toInt = 111) ∨ (x1.toInt = 100)))) := by
  have hG := kG_self kW0 hI hr
  refine km_ofPI (q := (mi_h228, mi_c228)) rfl (by decide) (Nat.le_of_ble_eq_true rfl) ?_
  intro P hP
  refine ft_go mi_k228 3 3 [(0, .ref (mi_RO + 10)), (1, .int x1)] [.int 0, .int x1, .ref (mi_RO + 10)] i a q r (by rfl) ?_
  refine ko_callPI mi_k228.1 (pc := 3) (ls := [(0, .ref (mi_RO + 10)), (1, .int x1)]) (st := [.int 0, .int x1, .ref (mi_RO + 10)]) (h := ks i a q r) (i := (.invokevirtual 633, 3, 229, 0, 9, 0, 191)) (mi_k228.2 _ _ (by rfl)) (ft_invS mi_pq229 (by rfl)) (cy := mi_c229) mi_pq229 rfl (ke229_1000010_l10 hG.I hG.R x1 (op53 hp0.1 hp0.2)) (by decide) ?_
  intro vg1 hg1
  have z2 : (((-1) : Int) ≤ vg1.toInt) ∧ (vg1.toInt ≤ 5) ∧ (((x1.toInt = 119) → (vg1.toInt = 0))) ∧ (((x1.toInt = 112) → (vg1.toInt = 1))) ∧ (((x1.toInt = 104) → (vg1.toInt = 2))) ∧ (((x1.toInt = 110) → (vg1.toInt = 3))) ∧ (((x1.toInt = 111) → (vg1.toInt = 4))) ∧ (((x1.toInt = 100) → (vg1.toInt = 5))) ∧ (((vg1.toInt = 0) → (x1.toInt = 119))) ∧ (((vg1.toInt = 1) → (x1.toInt = 112))) ∧ (((vg1.toInt = 2) → (x1.toInt = 104))) ∧ (((vg1.toInt = 3) → (x1.toInt = 110))) ∧ (((vg1.toInt = 4) → (x1.toInt = 111))) ∧ (((vg1.toInt = 5) → (x1.toInt = 100))) ∧ ((vg1.toInt = (-1)) ∨ (x1.toInt = 119) ∨ (x1.toInt = 112) ∨ (x1.toInt = 104) ∨ (x1.toInt = 110) ∨ (x1.toInt = 111) ∨ (x1.toInt = 100)) := hg1
  exact ft_ret mi_k228 (by rfl) (hP vg1 (op54 z2.1 z2.2.1 z2.2.2.1 z2.2.2.2.1 z2.2.2.2.2.1 z2.2.2.2.2.2.1 z2.2.2.2.2.2.2.1 z2.2.2.2.2.2.2.2.1 z2.2.2.2.2.2.2.2.2.1 z2.2.2.2.2.2.2.2.2.2.1 z2.2.2.2.2.2.2.2.2.2.2.1 z2.2.2.2.2.2.2.2.2.2.2.2.1 z2.2.2.2.2.2.2.2.2.2.2.2.2.1 z2.2.2.2.2.2.2.2.2.2.2.2.2.2.1 z2.2.2.2.2.2.2.2.2.2.2.2.2.2.2))
def yw47_98_1000010 : kW := ([6274], [], [], [])
set_option maxRecDepth 100000 in
theorem ke47_98_1000010 {i : Nat → Int32} {a : Nat → List Int32} {q : Nat → List Int64} {r : Nat → Nat} (hI : kI i a q) (hr : kr r) (t : List Int32) (nn : Int32) (hT : a 99 = t) (hN : i 6273 = nn) (hX : kBy t) : km 9 47 [.ref 98, .ref (mi_RO + 10)] (ks i a q r) (kVI yw47_98_1000010 i a q r (fun v i1 a1 q1 r1 => (((v.toInt = (-1)) ∧ ((i1 6274).toInt = (i 6274).toInt)) ∨ (((i1 6274).toInt = ((i 6274).toInt + 1)) ∧ ((i 6274).toInt < (i 6273).toInt) ∧ ((i 6275).toInt = 0) ∧ ((v.toInt = 119) ∨ (v.toInt = 112) ∨ (v.toInt = 104) ∨ (v.toInt = 110) ∨ (v.toInt = 111) ∨ (v.toInt = 100)))) ∧ (v, i1 6274) = cOfP t nn oNam (i 6274) (i 6275))) := by
  have hG := kG_self yw47_98_1000010 hI hr
  refine km_ofI (q := (mi_h47, mi_c47)) rfl (by decide) (Nat.le_of_ble_eq_true rfl) ?_
  intro P hP
  have hn1 : (i 6273).toInt = nn.toInt := congrArg Int32.toInt hN
  refine ft_go mi_k47 1 1 [(0, .ref 98), (1, .ref (mi_RO + 10))] [.ref 98] i a q r (by rfl) ?_
  refine ko_callPI mi_k47.1 (pc := 1) (ls := [(0, .ref 98), (1, .ref (mi_RO + 10))]) (st := [.ref 98]) (h := ks i a q r) (i := (.invokevirtual 46, 3, 45, 0, 9, 0, 184)) (mi_k47.2 _ _ (by rfl)) (ft_invS mi_pq45 (by rfl)) (cy := mi_c45) mi_pq45 rfl (ke45_98 hG.I hG.R t nn hT hN hX) (by decide) ?_
  intro vg2 hg2
  obtain ⟨hg2, og2⟩ := hg2
  have fi_6275 : ((0 : Int) ≤ (i 6275).toInt) ∧ ((i 6275).toInt ≤ 1) := hG.I.1 6275
  have fi_6274 : ((0 : Int) ≤ (i 6274).toInt) ∧ ((i 6274).toInt ≤ 120) := hG.I.1 6274
  have fi_6273 : ((0 : Int) ≤ (i 6273).toInt) ∧ ((i 6273).toInt ≤ 120) := hG.I.1 6273
  have z3 : (((-1) : Int) ≤ vg2.toInt) ∧ (vg2.toInt ≤ 255) ∧ ((vg2.toInt = (-1)) ∨ (((i 6275).toInt = 0) ∧ ((i 6274).toInt < (i 6273).toInt))) := hg2
  have q4 : vg2 = cHr t nn (i 6274) (i 6275) := og2
  have hv5 : vg2.toInt = (cHr t nn (i 6274) (i 6275)).toInt := congrArg Int32.toInt og2
  refine ft_go mi_k47 3 7 [(2, .int vg2), (0, .ref 98), (1, .ref (mi_RO + 10))] [.int (-1), .int vg2] i a q r (by rfl) ?_
  refine ft_if mi_k47 (vg2 == (-1)) 19 10 [(2, .int vg2), (0, .ref 98), (1, .ref (mi_RO + 10))] [] (by rfl) (fun c => ?_) (fun c => ?_)
  ·
    have c6 : vg2.toInt = ((-1) : Int32).toInt := kd_eq c; clear c
    refine ft_go mi_k47 1 20 [(2, .int vg2), (0, .ref 98), (1, .ref (mi_RO + 10))] [.int (-1)] i a q r (by rfl) ?_
    exact ft_ret mi_k47 (by rfl) (hP (-1) _ _ _ _ hG ⟨(op37 kopm1), (ofP_n (o := oNam) (decide_eq_false (op38 c6 hv5 kopm1)))⟩)
  ·
    have c7 : vg2.toInt ≠ ((-1) : Int32).toInt := kd_eqF c; clear c
    have s8 : ((vg2.toUInt32 % 65536).toInt32).toInt = vg2.toInt := kd_i2c (op39 c7 z3.1 kopm1) (Int.le_trans (op40 z3.2.1) (by decide))
    refine ft_go mi_k47 3 13 [(2, .int vg2), (0, .ref 98), (1, .ref (mi_RO + 10))] [.int ((vg2.toUInt32 % 65536).toInt32), .ref (mi_RO + 10)] i a q r (by rfl) ?_
    refine ko_callPI mi_k47.1 (pc := 13) (ls := [(2, .int vg2), (0, .ref 98), (1, .ref (mi_RO + 10))]) (st := [.int ((vg2.toUInt32 % 65536).toInt32), .ref (mi_RO + 10)]) (h := ks i a q r) (i := (.invokevirtual 50, 3, 228, 0, 9, 0, 190)) (mi_k47.2 _ _ (by rfl)) (ft_invS mi_pq228 (by rfl)) (cy := mi_c228) mi_pq228 rfl (ke228_1000010 hG.I hG.R ((vg2.toUInt32 % 65536).toInt32) (op57 c7 s8 z3.1 z3.2.1 kopm1)) (by decide) ?_
    intro vg9 hg9
    have z10 : (((-1) : Int) ≤ vg9.toInt) ∧ (vg9.toInt ≤ 5) ∧ (((((vg2.toUInt32 % 65536).toInt32).toInt = 119) → (vg9.toInt = 0))) ∧ (((((vg2.toUInt32 % 65536).toInt32).toInt = 112) → (vg9.toInt = 1))) ∧ (((((vg2.toUInt32 % 65536).toInt32).toInt = 104) → (vg9.toInt = 2))) ∧ (((((vg2.toUInt32 % 65536).toInt32).toInt = 110) → (vg9.toInt = 3))) ∧ (((((vg2.toUInt32 % 65536).toInt32).toInt = 111) → (vg9.toInt = 4))) ∧ (((((vg2.toUInt32 % 65536).toInt32).toInt = 100) → (vg9.toInt = 5))) ∧ (((vg9.toInt = 0) → (((vg2.toUInt32 % 65536).toInt32).toInt = 119))) ∧ (((vg9.toInt = 1) → (((vg2.toUInt32 % 65536).toInt32).toInt = 112))) ∧ (((vg9.toInt = 2) → (((vg2.toUInt32 % 65536).toInt32).toInt = 104))) ∧ (((vg9.toInt = 3) → (((vg2.toUInt32 % 65536).toInt32).toInt = 110))) ∧ (((vg9.toInt = 4) → (((vg2.toUInt32 % 65536).toInt32).toInt = 111))) ∧ (((vg9.toInt = 5) → (((vg2.toUInt32 % 65536).toInt32).toInt = 100))) ∧ ((vg9.toInt = (-1)) ∨ (((vg2.toUInt32 % 65536).toInt32).toInt = 119) ∨ (((vg2.toUInt32 % 65536).toInt32).toInt = 112) ∨ (((vg2.toUInt32 % 65536).toInt32).toInt = 104) ∨ (((vg2.toUInt32 % 65536).toInt32).toInt = 110) ∨ (((vg2.toUInt32 % 65536).toInt32).toInt = 111) ∨ (((vg2.toUInt32 % 65536).toInt32).toInt = 100)) := hg9
    refine ft_if mi_k47 (decide (0 ≤ vg9)) 21 19 [(2, .int vg2), (0, .ref 98), (1, .ref (mi_RO + 10))] [] (by rfl) (fun c => ?_) (fun c => ?_)
    ·
      have c11 : (0 : Int32).toInt ≤ vg9.toInt := kd_le c; clear c
      have s12 : ((i 6274) + 1).toInt = (i 6274).toInt + (1 : Int32).toInt := kd_add (op18 fi_6274.1 kop1) (op26 fi_6274.2 kop1)
      have hJ13 := kG_i hG 6274 rfl (v := ((i 6274) + 1)) ⟨(op20 fi_6274.1 s12 kop1), (op58 c7 fi_6273.2 s12 z3.1 z3.2.2 kopm1 kop1)⟩
      refine ft_go mi_k47 7 32 [(2, .int vg2), (0, .ref 98), (1, .ref (mi_RO + 10))] [.int vg2] (ku i 6274 ((i 6274) + 1)) a q r (by rfl) ?_
      exact ft_ret mi_k47 (by rfl) (hP vg2 _ _ _ _ hJ13 ⟨(op59 c11 fi_6275.1 s12 s8 z10.2.2.2.2.2.2.2.2.2.2.2.2.2.2 z3.2.2 kop0 kop1), (ofP_y (o := oNam) (decide_eq_true (op60 c11 hv5 s8 z10.2.2.2.2.2.2.2.2.2.2.2.2.2.2 kop0)) og2)⟩)
    ·
      have c14 : vg9.toInt < (0 : Int32).toInt := kd_leF c; clear c
      refine ft_go mi_k47 1 20 [(2, .int vg2), (0, .ref 98), (1, .ref (mi_RO + 10))] [.int (-1)] i a q r (by rfl) ?_
      exact ft_ret mi_k47 (by rfl) (hP (-1) _ _ _ _ hG ⟨(op37 kopm1), (ofP_n (o := oNam) (decide_eq_false (op61 c14 hv5 s8 z10.2.2.1 z10.2.2.2.1 z10.2.2.2.2.1 z10.2.2.2.2.2.1 z10.2.2.2.2.2.2.1 z10.2.2.2.2.2.2.2.1 kop0)))⟩)
set_option maxRecDepth 100000 in
theorem ke230_1000011 {i : Nat → Int32} {a : Nat → List Int32} {q : Nat → List Int64} {r : Nat → Nat} (hI : kI i a q) (hr : kr r)  : km 1 230 [.ref (mi_RO + 11)] (ks i a q r) (kPI (ks i a q r) (fun v => v.toInt = 0)) := by
  have hG := kG_self kW0 hI hr
  refine km_ofPI (q := (mi_h230, mi_c230)) rfl (by decide) (Nat.le_of_ble_eq_true rfl) ?_
  intro P hP
  refine ft_go mi_k230 5 14 [(0, .ref (mi_RO + 11))] [.int 0] i a q r (by rfl) ?_
  exact ft_ret mi_k230 (by rfl) (hP 0 (op41 kop0))
set_option maxRecDepth 100000 in
theorem ke227_1000011 {i : Nat → Int32} {a : Nat → List Int32} {q : Nat → List Int64} {r : Nat → Nat} (hI : kI i a q) (hr : kr r)  : km 3 227 [.ref (mi_RO + 11)] (ks i a q r) (kPI (ks i a q r) (fun v => v.toInt = 3)) := by
  have hG := kG_self kW0 hI hr
  refine km_ofPI (q := (mi_h227, mi_c227)) rfl (by decide) (Nat.le_of_ble_eq_true rfl) ?_
  intro P hP
  first | refine ft_go mi_k227 4 6 [(0, .ref (mi_RO + 11))] [.ref (mi_RO + 11), .int 3] i a q r (by rfl) ?_ | refine ko_steps mi_in227 4 _ (6, [(0, .ref (mi_RO + 11))], [.ref (mi_RO + 11), .int 3], (0, 0), ks i a q r) (by rfl) ?_
  refine ko_callPI mi_k227.1 (pc := 6) (ls := [(0, .ref (mi_RO + 11))]) (st := [.ref (mi_RO + 11), .int 3]) (h := ks i a q r) (i := (.invokevirtual 335, 3, 230, 0, 9, 0, 32)) (mi_k227.2 _ _ (by rfl)) (ft_invS mi_pq230 (by rfl)) (cy := mi_c230) mi_pq230 rfl (ke230_1000011 hG.I hG.R ) (by decide) ?_
  intro vg1 hg1
  have z2 : vg1.toInt = 0 := hg1
  refine ko_eq (x1 := (9, [(0, .ref (mi_RO + 11))], [.int 0, .int 3], (0, 0), ks i a q r)) (by rw [(kj_eq (op41 z2) (by decide) : vg1 = 0)]) ?_
  first | refine ft_go mi_k227 1 10 [(0, .ref (mi_RO + 11))] [.int ((3 : Int32) >>> ((0 : Int32) &&& 31))] i a q r (by rfl) ?_ | refine ko_steps mi_in227 1 _ (10, [(0, .ref (mi_RO + 11))], [.int ((3 : Int32) >>> ((0 : Int32) &&& 31))], (0, 0), ks i a q r) (by rfl) ?_
  refine ko_eq (x1 := (10, [(0, .ref (mi_RO + 11))], [.int 3], (0, 0), ks i a q r)) (by rw [(by decide : ((3 : Int32) >>> ((0 : Int32) &&& 31) : Int32) = 3)]) ?_
  exact ft_ret mi_k227 (by rfl) (hP 3 (op70 kop3))
set_option maxRecDepth 100000 in
theorem ke234_1000021_l10_l23 {i : Nat → Int32} {a : Nat → List Int32} {q : Nat → List Int64} {r : Nat → Nat} (hI : kI i a q) (hr : kr r) (x2 : Int32) (hp0 : ((0 : Int) ≤ x2.toInt) ∧ (x2.toInt ≤ 255)) : km 1 234 [.ref (mi_RO + 21), .int x2, .int 0, .int 3] (ks i a q r) (kPI (ks i a q r) (fun v => (((-1) : Int) ≤ v.toInt) ∧ (v.toInt ≤ 2) ∧ (((x2.toInt = 40) → (v.toInt = 0))) ∧ (((x2.toInt = 33) → (v.toInt = 1))) ∧ (((x2.toInt = 45) → (v.toInt = 2))) ∧ (((v.toInt = 0) → (x2.toInt = 40))) ∧ (((v.toInt = 1) → (x2.toInt = 33))) ∧ (((v.toInt = 2) → (x2.toInt = 45))) ∧ ((v.toInt = (-1)) ∨ (x2.toInt = 40) ∨ (x2.toInt = 33) ∨ (x2.toInt = 45)))) := by
  have hG := kG_self kW0 hI hr
  refine km_ofPI (q := (mi_h234, mi_c234)) rfl (by decide) (Nat.le_of_ble_eq_true rfl) ?_
  intro P hP
  have s1 : ((x2.toInt ≤ 127 → x2.toInt8.toInt32.toInt = x2.toInt)) ∧ ((128 ≤ x2.toInt → x2.toInt8.toInt32.toInt = x2.toInt - 256)) := kd_i2b (op4 hp0.1) (op40 hp0.2)
  first | refine ft_go mi_k234 12 19 [(5, .int 0), (4, .int x2.toInt8.toInt32), (0, .ref (mi_RO + 21)), (1, .int x2), (2, .int 0), (3, .int 3)] [.int x2.toInt8.toInt32, .int 40] i a q r (by rfl) ?_ | refine ko_steps mi_in234 12 _ (19, [(5, .int 0), (4, .int x2.toInt8.toInt32), (0, .ref (mi_RO + 21)), (1, .int x2), (2, .int 0), (3, .int 3)], [.int x2.toInt8.toInt32, .int 40], (0, 0), ks i a q r) (by rfl) ?_
  refine ft_if mi_k234 (40 != x2.toInt8.toInt32) 25 22 [(5, .int 0), (4, .int x2.toInt8.toInt32), (0, .ref (mi_RO + 21)), (1, .int x2), (2, .int 0), (3, .int 3)] [] (by rfl) (fun c => ?_) (fun c => ?_)
  ·
    have c2 : (40 : Int32).toInt ≠ x2.toInt8.toInt32.toInt := kd_ne c; clear c
    first | refine ft_go mi_k234 1 28 [(5, .int (0 + 1)), (4, .int x2.toInt8.toInt32), (0, .ref (mi_RO + 21)), (1, .int x2), (2, .int 0), (3, .int 3)] [] i a q r (by rfl) ?_ | refine ko_steps mi_in234 1 _ (28, [(5, .int (0 + 1)), (4, .int x2.toInt8.toInt32), (0, .ref (mi_RO + 21)), (1, .int x2), (2, .int 0), (3, .int 3)], [], (0, 0), ks i a q r) (by rfl) ?_
    refine ko_eq (x1 := (28, [(5, .int 1), (4, .int x2.toInt8.toInt32), (0, .ref (mi_RO + 21)), (1, .int x2), (2, .int 0), (3, .int 3)], [], (0, 0), ks i a q r)) (by rw [(by decide : (0 + 1 : Int32) = 1)]) ?_
    first | refine ft_go mi_k234 8 19 [(5, .int 1), (4, .int x2.toInt8.toInt32), (0, .ref (mi_RO + 21)), (1, .int x2), (2, .int 0), (3, .int 3)] [.int x2.toInt8.toInt32, .int 33] i a q r (by rfl) ?_ | refine ko_steps mi_in234 8 _ (19, [(5, .int 1), (4, .int x2.toInt8.toInt32), (0, .ref (mi_RO + 21)), (1, .int x2), (2, .int 0), (3, .int 3)], [.int x2.toInt8.toInt32, .int 33], (0, 0), ks i a q r) (by rfl) ?_
    refine ft_if mi_k234 (33 != x2.toInt8.toInt32) 25 22 [(5, .int 1), (4, .int x2.toInt8.toInt32), (0, .ref (mi_RO + 21)), (1, .int x2), (2, .int 0), (3, .int 3)] [] (by rfl) (fun c => ?_) (fun c => ?_)
    ·
      have c3 : (33 : Int32).toInt ≠ x2.toInt8.toInt32.toInt := kd_ne c; clear c
      first | refine ft_go mi_k234 1 28 [(5, .int (1 + 1)), (4, .int x2.toInt8.toInt32), (0, .ref (mi_RO + 21)), (1, .int x2), (2, .int 0), (3, .int 3)] [] i a q r (by rfl) ?_ | refine ko_steps mi_in234 1 _ (28, [(5, .int (1 + 1)), (4, .int x2.toInt8.toInt32), (0, .ref (mi_RO + 21)), (1, .int x2), (2, .int 0), (3, .int 3)], [], (0, 0), ks i a q r) (by rfl) ?_
      refine ko_eq (x1 := (28, [(5, .int 2), (4, .int x2.toInt8.toInt32), (0, .ref (mi_RO + 21)), (1, .int x2), (2, .int 0), (3, .int 3)], [], (0, 0), ks i a q r)) (by rw [(by decide : (1 + 1 : Int32) = 2)]) ?_
      first | refine ft_go mi_k234 8 19 [(5, .int 2), (4, .int x2.toInt8.toInt32), (0, .ref (mi_RO + 21)), (1, .int x2), (2, .int 0), (3, .int 3)] [.int x2.toInt8.toInt32, .int 45] i a q r (by rfl) ?_ | refine ko_steps mi_in234 8 _ (19, [(5, .int 2), (4, .int x2.toInt8.toInt32), (0, .ref (mi_RO + 21)), (1, .int x2), (2, .int 0), (3, .int 3)], [.int x2.toInt8.toInt32, .int 45], (0, 0), ks i a q r) (by rfl) ?_
      refine ft_if mi_k234 (45 != x2.toInt8.toInt32) 25 22 [(5, .int 2), (4, .int x2.toInt8.toInt32), (0, .ref (mi_RO + 21)), (1, .int x2), (2, .int 0), (3, .int 3)] [] (by rfl) (fun c => ?_) (fun c => ?_)
      ·
        have c4 : (45 : Int32).toInt ≠ x2.toInt8.toInt32.toInt := kd_ne c; clear c
        first | refine ft_go mi_k234 1 28 [(5, .int (2 + 1)), (4, .int x2.toInt8.toInt32), (0, .ref (mi_RO + 21)), (1, .int x2), (2, .int 0), (3, .int 3)] [] i a q r (by rfl) ?_ | refine ko_steps mi_in234 1 _ (28, [(5, .int (2 + 1)), (4, .int x2.toInt8.toInt32), (0, .ref (mi_RO + 21)), (1, .int x2), (2, .int 0), (3, .int 3)], [], (0, 0), ks i a q r) (by rfl) ?_
        refine ko_eq (x1 := (28, [(5, .int 3), (4, .int x2.toInt8.toInt32), (0, .ref (mi_RO + 21)), (1, .int x2), (2, .int 0), (3, .int 3)], [], (0, 0), ks i a q r)) (by rw [(by decide : (2 + 1 : Int32) = 3)]) ?_
        first | refine ft_go mi_k234 5 32 [(5, .int 3), (4, .int x2.toInt8.toInt32), (0, .ref (mi_RO + 21)), (1, .int x2), (2, .int 0), (3, .int 3)] [.int (-1)] i a q r (by rfl) ?_ | refine ko_steps mi_in234 5 _ (32, [(5, .int 3), (4, .int x2.toInt8.toInt32), (0, .ref (mi_RO + 21)), (1, .int x2), (2, .int 0), (3, .int 3)], [.int (-1)], (0, 0), ks i a q r) (by rfl) ?_
        exact ft_ret mi_k234 (by rfl) (hP (-1) (op71 c2 c3 c4 s1.1 kop40 kop33 kop45 kopm1))
      ·
        have c5 : (45 : Int32).toInt = x2.toInt8.toInt32.toInt := kd_neF c; clear c
        first | refine ft_go mi_k234 1 24 [(5, .int 2), (4, .int x2.toInt8.toInt32), (0, .ref (mi_RO + 21)), (1, .int x2), (2, .int 0), (3, .int 3)] [.int 2] i a q r (by rfl) ?_ | refine ko_steps mi_in234 1 _ (24, [(5, .int 2), (4, .int x2.toInt8.toInt32), (0, .ref (mi_RO + 21)), (1, .int x2), (2, .int 0), (3, .int 3)], [.int 2], (0, 0), ks i a q r) (by rfl) ?_
        exact ft_ret mi_k234 (by rfl) (hP 2 (op72 c5 hp0.2 s1.1 s1.2 kop45 kop2))
    ·
      have c6 : (33 : Int32).toInt = x2.toInt8.toInt32.toInt := kd_neF c; clear c
      first | refine ft_go mi_k234 1 24 [(5, .int 1), (4, .int x2.toInt8.toInt32), (0, .ref (mi_RO + 21)), (1, .int x2), (2, .int 0), (3, .int 3)] [.int 1] i a q r (by rfl) ?_ | refine ko_steps mi_in234 1 _ (24, [(5, .int 1), (4, .int x2.toInt8.toInt32), (0, .ref (mi_RO + 21)), (1, .int x2), (2, .int 0), (3, .int 3)], [.int 1], (0, 0), ks i a q r) (by rfl) ?_
      exact ft_ret mi_k234 (by rfl) (hP 1 (op73 c6 hp0.2 s1.1 s1.2 kop33 kop1))
  ·
    have c7 : (40 : Int32).toInt = x2.toInt8.toInt32.toInt := kd_neF c; clear c
    first | refine ft_go mi_k234 1 24 [(5, .int 0), (4, .int x2.toInt8.toInt32), (0, .ref (mi_RO + 21)), (1, .int x2), (2, .int 0), (3, .int 3)] [.int 0] i a q r (by rfl) ?_ | refine ko_steps mi_in234 1 _ (24, [(5, .int 0), (4, .int x2.toInt8.toInt32), (0, .ref (mi_RO + 21)), (1, .int x2), (2, .int 0), (3, .int 3)], [.int 0], (0, 0), ks i a q r) (by rfl) ?_
    exact ft_ret mi_k234 (by rfl) (hP 0 (op74 c7 hp0.2 s1.1 s1.2 kop40 kop0))
set_option maxRecDepth 100000 in
theorem ke233_1000021_l10_l23 {i : Nat → Int32} {a : Nat → List Int32} {q : Nat → List Int64} {r : Nat → Nat} (hI : kI i a q) (hr : kr r) (x2 : Int32) (hp0 : ((0 : Int) ≤ x2.toInt) ∧ (x2.toInt ≤ 255)) : km 3 233 [.ref (mi_RO + 21), .int x2, .int 0, .int 3] (ks i a q r) (kPI (ks i a q r) (fun v => (((-1) : Int) ≤ v.toInt) ∧ (v.toInt ≤ 2) ∧ (((x2.toInt = 40) → (v.toInt = 0))) ∧ (((x2.toInt = 33) → (v.toInt = 1))) ∧ (((x2.toInt = 45) → (v.toInt = 2))) ∧ (((v.toInt = 0) → (x2.toInt = 40))) ∧ (((v.toInt = 1) → (x2.toInt = 33))) ∧ (((v.toInt = 2) → (x2.toInt = 45))) ∧ ((v.toInt = (-1)) ∨ (x2.toInt = 40) ∨ (x2.toInt = 33) ∨ (x2.toInt = 45)))) := by
  have hG := kG_self kW0 hI hr
  refine km_ofPI (q := (mi_h233, mi_c233)) rfl (by decide) (Nat.le_of_ble_eq_true rfl) ?_
  intro P hP
  first | refine ft_go mi_k233 1 1 [(0, .ref (mi_RO + 21)), (1, .int x2), (2, .int 0), (3, .int 3)] [.int x2] i a q r (by rfl) ?_ | refine ko_steps mi_in233 1 _ (1, [(0, .ref (mi_RO + 21)), (1, .int x2), (2, .int 0), (3, .int 3)], [.int x2], (0, 0), ks i a q r) (by rfl) ?_
  refine ko_callPI mi_k233.1 (pc := 1) (ls := [(0, .ref (mi_RO + 21)), (1, .int x2), (2, .int 0), (3, .int 3)]) (st := [.int x2]) (h := ks i a q r) (i := (.invokestatic 88, 3, 232, 0, 9, 0, 195)) (mi_k233.2 _ _ (by rfl)) (ft_invS mi_pq232 (by rfl)) (cy := mi_c232) mi_pq232 rfl (ke232 hG.I hG.R x2) (by decide) ?_
  intro vg1 hg1
  rcases hg1 with ⟨eg1, hg1⟩ | ⟨eg1, hg1⟩
  ·
    subst eg1
    first | refine ft_go mi_k233 4 14 [(0, .ref (mi_RO + 21)), (1, .int x2), (2, .int 0), (3, .int 3)] [.int (bif decide ((0 : Int32) < 0) then 0 else 0)] i a q r (by rfl) ?_ | refine ko_steps mi_in233 4 _ (14, [(0, .ref (mi_RO + 21)), (1, .int x2), (2, .int 0), (3, .int 3)], [.int (bif decide ((0 : Int32) < 0) then 0 else 0)], (0, 0), ks i a q r) (by rfl) ?_
    refine ko_eq (x1 := (14, [(0, .ref (mi_RO + 21)), (1, .int x2), (2, .int 0), (3, .int 3)], [.int 0], (0, 0), ks i a q r)) (by rw [(by decide : (bif decide ((0 : Int32) < 0) then 0 else 0 : Int32) = 0)]) ?_
    first | refine ft_go mi_k233 5 21 [(2, .int 0), (0, .ref (mi_RO + 21)), (1, .int x2), (3, .int 3)] [.int (bif decide ((3 : Int32) < 3) then 3 else 3)] i a q r (by rfl) ?_ | refine ko_steps mi_in233 5 _ (21, [(2, .int 0), (0, .ref (mi_RO + 21)), (1, .int x2), (3, .int 3)], [.int (bif decide ((3 : Int32) < 3) then 3 else 3)], (0, 0), ks i a q r) (by rfl) ?_
    refine ko_eq (x1 := (21, [(2, .int 0), (0, .ref (mi_RO + 21)), (1, .int x2), (3, .int 3)], [.int 3], (0, 0), ks i a q r)) (by rw [(by decide : (bif decide ((3 : Int32) < 3) then 3 else 3 : Int32) = 3)]) ?_
    first | refine ft_go mi_k233 8 33 [(3, .int 3), (2, .int 0), (0, .ref (mi_RO + 21)), (1, .int x2)] [.int 3, .int 0, .int x2, .ref (mi_RO + 21)] i a q r (by rfl) ?_ | refine ko_steps mi_in233 8 _ (33, [(3, .int 3), (2, .int 0), (0, .ref (mi_RO + 21)), (1, .int x2)], [.int 3, .int 0, .int x2, .ref (mi_RO + 21)], (0, 0), ks i a q r) (by rfl) ?_
    refine ko_callPI mi_k233.1 (pc := 33) (ls := [(3, .int 3), (2, .int 0), (0, .ref (mi_RO + 21)), (1, .int x2)]) (st := [.int 3, .int 0, .int x2, .ref (mi_RO + 21)]) (h := ks i a q r) (i := (.invokestatic 95, 3, 234, 0, 9, 0, 198)) (mi_k233.2 _ _ (by rfl)) (ft_invS mi_pq234 (by rfl)) (cy := mi_c234) mi_pq234 rfl (ke234_1000021_l10_l23 hG.I hG.R x2 (op53 hp0.1 hp0.2)) (by decide) ?_
    intro vg3 hg3
    have z4 : (((-1) : Int) ≤ vg3.toInt) ∧ (vg3.toInt ≤ 2) ∧ (((x2.toInt = 40) → (vg3.toInt = 0))) ∧ (((x2.toInt = 33) → (vg3.toInt = 1))) ∧ (((x2.toInt = 45) → (vg3.toInt = 2))) ∧ (((vg3.toInt = 0) → (x2.toInt = 40))) ∧ (((vg3.toInt = 1) → (x2.toInt = 33))) ∧ (((vg3.toInt = 2) → (x2.toInt = 45))) ∧ ((vg3.toInt = (-1)) ∨ (x2.toInt = 40) ∨ (x2.toInt = 33) ∨ (x2.toInt = 45)) := hg3
    exact ft_ret mi_k233 (by rfl) (hP vg3 (op75 z4.1 z4.2.1 z4.2.2.1 z4.2.2.2.1 z4.2.2.2.2.1 z4.2.2.2.2.2.1 z4.2.2.2.2.2.2.1 z4.2.2.2.2.2.2.2.1 z4.2.2.2.2.2.2.2.2))
  ·
    subst eg1
    have z5 : ¬ (((0 : Int) ≤ x2.toInt) ∧ (x2.toInt ≤ 255)) := hg1
    exact (op55 hp0.1 hp0.2 z5).elim
set_option maxRecDepth 100000 in
theorem ke229_1000011_l10 {i : Nat → Int32} {a : Nat → List Int32} {q : Nat → List Int64} {r : Nat → Nat} (hI : kI i a q) (hr : kr r) (x1 : Int32) (hp0 : ((0 : Int) ≤ x1.toInt) ∧ (x1.toInt ≤ 255)) : km 5 229 [.ref (mi_RO + 11), .int x1, .int 0] (ks i a q r) (kPI (ks i a q r) (fun v => (((-1) : Int) ≤ v.toInt) ∧ (v.toInt ≤ 2) ∧ (((x1.toInt = 40) → (v.toInt = 0))) ∧ (((x1.toInt = 33) → (v.toInt = 1))) ∧ (((x1.toInt = 45) → (v.toInt = 2))) ∧ (((v.toInt = 0) → (x1.toInt = 40))) ∧ (((v.toInt = 1) → (x1.toInt = 33))) ∧ (((v.toInt = 2) → (x1.toInt = 45))) ∧ ((v.toInt = (-1)) ∨ (x1.toInt = 40) ∨ (x1.toInt = 33) ∨ (x1.toInt = 45)))) := by
  have hG := kG_self kW0 hI hr
  refine km_ofPI (q := (mi_h229, mi_c229)) rfl (by decide) (Nat.le_of_ble_eq_true rfl) ?_
  intro P hP
  refine ft_go mi_k229 1 1 [(0, .ref (mi_RO + 11)), (1, .int x1), (2, .int 0)] [.ref (mi_RO + 11)] i a q r (by rfl) ?_
  refine ko_callPI mi_k229.1 (pc := 1) (ls := [(0, .ref (mi_RO + 11)), (1, .int x1), (2, .int 0)]) (st := [.ref (mi_RO + 11)]) (h := ks i a q r) (i := (.invokevirtual 492, 3, 231, 0, 9, 0, 192)) (mi_k229.2 _ _ (by rfl)) (ft_invS mi_pq231 (by rfl)) (cy := mi_c231) mi_pq231 rfl (kc231_S11 hG.I hG.R ) (by decide) ?_
  intro vg1 hg1
  rcases hg1 with ⟨eg1, hg1⟩ | ⟨eg1, hg1⟩
  ·
    subst eg1
    refine ft_go mi_k229 6 14 [(0, .ref (mi_RO + 11)), (1, .int x1), (2, .int 0)] [.ref (mi_RO + 11), .int 0, .int x1, .ref (mi_RO + 21)] i a q r (by rfl) ?_
    refine ko_callPI mi_k229.1 (pc := 14) (ls := [(0, .ref (mi_RO + 11)), (1, .int x1), (2, .int 0)]) (st := [.ref (mi_RO + 11), .int 0, .int x1, .ref (mi_RO + 21)]) (h := ks i a q r) (i := (.invokevirtual 505, 3, 227, 0, 9, 0, 193)) (mi_k229.2 _ _ (by rfl)) (ft_invS mi_pq227 (by rfl)) (cy := mi_c227) mi_pq227 rfl (ke227_1000011 hG.I hG.R ) (by decide) ?_
    intro vg2 hg2
    have z3 : vg2.toInt = 3 := hg2
    refine ko_eq (x1 := (17, [(0, .ref (mi_RO + 11)), (1, .int x1), (2, .int 0)], [.int 3, .int 0, .int x1, .ref (mi_RO + 21)], (0, 0), ks i a q r)) (by rw [(kj_eq (op70 z3) (by decide) : vg2 = 3)]) ?_
    refine ko_callPI mi_k229.1 (pc := 17) (ls := [(0, .ref (mi_RO + 11)), (1, .int x1), (2, .int 0)]) (st := [.int 3, .int 0, .int x1, .ref (mi_RO + 21)]) (h := ks i a q r) (i := (.invokestatic 637, 3, 233, 0, 9, 0, 194)) (mi_k229.2 _ _ (by rfl)) (ft_invS mi_pq233 (by rfl)) (cy := mi_c233) mi_pq233 rfl (ke233_1000021_l10_l23 hG.I hG.R x1 (op53 hp0.1 hp0.2)) (by decide) ?_
    intro vg4 hg4
    have z5 : (((-1) : Int) ≤ vg4.toInt) ∧ (vg4.toInt ≤ 2) ∧ (((x1.toInt = 40) → (vg4.toInt = 0))) ∧ (((x1.toInt = 33) → (vg4.toInt = 1))) ∧ (((x1.toInt = 45) → (vg4.toInt = 2))) ∧ (((vg4.toInt = 0) → (x1.toInt = 40))) ∧ (((vg4.toInt = 1) → (x1.toInt = 33))) ∧ (((vg4.toInt = 2) → (x1.toInt = 45))) ∧ ((vg4.toInt = (-1)) ∨ (x1.toInt = 40) ∨ (x1.toInt = 33) ∨ (x1.toInt = 45)) := hg4
    refine ft_go mi_k229 1 36 [(0, .ref (mi_RO + 11)), (1, .int x1), (2, .int 0)] [.int vg4] i a q r (by rfl) ?_
    exact ft_ret mi_k229 (by rfl) (hP vg4 (op75 z5.1 z5.2.1 z5.2.2.1 z5.2.2.2.1 z5.2.2.2.2.1 z5.2.2.2.2.2.1 z5.2.2.2.2.2.2.1 z5.2.2.2.2.2.2.2.1 z5.2.2.2.2.2.2.2.2))
  ·
    subst eg1
    have z6 : (2 : Int) ≤ 1 := hg1
    exact (op56 z6).elim
set_option maxRecDepth 100000 in
theorem ke228_1000011 {i : Nat → Int32} {a : Nat → List Int32} {q : Nat → List Int64} {r : Nat → Nat} (hI : kI i a q) (hr : kr r) (x1 : Int32) (hp0 : ((0 : Int) ≤ x1.toInt) ∧ (x1.toInt ≤ 255)) : km 7 228 [.ref (mi_RO + 11), .int x1] (ks i a q r) (kPI (ks i a q r) (fun v => (((-1) : Int) ≤ v.toInt) ∧ (v.toInt ≤ 2) ∧ (((x1.toInt = 40) → (v.toInt = 0))) ∧ (((x1.toInt = 33) → (v.toInt = 1))) ∧ (((x1.toInt = 45) → (v.toInt = 2))) ∧ (((v.toInt = 0) → (x1.toInt = 40))) ∧ (((v.toInt = 1) → (x1.toInt = 33))) ∧ (((v.toInt = 2) → (x1.toInt = 45))) ∧ ((v.toInt = (-1)) ∨ (x1.toInt = 40) ∨ (x1.toInt = 33) ∨ (x1.toInt = 45)))) := by
  have hG := kG_self kW0 hI hr
  refine km_ofPI (q := (mi_h228, mi_c228)) rfl (by decide) (Nat.le_of_ble_eq_true rfl) ?_
  intro P hP
  refine ft_go mi_k228 3 3 [(0, .ref (mi_RO + 11)), (1, .int x1)] [.int 0, .int x1, .ref (mi_RO + 11)] i a q r (by rfl) ?_
  refine ko_callPI mi_k228.1 (pc := 3) (ls := [(0, .ref (mi_RO + 11)), (1, .int x1)]) (st := [.int 0, .int x1, .ref (mi_RO + 11)]) (h := ks i a q r) (i := (.invokevirtual 633, 3, 229, 0, 9, 0, 191)) (mi_k228.2 _ _ (by rfl)) (ft_invS mi_pq229 (by rfl)) (cy := mi_c229) mi_pq229 rfl (ke229_1000011_l10 hG.I hG.R x1 (op53 hp0.1 hp0.2)) (by decide) ?_
  intro vg1 hg1
  have z2 : (((-1) : Int) ≤ vg1.toInt) ∧ (vg1.toInt ≤ 2) ∧ (((x1.toInt = 40) → (vg1.toInt = 0))) ∧ (((x1.toInt = 33) → (vg1.toInt = 1))) ∧ (((x1.toInt = 45) → (vg1.toInt = 2))) ∧ (((vg1.toInt = 0) → (x1.toInt = 40))) ∧ (((vg1.toInt = 1) → (x1.toInt = 33))) ∧ (((vg1.toInt = 2) → (x1.toInt = 45))) ∧ ((vg1.toInt = (-1)) ∨ (x1.toInt = 40) ∨ (x1.toInt = 33) ∨ (x1.toInt = 45)) := hg1
  exact ft_ret mi_k228 (by rfl) (hP vg1 (op75 z2.1 z2.2.1 z2.2.2.1 z2.2.2.2.1 z2.2.2.2.2.1 z2.2.2.2.2.2.1 z2.2.2.2.2.2.2.1 z2.2.2.2.2.2.2.2.1 z2.2.2.2.2.2.2.2.2))
def yw47_98_1000011 : kW := ([6274], [], [], [])
set_option maxRecDepth 100000 in
theorem ke47_98_1000011 {i : Nat → Int32} {a : Nat → List Int32} {q : Nat → List Int64} {r : Nat → Nat} (hI : kI i a q) (hr : kr r) (t : List Int32) (nn : Int32) (hT : a 99 = t) (hN : i 6273 = nn) (hX : kBy t) : km 9 47 [.ref 98, .ref (mi_RO + 11)] (ks i a q r) (kVI yw47_98_1000011 i a q r (fun v i1 a1 q1 r1 => (((v.toInt = (-1)) ∧ ((i1 6274).toInt = (i 6274).toInt)) ∨ (((i1 6274).toInt = ((i 6274).toInt + 1)) ∧ ((i 6274).toInt < (i 6273).toInt) ∧ ((i 6275).toInt = 0) ∧ ((v.toInt = 40) ∨ (v.toInt = 33) ∨ (v.toInt = 45)))) ∧ (v, i1 6274) = cOfP t nn oOpn (i 6274) (i 6275))) := by
  have hG := kG_self yw47_98_1000011 hI hr
  refine km_ofI (q := (mi_h47, mi_c47)) rfl (by decide) (Nat.le_of_ble_eq_true rfl) ?_
  intro P hP
  have hn1 : (i 6273).toInt = nn.toInt := congrArg Int32.toInt hN
  refine ft_go mi_k47 1 1 [(0, .ref 98), (1, .ref (mi_RO + 11))] [.ref 98] i a q r (by rfl) ?_
  refine ko_callPI mi_k47.1 (pc := 1) (ls := [(0, .ref 98), (1, .ref (mi_RO + 11))]) (st := [.ref 98]) (h := ks i a q r) (i := (.invokevirtual 46, 3, 45, 0, 9, 0, 184)) (mi_k47.2 _ _ (by rfl)) (ft_invS mi_pq45 (by rfl)) (cy := mi_c45) mi_pq45 rfl (ke45_98 hG.I hG.R t nn hT hN hX) (by decide) ?_
  intro vg2 hg2
  obtain ⟨hg2, og2⟩ := hg2
  have fi_6275 : ((0 : Int) ≤ (i 6275).toInt) ∧ ((i 6275).toInt ≤ 1) := hG.I.1 6275
  have fi_6274 : ((0 : Int) ≤ (i 6274).toInt) ∧ ((i 6274).toInt ≤ 120) := hG.I.1 6274
  have fi_6273 : ((0 : Int) ≤ (i 6273).toInt) ∧ ((i 6273).toInt ≤ 120) := hG.I.1 6273
  have z3 : (((-1) : Int) ≤ vg2.toInt) ∧ (vg2.toInt ≤ 255) ∧ ((vg2.toInt = (-1)) ∨ (((i 6275).toInt = 0) ∧ ((i 6274).toInt < (i 6273).toInt))) := hg2
  have q4 : vg2 = cHr t nn (i 6274) (i 6275) := og2
  have hv5 : vg2.toInt = (cHr t nn (i 6274) (i 6275)).toInt := congrArg Int32.toInt og2
  refine ft_go mi_k47 3 7 [(2, .int vg2), (0, .ref 98), (1, .ref (mi_RO + 11))] [.int (-1), .int vg2] i a q r (by rfl) ?_
  refine ft_if mi_k47 (vg2 == (-1)) 19 10 [(2, .int vg2), (0, .ref 98), (1, .ref (mi_RO + 11))] [] (by rfl) (fun c => ?_) (fun c => ?_)
  ·
    have c6 : vg2.toInt = ((-1) : Int32).toInt := kd_eq c; clear c
    refine ft_go mi_k47 1 20 [(2, .int vg2), (0, .ref 98), (1, .ref (mi_RO + 11))] [.int (-1)] i a q r (by rfl) ?_
    exact ft_ret mi_k47 (by rfl) (hP (-1) _ _ _ _ hG ⟨(op68 kopm1), (ofP_n (o := oOpn) (decide_eq_false (op69 c6 hv5 kopm1)))⟩)
  ·
    have c7 : vg2.toInt ≠ ((-1) : Int32).toInt := kd_eqF c; clear c
    have s8 : ((vg2.toUInt32 % 65536).toInt32).toInt = vg2.toInt := kd_i2c (op39 c7 z3.1 kopm1) (Int.le_trans (op40 z3.2.1) (by decide))
    refine ft_go mi_k47 3 13 [(2, .int vg2), (0, .ref 98), (1, .ref (mi_RO + 11))] [.int ((vg2.toUInt32 % 65536).toInt32), .ref (mi_RO + 11)] i a q r (by rfl) ?_
    refine ko_callPI mi_k47.1 (pc := 13) (ls := [(2, .int vg2), (0, .ref 98), (1, .ref (mi_RO + 11))]) (st := [.int ((vg2.toUInt32 % 65536).toInt32), .ref (mi_RO + 11)]) (h := ks i a q r) (i := (.invokevirtual 50, 3, 228, 0, 9, 0, 190)) (mi_k47.2 _ _ (by rfl)) (ft_invS mi_pq228 (by rfl)) (cy := mi_c228) mi_pq228 rfl (ke228_1000011 hG.I hG.R ((vg2.toUInt32 % 65536).toInt32) (op57 c7 s8 z3.1 z3.2.1 kopm1)) (by decide) ?_
    intro vg9 hg9
    have z10 : (((-1) : Int) ≤ vg9.toInt) ∧ (vg9.toInt ≤ 2) ∧ (((((vg2.toUInt32 % 65536).toInt32).toInt = 40) → (vg9.toInt = 0))) ∧ (((((vg2.toUInt32 % 65536).toInt32).toInt = 33) → (vg9.toInt = 1))) ∧ (((((vg2.toUInt32 % 65536).toInt32).toInt = 45) → (vg9.toInt = 2))) ∧ (((vg9.toInt = 0) → (((vg2.toUInt32 % 65536).toInt32).toInt = 40))) ∧ (((vg9.toInt = 1) → (((vg2.toUInt32 % 65536).toInt32).toInt = 33))) ∧ (((vg9.toInt = 2) → (((vg2.toUInt32 % 65536).toInt32).toInt = 45))) ∧ ((vg9.toInt = (-1)) ∨ (((vg2.toUInt32 % 65536).toInt32).toInt = 40) ∨ (((vg2.toUInt32 % 65536).toInt32).toInt = 33) ∨ (((vg2.toUInt32 % 65536).toInt32).toInt = 45)) := hg9
    refine ft_if mi_k47 (decide (0 ≤ vg9)) 21 19 [(2, .int vg2), (0, .ref 98), (1, .ref (mi_RO + 11))] [] (by rfl) (fun c => ?_) (fun c => ?_)
    ·
      have c11 : (0 : Int32).toInt ≤ vg9.toInt := kd_le c; clear c
      have s12 : ((i 6274) + 1).toInt = (i 6274).toInt + (1 : Int32).toInt := kd_add (op18 fi_6274.1 kop1) (op26 fi_6274.2 kop1)
      have hJ13 := kG_i hG 6274 rfl (v := ((i 6274) + 1)) ⟨(op20 fi_6274.1 s12 kop1), (op58 c7 fi_6273.2 s12 z3.1 z3.2.2 kopm1 kop1)⟩
      refine ft_go mi_k47 7 32 [(2, .int vg2), (0, .ref 98), (1, .ref (mi_RO + 11))] [.int vg2] (ku i 6274 ((i 6274) + 1)) a q r (by rfl) ?_
      exact ft_ret mi_k47 (by rfl) (hP vg2 _ _ _ _ hJ13 ⟨(op76 c11 c7 fi_6275.1 s12 s8 z10.2.1 z10.2.2.1 z10.2.2.2.2.2.1 z10.2.2.2.2.2.2.1 z10.2.2.2.2.2.2.2.1 z3.1 z3.2.2 kop0 kopm1 kop1), (ofP_y (o := oOpn) (decide_eq_true (op77 c11 hv5 s8 z10.2.1 z10.2.2.1 z10.2.2.2.2.2.1 z10.2.2.2.2.2.2.1 z10.2.2.2.2.2.2.2.1 kop0)) og2)⟩)
    ·
      have c14 : vg9.toInt < (0 : Int32).toInt := kd_leF c; clear c
      refine ft_go mi_k47 1 20 [(2, .int vg2), (0, .ref 98), (1, .ref (mi_RO + 11))] [.int (-1)] i a q r (by rfl) ?_
      exact ft_ret mi_k47 (by rfl) (hP (-1) _ _ _ _ hG ⟨(op68 kopm1), (ofP_n (o := oOpn) (decide_eq_false (op78 c14 hv5 s8 z10.2.2.1 z10.2.2.2.1 z10.2.2.2.2.1 kop0)))⟩)
def yw46_98 : kW := ([6274], [], [], [])
set_option maxRecDepth 100000 in
theorem ke46_98 {i : Nat → Int32} {a : Nat → List Int32} {q : Nat → List Int64} {r : Nat → Nat} (hI : kI i a q) (hr : kr r) (x1 : Int32) (hp0 : (0 : Int) ≤ x1.toInt) (t : List Int32) (nn : Int32) (hT : a 99 = t) (hN : i 6273 = nn) (hX : kBy t) : km 3 46 [.ref 98, .int x1] (ks i a q r) (kVI yw46_98 i a q r (fun v i1 a1 q1 r1 => (((v.toInt = 1) ∧ ((i1 6274).toInt = ((i 6274).toInt + 1)) ∧ ((i 6274).toInt < (i 6273).toInt) ∧ ((i 6275).toInt = 0)) ∨ ((v.toInt = 0) ∧ ((i1 6274).toInt = (i 6274).toInt))) ∧ (v, i1 6274) = cTkP t nn x1 (i 6274) (i 6275))) := by
  have hG := kG_self yw46_98 hI hr
  refine km_ofI (q := (mi_h46, mi_c46)) rfl (by decide) (Nat.le_of_ble_eq_true rfl) ?_
  intro P hP
  have hn1 : (i 6273).toInt = nn.toInt := congrArg Int32.toInt hN
  refine ft_go mi_k46 1 1 [(0, .ref 98), (1, .int x1)] [.ref 98] i a q r (by rfl) ?_
  refine ko_callPI mi_k46.1 (pc := 1) (ls := [(0, .ref 98), (1, .int x1)]) (st := [.ref 98]) (h := ks i a q r) (i := (.invokevirtual 46, 3, 45, 0, 9, 0, 184)) (mi_k46.2 _ _ (by rfl)) (ft_invS mi_pq45 (by rfl)) (cy := mi_c45) mi_pq45 rfl (ke45_98 hG.I hG.R t nn hT hN hX) (by decide) ?_
  intro vg2 hg2
  obtain ⟨hg2, og2⟩ := hg2
  have fi_6275 : ((0 : Int) ≤ (i 6275).toInt) ∧ ((i 6275).toInt ≤ 1) := hG.I.1 6275
  have fi_6274 : ((0 : Int) ≤ (i 6274).toInt) ∧ ((i 6274).toInt ≤ 120) := hG.I.1 6274
  have fi_6273 : ((0 : Int) ≤ (i 6273).toInt) ∧ ((i 6273).toInt ≤ 120) := hG.I.1 6273
  have z3 : (((-1) : Int) ≤ vg2.toInt) ∧ (vg2.toInt ≤ 255) ∧ ((vg2.toInt = (-1)) ∨ (((i 6275).toInt = 0) ∧ ((i 6274).toInt < (i 6273).toInt))) := hg2
  have q4 : vg2 = cHr t nn (i 6274) (i 6275) := og2
  have hv5 : vg2.toInt = (cHr t nn (i 6274) (i 6275)).toInt := congrArg Int32.toInt og2
  refine ft_go mi_k46 1 5 [(0, .ref 98), (1, .int x1)] [.int x1, .int vg2] i a q r (by rfl) ?_
  refine ft_if mi_k46 (vg2 == x1) 10 8 [(0, .ref 98), (1, .int x1)] [] (by rfl) (fun c => ?_) (fun c => ?_)
  ·
    have c6 : vg2.toInt = x1.toInt := kd_eq c; clear c
    have s7 : ((i 6274) + 1).toInt = (i 6274).toInt + (1 : Int32).toInt := kd_add (op18 fi_6274.1 kop1) (op26 fi_6274.2 kop1)
    have hJ8 := kG_i hG 6274 rfl (v := ((i 6274) + 1)) ⟨(op20 fi_6274.1 s7 kop1), (op89 c6 fi_6273.2 hp0 s7 z3.2.2 kop1)⟩
    refine ft_go mi_k46 7 21 [(0, .ref 98), (1, .int x1)] [.int 1] (ku i 6274 ((i 6274) + 1)) a q r (by rfl) ?_
    exact ft_ret mi_k46 (by rfl) (hP 1 _ _ _ _ hJ8 ⟨(op90 c6 fi_6275.1 hp0 s7 z3.2.2 kop1), (tkP_y (op91 c6 hv5))⟩)
  ·
    have c9 : vg2.toInt ≠ x1.toInt := kd_eqF c; clear c
    refine ft_go mi_k46 1 9 [(0, .ref 98), (1, .int x1)] [.int 0] i a q r (by rfl) ?_
    exact ft_ret mi_k46 (by rfl) (hP 0 _ _ _ _ hG ⟨(op92 kop0), (tkP_n (op93 c9 hv5))⟩)
set_option maxRecDepth 100000 in
theorem ke230_1000012 {i : Nat → Int32} {a : Nat → List Int32} {q : Nat → List Int64} {r : Nat → Nat} (hI : kI i a q) (hr : kr r)  : km 1 230 [.ref (mi_RO + 12)] (ks i a q r) (kPI (ks i a q r) (fun v => v.toInt = 0)) := by
  have hG := kG_self kW0 hI hr
  refine km_ofPI (q := (mi_h230, mi_c230)) rfl (by decide) (Nat.le_of_ble_eq_true rfl) ?_
  intro P hP
  refine ft_go mi_k230 5 14 [(0, .ref (mi_RO + 12))] [.int 0] i a q r (by rfl) ?_
  exact ft_ret mi_k230 (by rfl) (hP 0 (op41 kop0))
set_option maxRecDepth 100000 in
theorem ke227_1000012 {i : Nat → Int32} {a : Nat → List Int32} {q : Nat → List Int64} {r : Nat → Nat} (hI : kI i a q) (hr : kr r)  : km 3 227 [.ref (mi_RO + 12)] (ks i a q r) (kPI (ks i a q r) (fun v => v.toInt = 3)) := by
  have hG := kG_self kW0 hI hr
  refine km_ofPI (q := (mi_h227, mi_c227)) rfl (by decide) (Nat.le_of_ble_eq_true rfl) ?_
  intro P hP
  first | refine ft_go mi_k227 4 6 [(0, .ref (mi_RO + 12))] [.ref (mi_RO + 12), .int 3] i a q r (by rfl) ?_ | refine ko_steps mi_in227 4 _ (6, [(0, .ref (mi_RO + 12))], [.ref (mi_RO + 12), .int 3], (0, 0), ks i a q r) (by rfl) ?_
  refine ko_callPI mi_k227.1 (pc := 6) (ls := [(0, .ref (mi_RO + 12))]) (st := [.ref (mi_RO + 12), .int 3]) (h := ks i a q r) (i := (.invokevirtual 335, 3, 230, 0, 9, 0, 32)) (mi_k227.2 _ _ (by rfl)) (ft_invS mi_pq230 (by rfl)) (cy := mi_c230) mi_pq230 rfl (ke230_1000012 hG.I hG.R ) (by decide) ?_
  intro vg1 hg1
  have z2 : vg1.toInt = 0 := hg1
  refine ko_eq (x1 := (9, [(0, .ref (mi_RO + 12))], [.int 0, .int 3], (0, 0), ks i a q r)) (by rw [(kj_eq (op41 z2) (by decide) : vg1 = 0)]) ?_
  first | refine ft_go mi_k227 1 10 [(0, .ref (mi_RO + 12))] [.int ((3 : Int32) >>> ((0 : Int32) &&& 31))] i a q r (by rfl) ?_ | refine ko_steps mi_in227 1 _ (10, [(0, .ref (mi_RO + 12))], [.int ((3 : Int32) >>> ((0 : Int32) &&& 31))], (0, 0), ks i a q r) (by rfl) ?_
  refine ko_eq (x1 := (10, [(0, .ref (mi_RO + 12))], [.int 3], (0, 0), ks i a q r)) (by rw [(by decide : ((3 : Int32) >>> ((0 : Int32) &&& 31) : Int32) = 3)]) ?_
  exact ft_ret mi_k227 (by rfl) (hP 3 (op70 kop3))
set_option maxRecDepth 100000 in
theorem ke234_1000022_l10_l23 {i : Nat → Int32} {a : Nat → List Int32} {q : Nat → List Int64} {r : Nat → Nat} (hI : kI i a q) (hr : kr r) (x2 : Int32) (hp0 : ((0 : Int) ≤ x2.toInt) ∧ (x2.toInt ≤ 255)) : km 1 234 [.ref (mi_RO + 22), .int x2, .int 0, .int 3] (ks i a q r) (kPI (ks i a q r) (fun v => (((-1) : Int) ≤ v.toInt) ∧ (v.toInt ≤ 2) ∧ (((x2.toInt = 42) → (v.toInt = 0))) ∧ (((x2.toInt = 47) → (v.toInt = 1))) ∧ (((x2.toInt = 37) → (v.toInt = 2))) ∧ (((v.toInt = 0) → (x2.toInt = 42))) ∧ (((v.toInt = 1) → (x2.toInt = 47))) ∧ (((v.toInt = 2) → (x2.toInt = 37))) ∧ ((v.toInt = (-1)) ∨ (x2.toInt = 42) ∨ (x2.toInt = 47) ∨ (x2.toInt = 37)))) := by
  have hG := kG_self kW0 hI hr
  refine km_ofPI (q := (mi_h234, mi_c234)) rfl (by decide) (Nat.le_of_ble_eq_true rfl) ?_
  intro P hP
  have s1 : ((x2.toInt ≤ 127 → x2.toInt8.toInt32.toInt = x2.toInt)) ∧ ((128 ≤ x2.toInt → x2.toInt8.toInt32.toInt = x2.toInt - 256)) := kd_i2b (op4 hp0.1) (op40 hp0.2)
  first | refine ft_go mi_k234 12 19 [(5, .int 0), (4, .int x2.toInt8.toInt32), (0, .ref (mi_RO + 22)), (1, .int x2), (2, .int 0), (3, .int 3)] [.int x2.toInt8.toInt32, .int 42] i a q r (by rfl) ?_ | refine ko_steps mi_in234 12 _ (19, [(5, .int 0), (4, .int x2.toInt8.toInt32), (0, .ref (mi_RO + 22)), (1, .int x2), (2, .int 0), (3, .int 3)], [.int x2.toInt8.toInt32, .int 42], (0, 0), ks i a q r) (by rfl) ?_
  refine ft_if mi_k234 (42 != x2.toInt8.toInt32) 25 22 [(5, .int 0), (4, .int x2.toInt8.toInt32), (0, .ref (mi_RO + 22)), (1, .int x2), (2, .int 0), (3, .int 3)] [] (by rfl) (fun c => ?_) (fun c => ?_)
  ·
    have c2 : (42 : Int32).toInt ≠ x2.toInt8.toInt32.toInt := kd_ne c; clear c
    first | refine ft_go mi_k234 1 28 [(5, .int (0 + 1)), (4, .int x2.toInt8.toInt32), (0, .ref (mi_RO + 22)), (1, .int x2), (2, .int 0), (3, .int 3)] [] i a q r (by rfl) ?_ | refine ko_steps mi_in234 1 _ (28, [(5, .int (0 + 1)), (4, .int x2.toInt8.toInt32), (0, .ref (mi_RO + 22)), (1, .int x2), (2, .int 0), (3, .int 3)], [], (0, 0), ks i a q r) (by rfl) ?_
    refine ko_eq (x1 := (28, [(5, .int 1), (4, .int x2.toInt8.toInt32), (0, .ref (mi_RO + 22)), (1, .int x2), (2, .int 0), (3, .int 3)], [], (0, 0), ks i a q r)) (by rw [(by decide : (0 + 1 : Int32) = 1)]) ?_
    first | refine ft_go mi_k234 8 19 [(5, .int 1), (4, .int x2.toInt8.toInt32), (0, .ref (mi_RO + 22)), (1, .int x2), (2, .int 0), (3, .int 3)] [.int x2.toInt8.toInt32, .int 47] i a q r (by rfl) ?_ | refine ko_steps mi_in234 8 _ (19, [(5, .int 1), (4, .int x2.toInt8.toInt32), (0, .ref (mi_RO + 22)), (1, .int x2), (2, .int 0), (3, .int 3)], [.int x2.toInt8.toInt32, .int 47], (0, 0), ks i a q r) (by rfl) ?_
    refine ft_if mi_k234 (47 != x2.toInt8.toInt32) 25 22 [(5, .int 1), (4, .int x2.toInt8.toInt32), (0, .ref (mi_RO + 22)), (1, .int x2), (2, .int 0), (3, .int 3)] [] (by rfl) (fun c => ?_) (fun c => ?_)
    ·
      have c3 : (47 : Int32).toInt ≠ x2.toInt8.toInt32.toInt := kd_ne c; clear c
      first | refine ft_go mi_k234 1 28 [(5, .int (1 + 1)), (4, .int x2.toInt8.toInt32), (0, .ref (mi_RO + 22)), (1, .int x2), (2, .int 0), (3, .int 3)] [] i a q r (by rfl) ?_ | refine ko_steps mi_in234 1 _ (28, [(5, .int (1 + 1)), (4, .int x2.toInt8.toInt32), (0, .ref (mi_RO + 22)), (1, .int x2), (2, .int 0), (3, .int 3)], [], (0, 0), ks i a q r) (by rfl) ?_
      refine ko_eq (x1 := (28, [(5, .int 2), (4, .int x2.toInt8.toInt32), (0, .ref (mi_RO + 22)), (1, .int x2), (2, .int 0), (3, .int 3)], [], (0, 0), ks i a q r)) (by rw [(by decide : (1 + 1 : Int32) = 2)]) ?_
      first | refine ft_go mi_k234 8 19 [(5, .int 2), (4, .int x2.toInt8.toInt32), (0, .ref (mi_RO + 22)), (1, .int x2), (2, .int 0), (3, .int 3)] [.int x2.toInt8.toInt32, .int 37] i a q r (by rfl) ?_ | refine ko_steps mi_in234 8 _ (19, [(5, .int 2), (4, .int x2.toInt8.toInt32), (0, .ref (mi_RO + 22)), (1, .int x2), (2, .int 0), (3, .int 3)], [.int x2.toInt8.toInt32, .int 37], (0, 0), ks i a q r) (by rfl) ?_
      refine ft_if mi_k234 (37 != x2.toInt8.toInt32) 25 22 [(5, .int 2), (4, .int x2.toInt8.toInt32), (0, .ref (mi_RO + 22)), (1, .int x2), (2, .int 0), (3, .int 3)] [] (by rfl) (fun c => ?_) (fun c => ?_)
      ·
        have c4 : (37 : Int32).toInt ≠ x2.toInt8.toInt32.toInt := kd_ne c; clear c
        first | refine ft_go mi_k234 1 28 [(5, .int (2 + 1)), (4, .int x2.toInt8.toInt32), (0, .ref (mi_RO + 22)), (1, .int x2), (2, .int 0), (3, .int 3)] [] i a q r (by rfl) ?_ | refine ko_steps mi_in234 1 _ (28, [(5, .int (2 + 1)), (4, .int x2.toInt8.toInt32), (0, .ref (mi_RO + 22)), (1, .int x2), (2, .int 0), (3, .int 3)], [], (0, 0), ks i a q r) (by rfl) ?_
        refine ko_eq (x1 := (28, [(5, .int 3), (4, .int x2.toInt8.toInt32), (0, .ref (mi_RO + 22)), (1, .int x2), (2, .int 0), (3, .int 3)], [], (0, 0), ks i a q r)) (by rw [(by decide : (2 + 1 : Int32) = 3)]) ?_
        first | refine ft_go mi_k234 5 32 [(5, .int 3), (4, .int x2.toInt8.toInt32), (0, .ref (mi_RO + 22)), (1, .int x2), (2, .int 0), (3, .int 3)] [.int (-1)] i a q r (by rfl) ?_ | refine ko_steps mi_in234 5 _ (32, [(5, .int 3), (4, .int x2.toInt8.toInt32), (0, .ref (mi_RO + 22)), (1, .int x2), (2, .int 0), (3, .int 3)], [.int (-1)], (0, 0), ks i a q r) (by rfl) ?_
        exact ft_ret mi_k234 (by rfl) (hP (-1) (op108 c2 c3 c4 s1.1 kop42 kop47 kop37 kopm1))
      ·
        have c5 : (37 : Int32).toInt = x2.toInt8.toInt32.toInt := kd_neF c; clear c
        first | refine ft_go mi_k234 1 24 [(5, .int 2), (4, .int x2.toInt8.toInt32), (0, .ref (mi_RO + 22)), (1, .int x2), (2, .int 0), (3, .int 3)] [.int 2] i a q r (by rfl) ?_ | refine ko_steps mi_in234 1 _ (24, [(5, .int 2), (4, .int x2.toInt8.toInt32), (0, .ref (mi_RO + 22)), (1, .int x2), (2, .int 0), (3, .int 3)], [.int 2], (0, 0), ks i a q r) (by rfl) ?_
        exact ft_ret mi_k234 (by rfl) (hP 2 (op109 c5 hp0.2 s1.1 s1.2 kop37 kop2))
    ·
      have c6 : (47 : Int32).toInt = x2.toInt8.toInt32.toInt := kd_neF c; clear c
      first | refine ft_go mi_k234 1 24 [(5, .int 1), (4, .int x2.toInt8.toInt32), (0, .ref (mi_RO + 22)), (1, .int x2), (2, .int 0), (3, .int 3)] [.int 1] i a q r (by rfl) ?_ | refine ko_steps mi_in234 1 _ (24, [(5, .int 1), (4, .int x2.toInt8.toInt32), (0, .ref (mi_RO + 22)), (1, .int x2), (2, .int 0), (3, .int 3)], [.int 1], (0, 0), ks i a q r) (by rfl) ?_
      exact ft_ret mi_k234 (by rfl) (hP 1 (op110 c6 hp0.2 s1.1 s1.2 kop47 kop1))
  ·
    have c7 : (42 : Int32).toInt = x2.toInt8.toInt32.toInt := kd_neF c; clear c
    first | refine ft_go mi_k234 1 24 [(5, .int 0), (4, .int x2.toInt8.toInt32), (0, .ref (mi_RO + 22)), (1, .int x2), (2, .int 0), (3, .int 3)] [.int 0] i a q r (by rfl) ?_ | refine ko_steps mi_in234 1 _ (24, [(5, .int 0), (4, .int x2.toInt8.toInt32), (0, .ref (mi_RO + 22)), (1, .int x2), (2, .int 0), (3, .int 3)], [.int 0], (0, 0), ks i a q r) (by rfl) ?_
    exact ft_ret mi_k234 (by rfl) (hP 0 (op111 c7 hp0.2 s1.1 s1.2 kop42 kop0))
set_option maxRecDepth 100000 in
theorem ke233_1000022_l10_l23 {i : Nat → Int32} {a : Nat → List Int32} {q : Nat → List Int64} {r : Nat → Nat} (hI : kI i a q) (hr : kr r) (x2 : Int32) (hp0 : ((0 : Int) ≤ x2.toInt) ∧ (x2.toInt ≤ 255)) : km 3 233 [.ref (mi_RO + 22), .int x2, .int 0, .int 3] (ks i a q r) (kPI (ks i a q r) (fun v => (((-1) : Int) ≤ v.toInt) ∧ (v.toInt ≤ 2) ∧ (((x2.toInt = 42) → (v.toInt = 0))) ∧ (((x2.toInt = 47) → (v.toInt = 1))) ∧ (((x2.toInt = 37) → (v.toInt = 2))) ∧ (((v.toInt = 0) → (x2.toInt = 42))) ∧ (((v.toInt = 1) → (x2.toInt = 47))) ∧ (((v.toInt = 2) → (x2.toInt = 37))) ∧ ((v.toInt = (-1)) ∨ (x2.toInt = 42) ∨ (x2.toInt = 47) ∨ (x2.toInt = 37)))) := by
  have hG := kG_self kW0 hI hr
  refine km_ofPI (q := (mi_h233, mi_c233)) rfl (by decide) (Nat.le_of_ble_eq_true rfl) ?_
  intro P hP
  first | refine ft_go mi_k233 1 1 [(0, .ref (mi_RO + 22)), (1, .int x2), (2, .int 0), (3, .int 3)] [.int x2] i a q r (by rfl) ?_ | refine ko_steps mi_in233 1 _ (1, [(0, .ref (mi_RO + 22)), (1, .int x2), (2, .int 0), (3, .int 3)], [.int x2], (0, 0), ks i a q r) (by rfl) ?_
  refine ko_callPI mi_k233.1 (pc := 1) (ls := [(0, .ref (mi_RO + 22)), (1, .int x2), (2, .int 0), (3, .int 3)]) (st := [.int x2]) (h := ks i a q r) (i := (.invokestatic 88, 3, 232, 0, 9, 0, 195)) (mi_k233.2 _ _ (by rfl)) (ft_invS mi_pq232 (by rfl)) (cy := mi_c232) mi_pq232 rfl (ke232 hG.I hG.R x2) (by decide) ?_
  intro vg1 hg1
  rcases hg1 with ⟨eg1, hg1⟩ | ⟨eg1, hg1⟩
  ·
    subst eg1
    first | refine ft_go mi_k233 4 14 [(0, .ref (mi_RO + 22)), (1, .int x2), (2, .int 0), (3, .int 3)] [.int (bif decide ((0 : Int32) < 0) then 0 else 0)] i a q r (by rfl) ?_ | refine ko_steps mi_in233 4 _ (14, [(0, .ref (mi_RO + 22)), (1, .int x2), (2, .int 0), (3, .int 3)], [.int (bif decide ((0 : Int32) < 0) then 0 else 0)], (0, 0), ks i a q r) (by rfl) ?_
    refine ko_eq (x1 := (14, [(0, .ref (mi_RO + 22)), (1, .int x2), (2, .int 0), (3, .int 3)], [.int 0], (0, 0), ks i a q r)) (by rw [(by decide : (bif decide ((0 : Int32) < 0) then 0 else 0 : Int32) = 0)]) ?_
    first | refine ft_go mi_k233 5 21 [(2, .int 0), (0, .ref (mi_RO + 22)), (1, .int x2), (3, .int 3)] [.int (bif decide ((3 : Int32) < 3) then 3 else 3)] i a q r (by rfl) ?_ | refine ko_steps mi_in233 5 _ (21, [(2, .int 0), (0, .ref (mi_RO + 22)), (1, .int x2), (3, .int 3)], [.int (bif decide ((3 : Int32) < 3) then 3 else 3)], (0, 0), ks i a q r) (by rfl) ?_
    refine ko_eq (x1 := (21, [(2, .int 0), (0, .ref (mi_RO + 22)), (1, .int x2), (3, .int 3)], [.int 3], (0, 0), ks i a q r)) (by rw [(by decide : (bif decide ((3 : Int32) < 3) then 3 else 3 : Int32) = 3)]) ?_
    first | refine ft_go mi_k233 8 33 [(3, .int 3), (2, .int 0), (0, .ref (mi_RO + 22)), (1, .int x2)] [.int 3, .int 0, .int x2, .ref (mi_RO + 22)] i a q r (by rfl) ?_ | refine ko_steps mi_in233 8 _ (33, [(3, .int 3), (2, .int 0), (0, .ref (mi_RO + 22)), (1, .int x2)], [.int 3, .int 0, .int x2, .ref (mi_RO + 22)], (0, 0), ks i a q r) (by rfl) ?_
    refine ko_callPI mi_k233.1 (pc := 33) (ls := [(3, .int 3), (2, .int 0), (0, .ref (mi_RO + 22)), (1, .int x2)]) (st := [.int 3, .int 0, .int x2, .ref (mi_RO + 22)]) (h := ks i a q r) (i := (.invokestatic 95, 3, 234, 0, 9, 0, 198)) (mi_k233.2 _ _ (by rfl)) (ft_invS mi_pq234 (by rfl)) (cy := mi_c234) mi_pq234 rfl (ke234_1000022_l10_l23 hG.I hG.R x2 (op53 hp0.1 hp0.2)) (by decide) ?_
    intro vg3 hg3
    have z4 : (((-1) : Int) ≤ vg3.toInt) ∧ (vg3.toInt ≤ 2) ∧ (((x2.toInt = 42) → (vg3.toInt = 0))) ∧ (((x2.toInt = 47) → (vg3.toInt = 1))) ∧ (((x2.toInt = 37) → (vg3.toInt = 2))) ∧ (((vg3.toInt = 0) → (x2.toInt = 42))) ∧ (((vg3.toInt = 1) → (x2.toInt = 47))) ∧ (((vg3.toInt = 2) → (x2.toInt = 37))) ∧ ((vg3.toInt = (-1)) ∨ (x2.toInt = 42) ∨ (x2.toInt = 47) ∨ (x2.toInt = 37)) := hg3
    exact ft_ret mi_k233 (by rfl) (hP vg3 (op112 z4.1 z4.2.1 z4.2.2.1 z4.2.2.2.1 z4.2.2.2.2.1 z4.2.2.2.2.2.1 z4.2.2.2.2.2.2.1 z4.2.2.2.2.2.2.2.1 z4.2.2.2.2.2.2.2.2))
  ·
    subst eg1
    have z5 : ¬ (((0 : Int) ≤ x2.toInt) ∧ (x2.toInt ≤ 255)) := hg1
    exact (op55 hp0.1 hp0.2 z5).elim
set_option maxRecDepth 100000 in
theorem ke229_1000012_l10 {i : Nat → Int32} {a : Nat → List Int32} {q : Nat → List Int64} {r : Nat → Nat} (hI : kI i a q) (hr : kr r) (x1 : Int32) (hp0 : ((0 : Int) ≤ x1.toInt) ∧ (x1.toInt ≤ 255)) : km 5 229 [.ref (mi_RO + 12), .int x1, .int 0] (ks i a q r) (kPI (ks i a q r) (fun v => (((-1) : Int) ≤ v.toInt) ∧ (v.toInt ≤ 2) ∧ (((x1.toInt = 42) → (v.toInt = 0))) ∧ (((x1.toInt = 47) → (v.toInt = 1))) ∧ (((x1.toInt = 37) → (v.toInt = 2))) ∧ (((v.toInt = 0) → (x1.toInt = 42))) ∧ (((v.toInt = 1) → (x1.toInt = 47))) ∧ (((v.toInt = 2) → (x1.toInt = 37))) ∧ ((v.toInt = (-1)) ∨ (x1.toInt = 42) ∨ (x1.toInt = 47) ∨ (x1.toInt = 37)))) := by
  have hG := kG_self kW0 hI hr
  refine km_ofPI (q := (mi_h229, mi_c229)) rfl (by decide) (Nat.le_of_ble_eq_true rfl) ?_
  intro P hP
  refine ft_go mi_k229 1 1 [(0, .ref (mi_RO + 12)), (1, .int x1), (2, .int 0)] [.ref (mi_RO + 12)] i a q r (by rfl) ?_
  refine ko_callPI mi_k229.1 (pc := 1) (ls := [(0, .ref (mi_RO + 12)), (1, .int x1), (2, .int 0)]) (st := [.ref (mi_RO + 12)]) (h := ks i a q r) (i := (.invokevirtual 492, 3, 231, 0, 9, 0, 192)) (mi_k229.2 _ _ (by rfl)) (ft_invS mi_pq231 (by rfl)) (cy := mi_c231) mi_pq231 rfl (kc231_S12 hG.I hG.R ) (by decide) ?_
  intro vg1 hg1
  rcases hg1 with ⟨eg1, hg1⟩ | ⟨eg1, hg1⟩
  ·
    subst eg1
    refine ft_go mi_k229 6 14 [(0, .ref (mi_RO + 12)), (1, .int x1), (2, .int 0)] [.ref (mi_RO + 12), .int 0, .int x1, .ref (mi_RO + 22)] i a q r (by rfl) ?_
    refine ko_callPI mi_k229.1 (pc := 14) (ls := [(0, .ref (mi_RO + 12)), (1, .int x1), (2, .int 0)]) (st := [.ref (mi_RO + 12), .int 0, .int x1, .ref (mi_RO + 22)]) (h := ks i a q r) (i := (.invokevirtual 505, 3, 227, 0, 9, 0, 193)) (mi_k229.2 _ _ (by rfl)) (ft_invS mi_pq227 (by rfl)) (cy := mi_c227) mi_pq227 rfl (ke227_1000012 hG.I hG.R ) (by decide) ?_
    intro vg2 hg2
    have z3 : vg2.toInt = 3 := hg2
    refine ko_eq (x1 := (17, [(0, .ref (mi_RO + 12)), (1, .int x1), (2, .int 0)], [.int 3, .int 0, .int x1, .ref (mi_RO + 22)], (0, 0), ks i a q r)) (by rw [(kj_eq (op70 z3) (by decide) : vg2 = 3)]) ?_
    refine ko_callPI mi_k229.1 (pc := 17) (ls := [(0, .ref (mi_RO + 12)), (1, .int x1), (2, .int 0)]) (st := [.int 3, .int 0, .int x1, .ref (mi_RO + 22)]) (h := ks i a q r) (i := (.invokestatic 637, 3, 233, 0, 9, 0, 194)) (mi_k229.2 _ _ (by rfl)) (ft_invS mi_pq233 (by rfl)) (cy := mi_c233) mi_pq233 rfl (ke233_1000022_l10_l23 hG.I hG.R x1 (op53 hp0.1 hp0.2)) (by decide) ?_
    intro vg4 hg4
    have z5 : (((-1) : Int) ≤ vg4.toInt) ∧ (vg4.toInt ≤ 2) ∧ (((x1.toInt = 42) → (vg4.toInt = 0))) ∧ (((x1.toInt = 47) → (vg4.toInt = 1))) ∧ (((x1.toInt = 37) → (vg4.toInt = 2))) ∧ (((vg4.toInt = 0) → (x1.toInt = 42))) ∧ (((vg4.toInt = 1) → (x1.toInt = 47))) ∧ (((vg4.toInt = 2) → (x1.toInt = 37))) ∧ ((vg4.toInt = (-1)) ∨ (x1.toInt = 42) ∨ (x1.toInt = 47) ∨ (x1.toInt = 37)) := hg4
    refine ft_go mi_k229 1 36 [(0, .ref (mi_RO + 12)), (1, .int x1), (2, .int 0)] [.int vg4] i a q r (by rfl) ?_
    exact ft_ret mi_k229 (by rfl) (hP vg4 (op112 z5.1 z5.2.1 z5.2.2.1 z5.2.2.2.1 z5.2.2.2.2.1 z5.2.2.2.2.2.1 z5.2.2.2.2.2.2.1 z5.2.2.2.2.2.2.2.1 z5.2.2.2.2.2.2.2.2))
  ·
    subst eg1
    have z6 : (2 : Int) ≤ 1 := hg1
    exact (op56 z6).elim
set_option maxRecDepth 100000 in
theorem ke228_1000012 {i : Nat → Int32} {a : Nat → List Int32} {q : Nat → List Int64} {r : Nat → Nat} (hI : kI i a q) (hr : kr r) (x1 : Int32) (hp0 : ((0 : Int) ≤ x1.toInt) ∧ (x1.toInt ≤ 255)) : km 7 228 [.ref (mi_RO + 12), .int x1] (ks i a q r) (kPI (ks i a q r) (fun v => (((-1) : Int) ≤ v.toInt) ∧ (v.toInt ≤ 2) ∧ (((x1.toInt = 42) → (v.toInt = 0))) ∧ (((x1.toInt = 47) → (v.toInt = 1))) ∧ (((x1.toInt = 37) → (v.toInt = 2))) ∧ (((v.toInt = 0) → (x1.toInt = 42))) ∧ (((v.toInt = 1) → (x1.toInt = 47))) ∧ (((v.toInt = 2) → (x1.toInt = 37))) ∧ ((v.toInt = (-1)) ∨ (x1.toInt = 42) ∨ (x1.toInt = 47) ∨ (x1.toInt = 37)))) := by
  have hG := kG_self kW0 hI hr
  refine km_ofPI (q := (mi_h228, mi_c228)) rfl (by decide) (Nat.le_of_ble_eq_true rfl) ?_
  intro P hP
  refine ft_go mi_k228 3 3 [(0, .ref (mi_RO + 12)), (1, .int x1)] [.int 0, .int x1, .ref (mi_RO + 12)] i a q r (by rfl) ?_
  refine ko_callPI mi_k228.1 (pc := 3) (ls := [(0, .ref (mi_RO + 12)), (1, .int x1)]) (st := [.int 0, .int x1, .ref (mi_RO + 12)]) (h := ks i a q r) (i := (.invokevirtual 633, 3, 229, 0, 9, 0, 191)) (mi_k228.2 _ _ (by rfl)) (ft_invS mi_pq229 (by rfl)) (cy := mi_c229) mi_pq229 rfl (ke229_1000012_l10 hG.I hG.R x1 (op53 hp0.1 hp0.2)) (by decide) ?_
  intro vg1 hg1
  have z2 : (((-1) : Int) ≤ vg1.toInt) ∧ (vg1.toInt ≤ 2) ∧ (((x1.toInt = 42) → (vg1.toInt = 0))) ∧ (((x1.toInt = 47) → (vg1.toInt = 1))) ∧ (((x1.toInt = 37) → (vg1.toInt = 2))) ∧ (((vg1.toInt = 0) → (x1.toInt = 42))) ∧ (((vg1.toInt = 1) → (x1.toInt = 47))) ∧ (((vg1.toInt = 2) → (x1.toInt = 37))) ∧ ((vg1.toInt = (-1)) ∨ (x1.toInt = 42) ∨ (x1.toInt = 47) ∨ (x1.toInt = 37)) := hg1
  exact ft_ret mi_k228 (by rfl) (hP vg1 (op112 z2.1 z2.2.1 z2.2.2.1 z2.2.2.2.1 z2.2.2.2.2.1 z2.2.2.2.2.2.1 z2.2.2.2.2.2.2.1 z2.2.2.2.2.2.2.2.1 z2.2.2.2.2.2.2.2.2))
def yw47_98_1000012 : kW := ([6274], [], [], [])
set_option maxRecDepth 100000 in
theorem ke47_98_1000012 {i : Nat → Int32} {a : Nat → List Int32} {q : Nat → List Int64} {r : Nat → Nat} (hI : kI i a q) (hr : kr r) (t : List Int32) (nn : Int32) (hT : a 99 = t) (hN : i 6273 = nn) (hX : kBy t) : km 9 47 [.ref 98, .ref (mi_RO + 12)] (ks i a q r) (kVI yw47_98_1000012 i a q r (fun v i1 a1 q1 r1 => (((v.toInt = (-1)) ∧ ((i1 6274).toInt = (i 6274).toInt)) ∨ (((i1 6274).toInt = ((i 6274).toInt + 1)) ∧ ((i 6274).toInt < (i 6273).toInt) ∧ ((i 6275).toInt = 0) ∧ ((v.toInt = 42) ∨ (v.toInt = 47) ∨ (v.toInt = 37)))) ∧ (v, i1 6274) = cOfP t nn oMul (i 6274) (i 6275))) := by
  have hG := kG_self yw47_98_1000012 hI hr
  refine km_ofI (q := (mi_h47, mi_c47)) rfl (by decide) (Nat.le_of_ble_eq_true rfl) ?_
  intro P hP
  have hn1 : (i 6273).toInt = nn.toInt := congrArg Int32.toInt hN
  refine ft_go mi_k47 1 1 [(0, .ref 98), (1, .ref (mi_RO + 12))] [.ref 98] i a q r (by rfl) ?_
  refine ko_callPI mi_k47.1 (pc := 1) (ls := [(0, .ref 98), (1, .ref (mi_RO + 12))]) (st := [.ref 98]) (h := ks i a q r) (i := (.invokevirtual 46, 3, 45, 0, 9, 0, 184)) (mi_k47.2 _ _ (by rfl)) (ft_invS mi_pq45 (by rfl)) (cy := mi_c45) mi_pq45 rfl (ke45_98 hG.I hG.R t nn hT hN hX) (by decide) ?_
  intro vg2 hg2
  obtain ⟨hg2, og2⟩ := hg2
  have fi_6275 : ((0 : Int) ≤ (i 6275).toInt) ∧ ((i 6275).toInt ≤ 1) := hG.I.1 6275
  have fi_6274 : ((0 : Int) ≤ (i 6274).toInt) ∧ ((i 6274).toInt ≤ 120) := hG.I.1 6274
  have fi_6273 : ((0 : Int) ≤ (i 6273).toInt) ∧ ((i 6273).toInt ≤ 120) := hG.I.1 6273
  have z3 : (((-1) : Int) ≤ vg2.toInt) ∧ (vg2.toInt ≤ 255) ∧ ((vg2.toInt = (-1)) ∨ (((i 6275).toInt = 0) ∧ ((i 6274).toInt < (i 6273).toInt))) := hg2
  have q4 : vg2 = cHr t nn (i 6274) (i 6275) := og2
  have hv5 : vg2.toInt = (cHr t nn (i 6274) (i 6275)).toInt := congrArg Int32.toInt og2
  refine ft_go mi_k47 3 7 [(2, .int vg2), (0, .ref 98), (1, .ref (mi_RO + 12))] [.int (-1), .int vg2] i a q r (by rfl) ?_
  refine ft_if mi_k47 (vg2 == (-1)) 19 10 [(2, .int vg2), (0, .ref 98), (1, .ref (mi_RO + 12))] [] (by rfl) (fun c => ?_) (fun c => ?_)
  ·
    have c6 : vg2.toInt = ((-1) : Int32).toInt := kd_eq c; clear c
    refine ft_go mi_k47 1 20 [(2, .int vg2), (0, .ref 98), (1, .ref (mi_RO + 12))] [.int (-1)] i a q r (by rfl) ?_
    exact ft_ret mi_k47 (by rfl) (hP (-1) _ _ _ _ hG ⟨(op106 kopm1), (ofP_n (o := oMul) (decide_eq_false (op107 c6 hv5 kopm1)))⟩)
  ·
    have c7 : vg2.toInt ≠ ((-1) : Int32).toInt := kd_eqF c; clear c
    have s8 : ((vg2.toUInt32 % 65536).toInt32).toInt = vg2.toInt := kd_i2c (op39 c7 z3.1 kopm1) (Int.le_trans (op40 z3.2.1) (by decide))
    refine ft_go mi_k47 3 13 [(2, .int vg2), (0, .ref 98), (1, .ref (mi_RO + 12))] [.int ((vg2.toUInt32 % 65536).toInt32), .ref (mi_RO + 12)] i a q r (by rfl) ?_
    refine ko_callPI mi_k47.1 (pc := 13) (ls := [(2, .int vg2), (0, .ref 98), (1, .ref (mi_RO + 12))]) (st := [.int ((vg2.toUInt32 % 65536).toInt32), .ref (mi_RO + 12)]) (h := ks i a q r) (i := (.invokevirtual 50, 3, 228, 0, 9, 0, 190)) (mi_k47.2 _ _ (by rfl)) (ft_invS mi_pq228 (by rfl)) (cy := mi_c228) mi_pq228 rfl (ke228_1000012 hG.I hG.R ((vg2.toUInt32 % 65536).toInt32) (op57 c7 s8 z3.1 z3.2.1 kopm1)) (by decide) ?_
    intro vg9 hg9
    have z10 : (((-1) : Int) ≤ vg9.toInt) ∧ (vg9.toInt ≤ 2) ∧ (((((vg2.toUInt32 % 65536).toInt32).toInt = 42) → (vg9.toInt = 0))) ∧ (((((vg2.toUInt32 % 65536).toInt32).toInt = 47) → (vg9.toInt = 1))) ∧ (((((vg2.toUInt32 % 65536).toInt32).toInt = 37) → (vg9.toInt = 2))) ∧ (((vg9.toInt = 0) → (((vg2.toUInt32 % 65536).toInt32).toInt = 42))) ∧ (((vg9.toInt = 1) → (((vg2.toUInt32 % 65536).toInt32).toInt = 47))) ∧ (((vg9.toInt = 2) → (((vg2.toUInt32 % 65536).toInt32).toInt = 37))) ∧ ((vg9.toInt = (-1)) ∨ (((vg2.toUInt32 % 65536).toInt32).toInt = 42) ∨ (((vg2.toUInt32 % 65536).toInt32).toInt = 47) ∨ (((vg2.toUInt32 % 65536).toInt32).toInt = 37)) := hg9
    refine ft_if mi_k47 (decide (0 ≤ vg9)) 21 19 [(2, .int vg2), (0, .ref 98), (1, .ref (mi_RO + 12))] [] (by rfl) (fun c => ?_) (fun c => ?_)
    ·
      have c11 : (0 : Int32).toInt ≤ vg9.toInt := kd_le c; clear c
      have s12 : ((i 6274) + 1).toInt = (i 6274).toInt + (1 : Int32).toInt := kd_add (op18 fi_6274.1 kop1) (op26 fi_6274.2 kop1)
      have hJ13 := kG_i hG 6274 rfl (v := ((i 6274) + 1)) ⟨(op20 fi_6274.1 s12 kop1), (op58 c7 fi_6273.2 s12 z3.1 z3.2.2 kopm1 kop1)⟩
      refine ft_go mi_k47 7 32 [(2, .int vg2), (0, .ref 98), (1, .ref (mi_RO + 12))] [.int vg2] (ku i 6274 ((i 6274) + 1)) a q r (by rfl) ?_
      exact ft_ret mi_k47 (by rfl) (hP vg2 _ _ _ _ hJ13 ⟨(op113 c11 c7 fi_6275.1 s12 s8 z10.2.1 z10.2.2.1 z10.2.2.2.2.2.1 z10.2.2.2.2.2.2.1 z10.2.2.2.2.2.2.2.1 z3.1 z3.2.2 kop0 kopm1 kop1), (ofP_y (o := oMul) (decide_eq_true (op114 c11 hv5 s8 z10.2.1 z10.2.2.1 z10.2.2.2.2.2.1 z10.2.2.2.2.2.2.1 z10.2.2.2.2.2.2.2.1 kop0)) og2)⟩)
    ·
      have c14 : vg9.toInt < (0 : Int32).toInt := kd_leF c; clear c
      refine ft_go mi_k47 1 20 [(2, .int vg2), (0, .ref 98), (1, .ref (mi_RO + 12))] [.int (-1)] i a q r (by rfl) ?_
      exact ft_ret mi_k47 (by rfl) (hP (-1) _ _ _ _ hG ⟨(op106 kopm1), (ofP_n (o := oMul) (decide_eq_false (op115 c14 hv5 s8 z10.2.2.1 z10.2.2.2.1 z10.2.2.2.2.1 kop0)))⟩)
set_option maxRecDepth 100000 in
theorem ke230_1000013 {i : Nat → Int32} {a : Nat → List Int32} {q : Nat → List Int64} {r : Nat → Nat} (hI : kI i a q) (hr : kr r)  : km 1 230 [.ref (mi_RO + 13)] (ks i a q r) (kPI (ks i a q r) (fun v => v.toInt = 0)) := by
  have hG := kG_self kW0 hI hr
  refine km_ofPI (q := (mi_h230, mi_c230)) rfl (by decide) (Nat.le_of_ble_eq_true rfl) ?_
  intro P hP
  refine ft_go mi_k230 5 14 [(0, .ref (mi_RO + 13))] [.int 0] i a q r (by rfl) ?_
  exact ft_ret mi_k230 (by rfl) (hP 0 (op41 kop0))
set_option maxRecDepth 100000 in
theorem ke227_1000013 {i : Nat → Int32} {a : Nat → List Int32} {q : Nat → List Int64} {r : Nat → Nat} (hI : kI i a q) (hr : kr r)  : km 3 227 [.ref (mi_RO + 13)] (ks i a q r) (kPI (ks i a q r) (fun v => v.toInt = 2)) := by
  have hG := kG_self kW0 hI hr
  refine km_ofPI (q := (mi_h227, mi_c227)) rfl (by decide) (Nat.le_of_ble_eq_true rfl) ?_
  intro P hP
  first | refine ft_go mi_k227 4 6 [(0, .ref (mi_RO + 13))] [.ref (mi_RO + 13), .int 2] i a q r (by rfl) ?_ | refine ko_steps mi_in227 4 _ (6, [(0, .ref (mi_RO + 13))], [.ref (mi_RO + 13), .int 2], (0, 0), ks i a q r) (by rfl) ?_
  refine ko_callPI mi_k227.1 (pc := 6) (ls := [(0, .ref (mi_RO + 13))]) (st := [.ref (mi_RO + 13), .int 2]) (h := ks i a q r) (i := (.invokevirtual 335, 3, 230, 0, 9, 0, 32)) (mi_k227.2 _ _ (by rfl)) (ft_invS mi_pq230 (by rfl)) (cy := mi_c230) mi_pq230 rfl (ke230_1000013 hG.I hG.R ) (by decide) ?_
  intro vg1 hg1
  have z2 : vg1.toInt = 0 := hg1
  refine ko_eq (x1 := (9, [(0, .ref (mi_RO + 13))], [.int 0, .int 2], (0, 0), ks i a q r)) (by rw [(kj_eq (op41 z2) (by decide) : vg1 = 0)]) ?_
  first | refine ft_go mi_k227 1 10 [(0, .ref (mi_RO + 13))] [.int ((2 : Int32) >>> ((0 : Int32) &&& 31))] i a q r (by rfl) ?_ | refine ko_steps mi_in227 1 _ (10, [(0, .ref (mi_RO + 13))], [.int ((2 : Int32) >>> ((0 : Int32) &&& 31))], (0, 0), ks i a q r) (by rfl) ?_
  refine ko_eq (x1 := (10, [(0, .ref (mi_RO + 13))], [.int 2], (0, 0), ks i a q r)) (by rw [(by decide : ((2 : Int32) >>> ((0 : Int32) &&& 31) : Int32) = 2)]) ?_
  exact ft_ret mi_k227 (by rfl) (hP 2 (op124 kop2))
set_option maxRecDepth 100000 in
theorem ke234_1000023_l10_l22 {i : Nat → Int32} {a : Nat → List Int32} {q : Nat → List Int64} {r : Nat → Nat} (hI : kI i a q) (hr : kr r) (x2 : Int32) (hp0 : ((0 : Int) ≤ x2.toInt) ∧ (x2.toInt ≤ 255)) : km 1 234 [.ref (mi_RO + 23), .int x2, .int 0, .int 2] (ks i a q r) (kPI (ks i a q r) (fun v => (((-1) : Int) ≤ v.toInt) ∧ (v.toInt ≤ 1) ∧ (((x2.toInt = 43) → (v.toInt = 0))) ∧ (((x2.toInt = 45) → (v.toInt = 1))) ∧ (((v.toInt = 0) → (x2.toInt = 43))) ∧ (((v.toInt = 1) → (x2.toInt = 45))) ∧ ((v.toInt = (-1)) ∨ (x2.toInt = 43) ∨ (x2.toInt = 45)))) := by
  have hG := kG_self kW0 hI hr
  refine km_ofPI (q := (mi_h234, mi_c234)) rfl (by decide) (Nat.le_of_ble_eq_true rfl) ?_
  intro P hP
  have s1 : ((x2.toInt ≤ 127 → x2.toInt8.toInt32.toInt = x2.toInt)) ∧ ((128 ≤ x2.toInt → x2.toInt8.toInt32.toInt = x2.toInt - 256)) := kd_i2b (op4 hp0.1) (op40 hp0.2)
  first | refine ft_go mi_k234 12 19 [(5, .int 0), (4, .int x2.toInt8.toInt32), (0, .ref (mi_RO + 23)), (1, .int x2), (2, .int 0), (3, .int 2)] [.int x2.toInt8.toInt32, .int 43] i a q r (by rfl) ?_ | refine ko_steps mi_in234 12 _ (19, [(5, .int 0), (4, .int x2.toInt8.toInt32), (0, .ref (mi_RO + 23)), (1, .int x2), (2, .int 0), (3, .int 2)], [.int x2.toInt8.toInt32, .int 43], (0, 0), ks i a q r) (by rfl) ?_
  refine ft_if mi_k234 (43 != x2.toInt8.toInt32) 25 22 [(5, .int 0), (4, .int x2.toInt8.toInt32), (0, .ref (mi_RO + 23)), (1, .int x2), (2, .int 0), (3, .int 2)] [] (by rfl) (fun c => ?_) (fun c => ?_)
  ·
    have c2 : (43 : Int32).toInt ≠ x2.toInt8.toInt32.toInt := kd_ne c; clear c
    first | refine ft_go mi_k234 1 28 [(5, .int (0 + 1)), (4, .int x2.toInt8.toInt32), (0, .ref (mi_RO + 23)), (1, .int x2), (2, .int 0), (3, .int 2)] [] i a q r (by rfl) ?_ | refine ko_steps mi_in234 1 _ (28, [(5, .int (0 + 1)), (4, .int x2.toInt8.toInt32), (0, .ref (mi_RO + 23)), (1, .int x2), (2, .int 0), (3, .int 2)], [], (0, 0), ks i a q r) (by rfl) ?_
    refine ko_eq (x1 := (28, [(5, .int 1), (4, .int x2.toInt8.toInt32), (0, .ref (mi_RO + 23)), (1, .int x2), (2, .int 0), (3, .int 2)], [], (0, 0), ks i a q r)) (by rw [(by decide : (0 + 1 : Int32) = 1)]) ?_
    first | refine ft_go mi_k234 8 19 [(5, .int 1), (4, .int x2.toInt8.toInt32), (0, .ref (mi_RO + 23)), (1, .int x2), (2, .int 0), (3, .int 2)] [.int x2.toInt8.toInt32, .int 45] i a q r (by rfl) ?_ | refine ko_steps mi_in234 8 _ (19, [(5, .int 1), (4, .int x2.toInt8.toInt32), (0, .ref (mi_RO + 23)), (1, .int x2), (2, .int 0), (3, .int 2)], [.int x2.toInt8.toInt32, .int 45], (0, 0), ks i a q r) (by rfl) ?_
    refine ft_if mi_k234 (45 != x2.toInt8.toInt32) 25 22 [(5, .int 1), (4, .int x2.toInt8.toInt32), (0, .ref (mi_RO + 23)), (1, .int x2), (2, .int 0), (3, .int 2)] [] (by rfl) (fun c => ?_) (fun c => ?_)
    ·
      have c3 : (45 : Int32).toInt ≠ x2.toInt8.toInt32.toInt := kd_ne c; clear c
      first | refine ft_go mi_k234 1 28 [(5, .int (1 + 1)), (4, .int x2.toInt8.toInt32), (0, .ref (mi_RO + 23)), (1, .int x2), (2, .int 0), (3, .int 2)] [] i a q r (by rfl) ?_ | refine ko_steps mi_in234 1 _ (28, [(5, .int (1 + 1)), (4, .int x2.toInt8.toInt32), (0, .ref (mi_RO + 23)), (1, .int x2), (2, .int 0), (3, .int 2)], [], (0, 0), ks i a q r) (by rfl) ?_
      refine ko_eq (x1 := (28, [(5, .int 2), (4, .int x2.toInt8.toInt32), (0, .ref (mi_RO + 23)), (1, .int x2), (2, .int 0), (3, .int 2)], [], (0, 0), ks i a q r)) (by rw [(by decide : (1 + 1 : Int32) = 2)]) ?_
      first | refine ft_go mi_k234 5 32 [(5, .int 2), (4, .int x2.toInt8.toInt32), (0, .ref (mi_RO + 23)), (1, .int x2), (2, .int 0), (3, .int 2)] [.int (-1)] i a q r (by rfl) ?_ | refine ko_steps mi_in234 5 _ (32, [(5, .int 2), (4, .int x2.toInt8.toInt32), (0, .ref (mi_RO + 23)), (1, .int x2), (2, .int 0), (3, .int 2)], [.int (-1)], (0, 0), ks i a q r) (by rfl) ?_
      exact ft_ret mi_k234 (by rfl) (hP (-1) (op125 c2 c3 s1.1 kop43 kop45 kopm1))
    ·
      have c4 : (45 : Int32).toInt = x2.toInt8.toInt32.toInt := kd_neF c; clear c
      first | refine ft_go mi_k234 1 24 [(5, .int 1), (4, .int x2.toInt8.toInt32), (0, .ref (mi_RO + 23)), (1, .int x2), (2, .int 0), (3, .int 2)] [.int 1] i a q r (by rfl) ?_ | refine ko_steps mi_in234 1 _ (24, [(5, .int 1), (4, .int x2.toInt8.toInt32), (0, .ref (mi_RO + 23)), (1, .int x2), (2, .int 0), (3, .int 2)], [.int 1], (0, 0), ks i a q r) (by rfl) ?_
      exact ft_ret mi_k234 (by rfl) (hP 1 (op126 c4 hp0.2 s1.1 s1.2 kop45 kop1))
  ·
    have c5 : (43 : Int32).toInt = x2.toInt8.toInt32.toInt := kd_neF c; clear c
    first | refine ft_go mi_k234 1 24 [(5, .int 0), (4, .int x2.toInt8.toInt32), (0, .ref (mi_RO + 23)), (1, .int x2), (2, .int 0), (3, .int 2)] [.int 0] i a q r (by rfl) ?_ | refine ko_steps mi_in234 1 _ (24, [(5, .int 0), (4, .int x2.toInt8.toInt32), (0, .ref (mi_RO + 23)), (1, .int x2), (2, .int 0), (3, .int 2)], [.int 0], (0, 0), ks i a q r) (by rfl) ?_
    exact ft_ret mi_k234 (by rfl) (hP 0 (op127 c5 hp0.2 s1.1 s1.2 kop43 kop0))
set_option maxRecDepth 100000 in
theorem ke233_1000023_l10_l22 {i : Nat → Int32} {a : Nat → List Int32} {q : Nat → List Int64} {r : Nat → Nat} (hI : kI i a q) (hr : kr r) (x2 : Int32) (hp0 : ((0 : Int) ≤ x2.toInt) ∧ (x2.toInt ≤ 255)) : km 3 233 [.ref (mi_RO + 23), .int x2, .int 0, .int 2] (ks i a q r) (kPI (ks i a q r) (fun v => (((-1) : Int) ≤ v.toInt) ∧ (v.toInt ≤ 1) ∧ (((x2.toInt = 43) → (v.toInt = 0))) ∧ (((x2.toInt = 45) → (v.toInt = 1))) ∧ (((v.toInt = 0) → (x2.toInt = 43))) ∧ (((v.toInt = 1) → (x2.toInt = 45))) ∧ ((v.toInt = (-1)) ∨ (x2.toInt = 43) ∨ (x2.toInt = 45)))) := by
  have hG := kG_self kW0 hI hr
  refine km_ofPI (q := (mi_h233, mi_c233)) rfl (by decide) (Nat.le_of_ble_eq_true rfl) ?_
  intro P hP
  first | refine ft_go mi_k233 1 1 [(0, .ref (mi_RO + 23)), (1, .int x2), (2, .int 0), (3, .int 2)] [.int x2] i a q r (by rfl) ?_ | refine ko_steps mi_in233 1 _ (1, [(0, .ref (mi_RO + 23)), (1, .int x2), (2, .int 0), (3, .int 2)], [.int x2], (0, 0), ks i a q r) (by rfl) ?_
  refine ko_callPI mi_k233.1 (pc := 1) (ls := [(0, .ref (mi_RO + 23)), (1, .int x2), (2, .int 0), (3, .int 2)]) (st := [.int x2]) (h := ks i a q r) (i := (.invokestatic 88, 3, 232, 0, 9, 0, 195)) (mi_k233.2 _ _ (by rfl)) (ft_invS mi_pq232 (by rfl)) (cy := mi_c232) mi_pq232 rfl (ke232 hG.I hG.R x2) (by decide) ?_
  intro vg1 hg1
  rcases hg1 with ⟨eg1, hg1⟩ | ⟨eg1, hg1⟩
  ·
    subst eg1
    first | refine ft_go mi_k233 4 14 [(0, .ref (mi_RO + 23)), (1, .int x2), (2, .int 0), (3, .int 2)] [.int (bif decide ((0 : Int32) < 0) then 0 else 0)] i a q r (by rfl) ?_ | refine ko_steps mi_in233 4 _ (14, [(0, .ref (mi_RO + 23)), (1, .int x2), (2, .int 0), (3, .int 2)], [.int (bif decide ((0 : Int32) < 0) then 0 else 0)], (0, 0), ks i a q r) (by rfl) ?_
    refine ko_eq (x1 := (14, [(0, .ref (mi_RO + 23)), (1, .int x2), (2, .int 0), (3, .int 2)], [.int 0], (0, 0), ks i a q r)) (by rw [(by decide : (bif decide ((0 : Int32) < 0) then 0 else 0 : Int32) = 0)]) ?_
    first | refine ft_go mi_k233 5 21 [(2, .int 0), (0, .ref (mi_RO + 23)), (1, .int x2), (3, .int 2)] [.int (bif decide ((2 : Int32) < 2) then 2 else 2)] i a q r (by rfl) ?_ | refine ko_steps mi_in233 5 _ (21, [(2, .int 0), (0, .ref (mi_RO + 23)), (1, .int x2), (3, .int 2)], [.int (bif decide ((2 : Int32) < 2) then 2 else 2)], (0, 0), ks i a q r) (by rfl) ?_
    refine ko_eq (x1 := (21, [(2, .int 0), (0, .ref (mi_RO + 23)), (1, .int x2), (3, .int 2)], [.int 2], (0, 0), ks i a q r)) (by rw [(by decide : (bif decide ((2 : Int32) < 2) then 2 else 2 : Int32) = 2)]) ?_
    first | refine ft_go mi_k233 8 33 [(3, .int 2), (2, .int 0), (0, .ref (mi_RO + 23)), (1, .int x2)] [.int 2, .int 0, .int x2, .ref (mi_RO + 23)] i a q r (by rfl) ?_ | refine ko_steps mi_in233 8 _ (33, [(3, .int 2), (2, .int 0), (0, .ref (mi_RO + 23)), (1, .int x2)], [.int 2, .int 0, .int x2, .ref (mi_RO + 23)], (0, 0), ks i a q r) (by rfl) ?_
    refine ko_callPI mi_k233.1 (pc := 33) (ls := [(3, .int 2), (2, .int 0), (0, .ref (mi_RO + 23)), (1, .int x2)]) (st := [.int 2, .int 0, .int x2, .ref (mi_RO + 23)]) (h := ks i a q r) (i := (.invokestatic 95, 3, 234, 0, 9, 0, 198)) (mi_k233.2 _ _ (by rfl)) (ft_invS mi_pq234 (by rfl)) (cy := mi_c234) mi_pq234 rfl (ke234_1000023_l10_l22 hG.I hG.R x2 (op53 hp0.1 hp0.2)) (by decide) ?_
    intro vg3 hg3
    have z4 : (((-1) : Int) ≤ vg3.toInt) ∧ (vg3.toInt ≤ 1) ∧ (((x2.toInt = 43) → (vg3.toInt = 0))) ∧ (((x2.toInt = 45) → (vg3.toInt = 1))) ∧ (((vg3.toInt = 0) → (x2.toInt = 43))) ∧ (((vg3.toInt = 1) → (x2.toInt = 45))) ∧ ((vg3.toInt = (-1)) ∨ (x2.toInt = 43) ∨ (x2.toInt = 45)) := hg3
    exact ft_ret mi_k233 (by rfl) (hP vg3 (op128 z4.1 z4.2.1 z4.2.2.1 z4.2.2.2.1 z4.2.2.2.2.1 z4.2.2.2.2.2.1))
  ·
    subst eg1
    have z5 : ¬ (((0 : Int) ≤ x2.toInt) ∧ (x2.toInt ≤ 255)) := hg1
    exact (op55 hp0.1 hp0.2 z5).elim
set_option maxRecDepth 100000 in
theorem ke229_1000013_l10 {i : Nat → Int32} {a : Nat → List Int32} {q : Nat → List Int64} {r : Nat → Nat} (hI : kI i a q) (hr : kr r) (x1 : Int32) (hp0 : ((0 : Int) ≤ x1.toInt) ∧ (x1.toInt ≤ 255)) : km 5 229 [.ref (mi_RO + 13), .int x1, .int 0] (ks i a q r) (kPI (ks i a q r) (fun v => (((-1) : Int) ≤ v.toInt) ∧ (v.toInt ≤ 1) ∧ (((x1.toInt = 43) → (v.toInt = 0))) ∧ (((x1.toInt = 45) → (v.toInt = 1))) ∧ (((v.toInt = 0) → (x1.toInt = 43))) ∧ (((v.toInt = 1) → (x1.toInt = 45))) ∧ ((v.toInt = (-1)) ∨ (x1.toInt = 43) ∨ (x1.toInt = 45)))) := by
  have hG := kG_self kW0 hI hr
  refine km_ofPI (q := (mi_h229, mi_c229)) rfl (by decide) (Nat.le_of_ble_eq_true rfl) ?_
  intro P hP
  refine ft_go mi_k229 1 1 [(0, .ref (mi_RO + 13)), (1, .int x1), (2, .int 0)] [.ref (mi_RO + 13)] i a q r (by rfl) ?_
  refine ko_callPI mi_k229.1 (pc := 1) (ls := [(0, .ref (mi_RO + 13)), (1, .int x1), (2, .int 0)]) (st := [.ref (mi_RO + 13)]) (h := ks i a q r) (i := (.invokevirtual 492, 3, 231, 0, 9, 0, 192)) (mi_k229.2 _ _ (by rfl)) (ft_invS mi_pq231 (by rfl)) (cy := mi_c231) mi_pq231 rfl (kc231_S13 hG.I hG.R ) (by decide) ?_
  intro vg1 hg1
  rcases hg1 with ⟨eg1, hg1⟩ | ⟨eg1, hg1⟩
  ·
    subst eg1
    refine ft_go mi_k229 6 14 [(0, .ref (mi_RO + 13)), (1, .int x1), (2, .int 0)] [.ref (mi_RO + 13), .int 0, .int x1, .ref (mi_RO + 23)] i a q r (by rfl) ?_
    refine ko_callPI mi_k229.1 (pc := 14) (ls := [(0, .ref (mi_RO + 13)), (1, .int x1), (2, .int 0)]) (st := [.ref (mi_RO + 13), .int 0, .int x1, .ref (mi_RO + 23)]) (h := ks i a q r) (i := (.invokevirtual 505, 3, 227, 0, 9, 0, 193)) (mi_k229.2 _ _ (by rfl)) (ft_invS mi_pq227 (by rfl)) (cy := mi_c227) mi_pq227 rfl (ke227_1000013 hG.I hG.R ) (by decide) ?_
    intro vg2 hg2
    have z3 : vg2.toInt = 2 := hg2
    refine ko_eq (x1 := (17, [(0, .ref (mi_RO + 13)), (1, .int x1), (2, .int 0)], [.int 2, .int 0, .int x1, .ref (mi_RO + 23)], (0, 0), ks i a q r)) (by rw [(kj_eq (op124 z3) (by decide) : vg2 = 2)]) ?_
    refine ko_callPI mi_k229.1 (pc := 17) (ls := [(0, .ref (mi_RO + 13)), (1, .int x1), (2, .int 0)]) (st := [.int 2, .int 0, .int x1, .ref (mi_RO + 23)]) (h := ks i a q r) (i := (.invokestatic 637, 3, 233, 0, 9, 0, 194)) (mi_k229.2 _ _ (by rfl)) (ft_invS mi_pq233 (by rfl)) (cy := mi_c233) mi_pq233 rfl (ke233_1000023_l10_l22 hG.I hG.R x1 (op53 hp0.1 hp0.2)) (by decide) ?_
    intro vg4 hg4
    have z5 : (((-1) : Int) ≤ vg4.toInt) ∧ (vg4.toInt ≤ 1) ∧ (((x1.toInt = 43) → (vg4.toInt = 0))) ∧ (((x1.toInt = 45) → (vg4.toInt = 1))) ∧ (((vg4.toInt = 0) → (x1.toInt = 43))) ∧ (((vg4.toInt = 1) → (x1.toInt = 45))) ∧ ((vg4.toInt = (-1)) ∨ (x1.toInt = 43) ∨ (x1.toInt = 45)) := hg4
    refine ft_go mi_k229 1 36 [(0, .ref (mi_RO + 13)), (1, .int x1), (2, .int 0)] [.int vg4] i a q r (by rfl) ?_
    exact ft_ret mi_k229 (by rfl) (hP vg4 (op128 z5.1 z5.2.1 z5.2.2.1 z5.2.2.2.1 z5.2.2.2.2.1 z5.2.2.2.2.2.1))
  ·
    subst eg1
    have z6 : (2 : Int) ≤ 1 := hg1
    exact (op56 z6).elim
set_option maxRecDepth 100000 in
theorem ke228_1000013 {i : Nat → Int32} {a : Nat → List Int32} {q : Nat → List Int64} {r : Nat → Nat} (hI : kI i a q) (hr : kr r) (x1 : Int32) (hp0 : ((0 : Int) ≤ x1.toInt) ∧ (x1.toInt ≤ 255)) : km 7 228 [.ref (mi_RO + 13), .int x1] (ks i a q r) (kPI (ks i a q r) (fun v => (((-1) : Int) ≤ v.toInt) ∧ (v.toInt ≤ 1) ∧ (((x1.toInt = 43) → (v.toInt = 0))) ∧ (((x1.toInt = 45) → (v.toInt = 1))) ∧ (((v.toInt = 0) → (x1.toInt = 43))) ∧ (((v.toInt = 1) → (x1.toInt = 45))) ∧ ((v.toInt = (-1)) ∨ (x1.toInt = 43) ∨ (x1.toInt = 45)))) := by
  have hG := kG_self kW0 hI hr
  refine km_ofPI (q := (mi_h228, mi_c228)) rfl (by decide) (Nat.le_of_ble_eq_true rfl) ?_
  intro P hP
  refine ft_go mi_k228 3 3 [(0, .ref (mi_RO + 13)), (1, .int x1)] [.int 0, .int x1, .ref (mi_RO + 13)] i a q r (by rfl) ?_
  refine ko_callPI mi_k228.1 (pc := 3) (ls := [(0, .ref (mi_RO + 13)), (1, .int x1)]) (st := [.int 0, .int x1, .ref (mi_RO + 13)]) (h := ks i a q r) (i := (.invokevirtual 633, 3, 229, 0, 9, 0, 191)) (mi_k228.2 _ _ (by rfl)) (ft_invS mi_pq229 (by rfl)) (cy := mi_c229) mi_pq229 rfl (ke229_1000013_l10 hG.I hG.R x1 (op53 hp0.1 hp0.2)) (by decide) ?_
  intro vg1 hg1
  have z2 : (((-1) : Int) ≤ vg1.toInt) ∧ (vg1.toInt ≤ 1) ∧ (((x1.toInt = 43) → (vg1.toInt = 0))) ∧ (((x1.toInt = 45) → (vg1.toInt = 1))) ∧ (((vg1.toInt = 0) → (x1.toInt = 43))) ∧ (((vg1.toInt = 1) → (x1.toInt = 45))) ∧ ((vg1.toInt = (-1)) ∨ (x1.toInt = 43) ∨ (x1.toInt = 45)) := hg1
  exact ft_ret mi_k228 (by rfl) (hP vg1 (op128 z2.1 z2.2.1 z2.2.2.1 z2.2.2.2.1 z2.2.2.2.2.1 z2.2.2.2.2.2.1))
def yw47_98_1000013 : kW := ([6274], [], [], [])
set_option maxRecDepth 100000 in
theorem ke47_98_1000013 {i : Nat → Int32} {a : Nat → List Int32} {q : Nat → List Int64} {r : Nat → Nat} (hI : kI i a q) (hr : kr r) (t : List Int32) (nn : Int32) (hT : a 99 = t) (hN : i 6273 = nn) (hX : kBy t) : km 9 47 [.ref 98, .ref (mi_RO + 13)] (ks i a q r) (kVI yw47_98_1000013 i a q r (fun v i1 a1 q1 r1 => (((v.toInt = (-1)) ∧ ((i1 6274).toInt = (i 6274).toInt)) ∨ (((i1 6274).toInt = ((i 6274).toInt + 1)) ∧ ((i 6274).toInt < (i 6273).toInt) ∧ ((i 6275).toInt = 0) ∧ ((v.toInt = 43) ∨ (v.toInt = 45)))) ∧ (v, i1 6274) = cOfP t nn oSum (i 6274) (i 6275))) := by
  have hG := kG_self yw47_98_1000013 hI hr
  refine km_ofI (q := (mi_h47, mi_c47)) rfl (by decide) (Nat.le_of_ble_eq_true rfl) ?_
  intro P hP
  have hn1 : (i 6273).toInt = nn.toInt := congrArg Int32.toInt hN
  refine ft_go mi_k47 1 1 [(0, .ref 98), (1, .ref (mi_RO + 13))] [.ref 98] i a q r (by rfl) ?_
  refine ko_callPI mi_k47.1 (pc := 1) (ls := [(0, .ref 98), (1, .ref (mi_RO + 13))]) (st := [.ref 98]) (h := ks i a q r) (i := (.invokevirtual 46, 3, 45, 0, 9, 0, 184)) (mi_k47.2 _ _ (by rfl)) (ft_invS mi_pq45 (by rfl)) (cy := mi_c45) mi_pq45 rfl (ke45_98 hG.I hG.R t nn hT hN hX) (by decide) ?_
  intro vg2 hg2
  obtain ⟨hg2, og2⟩ := hg2
  have fi_6275 : ((0 : Int) ≤ (i 6275).toInt) ∧ ((i 6275).toInt ≤ 1) := hG.I.1 6275
  have fi_6274 : ((0 : Int) ≤ (i 6274).toInt) ∧ ((i 6274).toInt ≤ 120) := hG.I.1 6274
  have fi_6273 : ((0 : Int) ≤ (i 6273).toInt) ∧ ((i 6273).toInt ≤ 120) := hG.I.1 6273
  have z3 : (((-1) : Int) ≤ vg2.toInt) ∧ (vg2.toInt ≤ 255) ∧ ((vg2.toInt = (-1)) ∨ (((i 6275).toInt = 0) ∧ ((i 6274).toInt < (i 6273).toInt))) := hg2
  have q4 : vg2 = cHr t nn (i 6274) (i 6275) := og2
  have hv5 : vg2.toInt = (cHr t nn (i 6274) (i 6275)).toInt := congrArg Int32.toInt og2
  refine ft_go mi_k47 3 7 [(2, .int vg2), (0, .ref 98), (1, .ref (mi_RO + 13))] [.int (-1), .int vg2] i a q r (by rfl) ?_
  refine ft_if mi_k47 (vg2 == (-1)) 19 10 [(2, .int vg2), (0, .ref 98), (1, .ref (mi_RO + 13))] [] (by rfl) (fun c => ?_) (fun c => ?_)
  ·
    have c6 : vg2.toInt = ((-1) : Int32).toInt := kd_eq c; clear c
    refine ft_go mi_k47 1 20 [(2, .int vg2), (0, .ref 98), (1, .ref (mi_RO + 13))] [.int (-1)] i a q r (by rfl) ?_
    exact ft_ret mi_k47 (by rfl) (hP (-1) _ _ _ _ hG ⟨(op122 kopm1), (ofP_n (o := oSum) (decide_eq_false (op123 c6 hv5 kopm1)))⟩)
  ·
    have c7 : vg2.toInt ≠ ((-1) : Int32).toInt := kd_eqF c; clear c
    have s8 : ((vg2.toUInt32 % 65536).toInt32).toInt = vg2.toInt := kd_i2c (op39 c7 z3.1 kopm1) (Int.le_trans (op40 z3.2.1) (by decide))
    refine ft_go mi_k47 3 13 [(2, .int vg2), (0, .ref 98), (1, .ref (mi_RO + 13))] [.int ((vg2.toUInt32 % 65536).toInt32), .ref (mi_RO + 13)] i a q r (by rfl) ?_
    refine ko_callPI mi_k47.1 (pc := 13) (ls := [(2, .int vg2), (0, .ref 98), (1, .ref (mi_RO + 13))]) (st := [.int ((vg2.toUInt32 % 65536).toInt32), .ref (mi_RO + 13)]) (h := ks i a q r) (i := (.invokevirtual 50, 3, 228, 0, 9, 0, 190)) (mi_k47.2 _ _ (by rfl)) (ft_invS mi_pq228 (by rfl)) (cy := mi_c228) mi_pq228 rfl (ke228_1000013 hG.I hG.R ((vg2.toUInt32 % 65536).toInt32) (op57 c7 s8 z3.1 z3.2.1 kopm1)) (by decide) ?_
    intro vg9 hg9
    have z10 : (((-1) : Int) ≤ vg9.toInt) ∧ (vg9.toInt ≤ 1) ∧ (((((vg2.toUInt32 % 65536).toInt32).toInt = 43) → (vg9.toInt = 0))) ∧ (((((vg2.toUInt32 % 65536).toInt32).toInt = 45) → (vg9.toInt = 1))) ∧ (((vg9.toInt = 0) → (((vg2.toUInt32 % 65536).toInt32).toInt = 43))) ∧ (((vg9.toInt = 1) → (((vg2.toUInt32 % 65536).toInt32).toInt = 45))) ∧ ((vg9.toInt = (-1)) ∨ (((vg2.toUInt32 % 65536).toInt32).toInt = 43) ∨ (((vg2.toUInt32 % 65536).toInt32).toInt = 45)) := hg9
    refine ft_if mi_k47 (decide (0 ≤ vg9)) 21 19 [(2, .int vg2), (0, .ref 98), (1, .ref (mi_RO + 13))] [] (by rfl) (fun c => ?_) (fun c => ?_)
    ·
      have c11 : (0 : Int32).toInt ≤ vg9.toInt := kd_le c; clear c
      have s12 : ((i 6274) + 1).toInt = (i 6274).toInt + (1 : Int32).toInt := kd_add (op18 fi_6274.1 kop1) (op26 fi_6274.2 kop1)
      have hJ13 := kG_i hG 6274 rfl (v := ((i 6274) + 1)) ⟨(op20 fi_6274.1 s12 kop1), (op58 c7 fi_6273.2 s12 z3.1 z3.2.2 kopm1 kop1)⟩
      refine ft_go mi_k47 7 32 [(2, .int vg2), (0, .ref 98), (1, .ref (mi_RO + 13))] [.int vg2] (ku i 6274 ((i 6274) + 1)) a q r (by rfl) ?_
      exact ft_ret mi_k47 (by rfl) (hP vg2 _ _ _ _ hJ13 ⟨(op129 c11 c7 fi_6275.1 s12 s8 z10.2.1 z10.2.2.1 z10.2.2.2.2.1 z10.2.2.2.2.2.1 z3.1 z3.2.2 kop0 kopm1 kop1), (ofP_y (o := oSum) (decide_eq_true (op130 c11 hv5 s8 z10.2.1 z10.2.2.1 z10.2.2.2.2.1 z10.2.2.2.2.2.1 kop0)) og2)⟩)
    ·
      have c14 : vg9.toInt < (0 : Int32).toInt := kd_leF c; clear c
      refine ft_go mi_k47 1 20 [(2, .int vg2), (0, .ref 98), (1, .ref (mi_RO + 13))] [.int (-1)] i a q r (by rfl) ?_
      exact ft_ret mi_k47 (by rfl) (hP (-1) _ _ _ _ hG ⟨(op122 kopm1), (ofP_n (o := oSum) (decide_eq_false (op131 c14 hv5 s8 z10.2.2.1 z10.2.2.2.1 kop0)))⟩)
set_option maxRecDepth 100000 in
theorem ke230_1000014 {i : Nat → Int32} {a : Nat → List Int32} {q : Nat → List Int64} {r : Nat → Nat} (hI : kI i a q) (hr : kr r)  : km 1 230 [.ref (mi_RO + 14)] (ks i a q r) (kPI (ks i a q r) (fun v => v.toInt = 0)) := by
  have hG := kG_self kW0 hI hr
  refine km_ofPI (q := (mi_h230, mi_c230)) rfl (by decide) (Nat.le_of_ble_eq_true rfl) ?_
  intro P hP
  refine ft_go mi_k230 5 14 [(0, .ref (mi_RO + 14))] [.int 0] i a q r (by rfl) ?_
  exact ft_ret mi_k230 (by rfl) (hP 0 (op41 kop0))
set_option maxRecDepth 100000 in
theorem ke227_1000014 {i : Nat → Int32} {a : Nat → List Int32} {q : Nat → List Int64} {r : Nat → Nat} (hI : kI i a q) (hr : kr r)  : km 3 227 [.ref (mi_RO + 14)] (ks i a q r) (kPI (ks i a q r) (fun v => v.toInt = 3)) := by
  have hG := kG_self kW0 hI hr
  refine km_ofPI (q := (mi_h227, mi_c227)) rfl (by decide) (Nat.le_of_ble_eq_true rfl) ?_
  intro P hP
  first | refine ft_go mi_k227 4 6 [(0, .ref (mi_RO + 14))] [.ref (mi_RO + 14), .int 3] i a q r (by rfl) ?_ | refine ko_steps mi_in227 4 _ (6, [(0, .ref (mi_RO + 14))], [.ref (mi_RO + 14), .int 3], (0, 0), ks i a q r) (by rfl) ?_
  refine ko_callPI mi_k227.1 (pc := 6) (ls := [(0, .ref (mi_RO + 14))]) (st := [.ref (mi_RO + 14), .int 3]) (h := ks i a q r) (i := (.invokevirtual 335, 3, 230, 0, 9, 0, 32)) (mi_k227.2 _ _ (by rfl)) (ft_invS mi_pq230 (by rfl)) (cy := mi_c230) mi_pq230 rfl (ke230_1000014 hG.I hG.R ) (by decide) ?_
  intro vg1 hg1
  have z2 : vg1.toInt = 0 := hg1
  refine ko_eq (x1 := (9, [(0, .ref (mi_RO + 14))], [.int 0, .int 3], (0, 0), ks i a q r)) (by rw [(kj_eq (op41 z2) (by decide) : vg1 = 0)]) ?_
  first | refine ft_go mi_k227 1 10 [(0, .ref (mi_RO + 14))] [.int ((3 : Int32) >>> ((0 : Int32) &&& 31))] i a q r (by rfl) ?_ | refine ko_steps mi_in227 1 _ (10, [(0, .ref (mi_RO + 14))], [.int ((3 : Int32) >>> ((0 : Int32) &&& 31))], (0, 0), ks i a q r) (by rfl) ?_
  refine ko_eq (x1 := (10, [(0, .ref (mi_RO + 14))], [.int 3], (0, 0), ks i a q r)) (by rw [(by decide : ((3 : Int32) >>> ((0 : Int32) &&& 31) : Int32) = 3)]) ?_
  exact ft_ret mi_k227 (by rfl) (hP 3 (op70 kop3))
set_option maxRecDepth 100000 in
theorem ke234_1000024_l10_l23 {i : Nat → Int32} {a : Nat → List Int32} {q : Nat → List Int64} {r : Nat → Nat} (hI : kI i a q) (hr : kr r) (x2 : Int32) (hp0 : ((0 : Int) ≤ x2.toInt) ∧ (x2.toInt ≤ 255)) : km 1 234 [.ref (mi_RO + 24), .int x2, .int 0, .int 3] (ks i a q r) (kPI (ks i a q r) (fun v => (((-1) : Int) ≤ v.toInt) ∧ (v.toInt ≤ 2) ∧ (((x2.toInt = 60) → (v.toInt = 0))) ∧ (((x2.toInt = 61) → (v.toInt = 1))) ∧ (((x2.toInt = 62) → (v.toInt = 2))) ∧ (((v.toInt = 0) → (x2.toInt = 60))) ∧ (((v.toInt = 1) → (x2.toInt = 61))) ∧ (((v.toInt = 2) → (x2.toInt = 62))) ∧ ((v.toInt = (-1)) ∨ (x2.toInt = 60) ∨ (x2.toInt = 61) ∨ (x2.toInt = 62)))) := by
  have hG := kG_self kW0 hI hr
  refine km_ofPI (q := (mi_h234, mi_c234)) rfl (by decide) (Nat.le_of_ble_eq_true rfl) ?_
  intro P hP
  have s1 : ((x2.toInt ≤ 127 → x2.toInt8.toInt32.toInt = x2.toInt)) ∧ ((128 ≤ x2.toInt → x2.toInt8.toInt32.toInt = x2.toInt - 256)) := kd_i2b (op4 hp0.1) (op40 hp0.2)
  first | refine ft_go mi_k234 12 19 [(5, .int 0), (4, .int x2.toInt8.toInt32), (0, .ref (mi_RO + 24)), (1, .int x2), (2, .int 0), (3, .int 3)] [.int x2.toInt8.toInt32, .int 60] i a q r (by rfl) ?_ | refine ko_steps mi_in234 12 _ (19, [(5, .int 0), (4, .int x2.toInt8.toInt32), (0, .ref (mi_RO + 24)), (1, .int x2), (2, .int 0), (3, .int 3)], [.int x2.toInt8.toInt32, .int 60], (0, 0), ks i a q r) (by rfl) ?_
  refine ft_if mi_k234 (60 != x2.toInt8.toInt32) 25 22 [(5, .int 0), (4, .int x2.toInt8.toInt32), (0, .ref (mi_RO + 24)), (1, .int x2), (2, .int 0), (3, .int 3)] [] (by rfl) (fun c => ?_) (fun c => ?_)
  ·
    have c2 : (60 : Int32).toInt ≠ x2.toInt8.toInt32.toInt := kd_ne c; clear c
    first | refine ft_go mi_k234 1 28 [(5, .int (0 + 1)), (4, .int x2.toInt8.toInt32), (0, .ref (mi_RO + 24)), (1, .int x2), (2, .int 0), (3, .int 3)] [] i a q r (by rfl) ?_ | refine ko_steps mi_in234 1 _ (28, [(5, .int (0 + 1)), (4, .int x2.toInt8.toInt32), (0, .ref (mi_RO + 24)), (1, .int x2), (2, .int 0), (3, .int 3)], [], (0, 0), ks i a q r) (by rfl) ?_
    refine ko_eq (x1 := (28, [(5, .int 1), (4, .int x2.toInt8.toInt32), (0, .ref (mi_RO + 24)), (1, .int x2), (2, .int 0), (3, .int 3)], [], (0, 0), ks i a q r)) (by rw [(by decide : (0 + 1 : Int32) = 1)]) ?_
    first | refine ft_go mi_k234 8 19 [(5, .int 1), (4, .int x2.toInt8.toInt32), (0, .ref (mi_RO + 24)), (1, .int x2), (2, .int 0), (3, .int 3)] [.int x2.toInt8.toInt32, .int 61] i a q r (by rfl) ?_ | refine ko_steps mi_in234 8 _ (19, [(5, .int 1), (4, .int x2.toInt8.toInt32), (0, .ref (mi_RO + 24)), (1, .int x2), (2, .int 0), (3, .int 3)], [.int x2.toInt8.toInt32, .int 61], (0, 0), ks i a q r) (by rfl) ?_
    refine ft_if mi_k234 (61 != x2.toInt8.toInt32) 25 22 [(5, .int 1), (4, .int x2.toInt8.toInt32), (0, .ref (mi_RO + 24)), (1, .int x2), (2, .int 0), (3, .int 3)] [] (by rfl) (fun c => ?_) (fun c => ?_)
    ·
      have c3 : (61 : Int32).toInt ≠ x2.toInt8.toInt32.toInt := kd_ne c; clear c
      first | refine ft_go mi_k234 1 28 [(5, .int (1 + 1)), (4, .int x2.toInt8.toInt32), (0, .ref (mi_RO + 24)), (1, .int x2), (2, .int 0), (3, .int 3)] [] i a q r (by rfl) ?_ | refine ko_steps mi_in234 1 _ (28, [(5, .int (1 + 1)), (4, .int x2.toInt8.toInt32), (0, .ref (mi_RO + 24)), (1, .int x2), (2, .int 0), (3, .int 3)], [], (0, 0), ks i a q r) (by rfl) ?_
      refine ko_eq (x1 := (28, [(5, .int 2), (4, .int x2.toInt8.toInt32), (0, .ref (mi_RO + 24)), (1, .int x2), (2, .int 0), (3, .int 3)], [], (0, 0), ks i a q r)) (by rw [(by decide : (1 + 1 : Int32) = 2)]) ?_
      first | refine ft_go mi_k234 8 19 [(5, .int 2), (4, .int x2.toInt8.toInt32), (0, .ref (mi_RO + 24)), (1, .int x2), (2, .int 0), (3, .int 3)] [.int x2.toInt8.toInt32, .int 62] i a q r (by rfl) ?_ | refine ko_steps mi_in234 8 _ (19, [(5, .int 2), (4, .int x2.toInt8.toInt32), (0, .ref (mi_RO + 24)), (1, .int x2), (2, .int 0), (3, .int 3)], [.int x2.toInt8.toInt32, .int 62], (0, 0), ks i a q r) (by rfl) ?_
      refine ft_if mi_k234 (62 != x2.toInt8.toInt32) 25 22 [(5, .int 2), (4, .int x2.toInt8.toInt32), (0, .ref (mi_RO + 24)), (1, .int x2), (2, .int 0), (3, .int 3)] [] (by rfl) (fun c => ?_) (fun c => ?_)
      ·
        have c4 : (62 : Int32).toInt ≠ x2.toInt8.toInt32.toInt := kd_ne c; clear c
        first | refine ft_go mi_k234 1 28 [(5, .int (2 + 1)), (4, .int x2.toInt8.toInt32), (0, .ref (mi_RO + 24)), (1, .int x2), (2, .int 0), (3, .int 3)] [] i a q r (by rfl) ?_ | refine ko_steps mi_in234 1 _ (28, [(5, .int (2 + 1)), (4, .int x2.toInt8.toInt32), (0, .ref (mi_RO + 24)), (1, .int x2), (2, .int 0), (3, .int 3)], [], (0, 0), ks i a q r) (by rfl) ?_
        refine ko_eq (x1 := (28, [(5, .int 3), (4, .int x2.toInt8.toInt32), (0, .ref (mi_RO + 24)), (1, .int x2), (2, .int 0), (3, .int 3)], [], (0, 0), ks i a q r)) (by rw [(by decide : (2 + 1 : Int32) = 3)]) ?_
        first | refine ft_go mi_k234 5 32 [(5, .int 3), (4, .int x2.toInt8.toInt32), (0, .ref (mi_RO + 24)), (1, .int x2), (2, .int 0), (3, .int 3)] [.int (-1)] i a q r (by rfl) ?_ | refine ko_steps mi_in234 5 _ (32, [(5, .int 3), (4, .int x2.toInt8.toInt32), (0, .ref (mi_RO + 24)), (1, .int x2), (2, .int 0), (3, .int 3)], [.int (-1)], (0, 0), ks i a q r) (by rfl) ?_
        exact ft_ret mi_k234 (by rfl) (hP (-1) (op134 c2 c3 c4 s1.1 kop60 kop61 kop62 kopm1))
      ·
        have c5 : (62 : Int32).toInt = x2.toInt8.toInt32.toInt := kd_neF c; clear c
        first | refine ft_go mi_k234 1 24 [(5, .int 2), (4, .int x2.toInt8.toInt32), (0, .ref (mi_RO + 24)), (1, .int x2), (2, .int 0), (3, .int 3)] [.int 2] i a q r (by rfl) ?_ | refine ko_steps mi_in234 1 _ (24, [(5, .int 2), (4, .int x2.toInt8.toInt32), (0, .ref (mi_RO + 24)), (1, .int x2), (2, .int 0), (3, .int 3)], [.int 2], (0, 0), ks i a q r) (by rfl) ?_
        exact ft_ret mi_k234 (by rfl) (hP 2 (op135 c5 hp0.2 s1.1 s1.2 kop62 kop2))
    ·
      have c6 : (61 : Int32).toInt = x2.toInt8.toInt32.toInt := kd_neF c; clear c
      first | refine ft_go mi_k234 1 24 [(5, .int 1), (4, .int x2.toInt8.toInt32), (0, .ref (mi_RO + 24)), (1, .int x2), (2, .int 0), (3, .int 3)] [.int 1] i a q r (by rfl) ?_ | refine ko_steps mi_in234 1 _ (24, [(5, .int 1), (4, .int x2.toInt8.toInt32), (0, .ref (mi_RO + 24)), (1, .int x2), (2, .int 0), (3, .int 3)], [.int 1], (0, 0), ks i a q r) (by rfl) ?_
      exact ft_ret mi_k234 (by rfl) (hP 1 (op136 c6 hp0.2 s1.1 s1.2 kop61 kop1))
  ·
    have c7 : (60 : Int32).toInt = x2.toInt8.toInt32.toInt := kd_neF c; clear c
    first | refine ft_go mi_k234 1 24 [(5, .int 0), (4, .int x2.toInt8.toInt32), (0, .ref (mi_RO + 24)), (1, .int x2), (2, .int 0), (3, .int 3)] [.int 0] i a q r (by rfl) ?_ | refine ko_steps mi_in234 1 _ (24, [(5, .int 0), (4, .int x2.toInt8.toInt32), (0, .ref (mi_RO + 24)), (1, .int x2), (2, .int 0), (3, .int 3)], [.int 0], (0, 0), ks i a q r) (by rfl) ?_
    exact ft_ret mi_k234 (by rfl) (hP 0 (op137 c7 hp0.2 s1.1 s1.2 kop60 kop0))
set_option maxRecDepth 100000 in
theorem ke233_1000024_l10_l23 {i : Nat → Int32} {a : Nat → List Int32} {q : Nat → List Int64} {r : Nat → Nat} (hI : kI i a q) (hr : kr r) (x2 : Int32) (hp0 : ((0 : Int) ≤ x2.toInt) ∧ (x2.toInt ≤ 255)) : km 3 233 [.ref (mi_RO + 24), .int x2, .int 0, .int 3] (ks i a q r) (kPI (ks i a q r) (fun v => (((-1) : Int) ≤ v.toInt) ∧ (v.toInt ≤ 2) ∧ (((x2.toInt = 60) → (v.toInt = 0))) ∧ (((x2.toInt = 61) → (v.toInt = 1))) ∧ (((x2.toInt = 62) → (v.toInt = 2))) ∧ (((v.toInt = 0) → (x2.toInt = 60))) ∧ (((v.toInt = 1) → (x2.toInt = 61))) ∧ (((v.toInt = 2) → (x2.toInt = 62))) ∧ ((v.toInt = (-1)) ∨ (x2.toInt = 60) ∨ (x2.toInt = 61) ∨ (x2.toInt = 62)))) := by
  have hG := kG_self kW0 hI hr
  refine km_ofPI (q := (mi_h233, mi_c233)) rfl (by decide) (Nat.le_of_ble_eq_true rfl) ?_
  intro P hP
  first | refine ft_go mi_k233 1 1 [(0, .ref (mi_RO + 24)), (1, .int x2), (2, .int 0), (3, .int 3)] [.int x2] i a q r (by rfl) ?_ | refine ko_steps mi_in233 1 _ (1, [(0, .ref (mi_RO + 24)), (1, .int x2), (2, .int 0), (3, .int 3)], [.int x2], (0, 0), ks i a q r) (by rfl) ?_
  refine ko_callPI mi_k233.1 (pc := 1) (ls := [(0, .ref (mi_RO + 24)), (1, .int x2), (2, .int 0), (3, .int 3)]) (st := [.int x2]) (h := ks i a q r) (i := (.invokestatic 88, 3, 232, 0, 9, 0, 195)) (mi_k233.2 _ _ (by rfl)) (ft_invS mi_pq232 (by rfl)) (cy := mi_c232) mi_pq232 rfl (ke232 hG.I hG.R x2) (by decide) ?_
  intro vg1 hg1
  rcases hg1 with ⟨eg1, hg1⟩ | ⟨eg1, hg1⟩
  ·
    subst eg1
    first | refine ft_go mi_k233 4 14 [(0, .ref (mi_RO + 24)), (1, .int x2), (2, .int 0), (3, .int 3)] [.int (bif decide ((0 : Int32) < 0) then 0 else 0)] i a q r (by rfl) ?_ | refine ko_steps mi_in233 4 _ (14, [(0, .ref (mi_RO + 24)), (1, .int x2), (2, .int 0), (3, .int 3)], [.int (bif decide ((0 : Int32) < 0) then 0 else 0)], (0, 0), ks i a q r) (by rfl) ?_
    refine ko_eq (x1 := (14, [(0, .ref (mi_RO + 24)), (1, .int x2), (2, .int 0), (3, .int 3)], [.int 0], (0, 0), ks i a q r)) (by rw [(by decide : (bif decide ((0 : Int32) < 0) then 0 else 0 : Int32) = 0)]) ?_
    first | refine ft_go mi_k233 5 21 [(2, .int 0), (0, .ref (mi_RO + 24)), (1, .int x2), (3, .int 3)] [.int (bif decide ((3 : Int32) < 3) then 3 else 3)] i a q r (by rfl) ?_ | refine ko_steps mi_in233 5 _ (21, [(2, .int 0), (0, .ref (mi_RO + 24)), (1, .int x2), (3, .int 3)], [.int (bif decide ((3 : Int32) < 3) then 3 else 3)], (0, 0), ks i a q r) (by rfl) ?_
    refine ko_eq (x1 := (21, [(2, .int 0), (0, .ref (mi_RO + 24)), (1, .int x2), (3, .int 3)], [.int 3], (0, 0), ks i a q r)) (by rw [(by decide : (bif decide ((3 : Int32) < 3) then 3 else 3 : Int32) = 3)]) ?_
    first | refine ft_go mi_k233 8 33 [(3, .int 3), (2, .int 0), (0, .ref (mi_RO + 24)), (1, .int x2)] [.int 3, .int 0, .int x2, .ref (mi_RO + 24)] i a q r (by rfl) ?_ | refine ko_steps mi_in233 8 _ (33, [(3, .int 3), (2, .int 0), (0, .ref (mi_RO + 24)), (1, .int x2)], [.int 3, .int 0, .int x2, .ref (mi_RO + 24)], (0, 0), ks i a q r) (by rfl) ?_
    refine ko_callPI mi_k233.1 (pc := 33) (ls := [(3, .int 3), (2, .int 0), (0, .ref (mi_RO + 24)), (1, .int x2)]) (st := [.int 3, .int 0, .int x2, .ref (mi_RO + 24)]) (h := ks i a q r) (i := (.invokestatic 95, 3, 234, 0, 9, 0, 198)) (mi_k233.2 _ _ (by rfl)) (ft_invS mi_pq234 (by rfl)) (cy := mi_c234) mi_pq234 rfl (ke234_1000024_l10_l23 hG.I hG.R x2 (op53 hp0.1 hp0.2)) (by decide) ?_
    intro vg3 hg3
    have z4 : (((-1) : Int) ≤ vg3.toInt) ∧ (vg3.toInt ≤ 2) ∧ (((x2.toInt = 60) → (vg3.toInt = 0))) ∧ (((x2.toInt = 61) → (vg3.toInt = 1))) ∧ (((x2.toInt = 62) → (vg3.toInt = 2))) ∧ (((vg3.toInt = 0) → (x2.toInt = 60))) ∧ (((vg3.toInt = 1) → (x2.toInt = 61))) ∧ (((vg3.toInt = 2) → (x2.toInt = 62))) ∧ ((vg3.toInt = (-1)) ∨ (x2.toInt = 60) ∨ (x2.toInt = 61) ∨ (x2.toInt = 62)) := hg3
    exact ft_ret mi_k233 (by rfl) (hP vg3 (op138 z4.1 z4.2.1 z4.2.2.1 z4.2.2.2.1 z4.2.2.2.2.1 z4.2.2.2.2.2.1 z4.2.2.2.2.2.2.1 z4.2.2.2.2.2.2.2.1 z4.2.2.2.2.2.2.2.2))
  ·
    subst eg1
    have z5 : ¬ (((0 : Int) ≤ x2.toInt) ∧ (x2.toInt ≤ 255)) := hg1
    exact (op55 hp0.1 hp0.2 z5).elim
set_option maxRecDepth 100000 in
theorem ke229_1000014_l10 {i : Nat → Int32} {a : Nat → List Int32} {q : Nat → List Int64} {r : Nat → Nat} (hI : kI i a q) (hr : kr r) (x1 : Int32) (hp0 : ((0 : Int) ≤ x1.toInt) ∧ (x1.toInt ≤ 255)) : km 5 229 [.ref (mi_RO + 14), .int x1, .int 0] (ks i a q r) (kPI (ks i a q r) (fun v => (((-1) : Int) ≤ v.toInt) ∧ (v.toInt ≤ 2) ∧ (((x1.toInt = 60) → (v.toInt = 0))) ∧ (((x1.toInt = 61) → (v.toInt = 1))) ∧ (((x1.toInt = 62) → (v.toInt = 2))) ∧ (((v.toInt = 0) → (x1.toInt = 60))) ∧ (((v.toInt = 1) → (x1.toInt = 61))) ∧ (((v.toInt = 2) → (x1.toInt = 62))) ∧ ((v.toInt = (-1)) ∨ (x1.toInt = 60) ∨ (x1.toInt = 61) ∨ (x1.toInt = 62)))) := by
  have hG := kG_self kW0 hI hr
  refine km_ofPI (q := (mi_h229, mi_c229)) rfl (by decide) (Nat.le_of_ble_eq_true rfl) ?_
  intro P hP
  refine ft_go mi_k229 1 1 [(0, .ref (mi_RO + 14)), (1, .int x1), (2, .int 0)] [.ref (mi_RO + 14)] i a q r (by rfl) ?_
  refine ko_callPI mi_k229.1 (pc := 1) (ls := [(0, .ref (mi_RO + 14)), (1, .int x1), (2, .int 0)]) (st := [.ref (mi_RO + 14)]) (h := ks i a q r) (i := (.invokevirtual 492, 3, 231, 0, 9, 0, 192)) (mi_k229.2 _ _ (by rfl)) (ft_invS mi_pq231 (by rfl)) (cy := mi_c231) mi_pq231 rfl (kc231_S14 hG.I hG.R ) (by decide) ?_
  intro vg1 hg1
  rcases hg1 with ⟨eg1, hg1⟩ | ⟨eg1, hg1⟩
  ·
    subst eg1
    refine ft_go mi_k229 6 14 [(0, .ref (mi_RO + 14)), (1, .int x1), (2, .int 0)] [.ref (mi_RO + 14), .int 0, .int x1, .ref (mi_RO + 24)] i a q r (by rfl) ?_
    refine ko_callPI mi_k229.1 (pc := 14) (ls := [(0, .ref (mi_RO + 14)), (1, .int x1), (2, .int 0)]) (st := [.ref (mi_RO + 14), .int 0, .int x1, .ref (mi_RO + 24)]) (h := ks i a q r) (i := (.invokevirtual 505, 3, 227, 0, 9, 0, 193)) (mi_k229.2 _ _ (by rfl)) (ft_invS mi_pq227 (by rfl)) (cy := mi_c227) mi_pq227 rfl (ke227_1000014 hG.I hG.R ) (by decide) ?_
    intro vg2 hg2
    have z3 : vg2.toInt = 3 := hg2
    refine ko_eq (x1 := (17, [(0, .ref (mi_RO + 14)), (1, .int x1), (2, .int 0)], [.int 3, .int 0, .int x1, .ref (mi_RO + 24)], (0, 0), ks i a q r)) (by rw [(kj_eq (op70 z3) (by decide) : vg2 = 3)]) ?_
    refine ko_callPI mi_k229.1 (pc := 17) (ls := [(0, .ref (mi_RO + 14)), (1, .int x1), (2, .int 0)]) (st := [.int 3, .int 0, .int x1, .ref (mi_RO + 24)]) (h := ks i a q r) (i := (.invokestatic 637, 3, 233, 0, 9, 0, 194)) (mi_k229.2 _ _ (by rfl)) (ft_invS mi_pq233 (by rfl)) (cy := mi_c233) mi_pq233 rfl (ke233_1000024_l10_l23 hG.I hG.R x1 (op53 hp0.1 hp0.2)) (by decide) ?_
    intro vg4 hg4
    have z5 : (((-1) : Int) ≤ vg4.toInt) ∧ (vg4.toInt ≤ 2) ∧ (((x1.toInt = 60) → (vg4.toInt = 0))) ∧ (((x1.toInt = 61) → (vg4.toInt = 1))) ∧ (((x1.toInt = 62) → (vg4.toInt = 2))) ∧ (((vg4.toInt = 0) → (x1.toInt = 60))) ∧ (((vg4.toInt = 1) → (x1.toInt = 61))) ∧ (((vg4.toInt = 2) → (x1.toInt = 62))) ∧ ((vg4.toInt = (-1)) ∨ (x1.toInt = 60) ∨ (x1.toInt = 61) ∨ (x1.toInt = 62)) := hg4
    refine ft_go mi_k229 1 36 [(0, .ref (mi_RO + 14)), (1, .int x1), (2, .int 0)] [.int vg4] i a q r (by rfl) ?_
    exact ft_ret mi_k229 (by rfl) (hP vg4 (op138 z5.1 z5.2.1 z5.2.2.1 z5.2.2.2.1 z5.2.2.2.2.1 z5.2.2.2.2.2.1 z5.2.2.2.2.2.2.1 z5.2.2.2.2.2.2.2.1 z5.2.2.2.2.2.2.2.2))
  ·
    subst eg1
    have z6 : (2 : Int) ≤ 1 := hg1
    exact (op56 z6).elim
set_option maxRecDepth 100000 in
theorem ke228_1000014 {i : Nat → Int32} {a : Nat → List Int32} {q : Nat → List Int64} {r : Nat → Nat} (hI : kI i a q) (hr : kr r) (x1 : Int32) (hp0 : ((0 : Int) ≤ x1.toInt) ∧ (x1.toInt ≤ 255)) : km 7 228 [.ref (mi_RO + 14), .int x1] (ks i a q r) (kPI (ks i a q r) (fun v => (((-1) : Int) ≤ v.toInt) ∧ (v.toInt ≤ 2) ∧ (((x1.toInt = 60) → (v.toInt = 0))) ∧ (((x1.toInt = 61) → (v.toInt = 1))) ∧ (((x1.toInt = 62) → (v.toInt = 2))) ∧ (((v.toInt = 0) → (x1.toInt = 60))) ∧ (((v.toInt = 1) → (x1.toInt = 61))) ∧ (((v.toInt = 2) → (x1.toInt = 62))) ∧ ((v.toInt = (-1)) ∨ (x1.toInt = 60) ∨ (x1.toInt = 61) ∨ (x1.toInt = 62)))) := by
  have hG := kG_self kW0 hI hr
  refine km_ofPI (q := (mi_h228, mi_c228)) rfl (by decide) (Nat.le_of_ble_eq_true rfl) ?_
  intro P hP
  refine ft_go mi_k228 3 3 [(0, .ref (mi_RO + 14)), (1, .int x1)] [.int 0, .int x1, .ref (mi_RO + 14)] i a q r (by rfl) ?_
  refine ko_callPI mi_k228.1 (pc := 3) (ls := [(0, .ref (mi_RO + 14)), (1, .int x1)]) (st := [.int 0, .int x1, .ref (mi_RO + 14)]) (h := ks i a q r) (i := (.invokevirtual 633, 3, 229, 0, 9, 0, 191)) (mi_k228.2 _ _ (by rfl)) (ft_invS mi_pq229 (by rfl)) (cy := mi_c229) mi_pq229 rfl (ke229_1000014_l10 hG.I hG.R x1 (op53 hp0.1 hp0.2)) (by decide) ?_
  intro vg1 hg1
  have z2 : (((-1) : Int) ≤ vg1.toInt) ∧ (vg1.toInt ≤ 2) ∧ (((x1.toInt = 60) → (vg1.toInt = 0))) ∧ (((x1.toInt = 61) → (vg1.toInt = 1))) ∧ (((x1.toInt = 62) → (vg1.toInt = 2))) ∧ (((vg1.toInt = 0) → (x1.toInt = 60))) ∧ (((vg1.toInt = 1) → (x1.toInt = 61))) ∧ (((vg1.toInt = 2) → (x1.toInt = 62))) ∧ ((vg1.toInt = (-1)) ∨ (x1.toInt = 60) ∨ (x1.toInt = 61) ∨ (x1.toInt = 62)) := hg1
  exact ft_ret mi_k228 (by rfl) (hP vg1 (op138 z2.1 z2.2.1 z2.2.2.1 z2.2.2.2.1 z2.2.2.2.2.1 z2.2.2.2.2.2.1 z2.2.2.2.2.2.2.1 z2.2.2.2.2.2.2.2.1 z2.2.2.2.2.2.2.2.2))
def yw47_98_1000014 : kW := ([6274], [], [], [])
set_option maxRecDepth 100000 in
theorem ke47_98_1000014 {i : Nat → Int32} {a : Nat → List Int32} {q : Nat → List Int64} {r : Nat → Nat} (hI : kI i a q) (hr : kr r) (t : List Int32) (nn : Int32) (hT : a 99 = t) (hN : i 6273 = nn) (hX : kBy t) : km 9 47 [.ref 98, .ref (mi_RO + 14)] (ks i a q r) (kVI yw47_98_1000014 i a q r (fun v i1 a1 q1 r1 => (((v.toInt = (-1)) ∧ ((i1 6274).toInt = (i 6274).toInt)) ∨ (((i1 6274).toInt = ((i 6274).toInt + 1)) ∧ ((i 6274).toInt < (i 6273).toInt) ∧ ((i 6275).toInt = 0) ∧ ((v.toInt = 60) ∨ (v.toInt = 61) ∨ (v.toInt = 62)))) ∧ (v, i1 6274) = cOfP t nn oCmp (i 6274) (i 6275))) := by
  have hG := kG_self yw47_98_1000014 hI hr
  refine km_ofI (q := (mi_h47, mi_c47)) rfl (by decide) (Nat.le_of_ble_eq_true rfl) ?_
  intro P hP
  have hn1 : (i 6273).toInt = nn.toInt := congrArg Int32.toInt hN
  refine ft_go mi_k47 1 1 [(0, .ref 98), (1, .ref (mi_RO + 14))] [.ref 98] i a q r (by rfl) ?_
  refine ko_callPI mi_k47.1 (pc := 1) (ls := [(0, .ref 98), (1, .ref (mi_RO + 14))]) (st := [.ref 98]) (h := ks i a q r) (i := (.invokevirtual 46, 3, 45, 0, 9, 0, 184)) (mi_k47.2 _ _ (by rfl)) (ft_invS mi_pq45 (by rfl)) (cy := mi_c45) mi_pq45 rfl (ke45_98 hG.I hG.R t nn hT hN hX) (by decide) ?_
  intro vg2 hg2
  obtain ⟨hg2, og2⟩ := hg2
  have fi_6275 : ((0 : Int) ≤ (i 6275).toInt) ∧ ((i 6275).toInt ≤ 1) := hG.I.1 6275
  have fi_6274 : ((0 : Int) ≤ (i 6274).toInt) ∧ ((i 6274).toInt ≤ 120) := hG.I.1 6274
  have fi_6273 : ((0 : Int) ≤ (i 6273).toInt) ∧ ((i 6273).toInt ≤ 120) := hG.I.1 6273
  have z3 : (((-1) : Int) ≤ vg2.toInt) ∧ (vg2.toInt ≤ 255) ∧ ((vg2.toInt = (-1)) ∨ (((i 6275).toInt = 0) ∧ ((i 6274).toInt < (i 6273).toInt))) := hg2
  have q4 : vg2 = cHr t nn (i 6274) (i 6275) := og2
  have hv5 : vg2.toInt = (cHr t nn (i 6274) (i 6275)).toInt := congrArg Int32.toInt og2
  refine ft_go mi_k47 3 7 [(2, .int vg2), (0, .ref 98), (1, .ref (mi_RO + 14))] [.int (-1), .int vg2] i a q r (by rfl) ?_
  refine ft_if mi_k47 (vg2 == (-1)) 19 10 [(2, .int vg2), (0, .ref 98), (1, .ref (mi_RO + 14))] [] (by rfl) (fun c => ?_) (fun c => ?_)
  ·
    have c6 : vg2.toInt = ((-1) : Int32).toInt := kd_eq c; clear c
    refine ft_go mi_k47 1 20 [(2, .int vg2), (0, .ref 98), (1, .ref (mi_RO + 14))] [.int (-1)] i a q r (by rfl) ?_
    exact ft_ret mi_k47 (by rfl) (hP (-1) _ _ _ _ hG ⟨(op132 kopm1), (ofP_n (o := oCmp) (decide_eq_false (op133 c6 hv5 kopm1)))⟩)
  ·
    have c7 : vg2.toInt ≠ ((-1) : Int32).toInt := kd_eqF c; clear c
    have s8 : ((vg2.toUInt32 % 65536).toInt32).toInt = vg2.toInt := kd_i2c (op39 c7 z3.1 kopm1) (Int.le_trans (op40 z3.2.1) (by decide))
    refine ft_go mi_k47 3 13 [(2, .int vg2), (0, .ref 98), (1, .ref (mi_RO + 14))] [.int ((vg2.toUInt32 % 65536).toInt32), .ref (mi_RO + 14)] i a q r (by rfl) ?_
    refine ko_callPI mi_k47.1 (pc := 13) (ls := [(2, .int vg2), (0, .ref 98), (1, .ref (mi_RO + 14))]) (st := [.int ((vg2.toUInt32 % 65536).toInt32), .ref (mi_RO + 14)]) (h := ks i a q r) (i := (.invokevirtual 50, 3, 228, 0, 9, 0, 190)) (mi_k47.2 _ _ (by rfl)) (ft_invS mi_pq228 (by rfl)) (cy := mi_c228) mi_pq228 rfl (ke228_1000014 hG.I hG.R ((vg2.toUInt32 % 65536).toInt32) (op57 c7 s8 z3.1 z3.2.1 kopm1)) (by decide) ?_
    intro vg9 hg9
    have z10 : (((-1) : Int) ≤ vg9.toInt) ∧ (vg9.toInt ≤ 2) ∧ (((((vg2.toUInt32 % 65536).toInt32).toInt = 60) → (vg9.toInt = 0))) ∧ (((((vg2.toUInt32 % 65536).toInt32).toInt = 61) → (vg9.toInt = 1))) ∧ (((((vg2.toUInt32 % 65536).toInt32).toInt = 62) → (vg9.toInt = 2))) ∧ (((vg9.toInt = 0) → (((vg2.toUInt32 % 65536).toInt32).toInt = 60))) ∧ (((vg9.toInt = 1) → (((vg2.toUInt32 % 65536).toInt32).toInt = 61))) ∧ (((vg9.toInt = 2) → (((vg2.toUInt32 % 65536).toInt32).toInt = 62))) ∧ ((vg9.toInt = (-1)) ∨ (((vg2.toUInt32 % 65536).toInt32).toInt = 60) ∨ (((vg2.toUInt32 % 65536).toInt32).toInt = 61) ∨ (((vg2.toUInt32 % 65536).toInt32).toInt = 62)) := hg9
    refine ft_if mi_k47 (decide (0 ≤ vg9)) 21 19 [(2, .int vg2), (0, .ref 98), (1, .ref (mi_RO + 14))] [] (by rfl) (fun c => ?_) (fun c => ?_)
    ·
      have c11 : (0 : Int32).toInt ≤ vg9.toInt := kd_le c; clear c
      have s12 : ((i 6274) + 1).toInt = (i 6274).toInt + (1 : Int32).toInt := kd_add (op18 fi_6274.1 kop1) (op26 fi_6274.2 kop1)
      have hJ13 := kG_i hG 6274 rfl (v := ((i 6274) + 1)) ⟨(op20 fi_6274.1 s12 kop1), (op58 c7 fi_6273.2 s12 z3.1 z3.2.2 kopm1 kop1)⟩
      refine ft_go mi_k47 7 32 [(2, .int vg2), (0, .ref 98), (1, .ref (mi_RO + 14))] [.int vg2] (ku i 6274 ((i 6274) + 1)) a q r (by rfl) ?_
      exact ft_ret mi_k47 (by rfl) (hP vg2 _ _ _ _ hJ13 ⟨(op139 c11 c7 fi_6275.1 s12 s8 z10.2.1 z10.2.2.2.1 z10.2.2.2.2.1 z10.2.2.2.2.2.1 z10.2.2.2.2.2.2.1 z10.2.2.2.2.2.2.2.1 z3.1 z3.2.2 kop0 kopm1 kop1), (ofP_y (o := oCmp) (decide_eq_true (op140 c11 hv5 s8 z10.2.1 z10.2.2.2.1 z10.2.2.2.2.1 z10.2.2.2.2.2.1 z10.2.2.2.2.2.2.1 z10.2.2.2.2.2.2.2.1 kop0)) og2)⟩)
    ·
      have c14 : vg9.toInt < (0 : Int32).toInt := kd_leF c; clear c
      refine ft_go mi_k47 1 20 [(2, .int vg2), (0, .ref 98), (1, .ref (mi_RO + 14))] [.int (-1)] i a q r (by rfl) ?_
      exact ft_ret mi_k47 (by rfl) (hP (-1) _ _ _ _ hG ⟨(op132 kopm1), (ofP_n (o := oCmp) (decide_eq_false (op141 c14 hv5 s8 z10.2.2.1 z10.2.2.2.1 z10.2.2.2.2.1 kop0)))⟩)
def wP10 : kW := ([643, 6274, 6275], [11, 12], [], [])
def kMP10_54 (n : Nat) : Prop := ∀ (i : Nat → Int32) (a : Nat → List Int32) (q : Nat → List Int64) (r : Nat → Nat), kI i a q → kr r → ∀ (x1 : Int32), (((0 : Int) ≤ x1.toInt) ∧ ((x1.toInt + (n : Int)) = 6)) → ∀ (t : List Int32) (nn : Int32), a 99 = t → i 6273 = nn → r 2 = 10 → kBy t → km (6 * n + 10) 54 [.ref 98, .int x1] (ks i a q r) (kVN wP10 i a q r (fun i1 a1 q1 r1 => (True) ∧ (i1 6274, i1 6275, a1 11, a1 12, i1 643) = (cO t nn n) (i 6274, i 6275, a 11, a 12, i 643)))
def yw53_98_L10_L14 : kW := ([643, 6274, 6275], [11, 12], [], [])
def kMP10_53 (n : Nat) : Prop := ∀ (i : Nat → Int32) (a : Nat → List Int32) (q : Nat → List Int64) (r : Nat → Nat), kI i a q → kr r → ∀ (x1 : Int32), (((0 : Int) ≤ x1.toInt) ∧ ((x1.toInt + (n : Int)) = 6)) → ∀ (t : List Int32) (nn : Int32), a 99 = t → i 6273 = nn → r 2 = 10 → kBy t → km (6 * n + 11) 53 [.ref 98, .int x1] (ks i a q r) (kVN wP10 i a q r (fun i1 a1 q1 r1 => (True) ∧ (i1 6274, i1 6275, a1 11, a1 12, i1 643) = (cP3 t nn (cO t nn n)) (i 6274, i 6275, a 11, a 12, i 643)))
def yw52_98_L10_L14 : kW := ([643, 6274, 6275], [11, 12], [], [])
def kMP10_52 (n : Nat) : Prop := ∀ (i : Nat → Int32) (a : Nat → List Int32) (q : Nat → List Int64) (r : Nat → Nat), kI i a q → kr r → ∀ (x1 : Int32), (((0 : Int) ≤ x1.toInt) ∧ ((x1.toInt + (n : Int)) = 6)) → ∀ (t : List Int32) (nn : Int32), a 99 = t → i 6273 = nn → r 2 = 10 → kBy t → km (6 * n + 12) 52 [.ref 98, .int x1] (ks i a q r) (kVN wP10 i a q r (fun i1 a1 q1 r1 => (True) ∧ (i1 6274, i1 6275, a1 11, a1 12, i1 643) = (cP4 t nn (cO t nn n)) (i 6274, i 6275, a 11, a 12, i 643)))
def kMP10_51 (n : Nat) : Prop := ∀ (i : Nat → Int32) (a : Nat → List Int32) (q : Nat → List Int64) (r : Nat → Nat), kI i a q → kr r → ∀ (x1 : Int32), (((0 : Int) ≤ x1.toInt) ∧ ((x1.toInt + (n : Int)) = 6)) → ∀ (t : List Int32) (nn : Int32), a 99 = t → i 6273 = nn → r 2 = 10 → kBy t → km (6 * n + 13) 51 [.ref 98, .int x1] (ks i a q r) (kVN wP10 i a q r (fun i1 a1 q1 r1 => (True) ∧ (i1 6274, i1 6275, a1 11, a1 12, i1 643) = (cP5 t nn (cO t nn n)) (i 6274, i 6275, a 11, a 12, i 643)))
def yw50_98_L10_L7 : kW := ([643, 6274, 6275], [11, 12], [], [])
def kMP10_50 (n : Nat) : Prop := ∀ (i : Nat → Int32) (a : Nat → List Int32) (q : Nat → List Int64) (r : Nat → Nat), kI i a q → kr r → ∀ (x1 : Int32), (((0 : Int) ≤ x1.toInt) ∧ ((x1.toInt + (n : Int)) = 6)) → ∀ (t : List Int32) (nn : Int32), a 99 = t → i 6273 = nn → r 2 = 10 → kBy t → km (6 * n + 14) 50 [.ref 98, .int x1] (ks i a q r) (kVN wP10 i a q r (fun i1 a1 q1 r1 => (True) ∧ (i1 6274, i1 6275, a1 11, a1 12, i1 643) = (cP6 t nn (cO t nn n)) (i 6274, i 6275, a 11, a 12, i 643)))
def yw49_98_L10_L7 : kW := ([643, 6274, 6275], [11, 12], [], [])
def kMP10_49 (n : Nat) : Prop := ∀ (i : Nat → Int32) (a : Nat → List Int32) (q : Nat → List Int64) (r : Nat → Nat), kI i a q → kr r → ∀ (x1 : Int32), (((0 : Int) ≤ x1.toInt) ∧ ((x1.toInt + (n : Int)) = 6)) → ∀ (t : List Int32) (nn : Int32), a 99 = t → i 6273 = nn → r 2 = 10 → kBy t → km (6 * n + 15) 49 [.ref 98, .int x1] (ks i a q r) (kVN wP10 i a q r (fun i1 a1 q1 r1 => (True) ∧ (i1 6274, i1 6275, a1 11, a1 12, i1 643) = (cE t nn n) (i 6274, i 6275, a 11, a 12, i 643)))
set_option maxRecDepth 100000 in
theorem kMsP10_54 (n : Nat)  (ih : ∀ m, n = m + 1 → kMP10_49 m ∧ kMP10_54 m) : kMP10_54 n := by
  intro i a q r hI hr x1 hp0 t nn hT hN hL hX
  have hG := kG_self wP10 hI hr
  refine km_ofN (q := (mi_h54, mi_c54)) rfl (by decide) (Nat.le_of_ble_eq_true rfl) ?_
  intro P hP
  have hn0 : (0 : Int) ≤ (n : Int) := Int.natCast_nonneg n
  have hn1 : (i 6273).toInt = nn.toInt := congrArg Int32.toInt hN
  have eRr_2 : r 2 = 10 := hL
  refine ft_go mi_k54 1 1 [(0, .ref 98), (1, .int x1)] [.ref 98] i a q r (by rfl) ?_
  refine ko_callPI mi_k54.1 (pc := 1) (ls := [(0, .ref 98), (1, .int x1)]) (st := [.ref 98]) (h := ks i a q r) (i := (.invokevirtual 46, 3, 45, 0, 9, 0, 184)) (mi_k54.2 _ _ (by rfl)) (ft_invS mi_pq45 (by rfl)) (cy := mi_c45) mi_pq45 rfl (ke45_98 hG.I hG.R t nn hT hN hX) (kj_d3 (n := n) (c := 1) (o1 := 10) (by decide)) ?_
  intro vg2 hg2
  obtain ⟨hg2, og2⟩ := hg2
  have z3 : (((-1) : Int) ≤ vg2.toInt) ∧ (vg2.toInt ≤ 255) ∧ ((vg2.toInt = (-1)) ∨ (((i 6275).toInt = 0) ∧ ((i 6274).toInt < (i 6273).toInt))) := hg2
  have q4 : vg2 = cHr t nn (i 6274) (i 6275) := og2
  have hv5 : vg2.toInt = (cHr t nn (i 6274) (i 6275)).toInt := congrArg Int32.toInt og2
  refine ft_go mi_k54 2 6 [(2, .int vg2), (0, .ref 98), (1, .int x1)] [.int vg2] i a q r (by rfl) ?_
  refine ko_callPI mi_k54.1 (pc := 6) (ls := [(2, .int vg2), (0, .ref 98), (1, .int x1)]) (st := [.int vg2]) (h := ks i a q r) (i := (.invokestatic 92, 3, 56, 0, 9, 0, 185)) (mi_k54.2 _ _ (by rfl)) (ft_invS mi_pq56 (by rfl)) (cy := mi_c56) mi_pq56 rfl (kc56 hG.I hG.R vg2) (kj_d3 (n := n) (c := 1) (o1 := 10) (by decide)) ?_
  intro vg6 hg6
  rcases hg6 with ⟨eg6, hg6⟩ | ⟨eg6, hg6⟩
  ·
    subst eg6
    have z7 : ((48 : Int) ≤ vg2.toInt) ∧ (vg2.toInt ≤ 57) := hg6
    refine ft_go mi_k54 2 13 [(2, .int vg2), (0, .ref 98), (1, .int x1)] [.ref 98] i a q r (by rfl) ?_
    refine ko_callN mi_k54.1 (pc := 13) (ls := [(2, .int vg2), (0, .ref 98), (1, .int x1)]) (st := [.ref 98]) (h := ks i a q r) (i := (.invokevirtual 95, 3, 55, 0, 9, 0, 186)) (mi_k54.2 _ _ (by rfl)) (ft_invS mi_pq55 (by rfl)) (cy := mi_c55) mi_pq55 rfl (ke55_98_L10 hG.I hG.R t nn hT hN eRr_2 hX) (kj_d3 (n := n) (c := 3) (o1 := 10) (by decide)) ?_
    intro ig8 ag8 qg8 rg8 kg8 hg8
    have hGg8 := kG_call hG kg8 (by decide +kernel)
    have eRrg8_2 : rg8 2 = 10 := (kg8.fr 2 rfl).trans eRr_2
    obtain ⟨hg8, og8⟩ := hg8
    exact ft_ret mi_k54 (by rfl) (hP  _ _ _ _ hGg8 ⟨trivial, (cPt_lv (cO_any t nn n) (fun nx => cPt_num (nx := nx) (op31 hv5 z7.1) (op32 hv5 z7.2) og8))⟩)
  ·
    subst eg6
    have z9 : ¬ (((48 : Int) ≤ vg2.toInt) ∧ (vg2.toInt ≤ 57)) := hg6
    refine ft_go mi_k54 3 20 [(2, .int vg2), (0, .ref 98), (1, .int x1)] [.ref (mi_RO + 10), .ref 98] i a q r (by rfl) ?_
    refine ko_callI mi_k54.1 (pc := 20) (ls := [(2, .int vg2), (0, .ref 98), (1, .int x1)]) (st := [.ref (mi_RO + 10), .ref 98]) (h := ks i a q r) (i := (.invokevirtual 78, 3, 47, 0, 9, 0, 189)) (mi_k54.2 _ _ (by rfl)) (ft_invS mi_pq47 (by rfl)) (cy := mi_c47) mi_pq47 rfl (ke47_98_1000010 hG.I hG.R t nn hT hN hX) (kj_d3 (n := n) (c := 9) (o1 := 10) (by decide)) ?_
    intro vg10 ig10 ag10 qg10 rg10 kg10 hg10
    have hGg10 := kG_call hG kg10 (by decide +kernel)
    have eRrg10_2 : rg10 2 = 10 := (kg10.fr 2 rfl).trans eRr_2
    obtain ⟨hg10, og10⟩ := hg10
    have z11 : ((vg10.toInt = (-1)) ∧ ((ig10 6274).toInt = (i 6274).toInt)) ∨ (((ig10 6274).toInt = ((i 6274).toInt + 1)) ∧ ((i 6274).toInt < (i 6273).toInt) ∧ ((i 6275).toInt = 0) ∧ ((vg10.toInt = 119) ∨ (vg10.toInt = 112) ∨ (vg10.toInt = 104) ∨ (vg10.toInt = 110) ∨ (vg10.toInt = 111) ∨ (vg10.toInt = 100))) := hg10
    have ho12 : vg10.toInt = (-1) ∨ vg10.toInt = (cHr t nn (i 6274) (i 6275)).toInt := tOf_v og10
    refine ft_go mi_k54 3 26 [(3, .int vg10), (2, .int vg2), (0, .ref 98), (1, .int x1)] [.int (-1), .int vg10] ig10 ag10 qg10 rg10 (by rfl) ?_
    refine ft_if mi_k54 (vg10 == (-1)) 46 29 [(3, .int vg10), (2, .int vg2), (0, .ref 98), (1, .int x1)] [] (by rfl) (fun c => ?_) (fun c => ?_)
    ·
      have c13 : vg10.toInt = ((-1) : Int32).toInt := kd_eq c; clear c
      refine ft_go mi_k54 2 49 [(3, .int vg10), (2, .int vg2), (0, .ref 98), (1, .int x1)] [.int 6, .int x1] ig10 ag10 qg10 rg10 (by rfl) ?_
      refine ft_if mi_k54 (decide (6 ≤ x1)) 62 52 [(3, .int vg10), (2, .int vg2), (0, .ref 98), (1, .int x1)] [] (by rfl) (fun c => ?_) (fun c => ?_)
      ·
        have c14 : (6 : Int32).toInt ≤ x1.toInt := kd_le c; clear c
        have hJ15 := kG_i hGg10 6275 rfl (v := 1) ⟨(op62 kop1), (op63 kop1)⟩
        refine ft_go mi_k54 3 67 [(3, .int vg10), (2, .int vg2), (0, .ref 98), (1, .int x1)] [] (ku ig10 6275 1) ag10 qg10 rg10 (by rfl) ?_
        have tb16 : (ig10 6274, (1 : Int32), ag10 11, ag10 12, ig10 643) = cBad (ig10 6274, ig10 6275, ag10 11, ag10 12, ig10 643) := (tBad rfl rfl (kT3 rfl rfl rfl))
        have to17 : (vg10, (ig10 6274, ig10 6275, ag10 11, ag10 12, ig10 643)) = cOf t nn oNam (i 6274, i 6275, a 11, a 12, i 643) := (tOf og10 (kg10.fi 6275 rfl) (kT3 (kg10.fa 11 rfl) (kg10.fa 12 rfl) (kg10.fi 643 rfl)))
        have te18 : (ig10 6274, ig10 6275, ag10 11, ag10 12, ig10 643) = (i 6274, i 6275, a 11, a 12, i 643) := cOf_no to17 (op64 c13 kopm1) oNam_ne
        have tp19 : (ig10 6274, (1 : Int32), ag10 11, ag10 12, ig10 643) = cPart t nn none (i 6274, i 6275, a 11, a 12, i 643) := cPt_non (op35 hv5 z9) to17 (op64 c13 kopm1) (tBad2 te18 tb16)
        exact ft_ret mi_k54 (by rfl) (hP  _ _ _ _ hJ15 ⟨trivial, (tp19.trans (congrFun (cO_z (kj_n0 (op65 c14 hp0.2 kop6))).symm _))⟩)
      ·
        have c20 : x1.toInt < (6 : Int32).toInt := kd_leF c; clear c
        obtain ⟨m, hm, hmI⟩ := kj_pred (op66 c20 hp0.2 kop6)
        have hh21 : (cHr t nn (ig10 6274) (ig10 6275)).toInt = (cHr t nn (i 6274) (i 6275)).toInt := congrArg Int32.toInt (kHr_c (t := t) (n := nn) (kj_v (op67 c13 z11 kopm1)) (kg10.fi 6275 rfl))
        refine ft_go mi_k54 2 55 [(3, .int vg10), (2, .int vg2), (0, .ref 98), (1, .int x1)] [.ref (mi_RO + 11), .ref 98] ig10 ag10 qg10 rg10 (by rfl) ?_
        refine ko_callI mi_k54.1 (pc := 55) (ls := [(3, .int vg10), (2, .int vg2), (0, .ref 98), (1, .int x1)]) (st := [.ref (mi_RO + 11), .ref 98]) (h := ks ig10 ag10 qg10 rg10) (i := (.invokevirtual 78, 3, 47, 0, 9, 0, 189)) (mi_k54.2 _ _ (by rfl)) (ft_invS mi_pq47 (by rfl)) (cy := mi_c47) mi_pq47 rfl (ke47_98_1000011 hGg10.I hGg10.R t nn ((kg10.fa 99 rfl).trans hT) ((kg10.fi 6273 rfl).trans hN) hX) (kj_d3 (n := n) (c := 9) (o1 := 10) (by decide)) ?_
        intro vg22 ig22 ag22 qg22 rg22 kg22 hg22
        have hGg22 := kG_call hGg10 kg22 (by decide +kernel)
        have eRrg22_2 : rg22 2 = 10 := (kg22.fr 2 rfl).trans eRrg10_2
        obtain ⟨hg22, og22⟩ := hg22
        have z23 : ((vg22.toInt = (-1)) ∧ ((ig22 6274).toInt = (ig10 6274).toInt)) ∨ (((ig22 6274).toInt = ((ig10 6274).toInt + 1)) ∧ ((ig10 6274).toInt < (ig10 6273).toInt) ∧ ((ig10 6275).toInt = 0) ∧ ((vg22.toInt = 40) ∨ (vg22.toInt = 33) ∨ (vg22.toInt = 45))) := hg22
        have ho24 : vg22.toInt = (-1) ∨ vg22.toInt = (cHr t nn (ig10 6274) (ig10 6275)).toInt := tOf_v og22
        refine ft_go mi_k54 1 59 [(3, .int vg10), (2, .int vg2), (0, .ref 98), (1, .int x1)] [.int (-1), .int vg22] ig22 ag22 qg22 rg22 (by rfl) ?_
        refine ft_if mi_k54 (vg22 != (-1)) 68 62 [(3, .int vg10), (2, .int vg2), (0, .ref 98), (1, .int x1)] [] (by rfl) (fun c => ?_) (fun c => ?_)
        ·
          have c25 : vg22.toInt ≠ ((-1) : Int32).toInt := kd_ne c; clear c
          refine ft_go mi_k54 2 71 [(3, .int vg10), (2, .int vg2), (0, .ref 98), (1, .int x1)] [.int 40, .int vg2] ig22 ag22 qg22 rg22 (by rfl) ?_
          refine ft_if mi_k54 (vg2 != 40) 96 74 [(3, .int vg10), (2, .int vg2), (0, .ref 98), (1, .int x1)] [] (by rfl) (fun c => ?_) (fun c => ?_)
          ·
            have c26 : vg2.toInt ≠ (40 : Int32).toInt := kd_ne c; clear c
            have s27 : (x1 + 1).toInt = x1.toInt + (1 : Int32).toInt := kd_add (op18 hp0.1 kop1) (op79 hn0 hp0.2 kop1)
            refine ft_go mi_k54 4 100 [(3, .int vg10), (2, .int vg2), (0, .ref 98), (1, .int x1)] [.int (x1 + 1), .ref 98] ig22 ag22 qg22 rg22 (by rfl) ?_
            refine ko_callN mi_k54.1 (pc := 100) (ls := [(3, .int vg10), (2, .int vg2), (0, .ref 98), (1, .int x1)]) (st := [.int (x1 + 1), .ref 98]) (h := ks ig22 ag22 qg22 rg22) (i := (.invokevirtual 87, 3, 54, 0, 9, 0, 183)) (mi_k54.2 _ _ (by rfl)) (ft_invS mi_pq54 (by rfl)) (cy := mi_c54) mi_pq54 rfl ((ih m hm).2 _ _ _ _ hGg22.I hGg22.R (x1 + 1) (op80 hmI hp0.1 hp0.2 s27 kop1) t nn (((kg22.fa 99 rfl).trans (kg10.fa 99 rfl)).trans hT) (((kg22.fi 6273 rfl).trans (kg10.fi 6273 rfl)).trans hN) eRrg22_2 hX) (kj_d2 (n := n) (m := m) (o := 10) (o1 := 10) hm (by decide)) ?_
            intro ig28 ag28 qg28 rg28 kg28 hg28
            have hGg28 := kG_call hGg22 kg28 (by decide +kernel)
            have eRrg28_2 : rg28 2 = 10 := (kg28.fr 2 rfl).trans eRrg22_2
            obtain ⟨hg28, og28⟩ := hg28
            refine ft_go mi_k54 2 107 [(3, .int vg10), (2, .int vg2), (0, .ref 98), (1, .int x1)] [.ref (rg28 2)] ig28 ag28 qg28 rg28 (by rfl) ?_
            refine ko_eq (x1 := (107, [(3, .int vg10), (2, .int vg2), (0, .ref 98), (1, .int x1)], [.ref 10], (0, 0), ks ig28 ag28 qg28 rg28)) (by rw [eRrg28_2]) ?_
            refine ft_go mi_k54 2 110 [(3, .int vg10), (2, .int vg2), (0, .ref 98), (1, .int x1)] [.int 45, .int vg2, .ref 10] ig28 ag28 qg28 rg28 (by rfl) ?_
            refine ft_if mi_k54 (vg2 != 45) 118 113 [(3, .int vg10), (2, .int vg2), (0, .ref 98), (1, .int x1)] [.ref 10] (by rfl) (fun c => ?_) (fun c => ?_)
            ·
              have c29 : vg2.toInt ≠ (45 : Int32).toInt := kd_ne c; clear c
              refine ft_go mi_k54 2 120 [(3, .int vg10), (2, .int vg2), (0, .ref 98), (1, .int x1)] [.int 0, .int vg2, .ref 10] ig28 ag28 qg28 rg28 (by rfl) ?_
              refine ko_callI mi_k54.1 (pc := 120) (ls := [(3, .int vg10), (2, .int vg2), (0, .ref 98), (1, .int x1)]) (st := [.int 0, .int vg2, .ref 10]) (h := ks ig28 ag28 qg28 rg28) (i := (.invokevirtual 60, 3, 17, 0, 9, 0, 187)) (mi_k54.2 _ _ (by rfl)) (ft_invS mi_pq17 (by rfl)) (cy := mi_c17) mi_pq17 rfl (kf17_10 hGg28.I hGg28.R vg2 0) (kj_d3 (n := n) (c := 1) (o1 := 10) (by decide)) ?_
              intro vg30 ig30 ag30 qg30 rg30 kg30 hg30
              have hGg30 := kG_call hGg28 kg30 (by decide +kernel)
              have eRrg30_2 : rg30 2 = 10 := (kg30.fr 2 rfl).trans eRrg28_2
              obtain ⟨hg30, og30⟩ := hg30
              refine ft_go mi_k54 1 124 [(3, .int vg10), (2, .int vg2), (0, .ref 98), (1, .int x1)] [] ig30 ag30 qg30 rg30 (by rfl) ?_
              have to32 : (vg10, (ig10 6274, ig10 6275, ag10 11, ag10 12, ig10 643)) = cOf t nn oNam (i 6274, i 6275, a 11, a 12, i 643) := (tOf og10 (kg10.fi 6275 rfl) (kT3 (kg10.fa 11 rfl) (kg10.fa 12 rfl) (kg10.fi 643 rfl)))
              have te33 : (ig10 6274, ig10 6275, ag10 11, ag10 12, ig10 643) = (i 6274, i 6275, a 11, a 12, i 643) := cOf_no to32 (op64 c13 kopm1) oNam_ne
              have to34 : (vg22, (ig22 6274, ig22 6275, ag22 11, ag22 12, ig22 643)) = cOf t nn oOpn (ig10 6274, ig10 6275, ag10 11, ag10 12, ig10 643) := (tOf og22 (kg22.fi 6275 rfl) (kT3 (kg22.fa 11 rfl) (kg22.fa 12 rfl) (kg22.fi 643 rfl)))
              have tx35 : vg2 = (if vg22.toInt = 45 then (126 : Int32) else vg22) := ((kj_v (op82 c25 hh21 ho24 hv5 z3.1 kopm1)).trans (if_neg (op83 c29 hh21 ho24 hv5 z23 kop45)).symm)
              have to36 : (ig28 6274, ig28 6275, ag28 11, ag28 12, ig28 643) = cO t nn m (ig22 6274, ig22 6275, ag22 11, ag22 12, ig22 643) := og28
              have to37 : (ig30 6274, ig30 6275, ag30 11, ag30 12, ig30 643) = cAdd vg2 0 (ig28 6274, ig28 6275, ag28 11, ag28 12, ig28 643) := (tAdd og30.1 (kg30.fi 6274 rfl) (kg30.fi 6275 rfl))
              have tp38 : (ig30 6274, ig30 6275, ag30 11, ag30 12, ig30 643) = cPart t nn (some (cO t nn m)) (i 6274, i 6275, a 11, a 12, i 643) := cPt_un (sub := cO t nn m) (op81 c25 hh21 ho24 hv5 z23 z9 kopm1) to32 (op64 c13 kopm1) te33 to34 (op84 c25 z23 kopm1) (op85 c26 c29 hh21 ho24 hv5 z23 kop40 kop45) to36 tx35 to37
              exact ft_ret mi_k54 (by rfl) (hP  _ _ _ _ hGg30 ⟨trivial, (tp38.trans (congrFun (cO_s hm).symm _))⟩)
            ·
              have c39 : vg2.toInt = (45 : Int32).toInt := kd_neF c; clear c
              refine ft_go mi_k54 3 120 [(3, .int vg10), (2, .int vg2), (0, .ref 98), (1, .int x1)] [.int 0, .int 126, .ref 10] ig28 ag28 qg28 rg28 (by rfl) ?_
              refine ko_callI mi_k54.1 (pc := 120) (ls := [(3, .int vg10), (2, .int vg2), (0, .ref 98), (1, .int x1)]) (st := [.int 0, .int 126, .ref 10]) (h := ks ig28 ag28 qg28 rg28) (i := (.invokevirtual 60, 3, 17, 0, 9, 0, 187)) (mi_k54.2 _ _ (by rfl)) (ft_invS mi_pq17 (by rfl)) (cy := mi_c17) mi_pq17 rfl (kf17_10 hGg28.I hGg28.R 126 0) (kj_d3 (n := n) (c := 1) (o1 := 10) (by decide)) ?_
              intro vg40 ig40 ag40 qg40 rg40 kg40 hg40
              have hGg40 := kG_call hGg28 kg40 (by decide +kernel)
              have eRrg40_2 : rg40 2 = 10 := (kg40.fr 2 rfl).trans eRrg28_2
              obtain ⟨hg40, og40⟩ := hg40
              refine ft_go mi_k54 1 124 [(3, .int vg10), (2, .int vg2), (0, .ref 98), (1, .int x1)] [] ig40 ag40 qg40 rg40 (by rfl) ?_
              have to42 : (vg10, (ig10 6274, ig10 6275, ag10 11, ag10 12, ig10 643)) = cOf t nn oNam (i 6274, i 6275, a 11, a 12, i 643) := (tOf og10 (kg10.fi 6275 rfl) (kT3 (kg10.fa 11 rfl) (kg10.fa 12 rfl) (kg10.fi 643 rfl)))
              have te43 : (ig10 6274, ig10 6275, ag10 11, ag10 12, ig10 643) = (i 6274, i 6275, a 11, a 12, i 643) := cOf_no to42 (op64 c13 kopm1) oNam_ne
              have to44 : (vg22, (ig22 6274, ig22 6275, ag22 11, ag22 12, ig22 643)) = cOf t nn oOpn (ig10 6274, ig10 6275, ag10 11, ag10 12, ig10 643) := (tOf og22 (kg22.fi 6275 rfl) (kT3 (kg22.fa 11 rfl) (kg22.fa 12 rfl) (kg22.fi 643 rfl)))
              have tx45 : (126 : Int32) = (if vg22.toInt = 45 then (126 : Int32) else vg22) := (if_pos (op87 c25 c39 hh21 ho24 hv5 z23 kopm1 kop45)).symm
              have to46 : (ig28 6274, ig28 6275, ag28 11, ag28 12, ig28 643) = cO t nn m (ig22 6274, ig22 6275, ag22 11, ag22 12, ig22 643) := og28
              have to47 : (ig40 6274, ig40 6275, ag40 11, ag40 12, ig40 643) = cAdd (126 : Int32) 0 (ig28 6274, ig28 6275, ag28 11, ag28 12, ig28 643) := (tAdd og40.1 (kg40.fi 6274 rfl) (kg40.fi 6275 rfl))
              have tp48 : (ig40 6274, ig40 6275, ag40 11, ag40 12, ig40 643) = cPart t nn (some (cO t nn m)) (i 6274, i 6275, a 11, a 12, i 643) := cPt_un (sub := cO t nn m) (op86 c39 hv5 kop45) to42 (op64 c13 kopm1) te43 to44 (op84 c25 z23 kopm1) (op88 c25 c39 hh21 ho24 hv5 kopm1 kop45) to46 tx45 to47
              exact ft_ret mi_k54 (by rfl) (hP  _ _ _ _ hGg40 ⟨trivial, (tp48.trans (congrFun (cO_s hm).symm _))⟩)
          ·
            have c49 : vg2.toInt = (40 : Int32).toInt := kd_neF c; clear c
            have s50 : (x1 + 1).toInt = x1.toInt + (1 : Int32).toInt := kd_add (op18 hp0.1 kop1) (op79 hn0 hp0.2 kop1)
            refine ft_go mi_k54 4 78 [(3, .int vg10), (2, .int vg2), (0, .ref 98), (1, .int x1)] [.int (x1 + 1), .ref 98] ig22 ag22 qg22 rg22 (by rfl) ?_
            refine ko_callN mi_k54.1 (pc := 78) (ls := [(3, .int vg10), (2, .int vg2), (0, .ref 98), (1, .int x1)]) (st := [.int (x1 + 1), .ref 98]) (h := ks ig22 ag22 qg22 rg22) (i := (.invokevirtual 56, 3, 49, 0, 9, 0, 178)) (mi_k54.2 _ _ (by rfl)) (ft_invS mi_pq49 (by rfl)) (cy := mi_c49) mi_pq49 rfl ((ih m hm).1 _ _ _ _ hGg22.I hGg22.R (x1 + 1) (op80 hmI hp0.1 hp0.2 s50 kop1) t nn (((kg22.fa 99 rfl).trans (kg10.fa 99 rfl)).trans hT) (((kg22.fi 6273 rfl).trans (kg10.fi 6273 rfl)).trans hN) eRrg22_2 hX) (kj_d2 (n := n) (m := m) (o := 15) (o1 := 10) hm (by decide)) ?_
            intro ig51 ag51 qg51 rg51 kg51 hg51
            have hGg51 := kG_call hGg22 kg51 (by decide +kernel)
            have eRrg51_2 : rg51 2 = 10 := (kg51.fr 2 rfl).trans eRrg22_2
            obtain ⟨hg51, og51⟩ := hg51
            refine ft_go mi_k54 2 84 [(3, .int vg10), (2, .int vg2), (0, .ref 98), (1, .int x1)] [.int 41, .ref 98] ig51 ag51 qg51 rg51 (by rfl) ?_
            refine ko_callI mi_k54.1 (pc := 84) (ls := [(3, .int vg10), (2, .int vg2), (0, .ref 98), (1, .int x1)]) (st := [.int 41, .ref 98]) (h := ks ig51 ag51 qg51 rg51) (i := (.invokevirtual 39, 3, 46, 0, 9, 0, 200)) (mi_k54.2 _ _ (by rfl)) (ft_invS mi_pq46 (by rfl)) (cy := mi_c46) mi_pq46 rfl (ke46_98 hGg51.I hGg51.R 41 (op94 kop41) t nn ((((kg51.fa 99 rfl).trans (kg22.fa 99 rfl)).trans (kg10.fa 99 rfl)).trans hT) (((kg51.fi 6273 rfl).trans ((kg22.fi 6273 rfl).trans (kg10.fi 6273 rfl))).trans hN) hX) (kj_d3 (n := n) (c := 3) (o1 := 10) (by decide)) ?_
            intro vg52 ig52 ag52 qg52 rg52 kg52 hg52
            have hGg52 := kG_call hGg51 kg52 (by decide +kernel)
            have eRrg52_2 : rg52 2 = 10 := (kg52.fr 2 rfl).trans eRrg51_2
            obtain ⟨hg52, og52⟩ := hg52
            have z53 : ((vg52.toInt = 1) ∧ ((ig52 6274).toInt = ((ig51 6274).toInt + 1)) ∧ ((ig51 6274).toInt < (ig51 6273).toInt) ∧ ((ig51 6275).toInt = 0)) ∨ ((vg52.toInt = 0) ∧ ((ig52 6274).toInt = (ig51 6274).toInt)) := hg52
            refine ft_if mi_k54 (vg52 != 0) 95 90 [(3, .int vg10), (2, .int vg2), (0, .ref 98), (1, .int x1)] [] (by rfl) (fun c => ?_) (fun c => ?_)
            ·
              have c54 : vg52.toInt ≠ (0 : Int32).toInt := kd_ne c; clear c
              have to55 : (vg10, (ig10 6274, ig10 6275, ag10 11, ag10 12, ig10 643)) = cOf t nn oNam (i 6274, i 6275, a 11, a 12, i 643) := (tOf og10 (kg10.fi 6275 rfl) (kT3 (kg10.fa 11 rfl) (kg10.fa 12 rfl) (kg10.fi 643 rfl)))
              have te56 : (ig10 6274, ig10 6275, ag10 11, ag10 12, ig10 643) = (i 6274, i 6275, a 11, a 12, i 643) := cOf_no to55 (op64 c13 kopm1) oNam_ne
              have to57 : (vg22, (ig22 6274, ig22 6275, ag22 11, ag22 12, ig22 643)) = cOf t nn oOpn (ig10 6274, ig10 6275, ag10 11, ag10 12, ig10 643) := (tOf og22 (kg22.fi 6275 rfl) (kT3 (kg22.fa 11 rfl) (kg22.fa 12 rfl) (kg22.fi 643 rfl)))
              have tt58 : (vg52, (ig52 6274, ig52 6275, ag52 11, ag52 12, ig52 643)) = cTk t nn 41 (ig51 6274, ig51 6275, ag51 11, ag51 12, ig51 643) := (tTk og52 (kg52.fi 6275 rfl) (kT3 (kg52.fa 11 rfl) (kg52.fa 12 rfl) (kg52.fi 643 rfl)))
              have tn59 : (ig52 6274, ig52 6275, ag52 11, ag52 12, ig52 643) = cEnd (cTk t nn 41 (ig51 6274, ig51 6275, ag51 11, ag51 12, ig51 643)) := cEn_y tt58 (op96 c54 z53 kop0)
              have to60 : (ig51 6274, ig51 6275, ag51 11, ag51 12, ig51 643) = cEit t nn (cO t nn m) (ig22 6274, ig22 6275, ag22 11, ag22 12, ig22 643) := og51
              have tp61 : (ig52 6274, ig52 6275, ag52 11, ag52 12, ig52 643) = cPart t nn (some (cO t nn m)) (i 6274, i 6275, a 11, a 12, i 643) := cPt_par (sub := cO t nn m) (op95 c49 hv5 kop40) to55 (op64 c13 kopm1) te56 to57 (op97 c25 c49 hh21 ho24 hv5 z23 kopm1 kop40) to60 tn59
              exact ft_ret mi_k54 (by rfl) (hP  _ _ _ _ hGg52 ⟨trivial, (tp61.trans (congrFun (cO_s hm).symm _))⟩)
            ·
              have c62 : vg52.toInt = (0 : Int32).toInt := kd_neF c; clear c
              have hJ63 := kG_i hGg52 6275 rfl (v := 1) ⟨(op62 kop1), (op63 kop1)⟩
              refine ft_go mi_k54 3 95 [(3, .int vg10), (2, .int vg2), (0, .ref 98), (1, .int x1)] [] (ku ig52 6275 1) ag52 qg52 rg52 (by rfl) ?_
              have to64 : (vg10, (ig10 6274, ig10 6275, ag10 11, ag10 12, ig10 643)) = cOf t nn oNam (i 6274, i 6275, a 11, a 12, i 643) := (tOf og10 (kg10.fi 6275 rfl) (kT3 (kg10.fa 11 rfl) (kg10.fa 12 rfl) (kg10.fi 643 rfl)))
              have te65 : (ig10 6274, ig10 6275, ag10 11, ag10 12, ig10 643) = (i 6274, i 6275, a 11, a 12, i 643) := cOf_no to64 (op64 c13 kopm1) oNam_ne
              have to66 : (vg22, (ig22 6274, ig22 6275, ag22 11, ag22 12, ig22 643)) = cOf t nn oOpn (ig10 6274, ig10 6275, ag10 11, ag10 12, ig10 643) := (tOf og22 (kg22.fi 6275 rfl) (kT3 (kg22.fa 11 rfl) (kg22.fa 12 rfl) (kg22.fi 643 rfl)))
              have tt67 : (vg52, (ig52 6274, ig52 6275, ag52 11, ag52 12, ig52 643)) = cTk t nn 41 (ig51 6274, ig51 6275, ag51 11, ag51 12, ig51 643) := (tTk og52 (kg52.fi 6275 rfl) (kT3 (kg52.fa 11 rfl) (kg52.fa 12 rfl) (kg52.fi 643 rfl)))
              have tb68 : (ig52 6274, (1 : Int32), ag52 11, ag52 12, ig52 643) = cBad (ig52 6274, ig52 6275, ag52 11, ag52 12, ig52 643) := (tBad rfl rfl (kT3 rfl rfl rfl))
              have tn69 : (ig52 6274, (1 : Int32), ag52 11, ag52 12, ig52 643) = cEnd (cTk t nn 41 (ig51 6274, ig51 6275, ag51 11, ag51 12, ig51 643)) := cEn_n tt67 (op98 c62 kop0) tb68
              have to70 : (ig51 6274, ig51 6275, ag51 11, ag51 12, ig51 643) = cEit t nn (cO t nn m) (ig22 6274, ig22 6275, ag22 11, ag22 12, ig22 643) := og51
              have tp71 : (ig52 6274, (1 : Int32), ag52 11, ag52 12, ig52 643) = cPart t nn (some (cO t nn m)) (i 6274, i 6275, a 11, a 12, i 643) := cPt_par (sub := cO t nn m) (op95 c49 hv5 kop40) to64 (op64 c13 kopm1) te65 to66 (op97 c25 c49 hh21 ho24 hv5 z23 kopm1 kop40) to70 tn69
              exact ft_ret mi_k54 (by rfl) (hP  _ _ _ _ hJ63 ⟨trivial, (tp71.trans (congrFun (cO_s hm).symm _))⟩)
        ·
          have c72 : vg22.toInt = ((-1) : Int32).toInt := kd_neF c; clear c
          have hJ73 := kG_i hGg22 6275 rfl (v := 1) ⟨(op62 kop1), (op63 kop1)⟩
          refine ft_go mi_k54 3 67 [(3, .int vg10), (2, .int vg2), (0, .ref 98), (1, .int x1)] [] (ku ig22 6275 1) ag22 qg22 rg22 (by rfl) ?_
          have to74 : (vg10, (ig10 6274, ig10 6275, ag10 11, ag10 12, ig10 643)) = cOf t nn oNam (i 6274, i 6275, a 11, a 12, i 643) := (tOf og10 (kg10.fi 6275 rfl) (kT3 (kg10.fa 11 rfl) (kg10.fa 12 rfl) (kg10.fi 643 rfl)))
          have te75 : (ig10 6274, ig10 6275, ag10 11, ag10 12, ig10 643) = (i 6274, i 6275, a 11, a 12, i 643) := cOf_no to74 (op64 c13 kopm1) oNam_ne
          have to76 : (vg22, (ig22 6274, ig22 6275, ag22 11, ag22 12, ig22 643)) = cOf t nn oOpn (ig10 6274, ig10 6275, ag10 11, ag10 12, ig10 643) := (tOf og22 (kg22.fi 6275 rfl) (kT3 (kg22.fa 11 rfl) (kg22.fa 12 rfl) (kg22.fi 643 rfl)))
          have te77 : (ig22 6274, ig22 6275, ag22 11, ag22 12, ig22 643) = (ig10 6274, ig10 6275, ag10 11, ag10 12, ig10 643) := cOf_no to76 (op64 c72 kopm1) oOpn_ne
          have tb78 : (ig22 6274, (1 : Int32), ag22 11, ag22 12, ig22 643) = cBad (ig22 6274, ig22 6275, ag22 11, ag22 12, ig22 643) := (tBad rfl rfl (kT3 rfl rfl rfl))
          have tb79 : (ig22 6274, (1 : Int32), ag22 11, ag22 12, ig22 643) = cBad (i 6274, i 6275, a 11, a 12, i 643) := tBad2 (te77.trans te75) tb78
          have tp80 : (ig22 6274, (1 : Int32), ag22 11, ag22 12, ig22 643) = cPart t nn (some (cO t nn m)) (i 6274, i 6275, a 11, a 12, i 643) := cPt_bad (sub := cO t nn m) (op35 hv5 z9) to74 (op64 c13 kopm1) te75 to76 (op64 c72 kopm1) tb79
          exact ft_ret mi_k54 (by rfl) (hP  _ _ _ _ hJ73 ⟨trivial, (tp80.trans (congrFun (cO_s hm).symm _))⟩)
    ·
      have c81 : vg10.toInt ≠ ((-1) : Int32).toInt := kd_eqF c; clear c
      refine ft_go mi_k54 2 33 [(3, .int vg10), (2, .int vg2), (0, .ref 98), (1, .int x1)] [.ref (rg10 2)] ig10 ag10 qg10 rg10 (by rfl) ?_
      refine ko_eq (x1 := (33, [(3, .int vg10), (2, .int vg2), (0, .ref 98), (1, .int x1)], [.ref 10], (0, 0), ks ig10 ag10 qg10 rg10)) (by rw [eRrg10_2]) ?_
      have s82 : ((vg10.toUInt32 % 65536).toInt32).toInt = vg10.toInt := kd_i2c (op99 c81 z11 kopm1) (Int.le_trans (op100 z11) (by decide))
      refine ft_go mi_k54 4 38 [(3, .int vg10), (2, .int vg2), (0, .ref 98), (1, .int x1)] [.int ((vg10.toUInt32 % 65536).toInt32), .ref (mi_RO + 10), .int 1, .ref 10] ig10 ag10 qg10 rg10 (by rfl) ?_
      refine ko_callPI mi_k54.1 (pc := 38) (ls := [(3, .int vg10), (2, .int vg2), (0, .ref 98), (1, .int x1)]) (st := [.int ((vg10.toUInt32 % 65536).toInt32), .ref (mi_RO + 10), .int 1, .ref 10]) (h := ks ig10 ag10 qg10 rg10) (i := (.invokevirtual 50, 3, 228, 0, 9, 0, 190)) (mi_k54.2 _ _ (by rfl)) (ft_invS mi_pq228 (by rfl)) (cy := mi_c228) mi_pq228 rfl (ke228_1000010 hGg10.I hGg10.R ((vg10.toUInt32 % 65536).toInt32) (op101 c81 s82 z11 kopm1)) (kj_d3 (n := n) (c := 7) (o1 := 10) (by decide)) ?_
      intro vg83 hg83
      have z84 : (((-1) : Int) ≤ vg83.toInt) ∧ (vg83.toInt ≤ 5) ∧ (((((vg10.toUInt32 % 65536).toInt32).toInt = 119) → (vg83.toInt = 0))) ∧ (((((vg10.toUInt32 % 65536).toInt32).toInt = 112) → (vg83.toInt = 1))) ∧ (((((vg10.toUInt32 % 65536).toInt32).toInt = 104) → (vg83.toInt = 2))) ∧ (((((vg10.toUInt32 % 65536).toInt32).toInt = 110) → (vg83.toInt = 3))) ∧ (((((vg10.toUInt32 % 65536).toInt32).toInt = 111) → (vg83.toInt = 4))) ∧ (((((vg10.toUInt32 % 65536).toInt32).toInt = 100) → (vg83.toInt = 5))) ∧ (((vg83.toInt = 0) → (((vg10.toUInt32 % 65536).toInt32).toInt = 119))) ∧ (((vg83.toInt = 1) → (((vg10.toUInt32 % 65536).toInt32).toInt = 112))) ∧ (((vg83.toInt = 2) → (((vg10.toUInt32 % 65536).toInt32).toInt = 104))) ∧ (((vg83.toInt = 3) → (((vg10.toUInt32 % 65536).toInt32).toInt = 110))) ∧ (((vg83.toInt = 4) → (((vg10.toUInt32 % 65536).toInt32).toInt = 111))) ∧ (((vg83.toInt = 5) → (((vg10.toUInt32 % 65536).toInt32).toInt = 100))) ∧ ((vg83.toInt = (-1)) ∨ (((vg10.toUInt32 % 65536).toInt32).toInt = 119) ∨ (((vg10.toUInt32 % 65536).toInt32).toInt = 112) ∨ (((vg10.toUInt32 % 65536).toInt32).toInt = 104) ∨ (((vg10.toUInt32 % 65536).toInt32).toInt = 110) ∨ (((vg10.toUInt32 % 65536).toInt32).toInt = 111) ∨ (((vg10.toUInt32 % 65536).toInt32).toInt = 100)) := hg83
      refine ko_callI mi_k54.1 (pc := 41) (ls := [(3, .int vg10), (2, .int vg2), (0, .ref 98), (1, .int x1)]) (st := [.int vg83, .int 1, .ref 10]) (h := ks ig10 ag10 qg10 rg10) (i := (.invokevirtual 60, 3, 17, 0, 9, 0, 187)) (mi_k54.2 _ _ (by rfl)) (ft_invS mi_pq17 (by rfl)) (cy := mi_c17) mi_pq17 rfl (kf17_10 hGg10.I hGg10.R 1 vg83) (kj_d3 (n := n) (c := 1) (o1 := 10) (by decide)) ?_
      intro vg85 ig85 ag85 qg85 rg85 kg85 hg85
      have hGg85 := kG_call hGg10 kg85 (by decide +kernel)
      have eRrg85_2 : rg85 2 = 10 := (kg85.fr 2 rfl).trans eRrg10_2
      obtain ⟨hg85, og85⟩ := hg85
      refine ft_go mi_k54 1 45 [(3, .int vg10), (2, .int vg2), (0, .ref 98), (1, .int x1)] [] ig85 ag85 qg85 rg85 (by rfl) ?_
      exact ft_ret mi_k54 (by rfl) (hP  _ _ _ _ hGg85 ⟨trivial, (cPt_lv (cO_any t nn n) (fun nx => cPt_nam (nx := nx) (op102 c81 ho12 hv5 z11 z3.1 kopm1) (tOf og10 (kg10.fi 6275 rfl) (kT3 (kg10.fa 11 rfl) (kg10.fa 12 rfl) (kg10.fi 643 rfl))) (op104 c81 z11 kopm1) (nIdx_of (op103 c81 s82 z11 z84.2.1 z84.2.2.1 z84.2.2.2.1 z84.2.2.2.2.1 z84.2.2.2.2.2.1 z84.2.2.2.2.2.2.1 z84.2.2.2.2.2.2.2.1 kopm1)) (tAdd og85.1 (kg85.fi 6274 rfl) (kg85.fi 6275 rfl))))⟩)
set_option maxRecDepth 100000 in
theorem kMsP10_53 (n : Nat) (h54 : kMP10_54 n) : kMP10_53 n := by
  intro i a q r hI hr x1 hp0 t nn hT hN hL hX
  have hG := kG_self wP10 hI hr
  refine km_ofN (q := (mi_h53, mi_c53)) rfl (by decide) (Nat.le_of_ble_eq_true rfl) ?_
  intro P hP
  have hn0 : (0 : Int) ≤ (n : Int) := Int.natCast_nonneg n
  have hn1 : (i 6273).toInt = nn.toInt := congrArg Int32.toInt hN
  have eRr_2 : r 2 = 10 := hL
  refine ft_go mi_k53 2 2 [(0, .ref 98), (1, .int x1)] [.int x1, .ref 98] i a q r (by rfl) ?_
  refine ko_callN mi_k53.1 (pc := 2) (ls := [(0, .ref 98), (1, .int x1)]) (st := [.int x1, .ref 98]) (h := ks i a q r) (i := (.invokevirtual 87, 3, 54, 0, 9, 0, 183)) (mi_k53.2 _ _ (by rfl)) (ft_invS mi_pq54 (by rfl)) (cy := mi_c54) mi_pq54 rfl (h54 _ _ _ _ hG.I hG.R x1 (op105 hp0.1 hp0.2) t nn hT hN eRr_2 hX) (kj_d1 (n := n) (o := 10) (o1 := 11) (by decide)) ?_
  intro ig2 ag2 qg2 rg2 kg2 hg2
  have hGg2 := kG_call hG kg2 (by decide +kernel)
  have eRrg2_2 : rg2 2 = 10 := (kg2.fr 2 rfl).trans eRr_2
  obtain ⟨hg2, og2⟩ := hg2
  refine ft_go mi_k53 2 8 [(0, .ref 98), (1, .int x1)] [.ref (mi_RO + 12), .ref 98] ig2 ag2 qg2 rg2 (by rfl) ?_
  refine ko_callI mi_k53.1 (pc := 8) (ls := [(0, .ref 98), (1, .int x1)]) (st := [.ref (mi_RO + 12), .ref 98]) (h := ks ig2 ag2 qg2 rg2) (i := (.invokevirtual 78, 3, 47, 0, 9, 0, 189)) (mi_k53.2 _ _ (by rfl)) (ft_invS mi_pq47 (by rfl)) (cy := mi_c47) mi_pq47 rfl (ke47_98_1000012 hGg2.I hGg2.R t nn ((kg2.fa 99 rfl).trans hT) ((kg2.fi 6273 rfl).trans hN) hX) (kj_d3 (n := n) (c := 9) (o1 := 11) (by decide)) ?_
  intro vg3 ig3 ag3 qg3 rg3 kg3 hg3
  have hGg3 := kG_call hGg2 kg3 (by decide +kernel)
  have eRrg3_2 : rg3 2 = 10 := (kg3.fr 2 rfl).trans eRrg2_2
  obtain ⟨hg3, og3⟩ := hg3
  have efig2_6273 : (ig2 6273).toInt = (i 6273).toInt := kg2.ti 6273 rfl
  have ho5 : vg3.toInt = (-1) ∨ vg3.toInt = (cHr t nn (ig2 6274) (ig2 6275)).toInt := tOf_v og3
  refine ft_go mi_k53 3 14 [(3, .int 0), (2, .int vg3), (0, .ref 98), (1, .int x1)] [] ig3 ag3 qg3 rg3 (by rfl) ?_
  have lp6 : ∀ (nz : Nat) (i6 : Nat → Int32) (a6 : Nat → List Int32) (q6 : Nat → List Int64) (r6 : Nat → Nat) (l3_6 : Int32) (l2_6 : Int32), kG yw53_98_L10_L14 ig3 ag3 qg3 rg3 i6 a6 q6 r6 → (0 : Int) ≤ l3_6.toInt → cLpS t nn (cO t nn n) oMul (nn.toInt - l3_6.toInt).toNat (l2_6, (i6 6274, i6 6275, a6 11, a6 12, i6 643)) = cMul t nn (cO t nn n) oMul (i 6274, i 6275, a 11, a 12, i 643) → (((i6 6273).toInt - l3_6.toInt)).toNat < nz → ko (6 * n + 11) (mi_h53, mi_c53) P (14, [(3, .int l3_6), (2, .int l2_6), (0, .ref 98), (1, .int x1)], [], (0, 0), ks i6 a6 q6 r6) := by
    intro nz
    induction nz with
    | zero =>
      intro _ _ _ _ _ _ _ _ _ hm
      exact absurd hm (Nat.not_lt_zero _)
    | succ nz ih6 =>
      intro i6 a6 q6 r6 l3_6 l2_6 hL6 p6_0 O6_0 hm6
      have fi6_6273 : ((0 : Int) ≤ (i6 6273).toInt) ∧ ((i6 6273).toInt ≤ 120) := hL6.I.1 6273
      have efig3_6273 : (ig3 6273).toInt = (ig2 6273).toInt := kg3.ti 6273 rfl
      have efi6_6273 : (i6 6273).toInt = (ig3 6273).toInt := hL6.ti 6273 rfl
      have eRr6_2 : r6 2 = 10 := (hL6.fr 2 rfl).trans eRrg3_2
      refine ft_go mi_k53 3 19 [(3, .int l3_6), (2, .int l2_6), (0, .ref 98), (1, .int x1)] [.int (i6 6273), .int l3_6] i6 a6 q6 r6 (by rfl) ?_
      refine ft_if mi_k53 (decide ((i6 6273) ≤ l3_6)) 55 22 [(3, .int l3_6), (2, .int l2_6), (0, .ref 98), (1, .int x1)] [] (by rfl) (fun c => ?_) (fun c => ?_)
      ·
        have c7 : (i6 6273).toInt ≤ l3_6.toInt := kd_le c; clear c
        have hG8 := kG_call hGg3 hL6 (by decide +kernel)
        exact ft_ret mi_k53 (by rfl) (hP  _ _ _ _ hG8 ⟨trivial, (cLS_end O6_0 (kj_sub0 (n := nn.toInt) (op116 c7 efi6_6273 efig2_6273 efig3_6273 hn1)))⟩)
      ·
        have c9 : l3_6.toInt < (i6 6273).toInt := kd_leF c; clear c
        refine ft_go mi_k53 2 24 [(3, .int l3_6), (2, .int l2_6), (0, .ref 98), (1, .int x1)] [.int (-1), .int l2_6] i6 a6 q6 r6 (by rfl) ?_
        refine ft_if mi_k53 (l2_6 == (-1)) 55 27 [(3, .int l3_6), (2, .int l2_6), (0, .ref 98), (1, .int x1)] [] (by rfl) (fun c => ?_) (fun c => ?_)
        ·
          have c10 : l2_6.toInt = ((-1) : Int32).toInt := kd_eq c; clear c
          have hG11 := kG_call hGg3 hL6 (by decide +kernel)
          exact ft_ret mi_k53 (by rfl) (hP  _ _ _ _ hG11 ⟨trivial, (cLS_out O6_0 (op64 c10 kopm1))⟩)
        ·
          have c12 : l2_6.toInt ≠ ((-1) : Int32).toInt := kd_eqF c; clear c
          refine ft_go mi_k53 2 29 [(3, .int l3_6), (2, .int l2_6), (0, .ref 98), (1, .int x1)] [.int x1, .ref 98] i6 a6 q6 r6 (by rfl) ?_
          refine ko_callN mi_k53.1 (pc := 29) (ls := [(3, .int l3_6), (2, .int l2_6), (0, .ref 98), (1, .int x1)]) (st := [.int x1, .ref 98]) (h := ks i6 a6 q6 r6) (i := (.invokevirtual 87, 3, 54, 0, 9, 0, 183)) (mi_k53.2 _ _ (by rfl)) (ft_invS mi_pq54 (by rfl)) (cy := mi_c54) mi_pq54 rfl (h54 _ _ _ _ hL6.I hL6.R x1 (op105 hp0.1 hp0.2) t nn ((((hL6.fa 99 rfl).trans (kg3.fa 99 rfl)).trans (kg2.fa 99 rfl)).trans hT) (((hL6.fi 6273 rfl).trans ((kg3.fi 6273 rfl).trans (kg2.fi 6273 rfl))).trans hN) eRr6_2 hX) (kj_d1 (n := n) (o := 10) (o1 := 11) (by decide)) ?_
          intro ig13 ag13 qg13 rg13 kg13 hg13
          have hGg13 := kG_call hL6 kg13 (by decide +kernel)
          have eRrg13_2 : rg13 2 = 10 := (kg13.fr 2 rfl).trans eRr6_2
          obtain ⟨hg13, og13⟩ := hg13
          refine ft_go mi_k53 2 36 [(3, .int l3_6), (2, .int l2_6), (0, .ref 98), (1, .int x1)] [.ref (rg13 2)] ig13 ag13 qg13 rg13 (by rfl) ?_
          refine ko_eq (x1 := (36, [(3, .int l3_6), (2, .int l2_6), (0, .ref 98), (1, .int x1)], [.ref 10], (0, 0), ks ig13 ag13 qg13 rg13)) (by rw [eRrg13_2]) ?_
          refine ft_go mi_k53 2 38 [(3, .int l3_6), (2, .int l2_6), (0, .ref 98), (1, .int x1)] [.int 0, .int l2_6, .ref 10] ig13 ag13 qg13 rg13 (by rfl) ?_
          refine ko_callI mi_k53.1 (pc := 38) (ls := [(3, .int l3_6), (2, .int l2_6), (0, .ref 98), (1, .int x1)]) (st := [.int 0, .int l2_6, .ref 10]) (h := ks ig13 ag13 qg13 rg13) (i := (.invokevirtual 60, 3, 17, 0, 9, 0, 187)) (mi_k53.2 _ _ (by rfl)) (ft_invS mi_pq17 (by rfl)) (cy := mi_c17) mi_pq17 rfl (kf17_10 hGg13.I hGg13.R l2_6 0) (kj_d3 (n := n) (c := 1) (o1 := 11) (by decide)) ?_
          intro vg14 ig14 ag14 qg14 rg14 kg14 hg14
          have hGg14 := kG_call hGg13 kg14 (by decide +kernel)
          have eRrg14_2 : rg14 2 = 10 := (kg14.fr 2 rfl).trans eRrg13_2
          obtain ⟨hg14, og14⟩ := hg14
          refine ft_go mi_k53 3 45 [(3, .int l3_6), (2, .int l2_6), (0, .ref 98), (1, .int x1)] [.ref (mi_RO + 12), .ref 98] ig14 ag14 qg14 rg14 (by rfl) ?_
          refine ko_callI mi_k53.1 (pc := 45) (ls := [(3, .int l3_6), (2, .int l2_6), (0, .ref 98), (1, .int x1)]) (st := [.ref (mi_RO + 12), .ref 98]) (h := ks ig14 ag14 qg14 rg14) (i := (.invokevirtual 78, 3, 47, 0, 9, 0, 189)) (mi_k53.2 _ _ (by rfl)) (ft_invS mi_pq47 (by rfl)) (cy := mi_c47) mi_pq47 rfl (ke47_98_1000012 hGg14.I hGg14.R t nn ((((((kg14.fa 99 rfl).trans (kg13.fa 99 rfl)).trans (hL6.fa 99 rfl)).trans (kg3.fa 99 rfl)).trans (kg2.fa 99 rfl)).trans hT) (((kg14.fi 6273 rfl).trans ((kg13.fi 6273 rfl).trans ((hL6.fi 6273 rfl).trans ((kg3.fi 6273 rfl).trans (kg2.fi 6273 rfl))))).trans hN) hX) (kj_d3 (n := n) (c := 9) (o1 := 11) (by decide)) ?_
          intro vg16 ig16 ag16 qg16 rg16 kg16 hg16
          have hGg16 := kG_call hGg14 kg16 (by decide +kernel)
          have eRrg16_2 : rg16 2 = 10 := (kg16.fr 2 rfl).trans eRrg14_2
          obtain ⟨hg16, og16⟩ := hg16
          have efig13_6273 : (ig13 6273).toInt = (i6 6273).toInt := kg13.ti 6273 rfl
          have efig14_6273 : (ig14 6273).toInt = (ig13 6273).toInt := kg14.ti 6273 rfl
          have ho18 : vg16.toInt = (-1) ∨ vg16.toInt = (cHr t nn (ig14 6274) (ig14 6275)).toInt := tOf_v og16
          have s19 : (l3_6 + 1).toInt = l3_6.toInt + (1 : Int32).toInt := kd_add (op18 p6_0 kop1) (op117 c9 fi6_6273.2 kop1)
          refine ft_go mi_k53 3 14 [(3, .int (l3_6 + 1)), (2, .int vg16), (0, .ref 98), (1, .int x1)] [] ig16 ag16 qg16 rg16 (by rfl) ?_
          have efig16_6273 : (ig16 6273).toInt = (ig14 6273).toInt := kg16.ti 6273 rfl
          exact ih6 _ _ _ _ _ _ hGg16 (op20 p6_0 s19 kop1) (cLS_again O6_0 (kj_sub2 (n := nn.toInt) (op118 c9 efi6_6273 efig2_6273 efig3_6273 hn1) (op4 p6_0) (op30 s19 kop1)) (op119 c12 kopm1) og13 (tAdd og14.1 (kg14.fi 6274 rfl) (kg14.fi 6275 rfl)) (tOf og16 (kg16.fi 6275 rfl) (kT3 (kg16.fa 11 rfl) (kg16.fa 12 rfl) (kg16.fi 643 rfl)))) (kj_meas (op120 efig13_6273 efig14_6273 efig16_6273 s19 kop1) (op121 c9) hm6)
  exact lp6 _ _ _ _ _ _ _ (kG_self _ hGg3.I hGg3.R) (op36 kop0) (cLS_begin og2 (tOf og3 (kg3.fi 6275 rfl) (kT3 (kg3.fa 11 rfl) (kg3.fa 12 rfl) (kg3.fi 643 rfl))) (kj_sub00 kop0)) (Nat.lt_succ_self _)
set_option maxRecDepth 100000 in
theorem kMsP10_52 (n : Nat) (h54 : kMP10_54 n) (h53 : kMP10_53 n) : kMP10_52 n := by
  intro i a q r hI hr x1 hp0 t nn hT hN hL hX
  have hG := kG_self wP10 hI hr
  refine km_ofN (q := (mi_h52, mi_c52)) rfl (by decide) (Nat.le_of_ble_eq_true rfl) ?_
  intro P hP
  have hn0 : (0 : Int) ≤ (n : Int) := Int.natCast_nonneg n
  have hn1 : (i 6273).toInt = nn.toInt := congrArg Int32.toInt hN
  have eRr_2 : r 2 = 10 := hL
  refine ft_go mi_k52 2 2 [(0, .ref 98), (1, .int x1)] [.int x1, .ref 98] i a q r (by rfl) ?_
  refine ko_callN mi_k52.1 (pc := 2) (ls := [(0, .ref 98), (1, .int x1)]) (st := [.int x1, .ref 98]) (h := ks i a q r) (i := (.invokevirtual 82, 3, 53, 0, 9, 0, 182)) (mi_k52.2 _ _ (by rfl)) (ft_invS mi_pq53 (by rfl)) (cy := mi_c53) mi_pq53 rfl (h53 _ _ _ _ hG.I hG.R x1 (op105 hp0.1 hp0.2) t nn hT hN eRr_2 hX) (kj_d1 (n := n) (o := 11) (o1 := 12) (by decide)) ?_
  intro ig2 ag2 qg2 rg2 kg2 hg2
  have hGg2 := kG_call hG kg2 (by decide +kernel)
  have eRrg2_2 : rg2 2 = 10 := (kg2.fr 2 rfl).trans eRr_2
  obtain ⟨hg2, og2⟩ := hg2
  refine ft_go mi_k52 2 8 [(0, .ref 98), (1, .int x1)] [.ref (mi_RO + 13), .ref 98] ig2 ag2 qg2 rg2 (by rfl) ?_
  refine ko_callI mi_k52.1 (pc := 8) (ls := [(0, .ref 98), (1, .int x1)]) (st := [.ref (mi_RO + 13), .ref 98]) (h := ks ig2 ag2 qg2 rg2) (i := (.invokevirtual 78, 3, 47, 0, 9, 0, 189)) (mi_k52.2 _ _ (by rfl)) (ft_invS mi_pq47 (by rfl)) (cy := mi_c47) mi_pq47 rfl (ke47_98_1000013 hGg2.I hGg2.R t nn ((kg2.fa 99 rfl).trans hT) ((kg2.fi 6273 rfl).trans hN) hX) (kj_d3 (n := n) (c := 9) (o1 := 12) (by decide)) ?_
  intro vg3 ig3 ag3 qg3 rg3 kg3 hg3
  have hGg3 := kG_call hGg2 kg3 (by decide +kernel)
  have eRrg3_2 : rg3 2 = 10 := (kg3.fr 2 rfl).trans eRrg2_2
  obtain ⟨hg3, og3⟩ := hg3
  have efig2_6273 : (ig2 6273).toInt = (i 6273).toInt := kg2.ti 6273 rfl
  have ho5 : vg3.toInt = (-1) ∨ vg3.toInt = (cHr t nn (ig2 6274) (ig2 6275)).toInt := tOf_v og3
  refine ft_go mi_k52 3 14 [(3, .int 0), (2, .int vg3), (0, .ref 98), (1, .int x1)] [] ig3 ag3 qg3 rg3 (by rfl) ?_
  have lp6 : ∀ (nz : Nat) (i6 : Nat → Int32) (a6 : Nat → List Int32) (q6 : Nat → List Int64) (r6 : Nat → Nat) (l3_6 : Int32) (l2_6 : Int32), kG yw52_98_L10_L14 ig3 ag3 qg3 rg3 i6 a6 q6 r6 → (0 : Int) ≤ l3_6.toInt → cLpS t nn (cP3 t nn (cO t nn n)) oSum (nn.toInt - l3_6.toInt).toNat (l2_6, (i6 6274, i6 6275, a6 11, a6 12, i6 643)) = cMul t nn (cP3 t nn (cO t nn n)) oSum (i 6274, i 6275, a 11, a 12, i 643) → (((i6 6273).toInt - l3_6.toInt)).toNat < nz → ko (6 * n + 12) (mi_h52, mi_c52) P (14, [(3, .int l3_6), (2, .int l2_6), (0, .ref 98), (1, .int x1)], [], (0, 0), ks i6 a6 q6 r6) := by
    intro nz
    induction nz with
    | zero =>
      intro _ _ _ _ _ _ _ _ _ hm
      exact absurd hm (Nat.not_lt_zero _)
    | succ nz ih6 =>
      intro i6 a6 q6 r6 l3_6 l2_6 hL6 p6_0 O6_0 hm6
      have fi6_6273 : ((0 : Int) ≤ (i6 6273).toInt) ∧ ((i6 6273).toInt ≤ 120) := hL6.I.1 6273
      have efig3_6273 : (ig3 6273).toInt = (ig2 6273).toInt := kg3.ti 6273 rfl
      have efi6_6273 : (i6 6273).toInt = (ig3 6273).toInt := hL6.ti 6273 rfl
      have eRr6_2 : r6 2 = 10 := (hL6.fr 2 rfl).trans eRrg3_2
      refine ft_go mi_k52 3 19 [(3, .int l3_6), (2, .int l2_6), (0, .ref 98), (1, .int x1)] [.int (i6 6273), .int l3_6] i6 a6 q6 r6 (by rfl) ?_
      refine ft_if mi_k52 (decide ((i6 6273) ≤ l3_6)) 55 22 [(3, .int l3_6), (2, .int l2_6), (0, .ref 98), (1, .int x1)] [] (by rfl) (fun c => ?_) (fun c => ?_)
      ·
        have c7 : (i6 6273).toInt ≤ l3_6.toInt := kd_le c; clear c
        have hG8 := kG_call hGg3 hL6 (by decide +kernel)
        exact ft_ret mi_k52 (by rfl) (hP  _ _ _ _ hG8 ⟨trivial, (cLS_end O6_0 (kj_sub0 (n := nn.toInt) (op116 c7 efi6_6273 efig2_6273 efig3_6273 hn1)))⟩)
      ·
        have c9 : l3_6.toInt < (i6 6273).toInt := kd_leF c; clear c
        refine ft_go mi_k52 2 24 [(3, .int l3_6), (2, .int l2_6), (0, .ref 98), (1, .int x1)] [.int (-1), .int l2_6] i6 a6 q6 r6 (by rfl) ?_
        refine ft_if mi_k52 (l2_6 == (-1)) 55 27 [(3, .int l3_6), (2, .int l2_6), (0, .ref 98), (1, .int x1)] [] (by rfl) (fun c => ?_) (fun c => ?_)
        ·
          have c10 : l2_6.toInt = ((-1) : Int32).toInt := kd_eq c; clear c
          have hG11 := kG_call hGg3 hL6 (by decide +kernel)
          exact ft_ret mi_k52 (by rfl) (hP  _ _ _ _ hG11 ⟨trivial, (cLS_out O6_0 (op64 c10 kopm1))⟩)
        ·
          have c12 : l2_6.toInt ≠ ((-1) : Int32).toInt := kd_eqF c; clear c
          refine ft_go mi_k52 2 29 [(3, .int l3_6), (2, .int l2_6), (0, .ref 98), (1, .int x1)] [.int x1, .ref 98] i6 a6 q6 r6 (by rfl) ?_
          refine ko_callN mi_k52.1 (pc := 29) (ls := [(3, .int l3_6), (2, .int l2_6), (0, .ref 98), (1, .int x1)]) (st := [.int x1, .ref 98]) (h := ks i6 a6 q6 r6) (i := (.invokevirtual 82, 3, 53, 0, 9, 0, 182)) (mi_k52.2 _ _ (by rfl)) (ft_invS mi_pq53 (by rfl)) (cy := mi_c53) mi_pq53 rfl (h53 _ _ _ _ hL6.I hL6.R x1 (op105 hp0.1 hp0.2) t nn ((((hL6.fa 99 rfl).trans (kg3.fa 99 rfl)).trans (kg2.fa 99 rfl)).trans hT) (((hL6.fi 6273 rfl).trans ((kg3.fi 6273 rfl).trans (kg2.fi 6273 rfl))).trans hN) eRr6_2 hX) (kj_d1 (n := n) (o := 11) (o1 := 12) (by decide)) ?_
          intro ig13 ag13 qg13 rg13 kg13 hg13
          have hGg13 := kG_call hL6 kg13 (by decide +kernel)
          have eRrg13_2 : rg13 2 = 10 := (kg13.fr 2 rfl).trans eRr6_2
          obtain ⟨hg13, og13⟩ := hg13
          refine ft_go mi_k52 2 36 [(3, .int l3_6), (2, .int l2_6), (0, .ref 98), (1, .int x1)] [.ref (rg13 2)] ig13 ag13 qg13 rg13 (by rfl) ?_
          refine ko_eq (x1 := (36, [(3, .int l3_6), (2, .int l2_6), (0, .ref 98), (1, .int x1)], [.ref 10], (0, 0), ks ig13 ag13 qg13 rg13)) (by rw [eRrg13_2]) ?_
          refine ft_go mi_k52 2 38 [(3, .int l3_6), (2, .int l2_6), (0, .ref 98), (1, .int x1)] [.int 0, .int l2_6, .ref 10] ig13 ag13 qg13 rg13 (by rfl) ?_
          refine ko_callI mi_k52.1 (pc := 38) (ls := [(3, .int l3_6), (2, .int l2_6), (0, .ref 98), (1, .int x1)]) (st := [.int 0, .int l2_6, .ref 10]) (h := ks ig13 ag13 qg13 rg13) (i := (.invokevirtual 60, 3, 17, 0, 9, 0, 187)) (mi_k52.2 _ _ (by rfl)) (ft_invS mi_pq17 (by rfl)) (cy := mi_c17) mi_pq17 rfl (kf17_10 hGg13.I hGg13.R l2_6 0) (kj_d3 (n := n) (c := 1) (o1 := 12) (by decide)) ?_
          intro vg14 ig14 ag14 qg14 rg14 kg14 hg14
          have hGg14 := kG_call hGg13 kg14 (by decide +kernel)
          have eRrg14_2 : rg14 2 = 10 := (kg14.fr 2 rfl).trans eRrg13_2
          obtain ⟨hg14, og14⟩ := hg14
          refine ft_go mi_k52 3 45 [(3, .int l3_6), (2, .int l2_6), (0, .ref 98), (1, .int x1)] [.ref (mi_RO + 13), .ref 98] ig14 ag14 qg14 rg14 (by rfl) ?_
          refine ko_callI mi_k52.1 (pc := 45) (ls := [(3, .int l3_6), (2, .int l2_6), (0, .ref 98), (1, .int x1)]) (st := [.ref (mi_RO + 13), .ref 98]) (h := ks ig14 ag14 qg14 rg14) (i := (.invokevirtual 78, 3, 47, 0, 9, 0, 189)) (mi_k52.2 _ _ (by rfl)) (ft_invS mi_pq47 (by rfl)) (cy := mi_c47) mi_pq47 rfl (ke47_98_1000013 hGg14.I hGg14.R t nn ((((((kg14.fa 99 rfl).trans (kg13.fa 99 rfl)).trans (hL6.fa 99 rfl)).trans (kg3.fa 99 rfl)).trans (kg2.fa 99 rfl)).trans hT) (((kg14.fi 6273 rfl).trans ((kg13.fi 6273 rfl).trans ((hL6.fi 6273 rfl).trans ((kg3.fi 6273 rfl).trans (kg2.fi 6273 rfl))))).trans hN) hX) (kj_d3 (n := n) (c := 9) (o1 := 12) (by decide)) ?_
          intro vg16 ig16 ag16 qg16 rg16 kg16 hg16
          have hGg16 := kG_call hGg14 kg16 (by decide +kernel)
          have eRrg16_2 : rg16 2 = 10 := (kg16.fr 2 rfl).trans eRrg14_2
          obtain ⟨hg16, og16⟩ := hg16
          have efig13_6273 : (ig13 6273).toInt = (i6 6273).toInt := kg13.ti 6273 rfl
          have efig14_6273 : (ig14 6273).toInt = (ig13 6273).toInt := kg14.ti 6273 rfl
          have ho18 : vg16.toInt = (-1) ∨ vg16.toInt = (cHr t nn (ig14 6274) (ig14 6275)).toInt := tOf_v og16
          have s19 : (l3_6 + 1).toInt = l3_6.toInt + (1 : Int32).toInt := kd_add (op18 p6_0 kop1) (op117 c9 fi6_6273.2 kop1)
          refine ft_go mi_k52 3 14 [(3, .int (l3_6 + 1)), (2, .int vg16), (0, .ref 98), (1, .int x1)] [] ig16 ag16 qg16 rg16 (by rfl) ?_
          have efig16_6273 : (ig16 6273).toInt = (ig14 6273).toInt := kg16.ti 6273 rfl
          exact ih6 _ _ _ _ _ _ hGg16 (op20 p6_0 s19 kop1) (cLS_again O6_0 (kj_sub2 (n := nn.toInt) (op118 c9 efi6_6273 efig2_6273 efig3_6273 hn1) (op4 p6_0) (op30 s19 kop1)) (op119 c12 kopm1) og13 (tAdd og14.1 (kg14.fi 6274 rfl) (kg14.fi 6275 rfl)) (tOf og16 (kg16.fi 6275 rfl) (kT3 (kg16.fa 11 rfl) (kg16.fa 12 rfl) (kg16.fi 643 rfl)))) (kj_meas (op120 efig13_6273 efig14_6273 efig16_6273 s19 kop1) (op121 c9) hm6)
  exact lp6 _ _ _ _ _ _ _ (kG_self _ hGg3.I hGg3.R) (op36 kop0) (cLS_begin og2 (tOf og3 (kg3.fi 6275 rfl) (kT3 (kg3.fa 11 rfl) (kg3.fa 12 rfl) (kg3.fi 643 rfl))) (kj_sub00 kop0)) (Nat.lt_succ_self _)
set_option maxRecDepth 100000 in
theorem kMsP10_51 (n : Nat) (h54 : kMP10_54 n) (h53 : kMP10_53 n) (h52 : kMP10_52 n) : kMP10_51 n := by
  intro i a q r hI hr x1 hp0 t nn hT hN hL hX
  have hG := kG_self wP10 hI hr
  refine km_ofN (q := (mi_h51, mi_c51)) rfl (by decide) (Nat.le_of_ble_eq_true rfl) ?_
  intro P hP
  have hn0 : (0 : Int) ≤ (n : Int) := Int.natCast_nonneg n
  have hn1 : (i 6273).toInt = nn.toInt := congrArg Int32.toInt hN
  have eRr_2 : r 2 = 10 := hL
  refine ft_go mi_k51 2 2 [(0, .ref 98), (1, .int x1)] [.int x1, .ref 98] i a q r (by rfl) ?_
  refine ko_callN mi_k51.1 (pc := 2) (ls := [(0, .ref 98), (1, .int x1)]) (st := [.int x1, .ref 98]) (h := ks i a q r) (i := (.invokevirtual 73, 3, 52, 0, 9, 0, 181)) (mi_k51.2 _ _ (by rfl)) (ft_invS mi_pq52 (by rfl)) (cy := mi_c52) mi_pq52 rfl (h52 _ _ _ _ hG.I hG.R x1 (op105 hp0.1 hp0.2) t nn hT hN eRr_2 hX) (kj_d1 (n := n) (o := 12) (o1 := 13) (by decide)) ?_
  intro ig2 ag2 qg2 rg2 kg2 hg2
  have hGg2 := kG_call hG kg2 (by decide +kernel)
  have eRrg2_2 : rg2 2 = 10 := (kg2.fr 2 rfl).trans eRr_2
  obtain ⟨hg2, og2⟩ := hg2
  refine ft_go mi_k51 2 8 [(0, .ref 98), (1, .int x1)] [.ref (mi_RO + 14), .ref 98] ig2 ag2 qg2 rg2 (by rfl) ?_
  refine ko_callI mi_k51.1 (pc := 8) (ls := [(0, .ref 98), (1, .int x1)]) (st := [.ref (mi_RO + 14), .ref 98]) (h := ks ig2 ag2 qg2 rg2) (i := (.invokevirtual 78, 3, 47, 0, 9, 0, 189)) (mi_k51.2 _ _ (by rfl)) (ft_invS mi_pq47 (by rfl)) (cy := mi_c47) mi_pq47 rfl (ke47_98_1000014 hGg2.I hGg2.R t nn ((kg2.fa 99 rfl).trans hT) ((kg2.fi 6273 rfl).trans hN) hX) (kj_d3 (n := n) (c := 9) (o1 := 13) (by decide)) ?_
  intro vg3 ig3 ag3 qg3 rg3 kg3 hg3
  have hGg3 := kG_call hGg2 kg3 (by decide +kernel)
  have eRrg3_2 : rg3 2 = 10 := (kg3.fr 2 rfl).trans eRrg2_2
  obtain ⟨hg3, og3⟩ := hg3
  have z4 : ((vg3.toInt = (-1)) ∧ ((ig3 6274).toInt = (ig2 6274).toInt)) ∨ (((ig3 6274).toInt = ((ig2 6274).toInt + 1)) ∧ ((ig2 6274).toInt < (ig2 6273).toInt) ∧ ((ig2 6275).toInt = 0) ∧ ((vg3.toInt = 60) ∨ (vg3.toInt = 61) ∨ (vg3.toInt = 62))) := hg3
  have ho5 : vg3.toInt = (-1) ∨ vg3.toInt = (cHr t nn (ig2 6274) (ig2 6275)).toInt := tOf_v og3
  refine ft_go mi_k51 3 14 [(2, .int vg3), (0, .ref 98), (1, .int x1)] [.int (-1), .int vg3] ig3 ag3 qg3 rg3 (by rfl) ?_
  refine ft_if mi_k51 (vg3 == (-1)) 32 17 [(2, .int vg3), (0, .ref 98), (1, .int x1)] [] (by rfl) (fun c => ?_) (fun c => ?_)
  ·
    have c6 : vg3.toInt = ((-1) : Int32).toInt := kd_eq c; clear c
    exact ft_ret mi_k51 (by rfl) (hP  _ _ _ _ hGg3 ⟨trivial, (cCm_out og2 (tOf og3 (kg3.fi 6275 rfl) (kT3 (kg3.fa 11 rfl) (kg3.fa 12 rfl) (kg3.fi 643 rfl))) (op64 c6 kopm1))⟩)
  ·
    have c7 : vg3.toInt ≠ ((-1) : Int32).toInt := kd_eqF c; clear c
    refine ft_go mi_k51 2 19 [(2, .int vg3), (0, .ref 98), (1, .int x1)] [.int x1, .ref 98] ig3 ag3 qg3 rg3 (by rfl) ?_
    refine ko_callN mi_k51.1 (pc := 19) (ls := [(2, .int vg3), (0, .ref 98), (1, .int x1)]) (st := [.int x1, .ref 98]) (h := ks ig3 ag3 qg3 rg3) (i := (.invokevirtual 73, 3, 52, 0, 9, 0, 181)) (mi_k51.2 _ _ (by rfl)) (ft_invS mi_pq52 (by rfl)) (cy := mi_c52) mi_pq52 rfl (h52 _ _ _ _ hGg3.I hGg3.R x1 (op105 hp0.1 hp0.2) t nn (((kg3.fa 99 rfl).trans (kg2.fa 99 rfl)).trans hT) (((kg3.fi 6273 rfl).trans (kg2.fi 6273 rfl)).trans hN) eRrg3_2 hX) (kj_d1 (n := n) (o := 12) (o1 := 13) (by decide)) ?_
    intro ig8 ag8 qg8 rg8 kg8 hg8
    have hGg8 := kG_call hGg3 kg8 (by decide +kernel)
    have eRrg8_2 : rg8 2 = 10 := (kg8.fr 2 rfl).trans eRrg3_2
    obtain ⟨hg8, og8⟩ := hg8
    refine ft_go mi_k51 2 26 [(2, .int vg3), (0, .ref 98), (1, .int x1)] [.ref (rg8 2)] ig8 ag8 qg8 rg8 (by rfl) ?_
    refine ko_eq (x1 := (26, [(2, .int vg3), (0, .ref 98), (1, .int x1)], [.ref 10], (0, 0), ks ig8 ag8 qg8 rg8)) (by rw [eRrg8_2]) ?_
    refine ft_go mi_k51 2 28 [(2, .int vg3), (0, .ref 98), (1, .int x1)] [.int 0, .int vg3, .ref 10] ig8 ag8 qg8 rg8 (by rfl) ?_
    refine ko_callI mi_k51.1 (pc := 28) (ls := [(2, .int vg3), (0, .ref 98), (1, .int x1)]) (st := [.int 0, .int vg3, .ref 10]) (h := ks ig8 ag8 qg8 rg8) (i := (.invokevirtual 60, 3, 17, 0, 9, 0, 187)) (mi_k51.2 _ _ (by rfl)) (ft_invS mi_pq17 (by rfl)) (cy := mi_c17) mi_pq17 rfl (kf17_10 hGg8.I hGg8.R vg3 0) (kj_d3 (n := n) (c := 1) (o1 := 13) (by decide)) ?_
    intro vg9 ig9 ag9 qg9 rg9 kg9 hg9
    have hGg9 := kG_call hGg8 kg9 (by decide +kernel)
    have eRrg9_2 : rg9 2 = 10 := (kg9.fr 2 rfl).trans eRrg8_2
    obtain ⟨hg9, og9⟩ := hg9
    refine ft_go mi_k51 1 32 [(2, .int vg3), (0, .ref 98), (1, .int x1)] [] ig9 ag9 qg9 rg9 (by rfl) ?_
    exact ft_ret mi_k51 (by rfl) (hP  _ _ _ _ hGg9 ⟨trivial, (cCm_in og2 (tOf og3 (kg3.fi 6275 rfl) (kT3 (kg3.fa 11 rfl) (kg3.fa 12 rfl) (kg3.fi 643 rfl))) (op142 c7 z4 kopm1) og8 (tAdd og9.1 (kg9.fi 6274 rfl) (kg9.fi 6275 rfl)))⟩)
set_option maxRecDepth 100000 in
theorem kMsP10_50 (n : Nat) (h54 : kMP10_54 n) (h53 : kMP10_53 n) (h52 : kMP10_52 n) (h51 : kMP10_51 n) : kMP10_50 n := by
  intro i a q r hI hr x1 hp0 t nn hT hN hL hX
  have hG := kG_self wP10 hI hr
  refine km_ofN (q := (mi_h50, mi_c50)) rfl (by decide) (Nat.le_of_ble_eq_true rfl) ?_
  intro P hP
  have hn0 : (0 : Int) ≤ (n : Int) := Int.natCast_nonneg n
  have hn1 : (i 6273).toInt = nn.toInt := congrArg Int32.toInt hN
  have eRr_2 : r 2 = 10 := hL
  refine ft_go mi_k50 2 2 [(0, .ref 98), (1, .int x1)] [.int x1, .ref 98] i a q r (by rfl) ?_
  refine ko_callN mi_k50.1 (pc := 2) (ls := [(0, .ref 98), (1, .int x1)]) (st := [.int x1, .ref 98]) (h := ks i a q r) (i := (.invokevirtual 70, 3, 51, 0, 9, 0, 180)) (mi_k50.2 _ _ (by rfl)) (ft_invS mi_pq51 (by rfl)) (cy := mi_c51) mi_pq51 rfl (h51 _ _ _ _ hG.I hG.R x1 (op105 hp0.1 hp0.2) t nn hT hN eRr_2 hX) (kj_d1 (n := n) (o := 13) (o1 := 14) (by decide)) ?_
  intro ig2 ag2 qg2 rg2 kg2 hg2
  have hGg2 := kG_call hG kg2 (by decide +kernel)
  have eRrg2_2 : rg2 2 = 10 := (kg2.fr 2 rfl).trans eRr_2
  obtain ⟨hg2, og2⟩ := hg2
  refine ft_go mi_k50 2 7 [(2, .int 0), (0, .ref 98), (1, .int x1)] [] ig2 ag2 qg2 rg2 (by rfl) ?_
  have lp3 : ∀ (nz : Nat) (i3 : Nat → Int32) (a3 : Nat → List Int32) (q3 : Nat → List Int64) (r3 : Nat → Nat) (l2_3 : Int32), kG yw50_98_L10_L7 ig2 ag2 qg2 rg2 i3 a3 q3 r3 → (0 : Int) ≤ l2_3.toInt → cLpB t nn (cP5 t nn (cO t nn n)) 38 (nn.toInt - l2_3.toInt).toNat (i3 6274, i3 6275, a3 11, a3 12, i3 643) = cBin t nn (cP5 t nn (cO t nn n)) 38 (i 6274, i 6275, a 11, a 12, i 643) → (((i3 6273).toInt - l2_3.toInt)).toNat < nz → ko (6 * n + 14) (mi_h50, mi_c50) P (7, [(2, .int l2_3), (0, .ref 98), (1, .int x1)], [], (0, 0), ks i3 a3 q3 r3) := by
    intro nz
    induction nz with
    | zero =>
      intro _ _ _ _ _ _ _ _ hm
      exact absurd hm (Nat.not_lt_zero _)
    | succ nz ih3 =>
      intro i3 a3 q3 r3 l2_3 hL3 p3_0 O3_0 hm3
      have fi3_6273 : ((0 : Int) ≤ (i3 6273).toInt) ∧ ((i3 6273).toInt ≤ 120) := hL3.I.1 6273
      have efig2_6273 : (ig2 6273).toInt = (i 6273).toInt := kg2.ti 6273 rfl
      have efi3_6273 : (i3 6273).toInt = (ig2 6273).toInt := hL3.ti 6273 rfl
      have eRr3_2 : r3 2 = 10 := (hL3.fr 2 rfl).trans eRrg2_2
      refine ft_go mi_k50 3 12 [(2, .int l2_3), (0, .ref 98), (1, .int x1)] [.int (i3 6273), .int l2_3] i3 a3 q3 r3 (by rfl) ?_
      refine ft_if mi_k50 (decide ((i3 6273) ≤ l2_3)) 46 15 [(2, .int l2_3), (0, .ref 98), (1, .int x1)] [] (by rfl) (fun c => ?_) (fun c => ?_)
      ·
        have c4 : (i3 6273).toInt ≤ l2_3.toInt := kd_le c; clear c
        have hG5 := kG_call hGg2 hL3 (by decide +kernel)
        exact ft_ret mi_k50 (by rfl) (hP  _ _ _ _ hG5 ⟨trivial, (cLB_end O3_0 (kj_sub0 (n := nn.toInt) (op143 c4 efi3_6273 efig2_6273 hn1)))⟩)
      ·
        have c6 : l2_3.toInt < (i3 6273).toInt := kd_leF c; clear c
        refine ft_go mi_k50 2 18 [(2, .int l2_3), (0, .ref 98), (1, .int x1)] [.int 38, .ref 98] i3 a3 q3 r3 (by rfl) ?_
        refine ko_callI mi_k50.1 (pc := 18) (ls := [(2, .int l2_3), (0, .ref 98), (1, .int x1)]) (st := [.int 38, .ref 98]) (h := ks i3 a3 q3 r3) (i := (.invokevirtual 39, 3, 46, 0, 9, 0, 200)) (mi_k50.2 _ _ (by rfl)) (ft_invS mi_pq46 (by rfl)) (cy := mi_c46) mi_pq46 rfl (ke46_98 hL3.I hL3.R 38 (op144 kop38) t nn (((hL3.fa 99 rfl).trans (kg2.fa 99 rfl)).trans hT) (((hL3.fi 6273 rfl).trans (kg2.fi 6273 rfl)).trans hN) hX) (kj_d3 (n := n) (c := 3) (o1 := 14) (by decide)) ?_
        intro vg7 ig7 ag7 qg7 rg7 kg7 hg7
        have hGg7 := kG_call hL3 kg7 (by decide +kernel)
        have eRrg7_2 : rg7 2 = 10 := (kg7.fr 2 rfl).trans eRr3_2
        obtain ⟨hg7, og7⟩ := hg7
        have z8 : ((vg7.toInt = 1) ∧ ((ig7 6274).toInt = ((i3 6274).toInt + 1)) ∧ ((i3 6274).toInt < (i3 6273).toInt) ∧ ((i3 6275).toInt = 0)) ∨ ((vg7.toInt = 0) ∧ ((ig7 6274).toInt = (i3 6274).toInt)) := hg7
        refine ft_if mi_k50 (vg7 == 0) 46 24 [(2, .int l2_3), (0, .ref 98), (1, .int x1)] [] (by rfl) (fun c => ?_) (fun c => ?_)
        ·
          have c9 : vg7.toInt = (0 : Int32).toInt := kd_eq c; clear c
          have hG10 := kG_call hGg2 hGg7 (by decide +kernel)
          exact ft_ret mi_k50 (by rfl) (hP  _ _ _ _ hG10 ⟨trivial, (cLB_out O3_0 (kj_sub1 (n := nn.toInt) (op145 c6 efi3_6273 efig2_6273 hn1) (op4 p3_0)) (tTk og7 (kg7.fi 6275 rfl) (kT3 (kg7.fa 11 rfl) (kg7.fa 12 rfl) (kg7.fi 643 rfl))) (op98 c9 kop0))⟩)
        ·
          have c11 : vg7.toInt ≠ (0 : Int32).toInt := kd_eqF c; clear c
          refine ft_go mi_k50 2 26 [(2, .int l2_3), (0, .ref 98), (1, .int x1)] [.int x1, .ref 98] ig7 ag7 qg7 rg7 (by rfl) ?_
          refine ko_callN mi_k50.1 (pc := 26) (ls := [(2, .int l2_3), (0, .ref 98), (1, .int x1)]) (st := [.int x1, .ref 98]) (h := ks ig7 ag7 qg7 rg7) (i := (.invokevirtual 70, 3, 51, 0, 9, 0, 180)) (mi_k50.2 _ _ (by rfl)) (ft_invS mi_pq51 (by rfl)) (cy := mi_c51) mi_pq51 rfl (h51 _ _ _ _ hGg7.I hGg7.R x1 (op105 hp0.1 hp0.2) t nn ((((kg7.fa 99 rfl).trans (hL3.fa 99 rfl)).trans (kg2.fa 99 rfl)).trans hT) (((kg7.fi 6273 rfl).trans ((hL3.fi 6273 rfl).trans (kg2.fi 6273 rfl))).trans hN) eRrg7_2 hX) (kj_d1 (n := n) (o := 13) (o1 := 14) (by decide)) ?_
          intro ig12 ag12 qg12 rg12 kg12 hg12
          have hGg12 := kG_call hGg7 kg12 (by decide +kernel)
          have eRrg12_2 : rg12 2 = 10 := (kg12.fr 2 rfl).trans eRrg7_2
          obtain ⟨hg12, og12⟩ := hg12
          refine ft_go mi_k50 2 33 [(2, .int l2_3), (0, .ref 98), (1, .int x1)] [.ref (rg12 2)] ig12 ag12 qg12 rg12 (by rfl) ?_
          refine ko_eq (x1 := (33, [(2, .int l2_3), (0, .ref 98), (1, .int x1)], [.ref 10], (0, 0), ks ig12 ag12 qg12 rg12)) (by rw [eRrg12_2]) ?_
          refine ft_go mi_k50 2 36 [(2, .int l2_3), (0, .ref 98), (1, .int x1)] [.int 0, .int 38, .ref 10] ig12 ag12 qg12 rg12 (by rfl) ?_
          refine ko_callI mi_k50.1 (pc := 36) (ls := [(2, .int l2_3), (0, .ref 98), (1, .int x1)]) (st := [.int 0, .int 38, .ref 10]) (h := ks ig12 ag12 qg12 rg12) (i := (.invokevirtual 60, 3, 17, 0, 9, 0, 187)) (mi_k50.2 _ _ (by rfl)) (ft_invS mi_pq17 (by rfl)) (cy := mi_c17) mi_pq17 rfl (kf17_10 hGg12.I hGg12.R 38 0) (kj_d3 (n := n) (c := 1) (o1 := 14) (by decide)) ?_
          intro vg13 ig13 ag13 qg13 rg13 kg13 hg13
          have hGg13 := kG_call hGg12 kg13 (by decide +kernel)
          have eRrg13_2 : rg13 2 = 10 := (kg13.fr 2 rfl).trans eRrg12_2
          obtain ⟨hg13, og13⟩ := hg13
          have s15 : (l2_3 + 1).toInt = l2_3.toInt + (1 : Int32).toInt := kd_add (op18 p3_0 kop1) (op117 c6 fi3_6273.2 kop1)
          refine ft_go mi_k50 3 7 [(2, .int (l2_3 + 1)), (0, .ref 98), (1, .int x1)] [] ig13 ag13 qg13 rg13 (by rfl) ?_
          have efig7_6273 : (ig7 6273).toInt = (i3 6273).toInt := kg7.ti 6273 rfl
          have efig12_6273 : (ig12 6273).toInt = (ig7 6273).toInt := kg12.ti 6273 rfl
          have efig13_6273 : (ig13 6273).toInt = (ig12 6273).toInt := kg13.ti 6273 rfl
          exact ih3 _ _ _ _ _ hGg13 (op20 p3_0 s15 kop1) (cLB_again O3_0 (kj_sub2 (n := nn.toInt) (op145 c6 efi3_6273 efig2_6273 hn1) (op4 p3_0) (op30 s15 kop1)) (tTk og7 (kg7.fi 6275 rfl) (kT3 (kg7.fa 11 rfl) (kg7.fa 12 rfl) (kg7.fi 643 rfl))) (op146 c11 z8 kop0) og12 (tAdd og13.1 (kg13.fi 6274 rfl) (kg13.fi 6275 rfl))) (kj_meas (op147 efig12_6273 efig13_6273 efig7_6273 s15 kop1) (op121 c6) hm3)
  exact lp3 _ _ _ _ _ _ (kG_self _ hGg2.I hGg2.R) (op36 kop0) (cLB_begin og2 (kj_sub00 kop0)) (Nat.lt_succ_self _)
set_option maxRecDepth 100000 in
theorem kMsP10_49 (n : Nat) (h54 : kMP10_54 n) (h53 : kMP10_53 n) (h52 : kMP10_52 n) (h51 : kMP10_51 n) (h50 : kMP10_50 n) : kMP10_49 n := by
  intro i a q r hI hr x1 hp0 t nn hT hN hL hX
  have hG := kG_self wP10 hI hr
  refine km_ofN (q := (mi_h49, mi_c49)) rfl (by decide) (Nat.le_of_ble_eq_true rfl) ?_
  intro P hP
  have hn0 : (0 : Int) ≤ (n : Int) := Int.natCast_nonneg n
  have hn1 : (i 6273).toInt = nn.toInt := congrArg Int32.toInt hN
  have eRr_2 : r 2 = 10 := hL
  refine ft_go mi_k49 2 2 [(0, .ref 98), (1, .int x1)] [.int x1, .ref 98] i a q r (by rfl) ?_
  refine ko_callN mi_k49.1 (pc := 2) (ls := [(0, .ref 98), (1, .int x1)]) (st := [.int x1, .ref 98]) (h := ks i a q r) (i := (.invokevirtual 67, 3, 50, 0, 9, 0, 179)) (mi_k49.2 _ _ (by rfl)) (ft_invS mi_pq50 (by rfl)) (cy := mi_c50) mi_pq50 rfl (h50 _ _ _ _ hG.I hG.R x1 (op105 hp0.1 hp0.2) t nn hT hN eRr_2 hX) (kj_d1 (n := n) (o := 14) (o1 := 15) (by decide)) ?_
  intro ig2 ag2 qg2 rg2 kg2 hg2
  have hGg2 := kG_call hG kg2 (by decide +kernel)
  have eRrg2_2 : rg2 2 = 10 := (kg2.fr 2 rfl).trans eRr_2
  obtain ⟨hg2, og2⟩ := hg2
  refine ft_go mi_k49 2 7 [(2, .int 0), (0, .ref 98), (1, .int x1)] [] ig2 ag2 qg2 rg2 (by rfl) ?_
  have lp3 : ∀ (nz : Nat) (i3 : Nat → Int32) (a3 : Nat → List Int32) (q3 : Nat → List Int64) (r3 : Nat → Nat) (l2_3 : Int32), kG yw49_98_L10_L7 ig2 ag2 qg2 rg2 i3 a3 q3 r3 → (0 : Int) ≤ l2_3.toInt → cLpB t nn (cP6 t nn (cO t nn n)) 124 (nn.toInt - l2_3.toInt).toNat (i3 6274, i3 6275, a3 11, a3 12, i3 643) = cBin t nn (cP6 t nn (cO t nn n)) 124 (i 6274, i 6275, a 11, a 12, i 643) → (((i3 6273).toInt - l2_3.toInt)).toNat < nz → ko (6 * n + 15) (mi_h49, mi_c49) P (7, [(2, .int l2_3), (0, .ref 98), (1, .int x1)], [], (0, 0), ks i3 a3 q3 r3) := by
    intro nz
    induction nz with
    | zero =>
      intro _ _ _ _ _ _ _ _ hm
      exact absurd hm (Nat.not_lt_zero _)
    | succ nz ih3 =>
      intro i3 a3 q3 r3 l2_3 hL3 p3_0 O3_0 hm3
      have fi3_6273 : ((0 : Int) ≤ (i3 6273).toInt) ∧ ((i3 6273).toInt ≤ 120) := hL3.I.1 6273
      have efig2_6273 : (ig2 6273).toInt = (i 6273).toInt := kg2.ti 6273 rfl
      have efi3_6273 : (i3 6273).toInt = (ig2 6273).toInt := hL3.ti 6273 rfl
      have eRr3_2 : r3 2 = 10 := (hL3.fr 2 rfl).trans eRrg2_2
      refine ft_go mi_k49 3 12 [(2, .int l2_3), (0, .ref 98), (1, .int x1)] [.int (i3 6273), .int l2_3] i3 a3 q3 r3 (by rfl) ?_
      refine ft_if mi_k49 (decide ((i3 6273) ≤ l2_3)) 46 15 [(2, .int l2_3), (0, .ref 98), (1, .int x1)] [] (by rfl) (fun c => ?_) (fun c => ?_)
      ·
        have c4 : (i3 6273).toInt ≤ l2_3.toInt := kd_le c; clear c
        have hG5 := kG_call hGg2 hL3 (by decide +kernel)
        exact ft_ret mi_k49 (by rfl) (hP  _ _ _ _ hG5 ⟨trivial, (cLB_end O3_0 (kj_sub0 (n := nn.toInt) (op143 c4 efi3_6273 efig2_6273 hn1)))⟩)
      ·
        have c6 : l2_3.toInt < (i3 6273).toInt := kd_leF c; clear c
        refine ft_go mi_k49 2 18 [(2, .int l2_3), (0, .ref 98), (1, .int x1)] [.int 124, .ref 98] i3 a3 q3 r3 (by rfl) ?_
        refine ko_callI mi_k49.1 (pc := 18) (ls := [(2, .int l2_3), (0, .ref 98), (1, .int x1)]) (st := [.int 124, .ref 98]) (h := ks i3 a3 q3 r3) (i := (.invokevirtual 39, 3, 46, 0, 9, 0, 200)) (mi_k49.2 _ _ (by rfl)) (ft_invS mi_pq46 (by rfl)) (cy := mi_c46) mi_pq46 rfl (ke46_98 hL3.I hL3.R 124 (op148 kop124) t nn (((hL3.fa 99 rfl).trans (kg2.fa 99 rfl)).trans hT) (((hL3.fi 6273 rfl).trans (kg2.fi 6273 rfl)).trans hN) hX) (kj_d3 (n := n) (c := 3) (o1 := 15) (by decide)) ?_
        intro vg7 ig7 ag7 qg7 rg7 kg7 hg7
        have hGg7 := kG_call hL3 kg7 (by decide +kernel)
        have eRrg7_2 : rg7 2 = 10 := (kg7.fr 2 rfl).trans eRr3_2
        obtain ⟨hg7, og7⟩ := hg7
        have z8 : ((vg7.toInt = 1) ∧ ((ig7 6274).toInt = ((i3 6274).toInt + 1)) ∧ ((i3 6274).toInt < (i3 6273).toInt) ∧ ((i3 6275).toInt = 0)) ∨ ((vg7.toInt = 0) ∧ ((ig7 6274).toInt = (i3 6274).toInt)) := hg7
        refine ft_if mi_k49 (vg7 == 0) 46 24 [(2, .int l2_3), (0, .ref 98), (1, .int x1)] [] (by rfl) (fun c => ?_) (fun c => ?_)
        ·
          have c9 : vg7.toInt = (0 : Int32).toInt := kd_eq c; clear c
          have hG10 := kG_call hGg2 hGg7 (by decide +kernel)
          exact ft_ret mi_k49 (by rfl) (hP  _ _ _ _ hG10 ⟨trivial, (cLB_out O3_0 (kj_sub1 (n := nn.toInt) (op145 c6 efi3_6273 efig2_6273 hn1) (op4 p3_0)) (tTk og7 (kg7.fi 6275 rfl) (kT3 (kg7.fa 11 rfl) (kg7.fa 12 rfl) (kg7.fi 643 rfl))) (op98 c9 kop0))⟩)
        ·
          have c11 : vg7.toInt ≠ (0 : Int32).toInt := kd_eqF c; clear c
          refine ft_go mi_k49 2 26 [(2, .int l2_3), (0, .ref 98), (1, .int x1)] [.int x1, .ref 98] ig7 ag7 qg7 rg7 (by rfl) ?_
          refine ko_callN mi_k49.1 (pc := 26) (ls := [(2, .int l2_3), (0, .ref 98), (1, .int x1)]) (st := [.int x1, .ref 98]) (h := ks ig7 ag7 qg7 rg7) (i := (.invokevirtual 67, 3, 50, 0, 9, 0, 179)) (mi_k49.2 _ _ (by rfl)) (ft_invS mi_pq50 (by rfl)) (cy := mi_c50) mi_pq50 rfl (h50 _ _ _ _ hGg7.I hGg7.R x1 (op105 hp0.1 hp0.2) t nn ((((kg7.fa 99 rfl).trans (hL3.fa 99 rfl)).trans (kg2.fa 99 rfl)).trans hT) (((kg7.fi 6273 rfl).trans ((hL3.fi 6273 rfl).trans (kg2.fi 6273 rfl))).trans hN) eRrg7_2 hX) (kj_d1 (n := n) (o := 14) (o1 := 15) (by decide)) ?_
          intro ig12 ag12 qg12 rg12 kg12 hg12
          have hGg12 := kG_call hGg7 kg12 (by decide +kernel)
          have eRrg12_2 : rg12 2 = 10 := (kg12.fr 2 rfl).trans eRrg7_2
          obtain ⟨hg12, og12⟩ := hg12
          refine ft_go mi_k49 2 33 [(2, .int l2_3), (0, .ref 98), (1, .int x1)] [.ref (rg12 2)] ig12 ag12 qg12 rg12 (by rfl) ?_
          refine ko_eq (x1 := (33, [(2, .int l2_3), (0, .ref 98), (1, .int x1)], [.ref 10], (0, 0), ks ig12 ag12 qg12 rg12)) (by rw [eRrg12_2]) ?_
          refine ft_go mi_k49 2 36 [(2, .int l2_3), (0, .ref 98), (1, .int x1)] [.int 0, .int 124, .ref 10] ig12 ag12 qg12 rg12 (by rfl) ?_
          refine ko_callI mi_k49.1 (pc := 36) (ls := [(2, .int l2_3), (0, .ref 98), (1, .int x1)]) (st := [.int 0, .int 124, .ref 10]) (h := ks ig12 ag12 qg12 rg12) (i := (.invokevirtual 60, 3, 17, 0, 9, 0, 187)) (mi_k49.2 _ _ (by rfl)) (ft_invS mi_pq17 (by rfl)) (cy := mi_c17) mi_pq17 rfl (kf17_10 hGg12.I hGg12.R 124 0) (kj_d3 (n := n) (c := 1) (o1 := 15) (by decide)) ?_
          intro vg13 ig13 ag13 qg13 rg13 kg13 hg13
          have hGg13 := kG_call hGg12 kg13 (by decide +kernel)
          have eRrg13_2 : rg13 2 = 10 := (kg13.fr 2 rfl).trans eRrg12_2
          obtain ⟨hg13, og13⟩ := hg13
          have s15 : (l2_3 + 1).toInt = l2_3.toInt + (1 : Int32).toInt := kd_add (op18 p3_0 kop1) (op117 c6 fi3_6273.2 kop1)
          refine ft_go mi_k49 3 7 [(2, .int (l2_3 + 1)), (0, .ref 98), (1, .int x1)] [] ig13 ag13 qg13 rg13 (by rfl) ?_
          have efig7_6273 : (ig7 6273).toInt = (i3 6273).toInt := kg7.ti 6273 rfl
          have efig12_6273 : (ig12 6273).toInt = (ig7 6273).toInt := kg12.ti 6273 rfl
          have efig13_6273 : (ig13 6273).toInt = (ig12 6273).toInt := kg13.ti 6273 rfl
          exact ih3 _ _ _ _ _ hGg13 (op20 p3_0 s15 kop1) (cLB_again O3_0 (kj_sub2 (n := nn.toInt) (op145 c6 efi3_6273 efig2_6273 hn1) (op4 p3_0) (op30 s15 kop1)) (tTk og7 (kg7.fi 6275 rfl) (kT3 (kg7.fa 11 rfl) (kg7.fa 12 rfl) (kg7.fi 643 rfl))) (op146 c11 z8 kop0) og12 (tAdd og13.1 (kg13.fi 6274 rfl) (kg13.fi 6275 rfl))) (kj_meas (op147 efig12_6273 efig13_6273 efig7_6273 s15 kop1) (op121 c6) hm3)
  exact lp3 _ _ _ _ _ _ (kG_self _ hGg2.I hGg2.R) (op36 kop0) (cLB_begin og2 (kj_sub00 kop0)) (Nat.lt_succ_self _)
theorem kMallP10 : ∀ n : Nat, kMP10_49 n ∧ kMP10_54 n
  | 0 => by
    have ih : ∀ m, 0 = m + 1 → kMP10_49 m ∧ kMP10_54 m := fun m h => by omega
    have h54 := kMsP10_54 0  ih
    have h53 := kMsP10_53 0 h54
    have h52 := kMsP10_52 0 h54 h53
    have h51 := kMsP10_51 0 h54 h53 h52
    have h50 := kMsP10_50 0 h54 h53 h52 h51
    have h49 := kMsP10_49 0 h54 h53 h52 h51 h50
    exact ⟨h49, h54⟩
  | n + 1 => by
    have ih : ∀ m, n + 1 = m + 1 → kMP10_49 m ∧ kMP10_54 m := fun m h => by
      have e : n = m := by omega
      subst e
      exact kMallP10 n
    have h54 := kMsP10_54 (n + 1)  ih
    have h53 := kMsP10_53 (n + 1) h54
    have h52 := kMsP10_52 (n + 1) h54 h53
    have h51 := kMsP10_51 (n + 1) h54 h53 h52
    have h50 := kMsP10_50 (n + 1) h54 h53 h52 h51
    have h49 := kMsP10_49 (n + 1) h54 h53 h52 h51 h50
    exact ⟨h49, h54⟩
def zw18_10 : kW := ([], [12], [], [])
set_option maxRecDepth 100000 in
theorem kf18_10 {i : Nat → Int32} {a : Nat → List Int32} {q : Nat → List Int64} {r : Nat → Nat} (hI : kI i a q) (hr : kr r) (x1 : Int32) : km 1 18 [.ref 10, .int x1] (ks i a q r) (kVN zw18_10 i a q r (fun i1 a1 q1 r1 => ((i1 643).toInt = (i 643).toInt) ∧ (a1 11, a1 12, i1 643) = lAim x1 (a 11, a 12, i 643))) := by
  have hG := kG_self zw18_10 hI hr
  refine km_ofN (q := (mi_h18, mi_c18)) rfl (by decide) (Nat.le_of_ble_eq_true rfl) ?_
  intro P hP
  refine ft_go mi_k18 1 1 [(0, .ref 10), (1, .int x1)] [.int x1] i a q r (by rfl) ?_
  refine ft_if mi_k18 (decide (x1 < 0)) 22 4 [(0, .ref 10), (1, .int x1)] [] (by rfl) (fun c => ?_) (fun c => ?_)
  ·
    have c1 : x1.toInt < (0 : Int32).toInt := kd_lt c; clear c
    exact ft_ret mi_k18 (by rfl) (hP  _ _ _ _ hG ⟨op150, ((show (a 11, a 12, i 643) = (a 11, a 12, i 643) from rfl).trans (if_neg (op151 c1 kop0)).symm)⟩)
  ·
    have c2 : (0 : Int32).toInt ≤ x1.toInt := kd_ltF c; clear c
    have fi_643 : ((0 : Int) ≤ (i 643).toInt) ∧ ((i 643).toInt ≤ 121) := hG.I.1 643
    refine ft_go mi_k18 3 9 [(0, .ref 10), (1, .int x1)] [.int (i 643), .int x1] i a q r (by rfl) ?_
    refine ft_if mi_k18 (decide ((i 643) ≤ x1)) 22 12 [(0, .ref 10), (1, .int x1)] [] (by rfl) (fun c => ?_) (fun c => ?_)
    ·
      have c3 : (i 643).toInt ≤ x1.toInt := kd_le c; clear c
      exact ft_ret mi_k18 (by rfl) (hP  _ _ _ _ hG ⟨op150, ((show (a 11, a 12, i 643) = (a 11, a 12, i 643) from rfl).trans (if_neg (op152 c3)).symm)⟩)
    ·
      have c4 : x1.toInt < (i 643).toInt := kd_leF c; clear c
      refine ft_go mi_k18 5 21 [(0, .ref 10), (1, .int x1)] [.int (i 643), .int x1, .ref 12] i a q r (by rfl) ?_
      refine ko_iast3 mi_k18.1 (n := 121) (c := 121) (ax := (0, 0, 0, 0, 0)) (mi_k18.2 _ _ (by rfl)) (by rfl) (ksG12 _ _ _ _) (ksA12 _ _ _ _) (hG.I.2.1 12) rfl (op153 c2 kop0) (op154 c4 fi_643.2) ?_
      intro a5 ea5 fa5
      have hJ5 := kG_a3 hG 12 rfl ea5 fa5 (kd_bd _)
      exact ft_ret mi_k18 (by rfl) (hP  _ _ _ _ hJ5 ⟨op150, ((show (a5 11, a5 12, i 643) = (a 11, (a 12).set x1.toNatClampNeg (i 643), i 643) from by rw [fa5 11 (by decide), ea5]).trans (if_pos ⟨(op153 c2 kop0), (op155 c4)⟩).symm)⟩)
def yw48_98_L10 : kW := ([643, 6274, 6275], [11, 12], [], [])
set_option maxRecDepth 100000 in
theorem ke48_98_L10 {i : Nat → Int32} {a : Nat → List Int32} {q : Nat → List Int64} {r : Nat → Nat} (hI : kI i a q) (hr : kr r) (t : List Int32) (nn : Int32) (hT : a 99 = t) (hN : i 6273 = nn) (hL : r 2 = 10) (hX : kBy t) : km 53 48 [.ref 98] (ks i a q r) (kVN yw48_98_L10 i a q r (fun i1 a1 q1 r1 => (True) ∧ (i1 6274, i1 6275, a1 11, a1 12, i1 643) = cLin t nn (i 6274, i 6275, a 11, a 12, i 643))) := by
  have hG := kG_self yw48_98_L10 hI hr
  refine km_ofN (q := (mi_h48, mi_c48)) rfl (by decide) (Nat.le_of_ble_eq_true rfl) ?_
  intro P hP
  have hn1 : (i 6273).toInt = nn.toInt := congrArg Int32.toInt hN
  have eRr_2 : r 2 = 10 := hL
  refine ft_go mi_k48 2 2 [(0, .ref 98)] [.int 0, .ref 98] i a q r (by rfl) ?_
  have nn0 := kop0
  refine ko_callN mi_k48.1 (pc := 2) (ls := [(0, .ref 98)]) (st := [.int 0, .ref 98]) (h := ks i a q r) (i := (.invokevirtual 56, 3, 49, 0, 9, 0, 178)) (mi_k48.2 _ _ (by rfl)) (ft_invS mi_pq49 (by rfl)) (cy := mi_c49) mi_pq49 rfl ((kMallP10 6).1 _ _ _ _ hG.I hG.R 0 (by have := kop0; omega) t nn hT hN eRr_2 hX) (by decide) ?_
  intro ig2 ag2 qg2 rg2 kg2 hg2
  have hGg2 := kG_call hG kg2 (by decide +kernel)
  have eRrg2_2 : rg2 2 = 10 := (kg2.fr 2 rfl).trans eRr_2
  obtain ⟨hg2, og2⟩ := hg2
  refine ft_go mi_k48 2 8 [(0, .ref 98)] [.int 63, .ref 98] ig2 ag2 qg2 rg2 (by rfl) ?_
  refine ko_callI mi_k48.1 (pc := 8) (ls := [(0, .ref 98)]) (st := [.int 63, .ref 98]) (h := ks ig2 ag2 qg2 rg2) (i := (.invokevirtual 39, 3, 46, 0, 9, 0, 200)) (mi_k48.2 _ _ (by rfl)) (ft_invS mi_pq46 (by rfl)) (cy := mi_c46) mi_pq46 rfl (ke46_98 hGg2.I hGg2.R 63 (op149 kop63) t nn ((kg2.fa 99 rfl).trans hT) ((kg2.fi 6273 rfl).trans hN) hX) (by decide) ?_
  intro vg3 ig3 ag3 qg3 rg3 kg3 hg3
  have hGg3 := kG_call hGg2 kg3 (by decide +kernel)
  have eRrg3_2 : rg3 2 = 10 := (kg3.fr 2 rfl).trans eRrg2_2
  obtain ⟨hg3, og3⟩ := hg3
  have fig3_6274 : ((0 : Int) ≤ (ig3 6274).toInt) ∧ ((ig3 6274).toInt ≤ 120) := hGg3.I.1 6274
  have fig2_6274 : ((0 : Int) ≤ (ig2 6274).toInt) ∧ ((ig2 6274).toInt ≤ 120) := hGg2.I.1 6274
  have fig2_6273 : ((0 : Int) ≤ (ig2 6273).toInt) ∧ ((ig2 6273).toInt ≤ 120) := hGg2.I.1 6273
  have fi_6273 : ((0 : Int) ≤ (i 6273).toInt) ∧ ((i 6273).toInt ≤ 120) := hG.I.1 6273
  have efig2_6273 : (ig2 6273).toInt = (i 6273).toInt := kg2.ti 6273 rfl
  have fig2_6275 : ((0 : Int) ≤ (ig2 6275).toInt) ∧ ((ig2 6275).toInt ≤ 1) := hGg2.I.1 6275
  have z4 : ((vg3.toInt = 1) ∧ ((ig3 6274).toInt = ((ig2 6274).toInt + 1)) ∧ ((ig2 6274).toInt < (ig2 6273).toInt) ∧ ((ig2 6275).toInt = 0)) ∨ ((vg3.toInt = 0) ∧ ((ig3 6274).toInt = (ig2 6274).toInt)) := hg3
  refine ft_if mi_k48 (vg3 == 0) 50 14 [(0, .ref 98)] [] (by rfl) (fun c => ?_) (fun c => ?_)
  ·
    have c5 : vg3.toInt = (0 : Int32).toInt := kd_eq c; clear c
    refine ft_go mi_k48 2 54 [(0, .ref 98)] [.ref (rg3 2)] ig3 ag3 qg3 rg3 (by rfl) ?_
    refine ko_eq (x1 := (54, [(0, .ref 98)], [.ref 10], (0, 0), ks ig3 ag3 qg3 rg3)) (by rw [eRrg3_2]) ?_
    refine ft_go mi_k48 2 56 [(0, .ref 98)] [.int 0, .int 2, .ref 10] ig3 ag3 qg3 rg3 (by rfl) ?_
    refine ko_callI mi_k48.1 (pc := 56) (ls := [(0, .ref 98)]) (st := [.int 0, .int 2, .ref 10]) (h := ks ig3 ag3 qg3 rg3) (i := (.invokevirtual 60, 3, 17, 0, 9, 0, 187)) (mi_k48.2 _ _ (by rfl)) (ft_invS mi_pq17 (by rfl)) (cy := mi_c17) mi_pq17 rfl (kf17_10 hGg3.I hGg3.R 2 0) (by decide) ?_
    intro vg6 ig6 ag6 qg6 rg6 kg6 hg6
    have hGg6 := kG_call hGg3 kg6 (by decide +kernel)
    have eRrg6_2 : rg6 2 = 10 := (kg6.fr 2 rfl).trans eRrg3_2
    obtain ⟨hg6, og6⟩ := hg6
    refine ft_go mi_k48 1 60 [(0, .ref 98)] [] ig6 ag6 qg6 rg6 (by rfl) ?_
    exact ft_ret mi_k48 (by rfl) (hP  _ _ _ _ hGg6 ⟨trivial, (cLi_one og2 (tTk og3 (kg3.fi 6275 rfl) (kT3 (kg3.fa 11 rfl) (kg3.fa 12 rfl) (kg3.fi 643 rfl))) (op98 c5 kop0) (tAdd og6.1 (kg6.fi 6274 rfl) (kg6.fi 6275 rfl)))⟩)
  ·
    have c8 : vg3.toInt ≠ (0 : Int32).toInt := kd_eqF c; clear c
    refine ft_go mi_k48 2 18 [(0, .ref 98)] [.ref (rg3 2)] ig3 ag3 qg3 rg3 (by rfl) ?_
    refine ko_eq (x1 := (18, [(0, .ref 98)], [.ref 10], (0, 0), ks ig3 ag3 qg3 rg3)) (by rw [eRrg3_2]) ?_
    refine ft_go mi_k48 2 20 [(0, .ref 98)] [.int 0, .int 3, .ref 10] ig3 ag3 qg3 rg3 (by rfl) ?_
    refine ko_callI mi_k48.1 (pc := 20) (ls := [(0, .ref 98)]) (st := [.int 0, .int 3, .ref 10]) (h := ks ig3 ag3 qg3 rg3) (i := (.invokevirtual 60, 3, 17, 0, 9, 0, 187)) (mi_k48.2 _ _ (by rfl)) (ft_invS mi_pq17 (by rfl)) (cy := mi_c17) mi_pq17 rfl (kf17_10 hGg3.I hGg3.R 3 0) (by decide) ?_
    intro vg9 ig9 ag9 qg9 rg9 kg9 hg9
    have hGg9 := kG_call hGg3 kg9 (by decide +kernel)
    have eRrg9_2 : rg9 2 = 10 := (kg9.fr 2 rfl).trans eRrg3_2
    obtain ⟨hg9, og9⟩ := hg9
    have fig3_643 : ((0 : Int) ≤ (ig3 643).toInt) ∧ ((ig3 643).toInt ≤ 121) := hGg3.I.1 643
    have fig2_643 : ((0 : Int) ≤ (ig2 643).toInt) ∧ ((ig2 643).toInt ≤ 121) := hGg2.I.1 643
    have efig3_643 : (ig3 643).toInt = (ig2 643).toInt := kg3.ti 643 rfl
    have fig9_643 : ((0 : Int) ≤ (ig9 643).toInt) ∧ ((ig9 643).toInt ≤ 121) := hGg9.I.1 643
    have z10 : (((ig3 643).toInt ≤ 120) ∧ ((ig9 643).toInt = ((ig3 643).toInt + 1))) ∨ (((121 : Int) ≤ (ig3 643).toInt) ∧ ((ig9 643).toInt = (ig3 643).toInt)) := hg9
    refine ft_go mi_k48 3 26 [(1, .int vg9), (0, .ref 98)] [.int 0, .ref 98] ig9 ag9 qg9 rg9 (by rfl) ?_
    have nn0 := kop0
    refine ko_callN mi_k48.1 (pc := 26) (ls := [(1, .int vg9), (0, .ref 98)]) (st := [.int 0, .ref 98]) (h := ks ig9 ag9 qg9 rg9) (i := (.invokevirtual 56, 3, 49, 0, 9, 0, 178)) (mi_k48.2 _ _ (by rfl)) (ft_invS mi_pq49 (by rfl)) (cy := mi_c49) mi_pq49 rfl ((kMallP10 6).1 _ _ _ _ hGg9.I hGg9.R 0 (by have := kop0; omega) t nn ((((kg9.fa 99 rfl).trans (kg3.fa 99 rfl)).trans (kg2.fa 99 rfl)).trans hT) (((kg9.fi 6273 rfl).trans ((kg3.fi 6273 rfl).trans (kg2.fi 6273 rfl))).trans hN) eRrg9_2 hX) (by decide) ?_
    intro ig11 ag11 qg11 rg11 kg11 hg11
    have hGg11 := kG_call hGg9 kg11 (by decide +kernel)
    have eRrg11_2 : rg11 2 = 10 := (kg11.fr 2 rfl).trans eRrg9_2
    obtain ⟨hg11, og11⟩ := hg11
    refine ft_go mi_k48 2 33 [(1, .int vg9), (0, .ref 98)] [.ref (rg11 2)] ig11 ag11 qg11 rg11 (by rfl) ?_
    refine ko_eq (x1 := (33, [(1, .int vg9), (0, .ref 98)], [.ref 10], (0, 0), ks ig11 ag11 qg11 rg11)) (by rw [eRrg11_2]) ?_
    refine ft_go mi_k48 2 35 [(1, .int vg9), (0, .ref 98)] [.int 0, .int 2, .ref 10] ig11 ag11 qg11 rg11 (by rfl) ?_
    refine ko_callI mi_k48.1 (pc := 35) (ls := [(1, .int vg9), (0, .ref 98)]) (st := [.int 0, .int 2, .ref 10]) (h := ks ig11 ag11 qg11 rg11) (i := (.invokevirtual 60, 3, 17, 0, 9, 0, 187)) (mi_k48.2 _ _ (by rfl)) (ft_invS mi_pq17 (by rfl)) (cy := mi_c17) mi_pq17 rfl (kf17_10 hGg11.I hGg11.R 2 0) (by decide) ?_
    intro vg12 ig12 ag12 qg12 rg12 kg12 hg12
    have hGg12 := kG_call hGg11 kg12 (by decide +kernel)
    have eRrg12_2 : rg12 2 = 10 := (kg12.fr 2 rfl).trans eRrg11_2
    obtain ⟨hg12, og12⟩ := hg12
    refine ft_go mi_k48 3 43 [(1, .int vg9), (0, .ref 98)] [.ref (rg12 2)] ig12 ag12 qg12 rg12 (by rfl) ?_
    refine ko_eq (x1 := (43, [(1, .int vg9), (0, .ref 98)], [.ref 10], (0, 0), ks ig12 ag12 qg12 rg12)) (by rw [eRrg12_2]) ?_
    refine ft_go mi_k48 1 44 [(1, .int vg9), (0, .ref 98)] [.int vg9, .ref 10] ig12 ag12 qg12 rg12 (by rfl) ?_
    refine ko_callN mi_k48.1 (pc := 44) (ls := [(1, .int vg9), (0, .ref 98)]) (st := [.int vg9, .ref 10]) (h := ks ig12 ag12 qg12 rg12) (i := (.invokevirtual 64, 3, 18, 0, 9, 0, 204)) (mi_k48.2 _ _ (by rfl)) (ft_invS mi_pq18 (by rfl)) (cy := mi_c18) mi_pq18 rfl (kf18_10 hGg12.I hGg12.R vg9) (by decide) ?_
    intro ig14 ag14 qg14 rg14 kg14 hg14
    have hGg14 := kG_call hGg12 kg14 (by decide +kernel)
    have eRrg14_2 : rg14 2 = 10 := (kg14.fr 2 rfl).trans eRrg12_2
    obtain ⟨hg14, og14⟩ := hg14
    refine ft_go mi_k48 1 60 [(1, .int vg9), (0, .ref 98)] [] ig14 ag14 qg14 rg14 (by rfl) ?_
    exact ft_ret mi_k48 (by rfl) (hP  _ _ _ _ hGg14 ⟨trivial, (cLi_two og2 (tTk og3 (kg3.fi 6275 rfl) (kT3 (kg3.fa 11 rfl) (kg3.fa 12 rfl) (kg3.fi 643 rfl))) (op96 c8 z4 kop0) (tAdd og9.1 (kg9.fi 6274 rfl) (kg9.fi 6275 rfl)) (cLi_2 og9.2 og11 (tAdd og12.1 (kg12.fi 6274 rfl) (kg12.fi 6275 rfl)) (tAim og14 (kg14.fi 6274 rfl) (kg14.fi 6275 rfl))))⟩)
def zw16_10 : kW := ([640, 643], [], [], [])
set_option maxRecDepth 100000 in
theorem kf16_10 {i : Nat → Int32} {a : Nat → List Int32} {q : Nat → List Int64} {r : Nat → Nat} (hI : kI i a q) (hr : kr r)  : km 1 16 [.ref 10] (ks i a q r) (kVN zw16_10 i a q r (fun i1 a1 q1 r1 => (True) ∧ (i1 640 = 0 ∧ i1 643 = 0))) := by
  have hG := kG_self zw16_10 hI hr
  refine km_ofN (q := (mi_h16, mi_c16)) rfl (by decide) (Nat.le_of_ble_eq_true rfl) ?_
  intro P hP
  have hJ1 := kG_i hG 640 rfl (v := 0) ⟨(op36 kop0), (op157 kop0)⟩
  have hJ2 := kG_i hJ1 643 rfl (v := 0) ⟨(op36 kop0), (op158 kop0)⟩
  refine ft_go mi_k16 6 10 [(0, .ref 10)] [] (ku (ku i 640 0) 643 0) a q r (by rfl) ?_
  exact ft_ret mi_k16 (by rfl) (hP  _ _ _ _ hJ2 ⟨trivial, ⟨(show (0 : Int32) = 0 from (by first | rfl | (simp only [sMn, sMx]; done) | (simp only [sMn, sMx]; rfl))), (show (0 : Int32) = 0 from (by first | rfl | (simp only [sMn, sMx]; done) | (simp only [sMn, sMx]; rfl)))⟩⟩)
def yw44_98_L10 : kW := ([640, 643, 6274, 6275], [11, 12], [], [])
def yw44_98_L10_L23 : kW := ([643, 6274, 6275], [11, 12], [], [])
set_option maxRecDepth 100000 in
theorem ke44_98_L10 {i : Nat → Int32} {a : Nat → List Int32} {q : Nat → List Int64} {r : Nat → Nat} (hI : kI i a q) (hr : kr r) (t : List Int32) (nn : Int32) (hT : a 99 = t) (hN : i 6273 = nn) (hL : r 2 = 10) (hX : kBy t) : km 55 44 [.ref 98] (ks i a q r) (kVI yw44_98_L10 i a q r (fun v i1 a1 q1 r1 => ((v.toInt = (-1)) ∨ ((0 : Int) ≤ v.toInt)) ∧ ((cOk nn (cTxt t nn (a 11) (a 12)) ∧ v = -1 ∧ i1 640 = 1 ∧ (a1 11, a1 12, i1 643) = (cTxt t nn (a 11) (a 12)).2.2) ∨ (¬ cOk nn (cTxt t nn (a 11) (a 12)) ∧ v = (cTxt t nn (a 11) (a 12)).1 ∧ 0 ≤ v.toInt)))) := by
  have hG := kG_self yw44_98_L10 hI hr
  refine km_ofI (q := (mi_h44, mi_c44)) rfl (by decide) (Nat.le_of_ble_eq_true rfl) ?_
  intro P hP
  have hn1 : (i 6273).toInt = nn.toInt := congrArg Int32.toInt hN
  have eRr_2 : r 2 = 10 := hL
  have hJ2 := kG_i hG 6274 rfl (v := 0) ⟨(op36 kop0), (op156 kop0)⟩
  have hJ3 := kG_i hJ2 6275 rfl (v := 0) ⟨(op36 kop0), (op157 kop0)⟩
  refine ft_go mi_k44 8 14 [(0, .ref 98)] [.ref (r 2)] (ku (ku i 6274 0) 6275 0) a q r (by rfl) ?_
  refine ko_eq (x1 := (14, [(0, .ref 98)], [.ref 10], (0, 0), ks (ku (ku i 6274 0) 6275 0) a q r)) (by rw [eRr_2]) ?_
  refine ko_callN mi_k44.1 (pc := 14) (ls := [(0, .ref 98)]) (st := [.ref 10]) (h := ks (ku (ku i 6274 0) 6275 0) a q r) (i := (.invokevirtual 33, 3, 16, 0, 9, 0, 176)) (mi_k44.2 _ _ (by rfl)) (ft_invS mi_pq16 (by rfl)) (cy := mi_c16) mi_pq16 rfl (kf16_10 hJ3.I hJ3.R ) (by decide) ?_
  intro ig4 ag4 qg4 rg4 kg4 hg4
  have hGg4 := kG_call hJ3 kg4 (by decide +kernel)
  have eRrg4_2 : rg4 2 = 10 := (kg4.fr 2 rfl).trans eRr_2
  obtain ⟨hg4, og4⟩ := hg4
  have q5 : ig4 640 = 0 := og4.1
  have q6 : ig4 643 = 0 := og4.2
  refine ft_go mi_k44 1 18 [(0, .ref 98)] [.ref 98] ig4 ag4 qg4 rg4 (by rfl) ?_
  refine ko_callN mi_k44.1 (pc := 18) (ls := [(0, .ref 98)]) (st := [.ref 98]) (h := ks ig4 ag4 qg4 rg4) (i := (.invokevirtual 36, 3, 48, 0, 9, 0, 177)) (mi_k44.2 _ _ (by rfl)) (ft_invS mi_pq48 (by rfl)) (cy := mi_c48) mi_pq48 rfl (ke48_98_L10 hGg4.I hGg4.R t nn ((kg4.fa 99 rfl).trans hT) ((kg4.fi 6273 rfl).trans hN) eRrg4_2 hX) (by decide) ?_
  intro ig7 ag7 qg7 rg7 kg7 hg7
  have hGg7 := kG_call hGg4 kg7 (by decide +kernel)
  have eRrg7_2 : rg7 2 = 10 := (kg7.fr 2 rfl).trans eRrg4_2
  obtain ⟨hg7, og7⟩ := hg7
  refine ft_go mi_k44 2 23 [(1, .int 0), (0, .ref 98)] [] ig7 ag7 qg7 rg7 (by rfl) ?_
  have lp8 : ∀ (nz : Nat) (i8 : Nat → Int32) (a8 : Nat → List Int32) (q8 : Nat → List Int64) (r8 : Nat → Nat) (l1_8 : Int32), kG yw44_98_L10_L23 ig7 ag7 qg7 rg7 i8 a8 q8 r8 → (0 : Int) ≤ l1_8.toInt → cLpL t nn (nn.toInt - l1_8.toInt).toNat (i8 6274, i8 6275, a8 11, a8 12, i8 643) = (cTxt t nn (a 11) (a 12)) → (((i8 6273).toInt - l1_8.toInt)).toNat < nz → ko 55 (mi_h44, mi_c44) P (23, [(1, .int l1_8), (0, .ref 98)], [], (0, 0), ks i8 a8 q8 r8) := by
    intro nz
    induction nz with
    | zero =>
      intro _ _ _ _ _ _ _ _ hm
      exact absurd hm (Nat.not_lt_zero _)
    | succ nz ih8 =>
      intro i8 a8 q8 r8 l1_8 hL8 p8_0 O8_0 hm8
      have fi8_6273 : ((0 : Int) ≤ (i8 6273).toInt) ∧ ((i8 6273).toInt ≤ 120) := hL8.I.1 6273
      have efig4_6273 : (ig4 6273).toInt = (i 6273).toInt := kg4.ti 6273 rfl
      have efig7_6273 : (ig7 6273).toInt = (ig4 6273).toInt := kg7.ti 6273 rfl
      have efi8_6273 : (i8 6273).toInt = (ig7 6273).toInt := hL8.ti 6273 rfl
      have eRr8_2 : r8 2 = 10 := (hL8.fr 2 rfl).trans eRrg7_2
      refine ft_go mi_k44 3 28 [(1, .int l1_8), (0, .ref 98)] [.int (i8 6273), .int l1_8] i8 a8 q8 r8 (by rfl) ?_
      refine ft_if mi_k44 (decide ((i8 6273) ≤ l1_8)) 50 31 [(1, .int l1_8), (0, .ref 98)] [] (by rfl) (fun c => ?_) (fun c => ?_)
      ·
        have c9 : (i8 6273).toInt ≤ l1_8.toInt := kd_le c; clear c
        have hG10 := kG_call hGg7 hL8 (by decide +kernel)
        have hD11 : (i8 6274, i8 6275, a8 11, a8 12, i8 643) = (cTxt t nn (a 11) (a 12)) := cLL_end O8_0 (kj_sub0 (n := nn.toInt) (op116 c9 efi8_6273 efig4_6273 efig7_6273 hn1))
        have fi8_6275 : ((0 : Int) ≤ (i8 6275).toInt) ∧ ((i8 6275).toInt ≤ 1) := hG10.I.1 6275
        refine ft_go mi_k44 2 54 [(1, .int l1_8), (0, .ref 98)] [.int (i8 6275)] i8 a8 q8 r8 (by rfl) ?_
        refine ft_if mi_k44 ((i8 6275) != 0) 68 57 [(1, .int l1_8), (0, .ref 98)] [] (by rfl) (fun c => ?_) (fun c => ?_)
        ·
          have c12 : (i8 6275).toInt ≠ (0 : Int32).toInt := kd_ne c; clear c
          have fi8_6274 : ((0 : Int) ≤ (i8 6274).toInt) ∧ ((i8 6274).toInt ≤ 120) := hG10.I.1 6274
          refine ft_go mi_k44 2 72 [(1, .int l1_8), (0, .ref 98)] [.int (i8 6274)] i8 a8 q8 r8 (by rfl) ?_
          exact ft_ret mi_k44 (by rfl) (hP (i8 6274) _ _ _ _ hG10 ⟨(op159 fi8_6274.1), (rd_bad hD11 (op160 c12 fi8_6275.1 kop0) rfl (op4 fi8_6274.1))⟩)
        ·
          have c13 : (i8 6275).toInt = (0 : Int32).toInt := kd_neF c; clear c
          have fi8_6274 : ((0 : Int) ≤ (i8 6274).toInt) ∧ ((i8 6274).toInt ≤ 120) := hG10.I.1 6274
          refine ft_go mi_k44 4 65 [(1, .int l1_8), (0, .ref 98)] [.int (i8 6273), .int (i8 6274)] i8 a8 q8 r8 (by rfl) ?_
          refine ft_if mi_k44 (decide ((i8 6273) ≤ (i8 6274))) 73 68 [(1, .int l1_8), (0, .ref 98)] [] (by rfl) (fun c => ?_) (fun c => ?_)
          ·
            have c14 : (i8 6273).toInt ≤ (i8 6274).toInt := kd_le c; clear c
            refine ft_go mi_k44 2 77 [(1, .int l1_8), (0, .ref 98)] [.ref (r8 2)] i8 a8 q8 r8 (by rfl) ?_
            refine ko_eq (x1 := (77, [(1, .int l1_8), (0, .ref 98)], [.ref 10], (0, 0), ks i8 a8 q8 r8)) (by rw [eRr8_2]) ?_
            have hJ15 := kG_i hG10 640 rfl (v := 1) ⟨(op62 kop1), (op63 kop1)⟩
            refine ft_go mi_k44 3 82 [(1, .int l1_8), (0, .ref 98)] [.int (-1)] (ku i8 640 1) a8 q8 r8 (by rfl) ?_
            exact ft_ret mi_k44 (by rfl) (hP (-1) _ _ _ _ hJ15 ⟨(op161 kopm1), (rd_ok hD11 (op7 c13 fi8_6275.1 kop0) (op116 c14 efi8_6273 efig4_6273 efig7_6273 hn1) rfl rfl rfl)⟩)
          ·
            have c16 : (i8 6274).toInt < (i8 6273).toInt := kd_leF c; clear c
            refine ft_go mi_k44 2 72 [(1, .int l1_8), (0, .ref 98)] [.int (i8 6274)] i8 a8 q8 r8 (by rfl) ?_
            exact ft_ret mi_k44 (by rfl) (hP (i8 6274) _ _ _ _ hG10 ⟨(op159 fi8_6274.1), (rd_bad hD11 (op162 c16 efi8_6273 efig4_6273 efig7_6273 hn1) rfl (op4 fi8_6274.1))⟩)
      ·
        have c17 : l1_8.toInt < (i8 6273).toInt := kd_leF c; clear c
        refine ft_go mi_k44 2 34 [(1, .int l1_8), (0, .ref 98)] [.int 59, .ref 98] i8 a8 q8 r8 (by rfl) ?_
        refine ko_callI mi_k44.1 (pc := 34) (ls := [(1, .int l1_8), (0, .ref 98)]) (st := [.int 59, .ref 98]) (h := ks i8 a8 q8 r8) (i := (.invokevirtual 39, 3, 46, 0, 9, 0, 200)) (mi_k44.2 _ _ (by rfl)) (ft_invS mi_pq46 (by rfl)) (cy := mi_c46) mi_pq46 rfl (ke46_98 hL8.I hL8.R 59 (op163 kop59) t nn ((((hL8.fa 99 rfl).trans (kg7.fa 99 rfl)).trans (kg4.fa 99 rfl)).trans hT) (((hL8.fi 6273 rfl).trans ((kg7.fi 6273 rfl).trans (kg4.fi 6273 rfl))).trans hN) hX) (by decide) ?_
        intro vg18 ig18 ag18 qg18 rg18 kg18 hg18
        have hGg18 := kG_call hL8 kg18 (by decide +kernel)
        have eRrg18_2 : rg18 2 = 10 := (kg18.fr 2 rfl).trans eRr8_2
        obtain ⟨hg18, og18⟩ := hg18
        have fig18_6274 : ((0 : Int) ≤ (ig18 6274).toInt) ∧ ((ig18 6274).toInt ≤ 120) := hGg18.I.1 6274
        have z19 : ((vg18.toInt = 1) ∧ ((ig18 6274).toInt = ((i8 6274).toInt + 1)) ∧ ((i8 6274).toInt < (i8 6273).toInt) ∧ ((i8 6275).toInt = 0)) ∨ ((vg18.toInt = 0) ∧ ((ig18 6274).toInt = (i8 6274).toInt)) := hg18
        refine ft_if mi_k44 (vg18 == 0) 50 40 [(1, .int l1_8), (0, .ref 98)] [] (by rfl) (fun c => ?_) (fun c => ?_)
        ·
          have c20 : vg18.toInt = (0 : Int32).toInt := kd_eq c; clear c
          have hG21 := kG_call hGg7 hGg18 (by decide +kernel)
          have hD22 : (ig18 6274, ig18 6275, ag18 11, ag18 12, ig18 643) = (cTxt t nn (a 11) (a 12)) := cLL_out O8_0 (kj_sub1 (n := nn.toInt) (op118 c17 efi8_6273 efig4_6273 efig7_6273 hn1) (op4 p8_0)) (tTk og18 (kg18.fi 6275 rfl) (kT3 (kg18.fa 11 rfl) (kg18.fa 12 rfl) (kg18.fi 643 rfl))) (op98 c20 kop0)
          have fig18_6275 : ((0 : Int) ≤ (ig18 6275).toInt) ∧ ((ig18 6275).toInt ≤ 1) := hG21.I.1 6275
          refine ft_go mi_k44 2 54 [(1, .int l1_8), (0, .ref 98)] [.int (ig18 6275)] ig18 ag18 qg18 rg18 (by rfl) ?_
          refine ft_if mi_k44 ((ig18 6275) != 0) 68 57 [(1, .int l1_8), (0, .ref 98)] [] (by rfl) (fun c => ?_) (fun c => ?_)
          ·
            have c23 : (ig18 6275).toInt ≠ (0 : Int32).toInt := kd_ne c; clear c
            refine ft_go mi_k44 2 72 [(1, .int l1_8), (0, .ref 98)] [.int (ig18 6274)] ig18 ag18 qg18 rg18 (by rfl) ?_
            exact ft_ret mi_k44 (by rfl) (hP (ig18 6274) _ _ _ _ hG21 ⟨(op159 fig18_6274.1), (rd_bad hD22 (op160 c23 fig18_6275.1 kop0) rfl (op4 fig18_6274.1))⟩)
          ·
            have c24 : (ig18 6275).toInt = (0 : Int32).toInt := kd_neF c; clear c
            have efig18_6273 : (ig18 6273).toInt = (i8 6273).toInt := kg18.ti 6273 rfl
            refine ft_go mi_k44 4 65 [(1, .int l1_8), (0, .ref 98)] [.int (ig18 6273), .int (ig18 6274)] ig18 ag18 qg18 rg18 (by rfl) ?_
            refine ft_if mi_k44 (decide ((ig18 6273) ≤ (ig18 6274))) 73 68 [(1, .int l1_8), (0, .ref 98)] [] (by rfl) (fun c => ?_) (fun c => ?_)
            ·
              have c25 : (ig18 6273).toInt ≤ (ig18 6274).toInt := kd_le c; clear c
              refine ft_go mi_k44 2 77 [(1, .int l1_8), (0, .ref 98)] [.ref (rg18 2)] ig18 ag18 qg18 rg18 (by rfl) ?_
              refine ko_eq (x1 := (77, [(1, .int l1_8), (0, .ref 98)], [.ref 10], (0, 0), ks ig18 ag18 qg18 rg18)) (by rw [eRrg18_2]) ?_
              have hJ26 := kG_i hG21 640 rfl (v := 1) ⟨(op62 kop1), (op63 kop1)⟩
              refine ft_go mi_k44 3 82 [(1, .int l1_8), (0, .ref 98)] [.int (-1)] (ku ig18 640 1) ag18 qg18 rg18 (by rfl) ?_
              exact ft_ret mi_k44 (by rfl) (hP (-1) _ _ _ _ hJ26 ⟨(op161 kopm1), (rd_ok hD22 (op7 c24 fig18_6275.1 kop0) (op164 c25 efi8_6273 efig18_6273 efig4_6273 efig7_6273 hn1) rfl rfl rfl)⟩)
            ·
              have c27 : (ig18 6274).toInt < (ig18 6273).toInt := kd_leF c; clear c
              refine ft_go mi_k44 2 72 [(1, .int l1_8), (0, .ref 98)] [.int (ig18 6274)] ig18 ag18 qg18 rg18 (by rfl) ?_
              exact ft_ret mi_k44 (by rfl) (hP (ig18 6274) _ _ _ _ hG21 ⟨(op159 fig18_6274.1), (rd_bad hD22 (op165 c27 efi8_6273 efig18_6273 efig4_6273 efig7_6273 hn1) rfl (op4 fig18_6274.1))⟩)
        ·
          have c28 : vg18.toInt ≠ (0 : Int32).toInt := kd_eqF c; clear c
          refine ft_go mi_k44 1 41 [(1, .int l1_8), (0, .ref 98)] [.ref 98] ig18 ag18 qg18 rg18 (by rfl) ?_
          refine ko_callN mi_k44.1 (pc := 41) (ls := [(1, .int l1_8), (0, .ref 98)]) (st := [.ref 98]) (h := ks ig18 ag18 qg18 rg18) (i := (.invokevirtual 36, 3, 48, 0, 9, 0, 177)) (mi_k44.2 _ _ (by rfl)) (ft_invS mi_pq48 (by rfl)) (cy := mi_c48) mi_pq48 rfl (ke48_98_L10 hGg18.I hGg18.R t nn (((((kg18.fa 99 rfl).trans (hL8.fa 99 rfl)).trans (kg7.fa 99 rfl)).trans (kg4.fa 99 rfl)).trans hT) (((kg18.fi 6273 rfl).trans ((hL8.fi 6273 rfl).trans ((kg7.fi 6273 rfl).trans (kg4.fi 6273 rfl)))).trans hN) eRrg18_2 hX) (by decide) ?_
          intro ig29 ag29 qg29 rg29 kg29 hg29
          have hGg29 := kG_call hGg18 kg29 (by decide +kernel)
          have eRrg29_2 : rg29 2 = 10 := (kg29.fr 2 rfl).trans eRrg18_2
          obtain ⟨hg29, og29⟩ := hg29
          have s30 : (l1_8 + 1).toInt = l1_8.toInt + (1 : Int32).toInt := kd_add (op18 p8_0 kop1) (op117 c17 fi8_6273.2 kop1)
          refine ft_go mi_k44 2 23 [(1, .int (l1_8 + 1)), (0, .ref 98)] [] ig29 ag29 qg29 rg29 (by rfl) ?_
          have efig18_6273 : (ig18 6273).toInt = (i8 6273).toInt := kg18.ti 6273 rfl
          have efig29_6273 : (ig29 6273).toInt = (ig18 6273).toInt := kg29.ti 6273 rfl
          exact ih8 _ _ _ _ _ hGg29 (op20 p8_0 s30 kop1) (cLL_again O8_0 (kj_sub2 (n := nn.toInt) (op118 c17 efi8_6273 efig4_6273 efig7_6273 hn1) (op4 p8_0) (op30 s30 kop1)) (tTk og18 (kg18.fi 6275 rfl) (kT3 (kg18.fa 11 rfl) (kg18.fa 12 rfl) (kg18.fi 643 rfl))) (op146 c28 z19 kop0) og29) (kj_meas (op166 efig18_6273 efig29_6273 s30 kop1) (op121 c17) hm8)
  exact lp8 _ _ _ _ _ _ (kG_self _ hGg7.I hGg7.R) (op36 kop0) (cLL_begin og7 (kS5 (show ig4 6274 = 0 from (by first | rfl | (simp only [(show ig4 6274 = (0 : Int32) from kg4.fi 6274 rfl), sMn, sMx]; done) | (simp only [(show ig4 6274 = (0 : Int32) from kg4.fi 6274 rfl), sMn, sMx]; rfl))) (show ig4 6275 = 0 from (by first | rfl | (simp only [(show ig4 6275 = (0 : Int32) from kg4.fi 6275 rfl), sMn, sMx]; done) | (simp only [(show ig4 6275 = (0 : Int32) from kg4.fi 6275 rfl), sMn, sMx]; rfl))) (show ag4 11 = a 11 from (by first | rfl | (simp only [kg4.fa 11 rfl, sMn, sMx]; done) | (simp only [kg4.fa 11 rfl, sMn, sMx]; rfl))) (show ag4 12 = a 12 from (by first | rfl | (simp only [kg4.fa 12 rfl, sMn, sMx]; done) | (simp only [kg4.fa 12 rfl, sMn, sMx]; rfl))) (show ig4 643 = 0 from (by first | rfl | (simp only [q6, sMn, sMx]; done) | (simp only [q6, sMn, sMx]; rfl)))) (kj_sub00 kop0)) (Nat.lt_succ_self _)
def yw86_0_L10 : kW := ([640, 643, 6273, 6274, 6275], [11, 12], [], [0, 2])
set_option maxRecDepth 100000 in
theorem ke86_0_L10 {i : Nat → Int32} {a : Nat → List Int32} {q : Nat → List Int64} {r : Nat → Nat} (hI : kI i a q) (hr : kr r) (t : List Int32) (nn : Int32) (hT : a 99 = t) (hN : i 6273 = nn) (hL : r 2 = 10) (hX : kBy t) : km 57 86 [.ref 0] (ks i a q r) (kVI yw86_0_L10 i a q r (fun v i1 a1 q1 r1 => ((i1 6273).toInt = 0) ∧ ((cOk nn (cTxt t nn (a 11) (a 12)) ∧ v = 1 ∧ r1 0 = 10 ∧ r1 2 = 100 ∧ i1 640 = 1 ∧ (a1 11, a1 12, i1 643) = (cTxt t nn (a 11) (a 12)).2.2) ∨ (¬ cOk nn (cTxt t nn (a 11) (a 12)) ∧ v = -100 - (cTxt t nn (a 11) (a 12)).1 ∧ r1 0 = 100 ∧ r1 2 = 10)))) := by
  have hG := kG_self yw86_0_L10 hI hr
  refine km_ofI (q := (mi_h86, mi_c86)) rfl (by decide) (Nat.le_of_ble_eq_true rfl) ?_
  intro P hP
  have hn1 : (i 6273).toInt = nn.toInt := congrArg Int32.toInt hN
  have eRr_2 : r 2 = 10 := hL
  have eRr_0 : r 0 = 100 := kr_0 hr hL (by decide)
  refine ft_go mi_k86 2 4 [(0, .ref 0)] [.ref 98] i a q r (by rfl) ?_
  refine ko_callI mi_k86.1 (pc := 4) (ls := [(0, .ref 0)]) (st := [.ref 98]) (h := ks i a q r) (i := (.invokevirtual 113, 3, 44, 0, 9, 0, 175)) (mi_k86.2 _ _ (by rfl)) (ft_invS mi_pq44 (by rfl)) (cy := mi_c44) mi_pq44 rfl (ke44_98_L10 hG.I hG.R t nn hT hN eRr_2 hX) (by decide) ?_
  intro vg2 ig2 ag2 qg2 rg2 kg2 hg2
  have hGg2 := kG_call hG kg2 (by decide +kernel)
  have eRrg2_0 : rg2 0 = 100 := (kg2.fr 0 rfl).trans eRr_0
  have eRrg2_2 : rg2 2 = 10 := (kg2.fr 2 rfl).trans eRr_2
  obtain ⟨hg2, og2⟩ := hg2
  have hJ4 := kG_i hGg2 6273 rfl (v := 0) ⟨(op36 kop0), (op156 kop0)⟩
  refine ft_go mi_k86 6 17 [(1, .int vg2), (0, .ref 0)] [.int vg2] (ku ig2 6273 0) ag2 qg2 rg2 (by rfl) ?_
  refine ft_if mi_k86 (decide (vg2 < 0)) 25 20 [(1, .int vg2), (0, .ref 0)] [] (by rfl) (fun c => ?_) (fun c => ?_)
  ·
    have c5 : vg2.toInt < (0 : Int32).toInt := kd_lt c; clear c
    refine ft_go mi_k86 7 40 [(1, .int vg2), (0, .ref 0)] [.ref (rg2 0), .ref 98, .ref 1] (ku ig2 6273 0) ag2 qg2 rg2 (by rfl) ?_
    refine ko_eq (x1 := (40, [(1, .int vg2), (0, .ref 0)], [.ref 100, .ref 98, .ref 1], (0, 0), ks (ku ig2 6273 0) ag2 qg2 rg2)) (by rw [eRrg2_0]) ?_
    refine ko_callP mi_k86.1 (pc := 40) (ls := [(1, .int vg2), (0, .ref 0)]) (st := [.ref 100, .ref 98, .ref 1]) (h := ks (ku ig2 6273 0) ag2 qg2 rg2) (i := (.invokevirtual 121, 3, 43, 0, 9, 0, 205)) (mi_k86.2 _ _ (by rfl)) (ft_invS mi_pq43 (by rfl)) (cy := mi_c43) mi_pq43 rfl (kc43 (ku ig2 6273 0) ag2 qg2 rg2 100) (by decide) ?_
    rintro _ _ ⟨rfl, rfl⟩
    refine ko_eq (x1 := (43, [(1, .int vg2), (0, .ref 0)], [.ref 10, .ref 1], (0, 0), ks (ku ig2 6273 0) ag2 qg2 (ku rg2 2 100))) (by rw [eRrg2_2] <;> rfl) ?_
    have hJ6 := kG_r2 hJ4 2 rfl 0 rfl (v := 100) (v2 := 10) (by first | exact ⟨Or.inl ⟨rfl, rfl⟩, hJ4.R.2⟩ | exact ⟨Or.inr ⟨rfl, rfl⟩, hJ4.R.2⟩)
    refine ko_steps mi_in86 2 _ (47, [(1, .int vg2), (0, .ref 0)], [.int 1], (0, 0), ks (ku ig2 6273 0) ag2 qg2 (ku (ku rg2 2 100) 0 10)) (by rfl) ?_
    exact ft_ret mi_k86 (by rfl) (hP 1 _ _ _ _ hJ6 ⟨(op41 kop0), (lw_ok og2 (op167 c5 kop0) rfl rfl rfl rfl (kT3 rfl rfl rfl))⟩)
  ·
    have c7 : (0 : Int32).toInt ≤ vg2.toInt := kd_ltF c; clear c
    have b8 : ((-2147483648 : Int) ≤ vg2.toInt) ∧ (vg2.toInt ≤ 2147483647) := kd_bd vg2
    refine ft_go mi_k86 3 24 [(1, .int vg2), (0, .ref 0)] [.int ((-100) - vg2)] (ku ig2 6273 0) ag2 qg2 rg2 (by rfl) ?_
    exact ft_ret mi_k86 (by rfl) (hP ((-100) - vg2) _ _ _ _ hJ4 ⟨(op41 kop0), (lw_bad og2 (op153 c7 kop0) rfl eRrg2_0 eRrg2_2)⟩)
def zw17_100 : kW := ([6403], [101, 102], [], [])
set_option maxRecDepth 100000 in
theorem kf17_100 {i : Nat → Int32} {a : Nat → List Int32} {q : Nat → List Int64} {r : Nat → Nat} (hI : kI i a q) (hr : kr r) (x1 : Int32) (x2 : Int32) : km 1 17 [.ref 100, .int x1, .int x2] (ks i a q r) (kVI zw17_100 i a q r (fun v i1 a1 q1 r1 => ((((i 6403).toInt ≤ 120) ∧ ((i1 6403).toInt = ((i 6403).toInt + 1))) ∨ (((121 : Int) ≤ (i 6403).toInt) ∧ ((i1 6403).toInt = (i 6403).toInt))) ∧ ((a1 101, a1 102, i1 6403) = lAdd x1 x2 (a 101, a 102, i 6403) ∧ v = i1 6403 - 1))) := by
  have hG := kG_self zw17_100 hI hr
  refine km_ofI (q := (mi_h17, mi_c17)) rfl (by decide) (Nat.le_of_ble_eq_true rfl) ?_
  intro P hP
  have fi_6403 : ((0 : Int) ≤ (i 6403).toInt) ∧ ((i 6403).toInt ≤ 121) := hG.I.1 6403
  refine ft_go mi_k17 3 6 [(0, .ref 100), (1, .int x1), (2, .int x2)] [.int 121, .int (i 6403)] i a q r (by rfl) ?_
  refine ft_if mi_k17 (decide (121 ≤ (i 6403))) 39 9 [(0, .ref 100), (1, .int x1), (2, .int x2)] [] (by rfl) (fun c => ?_) (fun c => ?_)
  ·
    have c1 : (121 : Int32).toInt ≤ (i 6403).toInt := kd_le c; clear c
    have s2 : ((i 6403) - 1).toInt = (i 6403).toInt - (1 : Int32).toInt := kd_sub (op13 c1 kop121 kop1) (op14 fi_6403.2 kop1)
    refine ft_go mi_k17 4 45 [(0, .ref 100), (1, .int x1), (2, .int x2)] [.int ((i 6403) - 1)] i a q r (by rfl) ?_
    exact ft_ret mi_k17 (by rfl) (hP ((i 6403) - 1) _ _ _ _ hG ⟨(op15 c1 kop121), ⟨(show (a 101, a 102, i 6403) = (a 101, a 102, i 6403) from rfl).trans (if_neg (op16 c1 kop121)).symm, rfl⟩⟩)
  ·
    have c3 : (i 6403).toInt < (121 : Int32).toInt := kd_leF c; clear c
    refine ft_go mi_k17 5 18 [(0, .ref 100), (1, .int x1), (2, .int x2)] [.int x1, .int (i 6403), .ref 101] i a q r (by rfl) ?_
    refine ko_iast3 mi_k17.1 (n := 121) (c := 121) (ax := (0, 0, 0, 0, 0)) (mi_k17.2 _ _ (by rfl)) (by rfl) (ksG101 _ _ _ _) (ksA101 _ _ _ _) (hG.I.2.1 101) rfl (op4 fi_6403.1) (op17 c3 kop121) ?_
    intro a4 ea4 fa4
    have hJ4 := kG_a3 hG 101 rfl ea4 fa4 (kd_bd _)
    refine ft_go mi_k17 5 28 [(0, .ref 100), (1, .int x1), (2, .int x2)] [.int x2, .int (i 6403), .ref 102] i a4 q r (by rfl) ?_
    refine ko_iast3 mi_k17.1 (n := 121) (c := 121) (ax := (0, 0, 0, 0, 0)) (mi_k17.2 _ _ (by rfl)) (by rfl) (ksG102 _ _ _ _) (ksA102 _ _ _ _) (hJ4.I.2.1 102) rfl (op4 fi_6403.1) (op17 c3 kop121) ?_
    intro a5 ea5 fa5
    have hJ5 := kG_a3 hJ4 102 rfl ea5 fa5 (kd_bd _)
    have s6 : ((i 6403) + 1).toInt = (i 6403).toInt + (1 : Int32).toInt := kd_add (op18 fi_6403.1 kop1) (op19 fi_6403.2 kop1)
    have hJ7 := kG_i hJ5 6403 rfl (v := ((i 6403) + 1)) ⟨(op20 fi_6403.1 s6 kop1), (op21 c3 s6 kop121 kop1)⟩
    have s8 : (((i 6403) + 1) - 1).toInt = ((i 6403) + 1).toInt - (1 : Int32).toInt := kd_sub (op22 fi_6403.1 s6 kop1) (op23 fi_6403.2 s6 kop1)
    refine ft_go mi_k17 10 45 [(0, .ref 100), (1, .int x1), (2, .int x2)] [.int (((i 6403) + 1) - 1)] (ku i 6403 ((i 6403) + 1)) a5 q r (by rfl) ?_
    exact ft_ret mi_k17 (by rfl) (hP (((i 6403) + 1) - 1) _ _ _ _ hJ7 ⟨(op24 c3 s6 kop121 kop1), ⟨(show (a5 101, a5 102, ((i 6403) + 1)) = ((a 101).set (i 6403).toNatClampNeg x1, (a 102).set (i 6403).toNatClampNeg x2, i 6403 + 1) from by rw [fa5 101 (by decide), ea4, ea5, fa4 102 (by decide)]).trans (if_pos (op25 c3 kop121)).symm, rfl⟩⟩)
def yw55_98_L100 : kW := ([6274, 6403], [101, 102], [], [])
def yw55_98_L100_L4 : kW := ([6274], [], [], [])
set_option maxRecDepth 100000 in
theorem ke55_98_L100 {i : Nat → Int32} {a : Nat → List Int32} {q : Nat → List Int64} {r : Nat → Nat} (hI : kI i a q) (hr : kr r) (t : List Int32) (nn : Int32) (hT : a 99 = t) (hN : i 6273 = nn) (hL : r 2 = 100) (hX : kBy t) : km 3 55 [.ref 98] (ks i a q r) (kVN yw55_98_L100 i a q r (fun i1 a1 q1 r1 => (True) ∧ (i1 6274, i1 6275, a1 101, a1 102, i1 6403) = cNum t nn (i 6274, i 6275, a 101, a 102, i 6403))) := by
  have hG := kG_self yw55_98_L100 hI hr
  refine km_ofN (q := (mi_h55, mi_c55)) rfl (by decide) (Nat.le_of_ble_eq_true rfl) ?_
  intro P hP
  have hn1 : (i 6273).toInt = nn.toInt := congrArg Int32.toInt hN
  have eRr_2 : r 2 = 100 := hL
  refine ft_go mi_k55 4 4 [(2, .int 0), (1, .int 0), (0, .ref 98)] [] i a q r (by rfl) ?_
  have lp2 : ∀ (nz : Nat) (i2 : Nat → Int32) (a2 : Nat → List Int32) (q2 : Nat → List Int64) (r2 : Nat → Nat) (l2_2 : Int32) (l1_2 : Int32), kG yw55_98_L100_L4 i a q r i2 a2 q2 r2 → (0 : Int) ≤ l2_2.toInt → cDig t nn (4 - l2_2.toInt).toNat (l1_2, (i2 6274, i2 6275, a2 101, a2 102, i2 6403)) = cDig t nn 4 (0, (i 6274, i 6275, a 101, a 102, i 6403)) → ((4 - l2_2.toInt)).toNat < nz → ko 3 (mi_h55, mi_c55) P (4, [(2, .int l2_2), (1, .int l1_2), (0, .ref 98)], [], (0, 0), ks i2 a2 q2 r2) := by
    intro nz
    induction nz with
    | zero =>
      intro _ _ _ _ _ _ _ _ _ hm
      exact absurd hm (Nat.not_lt_zero _)
    | succ nz ih2 =>
      intro i2 a2 q2 r2 l2_2 l1_2 hL2 p2_0 O2_0 hm2
      have eRr2_2 : r2 2 = 100 := (hL2.fr 2 rfl).trans eRr_2
      refine ft_go mi_k55 2 6 [(2, .int l2_2), (1, .int l1_2), (0, .ref 98)] [.int 4, .int l2_2] i2 a2 q2 r2 (by rfl) ?_
      refine ft_if mi_k55 (decide (4 ≤ l2_2)) 48 9 [(2, .int l2_2), (1, .int l1_2), (0, .ref 98)] [] (by rfl) (fun c => ?_) (fun c => ?_)
      ·
        have c3 : (4 : Int32).toInt ≤ l2_2.toInt := kd_le c; clear c
        have hG4 := kG_call hG hL2 (by decide +kernel)
        have hD5 : (l1_2, (i2 6274, i2 6275, a2 101, a2 102, i2 6403)) = cDig t nn 4 (0, (i 6274, i 6275, a 101, a 102, i 6403)) := cDg_end O2_0 (kj_sub0 (n := 4) (op12 c3 kop4))
        refine ft_go mi_k55 2 52 [(2, .int l2_2), (1, .int l1_2), (0, .ref 98)] [.ref (r2 2)] i2 a2 q2 r2 (by rfl) ?_
        refine ko_eq (x1 := (52, [(2, .int l2_2), (1, .int l1_2), (0, .ref 98)], [.ref 100], (0, 0), ks i2 a2 q2 r2)) (by rw [eRr2_2]) ?_
        refine ft_go mi_k55 2 54 [(2, .int l2_2), (1, .int l1_2), (0, .ref 98)] [.int l1_2, .int 0, .ref 100] i2 a2 q2 r2 (by rfl) ?_
        refine ko_callI mi_k55.1 (pc := 54) (ls := [(2, .int l2_2), (1, .int l1_2), (0, .ref 98)]) (st := [.int l1_2, .int 0, .ref 100]) (h := ks i2 a2 q2 r2) (i := (.invokevirtual 60, 3, 17, 0, 9, 0, 187)) (mi_k55.2 _ _ (by rfl)) (ft_invS mi_pq17 (by rfl)) (cy := mi_c17) mi_pq17 rfl (kf17_100 hG4.I hG4.R 0 l1_2) (by decide) ?_
        intro vg6 ig6 ag6 qg6 rg6 kg6 hg6
        have hGg6 := kG_call hG4 kg6 (by decide +kernel)
        have eRrg6_2 : rg6 2 = 100 := (kg6.fr 2 rfl).trans eRr2_2
        obtain ⟨hg6, og6⟩ := hg6
        refine ft_go mi_k55 1 58 [(2, .int l2_2), (1, .int l1_2), (0, .ref 98)] [] ig6 ag6 qg6 rg6 (by rfl) ?_
        exact ft_ret mi_k55 (by rfl) (hP  _ _ _ _ hGg6 ⟨trivial, (cNu_of hD5 (tAdd og6.1 (kg6.fi 6274 rfl) (kg6.fi 6275 rfl)))⟩)
      ·
        have c8 : l2_2.toInt < (4 : Int32).toInt := kd_leF c; clear c
        refine ft_go mi_k55 1 10 [(2, .int l2_2), (1, .int l1_2), (0, .ref 98)] [.ref 98] i2 a2 q2 r2 (by rfl) ?_
        refine ko_callPI mi_k55.1 (pc := 10) (ls := [(2, .int l2_2), (1, .int l1_2), (0, .ref 98)]) (st := [.ref 98]) (h := ks i2 a2 q2 r2) (i := (.invokevirtual 46, 3, 45, 0, 9, 0, 184)) (mi_k55.2 _ _ (by rfl)) (ft_invS mi_pq45 (by rfl)) (cy := mi_c45) mi_pq45 rfl (ke45_98 hL2.I hL2.R t nn ((hL2.fa 99 rfl).trans hT) ((hL2.fi 6273 rfl).trans hN) hX) (by decide) ?_
        intro vg9 hg9
        obtain ⟨hg9, og9⟩ := hg9
        have fi2_6274 : ((0 : Int) ≤ (i2 6274).toInt) ∧ ((i2 6274).toInt ≤ 120) := hL2.I.1 6274
        have fi2_6273 : ((0 : Int) ≤ (i2 6273).toInt) ∧ ((i2 6273).toInt ≤ 120) := hL2.I.1 6273
        have z10 : (((-1) : Int) ≤ vg9.toInt) ∧ (vg9.toInt ≤ 255) ∧ ((vg9.toInt = (-1)) ∨ (((i2 6275).toInt = 0) ∧ ((i2 6274).toInt < (i2 6273).toInt))) := hg9
        have q11 : vg9 = cHr t nn (i2 6274) (i2 6275) := og9
        have hv12 : vg9.toInt = (cHr t nn (i2 6274) (i2 6275)).toInt := congrArg Int32.toInt og9
        refine ko_callPI mi_k55.1 (pc := 13) (ls := [(2, .int l2_2), (1, .int l1_2), (0, .ref 98)]) (st := [.int vg9]) (h := ks i2 a2 q2 r2) (i := (.invokestatic 92, 3, 56, 0, 9, 0, 185)) (mi_k55.2 _ _ (by rfl)) (ft_invS mi_pq56 (by rfl)) (cy := mi_c56) mi_pq56 rfl (kc56 hL2.I hL2.R vg9) (by decide) ?_
        intro vg13 hg13
        rcases hg13 with ⟨eg13, hg13⟩ | ⟨eg13, hg13⟩
        ·
          subst eg13
          have z14 : ((48 : Int) ≤ vg9.toInt) ∧ (vg9.toInt ≤ 57) := hg13
          have b15 : ((-2147483648 : Int) ≤ l1_2.toInt) ∧ (l1_2.toInt ≤ 2147483647) := kd_bd l1_2
          refine ft_go mi_k55 5 24 [(2, .int l2_2), (1, .int l1_2), (0, .ref 98)] [.ref 98, .int (l1_2 * 10)] i2 a2 q2 r2 (by rfl) ?_
          refine ko_callPI mi_k55.1 (pc := 24) (ls := [(2, .int l2_2), (1, .int l1_2), (0, .ref 98)]) (st := [.ref 98, .int (l1_2 * 10)]) (h := ks i2 a2 q2 r2) (i := (.invokevirtual 46, 3, 45, 0, 9, 0, 184)) (mi_k55.2 _ _ (by rfl)) (ft_invS mi_pq45 (by rfl)) (cy := mi_c45) mi_pq45 rfl (ke45_98 hL2.I hL2.R t nn ((hL2.fa 99 rfl).trans hT) ((hL2.fi 6273 rfl).trans hN) hX) (by decide) ?_
          intro vg16 hg16
          obtain ⟨hg16, og16⟩ := hg16
          have q18 : vg16 = cHr t nn (i2 6274) (i2 6275) := og16
          have hv19 : vg16.toInt = (cHr t nn (i2 6274) (i2 6275)).toInt := congrArg Int32.toInt og16
          have b20 : ((-2147483648 : Int) ≤ (l1_2 * 10).toInt) ∧ ((l1_2 * 10).toInt ≤ 2147483647) := kd_bd (l1_2 * 10)
          have b21 : ((-2147483648 : Int) ≤ vg16.toInt) ∧ (vg16.toInt ≤ 2147483647) := kd_bd vg16
          have b22 : ((-2147483648 : Int) ≤ ((l1_2 * 10) + vg16).toInt) ∧ (((l1_2 * 10) + vg16).toInt ≤ 2147483647) := kd_bd ((l1_2 * 10) + vg16)
          have s23 : ((i2 6274) + 1).toInt = (i2 6274).toInt + (1 : Int32).toInt := kd_add (op18 fi2_6274.1 kop1) (op26 fi2_6274.2 kop1)
          have hJ24 := kG_i hL2 6274 rfl (v := ((i2 6274) + 1)) ⟨(op20 fi2_6274.1 s23 kop1), (op27 fi2_6273.2 s23 z10.2.2 z14.1 kop1)⟩
          have s25 : (l2_2 + 1).toInt = l2_2.toInt + (1 : Int32).toInt := kd_add (op18 p2_0 kop1) (op28 c8 kop4 kop1)
          refine ft_go mi_k55 12 4 [(2, .int (l2_2 + 1)), (1, .int (((l1_2 * 10) + vg16) - 48)), (0, .ref 98)] [] (ku i2 6274 ((i2 6274) + 1)) a2 q2 r2 (by rfl) ?_
          exact ih2 _ _ _ _ _ _ hJ24 (op20 p2_0 s25 kop1) (cDg_again O2_0 (kj_sub2 (n := 4) (op29 c8 kop4) (op4 p2_0) (op30 s25 kop1)) (op31 hv12 z14.1) (op32 hv12 z14.2) (congrArg (fun z : Int32 => ((l1_2 * 10) + z) - 48) og16) rfl) (kj_meas (op33 s25 kop1) (op34 c8 kop4) hm2)
        ·
          subst eg13
          have z26 : ¬ (((48 : Int) ≤ vg9.toInt) ∧ (vg9.toInt ≤ 57)) := hg13
          refine ft_go mi_k55 1 48 [(2, .int l2_2), (1, .int l1_2), (0, .ref 98)] [] i2 a2 q2 r2 (by rfl) ?_
          have hG27 := kG_call hG hL2 (by decide +kernel)
          have hD28 : (l1_2, (i2 6274, i2 6275, a2 101, a2 102, i2 6403)) = cDig t nn 4 (0, (i 6274, i 6275, a 101, a 102, i 6403)) := cDg_out O2_0 (op35 hv12 z26)
          refine ft_go mi_k55 2 52 [(2, .int l2_2), (1, .int l1_2), (0, .ref 98)] [.ref (r2 2)] i2 a2 q2 r2 (by rfl) ?_
          refine ko_eq (x1 := (52, [(2, .int l2_2), (1, .int l1_2), (0, .ref 98)], [.ref 100], (0, 0), ks i2 a2 q2 r2)) (by rw [eRr2_2]) ?_
          refine ft_go mi_k55 2 54 [(2, .int l2_2), (1, .int l1_2), (0, .ref 98)] [.int l1_2, .int 0, .ref 100] i2 a2 q2 r2 (by rfl) ?_
          refine ko_callI mi_k55.1 (pc := 54) (ls := [(2, .int l2_2), (1, .int l1_2), (0, .ref 98)]) (st := [.int l1_2, .int 0, .ref 100]) (h := ks i2 a2 q2 r2) (i := (.invokevirtual 60, 3, 17, 0, 9, 0, 187)) (mi_k55.2 _ _ (by rfl)) (ft_invS mi_pq17 (by rfl)) (cy := mi_c17) mi_pq17 rfl (kf17_100 hG27.I hG27.R 0 l1_2) (by decide) ?_
          intro vg29 ig29 ag29 qg29 rg29 kg29 hg29
          have hGg29 := kG_call hG27 kg29 (by decide +kernel)
          have eRrg29_2 : rg29 2 = 100 := (kg29.fr 2 rfl).trans eRr2_2
          obtain ⟨hg29, og29⟩ := hg29
          refine ft_go mi_k55 1 58 [(2, .int l2_2), (1, .int l1_2), (0, .ref 98)] [] ig29 ag29 qg29 rg29 (by rfl) ?_
          exact ft_ret mi_k55 (by rfl) (hP  _ _ _ _ hGg29 ⟨trivial, (cNu_of hD28 (tAdd og29.1 (kg29.fi 6274 rfl) (kg29.fi 6275 rfl)))⟩)
  exact lp2 _ _ _ _ _ _ _ (kG_self _ hG.I hG.R) (op36 kop0) (by rw [kop0]; rfl) (Nat.lt_succ_self _)
def wP100 : kW := ([6274, 6275, 6403], [101, 102], [], [])
def kMP100_54 (n : Nat) : Prop := ∀ (i : Nat → Int32) (a : Nat → List Int32) (q : Nat → List Int64) (r : Nat → Nat), kI i a q → kr r → ∀ (x1 : Int32), (((0 : Int) ≤ x1.toInt) ∧ ((x1.toInt + (n : Int)) = 6)) → ∀ (t : List Int32) (nn : Int32), a 99 = t → i 6273 = nn → r 2 = 100 → kBy t → km (6 * n + 10) 54 [.ref 98, .int x1] (ks i a q r) (kVN wP100 i a q r (fun i1 a1 q1 r1 => (True) ∧ (i1 6274, i1 6275, a1 101, a1 102, i1 6403) = (cO t nn n) (i 6274, i 6275, a 101, a 102, i 6403)))
def yw53_98_L100_L14 : kW := ([6274, 6275, 6403], [101, 102], [], [])
def kMP100_53 (n : Nat) : Prop := ∀ (i : Nat → Int32) (a : Nat → List Int32) (q : Nat → List Int64) (r : Nat → Nat), kI i a q → kr r → ∀ (x1 : Int32), (((0 : Int) ≤ x1.toInt) ∧ ((x1.toInt + (n : Int)) = 6)) → ∀ (t : List Int32) (nn : Int32), a 99 = t → i 6273 = nn → r 2 = 100 → kBy t → km (6 * n + 11) 53 [.ref 98, .int x1] (ks i a q r) (kVN wP100 i a q r (fun i1 a1 q1 r1 => (True) ∧ (i1 6274, i1 6275, a1 101, a1 102, i1 6403) = (cP3 t nn (cO t nn n)) (i 6274, i 6275, a 101, a 102, i 6403)))
def yw52_98_L100_L14 : kW := ([6274, 6275, 6403], [101, 102], [], [])
def kMP100_52 (n : Nat) : Prop := ∀ (i : Nat → Int32) (a : Nat → List Int32) (q : Nat → List Int64) (r : Nat → Nat), kI i a q → kr r → ∀ (x1 : Int32), (((0 : Int) ≤ x1.toInt) ∧ ((x1.toInt + (n : Int)) = 6)) → ∀ (t : List Int32) (nn : Int32), a 99 = t → i 6273 = nn → r 2 = 100 → kBy t → km (6 * n + 12) 52 [.ref 98, .int x1] (ks i a q r) (kVN wP100 i a q r (fun i1 a1 q1 r1 => (True) ∧ (i1 6274, i1 6275, a1 101, a1 102, i1 6403) = (cP4 t nn (cO t nn n)) (i 6274, i 6275, a 101, a 102, i 6403)))
def kMP100_51 (n : Nat) : Prop := ∀ (i : Nat → Int32) (a : Nat → List Int32) (q : Nat → List Int64) (r : Nat → Nat), kI i a q → kr r → ∀ (x1 : Int32), (((0 : Int) ≤ x1.toInt) ∧ ((x1.toInt + (n : Int)) = 6)) → ∀ (t : List Int32) (nn : Int32), a 99 = t → i 6273 = nn → r 2 = 100 → kBy t → km (6 * n + 13) 51 [.ref 98, .int x1] (ks i a q r) (kVN wP100 i a q r (fun i1 a1 q1 r1 => (True) ∧ (i1 6274, i1 6275, a1 101, a1 102, i1 6403) = (cP5 t nn (cO t nn n)) (i 6274, i 6275, a 101, a 102, i 6403)))
def yw50_98_L100_L7 : kW := ([6274, 6275, 6403], [101, 102], [], [])
def kMP100_50 (n : Nat) : Prop := ∀ (i : Nat → Int32) (a : Nat → List Int32) (q : Nat → List Int64) (r : Nat → Nat), kI i a q → kr r → ∀ (x1 : Int32), (((0 : Int) ≤ x1.toInt) ∧ ((x1.toInt + (n : Int)) = 6)) → ∀ (t : List Int32) (nn : Int32), a 99 = t → i 6273 = nn → r 2 = 100 → kBy t → km (6 * n + 14) 50 [.ref 98, .int x1] (ks i a q r) (kVN wP100 i a q r (fun i1 a1 q1 r1 => (True) ∧ (i1 6274, i1 6275, a1 101, a1 102, i1 6403) = (cP6 t nn (cO t nn n)) (i 6274, i 6275, a 101, a 102, i 6403)))
def yw49_98_L100_L7 : kW := ([6274, 6275, 6403], [101, 102], [], [])
def kMP100_49 (n : Nat) : Prop := ∀ (i : Nat → Int32) (a : Nat → List Int32) (q : Nat → List Int64) (r : Nat → Nat), kI i a q → kr r → ∀ (x1 : Int32), (((0 : Int) ≤ x1.toInt) ∧ ((x1.toInt + (n : Int)) = 6)) → ∀ (t : List Int32) (nn : Int32), a 99 = t → i 6273 = nn → r 2 = 100 → kBy t → km (6 * n + 15) 49 [.ref 98, .int x1] (ks i a q r) (kVN wP100 i a q r (fun i1 a1 q1 r1 => (True) ∧ (i1 6274, i1 6275, a1 101, a1 102, i1 6403) = (cE t nn n) (i 6274, i 6275, a 101, a 102, i 6403)))
set_option maxRecDepth 100000 in
theorem kMsP100_54 (n : Nat)  (ih : ∀ m, n = m + 1 → kMP100_49 m ∧ kMP100_54 m) : kMP100_54 n := by
  intro i a q r hI hr x1 hp0 t nn hT hN hL hX
  have hG := kG_self wP100 hI hr
  refine km_ofN (q := (mi_h54, mi_c54)) rfl (by decide) (Nat.le_of_ble_eq_true rfl) ?_
  intro P hP
  have hn0 : (0 : Int) ≤ (n : Int) := Int.natCast_nonneg n
  have hn1 : (i 6273).toInt = nn.toInt := congrArg Int32.toInt hN
  have eRr_2 : r 2 = 100 := hL
  refine ft_go mi_k54 1 1 [(0, .ref 98), (1, .int x1)] [.ref 98] i a q r (by rfl) ?_
  refine ko_callPI mi_k54.1 (pc := 1) (ls := [(0, .ref 98), (1, .int x1)]) (st := [.ref 98]) (h := ks i a q r) (i := (.invokevirtual 46, 3, 45, 0, 9, 0, 184)) (mi_k54.2 _ _ (by rfl)) (ft_invS mi_pq45 (by rfl)) (cy := mi_c45) mi_pq45 rfl (ke45_98 hG.I hG.R t nn hT hN hX) (kj_d3 (n := n) (c := 1) (o1 := 10) (by decide)) ?_
  intro vg2 hg2
  obtain ⟨hg2, og2⟩ := hg2
  have z3 : (((-1) : Int) ≤ vg2.toInt) ∧ (vg2.toInt ≤ 255) ∧ ((vg2.toInt = (-1)) ∨ (((i 6275).toInt = 0) ∧ ((i 6274).toInt < (i 6273).toInt))) := hg2
  have q4 : vg2 = cHr t nn (i 6274) (i 6275) := og2
  have hv5 : vg2.toInt = (cHr t nn (i 6274) (i 6275)).toInt := congrArg Int32.toInt og2
  refine ft_go mi_k54 2 6 [(2, .int vg2), (0, .ref 98), (1, .int x1)] [.int vg2] i a q r (by rfl) ?_
  refine ko_callPI mi_k54.1 (pc := 6) (ls := [(2, .int vg2), (0, .ref 98), (1, .int x1)]) (st := [.int vg2]) (h := ks i a q r) (i := (.invokestatic 92, 3, 56, 0, 9, 0, 185)) (mi_k54.2 _ _ (by rfl)) (ft_invS mi_pq56 (by rfl)) (cy := mi_c56) mi_pq56 rfl (kc56 hG.I hG.R vg2) (kj_d3 (n := n) (c := 1) (o1 := 10) (by decide)) ?_
  intro vg6 hg6
  rcases hg6 with ⟨eg6, hg6⟩ | ⟨eg6, hg6⟩
  ·
    subst eg6
    have z7 : ((48 : Int) ≤ vg2.toInt) ∧ (vg2.toInt ≤ 57) := hg6
    refine ft_go mi_k54 2 13 [(2, .int vg2), (0, .ref 98), (1, .int x1)] [.ref 98] i a q r (by rfl) ?_
    refine ko_callN mi_k54.1 (pc := 13) (ls := [(2, .int vg2), (0, .ref 98), (1, .int x1)]) (st := [.ref 98]) (h := ks i a q r) (i := (.invokevirtual 95, 3, 55, 0, 9, 0, 186)) (mi_k54.2 _ _ (by rfl)) (ft_invS mi_pq55 (by rfl)) (cy := mi_c55) mi_pq55 rfl (ke55_98_L100 hG.I hG.R t nn hT hN eRr_2 hX) (kj_d3 (n := n) (c := 3) (o1 := 10) (by decide)) ?_
    intro ig8 ag8 qg8 rg8 kg8 hg8
    have hGg8 := kG_call hG kg8 (by decide +kernel)
    have eRrg8_2 : rg8 2 = 100 := (kg8.fr 2 rfl).trans eRr_2
    obtain ⟨hg8, og8⟩ := hg8
    exact ft_ret mi_k54 (by rfl) (hP  _ _ _ _ hGg8 ⟨trivial, (cPt_lv (cO_any t nn n) (fun nx => cPt_num (nx := nx) (op31 hv5 z7.1) (op32 hv5 z7.2) og8))⟩)
  ·
    subst eg6
    have z9 : ¬ (((48 : Int) ≤ vg2.toInt) ∧ (vg2.toInt ≤ 57)) := hg6
    refine ft_go mi_k54 3 20 [(2, .int vg2), (0, .ref 98), (1, .int x1)] [.ref (mi_RO + 10), .ref 98] i a q r (by rfl) ?_
    refine ko_callI mi_k54.1 (pc := 20) (ls := [(2, .int vg2), (0, .ref 98), (1, .int x1)]) (st := [.ref (mi_RO + 10), .ref 98]) (h := ks i a q r) (i := (.invokevirtual 78, 3, 47, 0, 9, 0, 189)) (mi_k54.2 _ _ (by rfl)) (ft_invS mi_pq47 (by rfl)) (cy := mi_c47) mi_pq47 rfl (ke47_98_1000010 hG.I hG.R t nn hT hN hX) (kj_d3 (n := n) (c := 9) (o1 := 10) (by decide)) ?_
    intro vg10 ig10 ag10 qg10 rg10 kg10 hg10
    have hGg10 := kG_call hG kg10 (by decide +kernel)
    have eRrg10_2 : rg10 2 = 100 := (kg10.fr 2 rfl).trans eRr_2
    obtain ⟨hg10, og10⟩ := hg10
    have z11 : ((vg10.toInt = (-1)) ∧ ((ig10 6274).toInt = (i 6274).toInt)) ∨ (((ig10 6274).toInt = ((i 6274).toInt + 1)) ∧ ((i 6274).toInt < (i 6273).toInt) ∧ ((i 6275).toInt = 0) ∧ ((vg10.toInt = 119) ∨ (vg10.toInt = 112) ∨ (vg10.toInt = 104) ∨ (vg10.toInt = 110) ∨ (vg10.toInt = 111) ∨ (vg10.toInt = 100))) := hg10
    have ho12 : vg10.toInt = (-1) ∨ vg10.toInt = (cHr t nn (i 6274) (i 6275)).toInt := tOf_v og10
    refine ft_go mi_k54 3 26 [(3, .int vg10), (2, .int vg2), (0, .ref 98), (1, .int x1)] [.int (-1), .int vg10] ig10 ag10 qg10 rg10 (by rfl) ?_
    refine ft_if mi_k54 (vg10 == (-1)) 46 29 [(3, .int vg10), (2, .int vg2), (0, .ref 98), (1, .int x1)] [] (by rfl) (fun c => ?_) (fun c => ?_)
    ·
      have c13 : vg10.toInt = ((-1) : Int32).toInt := kd_eq c; clear c
      refine ft_go mi_k54 2 49 [(3, .int vg10), (2, .int vg2), (0, .ref 98), (1, .int x1)] [.int 6, .int x1] ig10 ag10 qg10 rg10 (by rfl) ?_
      refine ft_if mi_k54 (decide (6 ≤ x1)) 62 52 [(3, .int vg10), (2, .int vg2), (0, .ref 98), (1, .int x1)] [] (by rfl) (fun c => ?_) (fun c => ?_)
      ·
        have c14 : (6 : Int32).toInt ≤ x1.toInt := kd_le c; clear c
        have hJ15 := kG_i hGg10 6275 rfl (v := 1) ⟨(op62 kop1), (op63 kop1)⟩
        refine ft_go mi_k54 3 67 [(3, .int vg10), (2, .int vg2), (0, .ref 98), (1, .int x1)] [] (ku ig10 6275 1) ag10 qg10 rg10 (by rfl) ?_
        have tb16 : (ig10 6274, (1 : Int32), ag10 101, ag10 102, ig10 6403) = cBad (ig10 6274, ig10 6275, ag10 101, ag10 102, ig10 6403) := (tBad rfl rfl (kT3 rfl rfl rfl))
        have to17 : (vg10, (ig10 6274, ig10 6275, ag10 101, ag10 102, ig10 6403)) = cOf t nn oNam (i 6274, i 6275, a 101, a 102, i 6403) := (tOf og10 (kg10.fi 6275 rfl) (kT3 (kg10.fa 101 rfl) (kg10.fa 102 rfl) (kg10.fi 6403 rfl)))
        have te18 : (ig10 6274, ig10 6275, ag10 101, ag10 102, ig10 6403) = (i 6274, i 6275, a 101, a 102, i 6403) := cOf_no to17 (op64 c13 kopm1) oNam_ne
        have tp19 : (ig10 6274, (1 : Int32), ag10 101, ag10 102, ig10 6403) = cPart t nn none (i 6274, i 6275, a 101, a 102, i 6403) := cPt_non (op35 hv5 z9) to17 (op64 c13 kopm1) (tBad2 te18 tb16)
        exact ft_ret mi_k54 (by rfl) (hP  _ _ _ _ hJ15 ⟨trivial, (tp19.trans (congrFun (cO_z (kj_n0 (op65 c14 hp0.2 kop6))).symm _))⟩)
      ·
        have c20 : x1.toInt < (6 : Int32).toInt := kd_leF c; clear c
        obtain ⟨m, hm, hmI⟩ := kj_pred (op66 c20 hp0.2 kop6)
        have hh21 : (cHr t nn (ig10 6274) (ig10 6275)).toInt = (cHr t nn (i 6274) (i 6275)).toInt := congrArg Int32.toInt (kHr_c (t := t) (n := nn) (kj_v (op67 c13 z11 kopm1)) (kg10.fi 6275 rfl))
        refine ft_go mi_k54 2 55 [(3, .int vg10), (2, .int vg2), (0, .ref 98), (1, .int x1)] [.ref (mi_RO + 11), .ref 98] ig10 ag10 qg10 rg10 (by rfl) ?_
        refine ko_callI mi_k54.1 (pc := 55) (ls := [(3, .int vg10), (2, .int vg2), (0, .ref 98), (1, .int x1)]) (st := [.ref (mi_RO + 11), .ref 98]) (h := ks ig10 ag10 qg10 rg10) (i := (.invokevirtual 78, 3, 47, 0, 9, 0, 189)) (mi_k54.2 _ _ (by rfl)) (ft_invS mi_pq47 (by rfl)) (cy := mi_c47) mi_pq47 rfl (ke47_98_1000011 hGg10.I hGg10.R t nn ((kg10.fa 99 rfl).trans hT) ((kg10.fi 6273 rfl).trans hN) hX) (kj_d3 (n := n) (c := 9) (o1 := 10) (by decide)) ?_
        intro vg22 ig22 ag22 qg22 rg22 kg22 hg22
        have hGg22 := kG_call hGg10 kg22 (by decide +kernel)
        have eRrg22_2 : rg22 2 = 100 := (kg22.fr 2 rfl).trans eRrg10_2
        obtain ⟨hg22, og22⟩ := hg22
        have z23 : ((vg22.toInt = (-1)) ∧ ((ig22 6274).toInt = (ig10 6274).toInt)) ∨ (((ig22 6274).toInt = ((ig10 6274).toInt + 1)) ∧ ((ig10 6274).toInt < (ig10 6273).toInt) ∧ ((ig10 6275).toInt = 0) ∧ ((vg22.toInt = 40) ∨ (vg22.toInt = 33) ∨ (vg22.toInt = 45))) := hg22
        have ho24 : vg22.toInt = (-1) ∨ vg22.toInt = (cHr t nn (ig10 6274) (ig10 6275)).toInt := tOf_v og22
        refine ft_go mi_k54 1 59 [(3, .int vg10), (2, .int vg2), (0, .ref 98), (1, .int x1)] [.int (-1), .int vg22] ig22 ag22 qg22 rg22 (by rfl) ?_
        refine ft_if mi_k54 (vg22 != (-1)) 68 62 [(3, .int vg10), (2, .int vg2), (0, .ref 98), (1, .int x1)] [] (by rfl) (fun c => ?_) (fun c => ?_)
        ·
          have c25 : vg22.toInt ≠ ((-1) : Int32).toInt := kd_ne c; clear c
          refine ft_go mi_k54 2 71 [(3, .int vg10), (2, .int vg2), (0, .ref 98), (1, .int x1)] [.int 40, .int vg2] ig22 ag22 qg22 rg22 (by rfl) ?_
          refine ft_if mi_k54 (vg2 != 40) 96 74 [(3, .int vg10), (2, .int vg2), (0, .ref 98), (1, .int x1)] [] (by rfl) (fun c => ?_) (fun c => ?_)
          ·
            have c26 : vg2.toInt ≠ (40 : Int32).toInt := kd_ne c; clear c
            have s27 : (x1 + 1).toInt = x1.toInt + (1 : Int32).toInt := kd_add (op18 hp0.1 kop1) (op79 hn0 hp0.2 kop1)
            refine ft_go mi_k54 4 100 [(3, .int vg10), (2, .int vg2), (0, .ref 98), (1, .int x1)] [.int (x1 + 1), .ref 98] ig22 ag22 qg22 rg22 (by rfl) ?_
            refine ko_callN mi_k54.1 (pc := 100) (ls := [(3, .int vg10), (2, .int vg2), (0, .ref 98), (1, .int x1)]) (st := [.int (x1 + 1), .ref 98]) (h := ks ig22 ag22 qg22 rg22) (i := (.invokevirtual 87, 3, 54, 0, 9, 0, 183)) (mi_k54.2 _ _ (by rfl)) (ft_invS mi_pq54 (by rfl)) (cy := mi_c54) mi_pq54 rfl ((ih m hm).2 _ _ _ _ hGg22.I hGg22.R (x1 + 1) (op80 hmI hp0.1 hp0.2 s27 kop1) t nn (((kg22.fa 99 rfl).trans (kg10.fa 99 rfl)).trans hT) (((kg22.fi 6273 rfl).trans (kg10.fi 6273 rfl)).trans hN) eRrg22_2 hX) (kj_d2 (n := n) (m := m) (o := 10) (o1 := 10) hm (by decide)) ?_
            intro ig28 ag28 qg28 rg28 kg28 hg28
            have hGg28 := kG_call hGg22 kg28 (by decide +kernel)
            have eRrg28_2 : rg28 2 = 100 := (kg28.fr 2 rfl).trans eRrg22_2
            obtain ⟨hg28, og28⟩ := hg28
            refine ft_go mi_k54 2 107 [(3, .int vg10), (2, .int vg2), (0, .ref 98), (1, .int x1)] [.ref (rg28 2)] ig28 ag28 qg28 rg28 (by rfl) ?_
            refine ko_eq (x1 := (107, [(3, .int vg10), (2, .int vg2), (0, .ref 98), (1, .int x1)], [.ref 100], (0, 0), ks ig28 ag28 qg28 rg28)) (by rw [eRrg28_2]) ?_
            refine ft_go mi_k54 2 110 [(3, .int vg10), (2, .int vg2), (0, .ref 98), (1, .int x1)] [.int 45, .int vg2, .ref 100] ig28 ag28 qg28 rg28 (by rfl) ?_
            refine ft_if mi_k54 (vg2 != 45) 118 113 [(3, .int vg10), (2, .int vg2), (0, .ref 98), (1, .int x1)] [.ref 100] (by rfl) (fun c => ?_) (fun c => ?_)
            ·
              have c29 : vg2.toInt ≠ (45 : Int32).toInt := kd_ne c; clear c
              refine ft_go mi_k54 2 120 [(3, .int vg10), (2, .int vg2), (0, .ref 98), (1, .int x1)] [.int 0, .int vg2, .ref 100] ig28 ag28 qg28 rg28 (by rfl) ?_
              refine ko_callI mi_k54.1 (pc := 120) (ls := [(3, .int vg10), (2, .int vg2), (0, .ref 98), (1, .int x1)]) (st := [.int 0, .int vg2, .ref 100]) (h := ks ig28 ag28 qg28 rg28) (i := (.invokevirtual 60, 3, 17, 0, 9, 0, 187)) (mi_k54.2 _ _ (by rfl)) (ft_invS mi_pq17 (by rfl)) (cy := mi_c17) mi_pq17 rfl (kf17_100 hGg28.I hGg28.R vg2 0) (kj_d3 (n := n) (c := 1) (o1 := 10) (by decide)) ?_
              intro vg30 ig30 ag30 qg30 rg30 kg30 hg30
              have hGg30 := kG_call hGg28 kg30 (by decide +kernel)
              have eRrg30_2 : rg30 2 = 100 := (kg30.fr 2 rfl).trans eRrg28_2
              obtain ⟨hg30, og30⟩ := hg30
              refine ft_go mi_k54 1 124 [(3, .int vg10), (2, .int vg2), (0, .ref 98), (1, .int x1)] [] ig30 ag30 qg30 rg30 (by rfl) ?_
              have to32 : (vg10, (ig10 6274, ig10 6275, ag10 101, ag10 102, ig10 6403)) = cOf t nn oNam (i 6274, i 6275, a 101, a 102, i 6403) := (tOf og10 (kg10.fi 6275 rfl) (kT3 (kg10.fa 101 rfl) (kg10.fa 102 rfl) (kg10.fi 6403 rfl)))
              have te33 : (ig10 6274, ig10 6275, ag10 101, ag10 102, ig10 6403) = (i 6274, i 6275, a 101, a 102, i 6403) := cOf_no to32 (op64 c13 kopm1) oNam_ne
              have to34 : (vg22, (ig22 6274, ig22 6275, ag22 101, ag22 102, ig22 6403)) = cOf t nn oOpn (ig10 6274, ig10 6275, ag10 101, ag10 102, ig10 6403) := (tOf og22 (kg22.fi 6275 rfl) (kT3 (kg22.fa 101 rfl) (kg22.fa 102 rfl) (kg22.fi 6403 rfl)))
              have tx35 : vg2 = (if vg22.toInt = 45 then (126 : Int32) else vg22) := ((kj_v (op82 c25 hh21 ho24 hv5 z3.1 kopm1)).trans (if_neg (op83 c29 hh21 ho24 hv5 z23 kop45)).symm)
              have to36 : (ig28 6274, ig28 6275, ag28 101, ag28 102, ig28 6403) = cO t nn m (ig22 6274, ig22 6275, ag22 101, ag22 102, ig22 6403) := og28
              have to37 : (ig30 6274, ig30 6275, ag30 101, ag30 102, ig30 6403) = cAdd vg2 0 (ig28 6274, ig28 6275, ag28 101, ag28 102, ig28 6403) := (tAdd og30.1 (kg30.fi 6274 rfl) (kg30.fi 6275 rfl))
              have tp38 : (ig30 6274, ig30 6275, ag30 101, ag30 102, ig30 6403) = cPart t nn (some (cO t nn m)) (i 6274, i 6275, a 101, a 102, i 6403) := cPt_un (sub := cO t nn m) (op81 c25 hh21 ho24 hv5 z23 z9 kopm1) to32 (op64 c13 kopm1) te33 to34 (op84 c25 z23 kopm1) (op85 c26 c29 hh21 ho24 hv5 z23 kop40 kop45) to36 tx35 to37
              exact ft_ret mi_k54 (by rfl) (hP  _ _ _ _ hGg30 ⟨trivial, (tp38.trans (congrFun (cO_s hm).symm _))⟩)
            ·
              have c39 : vg2.toInt = (45 : Int32).toInt := kd_neF c; clear c
              refine ft_go mi_k54 3 120 [(3, .int vg10), (2, .int vg2), (0, .ref 98), (1, .int x1)] [.int 0, .int 126, .ref 100] ig28 ag28 qg28 rg28 (by rfl) ?_
              refine ko_callI mi_k54.1 (pc := 120) (ls := [(3, .int vg10), (2, .int vg2), (0, .ref 98), (1, .int x1)]) (st := [.int 0, .int 126, .ref 100]) (h := ks ig28 ag28 qg28 rg28) (i := (.invokevirtual 60, 3, 17, 0, 9, 0, 187)) (mi_k54.2 _ _ (by rfl)) (ft_invS mi_pq17 (by rfl)) (cy := mi_c17) mi_pq17 rfl (kf17_100 hGg28.I hGg28.R 126 0) (kj_d3 (n := n) (c := 1) (o1 := 10) (by decide)) ?_
              intro vg40 ig40 ag40 qg40 rg40 kg40 hg40
              have hGg40 := kG_call hGg28 kg40 (by decide +kernel)
              have eRrg40_2 : rg40 2 = 100 := (kg40.fr 2 rfl).trans eRrg28_2
              obtain ⟨hg40, og40⟩ := hg40
              refine ft_go mi_k54 1 124 [(3, .int vg10), (2, .int vg2), (0, .ref 98), (1, .int x1)] [] ig40 ag40 qg40 rg40 (by rfl) ?_
              have to42 : (vg10, (ig10 6274, ig10 6275, ag10 101, ag10 102, ig10 6403)) = cOf t nn oNam (i 6274, i 6275, a 101, a 102, i 6403) := (tOf og10 (kg10.fi 6275 rfl) (kT3 (kg10.fa 101 rfl) (kg10.fa 102 rfl) (kg10.fi 6403 rfl)))
              have te43 : (ig10 6274, ig10 6275, ag10 101, ag10 102, ig10 6403) = (i 6274, i 6275, a 101, a 102, i 6403) := cOf_no to42 (op64 c13 kopm1) oNam_ne
              have to44 : (vg22, (ig22 6274, ig22 6275, ag22 101, ag22 102, ig22 6403)) = cOf t nn oOpn (ig10 6274, ig10 6275, ag10 101, ag10 102, ig10 6403) := (tOf og22 (kg22.fi 6275 rfl) (kT3 (kg22.fa 101 rfl) (kg22.fa 102 rfl) (kg22.fi 6403 rfl)))
              have tx45 : (126 : Int32) = (if vg22.toInt = 45 then (126 : Int32) else vg22) := (if_pos (op87 c25 c39 hh21 ho24 hv5 z23 kopm1 kop45)).symm
              have to46 : (ig28 6274, ig28 6275, ag28 101, ag28 102, ig28 6403) = cO t nn m (ig22 6274, ig22 6275, ag22 101, ag22 102, ig22 6403) := og28
              have to47 : (ig40 6274, ig40 6275, ag40 101, ag40 102, ig40 6403) = cAdd (126 : Int32) 0 (ig28 6274, ig28 6275, ag28 101, ag28 102, ig28 6403) := (tAdd og40.1 (kg40.fi 6274 rfl) (kg40.fi 6275 rfl))
              have tp48 : (ig40 6274, ig40 6275, ag40 101, ag40 102, ig40 6403) = cPart t nn (some (cO t nn m)) (i 6274, i 6275, a 101, a 102, i 6403) := cPt_un (sub := cO t nn m) (op86 c39 hv5 kop45) to42 (op64 c13 kopm1) te43 to44 (op84 c25 z23 kopm1) (op88 c25 c39 hh21 ho24 hv5 kopm1 kop45) to46 tx45 to47
              exact ft_ret mi_k54 (by rfl) (hP  _ _ _ _ hGg40 ⟨trivial, (tp48.trans (congrFun (cO_s hm).symm _))⟩)
          ·
            have c49 : vg2.toInt = (40 : Int32).toInt := kd_neF c; clear c
            have s50 : (x1 + 1).toInt = x1.toInt + (1 : Int32).toInt := kd_add (op18 hp0.1 kop1) (op79 hn0 hp0.2 kop1)
            refine ft_go mi_k54 4 78 [(3, .int vg10), (2, .int vg2), (0, .ref 98), (1, .int x1)] [.int (x1 + 1), .ref 98] ig22 ag22 qg22 rg22 (by rfl) ?_
            refine ko_callN mi_k54.1 (pc := 78) (ls := [(3, .int vg10), (2, .int vg2), (0, .ref 98), (1, .int x1)]) (st := [.int (x1 + 1), .ref 98]) (h := ks ig22 ag22 qg22 rg22) (i := (.invokevirtual 56, 3, 49, 0, 9, 0, 178)) (mi_k54.2 _ _ (by rfl)) (ft_invS mi_pq49 (by rfl)) (cy := mi_c49) mi_pq49 rfl ((ih m hm).1 _ _ _ _ hGg22.I hGg22.R (x1 + 1) (op80 hmI hp0.1 hp0.2 s50 kop1) t nn (((kg22.fa 99 rfl).trans (kg10.fa 99 rfl)).trans hT) (((kg22.fi 6273 rfl).trans (kg10.fi 6273 rfl)).trans hN) eRrg22_2 hX) (kj_d2 (n := n) (m := m) (o := 15) (o1 := 10) hm (by decide)) ?_
            intro ig51 ag51 qg51 rg51 kg51 hg51
            have hGg51 := kG_call hGg22 kg51 (by decide +kernel)
            have eRrg51_2 : rg51 2 = 100 := (kg51.fr 2 rfl).trans eRrg22_2
            obtain ⟨hg51, og51⟩ := hg51
            refine ft_go mi_k54 2 84 [(3, .int vg10), (2, .int vg2), (0, .ref 98), (1, .int x1)] [.int 41, .ref 98] ig51 ag51 qg51 rg51 (by rfl) ?_
            refine ko_callI mi_k54.1 (pc := 84) (ls := [(3, .int vg10), (2, .int vg2), (0, .ref 98), (1, .int x1)]) (st := [.int 41, .ref 98]) (h := ks ig51 ag51 qg51 rg51) (i := (.invokevirtual 39, 3, 46, 0, 9, 0, 200)) (mi_k54.2 _ _ (by rfl)) (ft_invS mi_pq46 (by rfl)) (cy := mi_c46) mi_pq46 rfl (ke46_98 hGg51.I hGg51.R 41 (op94 kop41) t nn ((((kg51.fa 99 rfl).trans (kg22.fa 99 rfl)).trans (kg10.fa 99 rfl)).trans hT) (((kg51.fi 6273 rfl).trans ((kg22.fi 6273 rfl).trans (kg10.fi 6273 rfl))).trans hN) hX) (kj_d3 (n := n) (c := 3) (o1 := 10) (by decide)) ?_
            intro vg52 ig52 ag52 qg52 rg52 kg52 hg52
            have hGg52 := kG_call hGg51 kg52 (by decide +kernel)
            have eRrg52_2 : rg52 2 = 100 := (kg52.fr 2 rfl).trans eRrg51_2
            obtain ⟨hg52, og52⟩ := hg52
            have z53 : ((vg52.toInt = 1) ∧ ((ig52 6274).toInt = ((ig51 6274).toInt + 1)) ∧ ((ig51 6274).toInt < (ig51 6273).toInt) ∧ ((ig51 6275).toInt = 0)) ∨ ((vg52.toInt = 0) ∧ ((ig52 6274).toInt = (ig51 6274).toInt)) := hg52
            refine ft_if mi_k54 (vg52 != 0) 95 90 [(3, .int vg10), (2, .int vg2), (0, .ref 98), (1, .int x1)] [] (by rfl) (fun c => ?_) (fun c => ?_)
            ·
              have c54 : vg52.toInt ≠ (0 : Int32).toInt := kd_ne c; clear c
              have to55 : (vg10, (ig10 6274, ig10 6275, ag10 101, ag10 102, ig10 6403)) = cOf t nn oNam (i 6274, i 6275, a 101, a 102, i 6403) := (tOf og10 (kg10.fi 6275 rfl) (kT3 (kg10.fa 101 rfl) (kg10.fa 102 rfl) (kg10.fi 6403 rfl)))
              have te56 : (ig10 6274, ig10 6275, ag10 101, ag10 102, ig10 6403) = (i 6274, i 6275, a 101, a 102, i 6403) := cOf_no to55 (op64 c13 kopm1) oNam_ne
              have to57 : (vg22, (ig22 6274, ig22 6275, ag22 101, ag22 102, ig22 6403)) = cOf t nn oOpn (ig10 6274, ig10 6275, ag10 101, ag10 102, ig10 6403) := (tOf og22 (kg22.fi 6275 rfl) (kT3 (kg22.fa 101 rfl) (kg22.fa 102 rfl) (kg22.fi 6403 rfl)))
              have tt58 : (vg52, (ig52 6274, ig52 6275, ag52 101, ag52 102, ig52 6403)) = cTk t nn 41 (ig51 6274, ig51 6275, ag51 101, ag51 102, ig51 6403) := (tTk og52 (kg52.fi 6275 rfl) (kT3 (kg52.fa 101 rfl) (kg52.fa 102 rfl) (kg52.fi 6403 rfl)))
              have tn59 : (ig52 6274, ig52 6275, ag52 101, ag52 102, ig52 6403) = cEnd (cTk t nn 41 (ig51 6274, ig51 6275, ag51 101, ag51 102, ig51 6403)) := cEn_y tt58 (op96 c54 z53 kop0)
              have to60 : (ig51 6274, ig51 6275, ag51 101, ag51 102, ig51 6403) = cEit t nn (cO t nn m) (ig22 6274, ig22 6275, ag22 101, ag22 102, ig22 6403) := og51
              have tp61 : (ig52 6274, ig52 6275, ag52 101, ag52 102, ig52 6403) = cPart t nn (some (cO t nn m)) (i 6274, i 6275, a 101, a 102, i 6403) := cPt_par (sub := cO t nn m) (op95 c49 hv5 kop40) to55 (op64 c13 kopm1) te56 to57 (op97 c25 c49 hh21 ho24 hv5 z23 kopm1 kop40) to60 tn59
              exact ft_ret mi_k54 (by rfl) (hP  _ _ _ _ hGg52 ⟨trivial, (tp61.trans (congrFun (cO_s hm).symm _))⟩)
            ·
              have c62 : vg52.toInt = (0 : Int32).toInt := kd_neF c; clear c
              have hJ63 := kG_i hGg52 6275 rfl (v := 1) ⟨(op62 kop1), (op63 kop1)⟩
              refine ft_go mi_k54 3 95 [(3, .int vg10), (2, .int vg2), (0, .ref 98), (1, .int x1)] [] (ku ig52 6275 1) ag52 qg52 rg52 (by rfl) ?_
              have to64 : (vg10, (ig10 6274, ig10 6275, ag10 101, ag10 102, ig10 6403)) = cOf t nn oNam (i 6274, i 6275, a 101, a 102, i 6403) := (tOf og10 (kg10.fi 6275 rfl) (kT3 (kg10.fa 101 rfl) (kg10.fa 102 rfl) (kg10.fi 6403 rfl)))
              have te65 : (ig10 6274, ig10 6275, ag10 101, ag10 102, ig10 6403) = (i 6274, i 6275, a 101, a 102, i 6403) := cOf_no to64 (op64 c13 kopm1) oNam_ne
              have to66 : (vg22, (ig22 6274, ig22 6275, ag22 101, ag22 102, ig22 6403)) = cOf t nn oOpn (ig10 6274, ig10 6275, ag10 101, ag10 102, ig10 6403) := (tOf og22 (kg22.fi 6275 rfl) (kT3 (kg22.fa 101 rfl) (kg22.fa 102 rfl) (kg22.fi 6403 rfl)))
              have tt67 : (vg52, (ig52 6274, ig52 6275, ag52 101, ag52 102, ig52 6403)) = cTk t nn 41 (ig51 6274, ig51 6275, ag51 101, ag51 102, ig51 6403) := (tTk og52 (kg52.fi 6275 rfl) (kT3 (kg52.fa 101 rfl) (kg52.fa 102 rfl) (kg52.fi 6403 rfl)))
              have tb68 : (ig52 6274, (1 : Int32), ag52 101, ag52 102, ig52 6403) = cBad (ig52 6274, ig52 6275, ag52 101, ag52 102, ig52 6403) := (tBad rfl rfl (kT3 rfl rfl rfl))
              have tn69 : (ig52 6274, (1 : Int32), ag52 101, ag52 102, ig52 6403) = cEnd (cTk t nn 41 (ig51 6274, ig51 6275, ag51 101, ag51 102, ig51 6403)) := cEn_n tt67 (op98 c62 kop0) tb68
              have to70 : (ig51 6274, ig51 6275, ag51 101, ag51 102, ig51 6403) = cEit t nn (cO t nn m) (ig22 6274, ig22 6275, ag22 101, ag22 102, ig22 6403) := og51
              have tp71 : (ig52 6274, (1 : Int32), ag52 101, ag52 102, ig52 6403) = cPart t nn (some (cO t nn m)) (i 6274, i 6275, a 101, a 102, i 6403) := cPt_par (sub := cO t nn m) (op95 c49 hv5 kop40) to64 (op64 c13 kopm1) te65 to66 (op97 c25 c49 hh21 ho24 hv5 z23 kopm1 kop40) to70 tn69
              exact ft_ret mi_k54 (by rfl) (hP  _ _ _ _ hJ63 ⟨trivial, (tp71.trans (congrFun (cO_s hm).symm _))⟩)
        ·
          have c72 : vg22.toInt = ((-1) : Int32).toInt := kd_neF c; clear c
          have hJ73 := kG_i hGg22 6275 rfl (v := 1) ⟨(op62 kop1), (op63 kop1)⟩
          refine ft_go mi_k54 3 67 [(3, .int vg10), (2, .int vg2), (0, .ref 98), (1, .int x1)] [] (ku ig22 6275 1) ag22 qg22 rg22 (by rfl) ?_
          have to74 : (vg10, (ig10 6274, ig10 6275, ag10 101, ag10 102, ig10 6403)) = cOf t nn oNam (i 6274, i 6275, a 101, a 102, i 6403) := (tOf og10 (kg10.fi 6275 rfl) (kT3 (kg10.fa 101 rfl) (kg10.fa 102 rfl) (kg10.fi 6403 rfl)))
          have te75 : (ig10 6274, ig10 6275, ag10 101, ag10 102, ig10 6403) = (i 6274, i 6275, a 101, a 102, i 6403) := cOf_no to74 (op64 c13 kopm1) oNam_ne
          have to76 : (vg22, (ig22 6274, ig22 6275, ag22 101, ag22 102, ig22 6403)) = cOf t nn oOpn (ig10 6274, ig10 6275, ag10 101, ag10 102, ig10 6403) := (tOf og22 (kg22.fi 6275 rfl) (kT3 (kg22.fa 101 rfl) (kg22.fa 102 rfl) (kg22.fi 6403 rfl)))
          have te77 : (ig22 6274, ig22 6275, ag22 101, ag22 102, ig22 6403) = (ig10 6274, ig10 6275, ag10 101, ag10 102, ig10 6403) := cOf_no to76 (op64 c72 kopm1) oOpn_ne
          have tb78 : (ig22 6274, (1 : Int32), ag22 101, ag22 102, ig22 6403) = cBad (ig22 6274, ig22 6275, ag22 101, ag22 102, ig22 6403) := (tBad rfl rfl (kT3 rfl rfl rfl))
          have tb79 : (ig22 6274, (1 : Int32), ag22 101, ag22 102, ig22 6403) = cBad (i 6274, i 6275, a 101, a 102, i 6403) := tBad2 (te77.trans te75) tb78
          have tp80 : (ig22 6274, (1 : Int32), ag22 101, ag22 102, ig22 6403) = cPart t nn (some (cO t nn m)) (i 6274, i 6275, a 101, a 102, i 6403) := cPt_bad (sub := cO t nn m) (op35 hv5 z9) to74 (op64 c13 kopm1) te75 to76 (op64 c72 kopm1) tb79
          exact ft_ret mi_k54 (by rfl) (hP  _ _ _ _ hJ73 ⟨trivial, (tp80.trans (congrFun (cO_s hm).symm _))⟩)
    ·
      have c81 : vg10.toInt ≠ ((-1) : Int32).toInt := kd_eqF c; clear c
      refine ft_go mi_k54 2 33 [(3, .int vg10), (2, .int vg2), (0, .ref 98), (1, .int x1)] [.ref (rg10 2)] ig10 ag10 qg10 rg10 (by rfl) ?_
      refine ko_eq (x1 := (33, [(3, .int vg10), (2, .int vg2), (0, .ref 98), (1, .int x1)], [.ref 100], (0, 0), ks ig10 ag10 qg10 rg10)) (by rw [eRrg10_2]) ?_
      have s82 : ((vg10.toUInt32 % 65536).toInt32).toInt = vg10.toInt := kd_i2c (op99 c81 z11 kopm1) (Int.le_trans (op100 z11) (by decide))
      refine ft_go mi_k54 4 38 [(3, .int vg10), (2, .int vg2), (0, .ref 98), (1, .int x1)] [.int ((vg10.toUInt32 % 65536).toInt32), .ref (mi_RO + 10), .int 1, .ref 100] ig10 ag10 qg10 rg10 (by rfl) ?_
      refine ko_callPI mi_k54.1 (pc := 38) (ls := [(3, .int vg10), (2, .int vg2), (0, .ref 98), (1, .int x1)]) (st := [.int ((vg10.toUInt32 % 65536).toInt32), .ref (mi_RO + 10), .int 1, .ref 100]) (h := ks ig10 ag10 qg10 rg10) (i := (.invokevirtual 50, 3, 228, 0, 9, 0, 190)) (mi_k54.2 _ _ (by rfl)) (ft_invS mi_pq228 (by rfl)) (cy := mi_c228) mi_pq228 rfl (ke228_1000010 hGg10.I hGg10.R ((vg10.toUInt32 % 65536).toInt32) (op101 c81 s82 z11 kopm1)) (kj_d3 (n := n) (c := 7) (o1 := 10) (by decide)) ?_
      intro vg83 hg83
      have z84 : (((-1) : Int) ≤ vg83.toInt) ∧ (vg83.toInt ≤ 5) ∧ (((((vg10.toUInt32 % 65536).toInt32).toInt = 119) → (vg83.toInt = 0))) ∧ (((((vg10.toUInt32 % 65536).toInt32).toInt = 112) → (vg83.toInt = 1))) ∧ (((((vg10.toUInt32 % 65536).toInt32).toInt = 104) → (vg83.toInt = 2))) ∧ (((((vg10.toUInt32 % 65536).toInt32).toInt = 110) → (vg83.toInt = 3))) ∧ (((((vg10.toUInt32 % 65536).toInt32).toInt = 111) → (vg83.toInt = 4))) ∧ (((((vg10.toUInt32 % 65536).toInt32).toInt = 100) → (vg83.toInt = 5))) ∧ (((vg83.toInt = 0) → (((vg10.toUInt32 % 65536).toInt32).toInt = 119))) ∧ (((vg83.toInt = 1) → (((vg10.toUInt32 % 65536).toInt32).toInt = 112))) ∧ (((vg83.toInt = 2) → (((vg10.toUInt32 % 65536).toInt32).toInt = 104))) ∧ (((vg83.toInt = 3) → (((vg10.toUInt32 % 65536).toInt32).toInt = 110))) ∧ (((vg83.toInt = 4) → (((vg10.toUInt32 % 65536).toInt32).toInt = 111))) ∧ (((vg83.toInt = 5) → (((vg10.toUInt32 % 65536).toInt32).toInt = 100))) ∧ ((vg83.toInt = (-1)) ∨ (((vg10.toUInt32 % 65536).toInt32).toInt = 119) ∨ (((vg10.toUInt32 % 65536).toInt32).toInt = 112) ∨ (((vg10.toUInt32 % 65536).toInt32).toInt = 104) ∨ (((vg10.toUInt32 % 65536).toInt32).toInt = 110) ∨ (((vg10.toUInt32 % 65536).toInt32).toInt = 111) ∨ (((vg10.toUInt32 % 65536).toInt32).toInt = 100)) := hg83
      refine ko_callI mi_k54.1 (pc := 41) (ls := [(3, .int vg10), (2, .int vg2), (0, .ref 98), (1, .int x1)]) (st := [.int vg83, .int 1, .ref 100]) (h := ks ig10 ag10 qg10 rg10) (i := (.invokevirtual 60, 3, 17, 0, 9, 0, 187)) (mi_k54.2 _ _ (by rfl)) (ft_invS mi_pq17 (by rfl)) (cy := mi_c17) mi_pq17 rfl (kf17_100 hGg10.I hGg10.R 1 vg83) (kj_d3 (n := n) (c := 1) (o1 := 10) (by decide)) ?_
      intro vg85 ig85 ag85 qg85 rg85 kg85 hg85
      have hGg85 := kG_call hGg10 kg85 (by decide +kernel)
      have eRrg85_2 : rg85 2 = 100 := (kg85.fr 2 rfl).trans eRrg10_2
      obtain ⟨hg85, og85⟩ := hg85
      refine ft_go mi_k54 1 45 [(3, .int vg10), (2, .int vg2), (0, .ref 98), (1, .int x1)] [] ig85 ag85 qg85 rg85 (by rfl) ?_
      exact ft_ret mi_k54 (by rfl) (hP  _ _ _ _ hGg85 ⟨trivial, (cPt_lv (cO_any t nn n) (fun nx => cPt_nam (nx := nx) (op102 c81 ho12 hv5 z11 z3.1 kopm1) (tOf og10 (kg10.fi 6275 rfl) (kT3 (kg10.fa 101 rfl) (kg10.fa 102 rfl) (kg10.fi 6403 rfl))) (op104 c81 z11 kopm1) (nIdx_of (op103 c81 s82 z11 z84.2.1 z84.2.2.1 z84.2.2.2.1 z84.2.2.2.2.1 z84.2.2.2.2.2.1 z84.2.2.2.2.2.2.1 z84.2.2.2.2.2.2.2.1 kopm1)) (tAdd og85.1 (kg85.fi 6274 rfl) (kg85.fi 6275 rfl))))⟩)
set_option maxRecDepth 100000 in
theorem kMsP100_53 (n : Nat) (h54 : kMP100_54 n) : kMP100_53 n := by
  intro i a q r hI hr x1 hp0 t nn hT hN hL hX
  have hG := kG_self wP100 hI hr
  refine km_ofN (q := (mi_h53, mi_c53)) rfl (by decide) (Nat.le_of_ble_eq_true rfl) ?_
  intro P hP
  have hn0 : (0 : Int) ≤ (n : Int) := Int.natCast_nonneg n
  have hn1 : (i 6273).toInt = nn.toInt := congrArg Int32.toInt hN
  have eRr_2 : r 2 = 100 := hL
  refine ft_go mi_k53 2 2 [(0, .ref 98), (1, .int x1)] [.int x1, .ref 98] i a q r (by rfl) ?_
  refine ko_callN mi_k53.1 (pc := 2) (ls := [(0, .ref 98), (1, .int x1)]) (st := [.int x1, .ref 98]) (h := ks i a q r) (i := (.invokevirtual 87, 3, 54, 0, 9, 0, 183)) (mi_k53.2 _ _ (by rfl)) (ft_invS mi_pq54 (by rfl)) (cy := mi_c54) mi_pq54 rfl (h54 _ _ _ _ hG.I hG.R x1 (op105 hp0.1 hp0.2) t nn hT hN eRr_2 hX) (kj_d1 (n := n) (o := 10) (o1 := 11) (by decide)) ?_
  intro ig2 ag2 qg2 rg2 kg2 hg2
  have hGg2 := kG_call hG kg2 (by decide +kernel)
  have eRrg2_2 : rg2 2 = 100 := (kg2.fr 2 rfl).trans eRr_2
  obtain ⟨hg2, og2⟩ := hg2
  refine ft_go mi_k53 2 8 [(0, .ref 98), (1, .int x1)] [.ref (mi_RO + 12), .ref 98] ig2 ag2 qg2 rg2 (by rfl) ?_
  refine ko_callI mi_k53.1 (pc := 8) (ls := [(0, .ref 98), (1, .int x1)]) (st := [.ref (mi_RO + 12), .ref 98]) (h := ks ig2 ag2 qg2 rg2) (i := (.invokevirtual 78, 3, 47, 0, 9, 0, 189)) (mi_k53.2 _ _ (by rfl)) (ft_invS mi_pq47 (by rfl)) (cy := mi_c47) mi_pq47 rfl (ke47_98_1000012 hGg2.I hGg2.R t nn ((kg2.fa 99 rfl).trans hT) ((kg2.fi 6273 rfl).trans hN) hX) (kj_d3 (n := n) (c := 9) (o1 := 11) (by decide)) ?_
  intro vg3 ig3 ag3 qg3 rg3 kg3 hg3
  have hGg3 := kG_call hGg2 kg3 (by decide +kernel)
  have eRrg3_2 : rg3 2 = 100 := (kg3.fr 2 rfl).trans eRrg2_2
  obtain ⟨hg3, og3⟩ := hg3
  have efig2_6273 : (ig2 6273).toInt = (i 6273).toInt := kg2.ti 6273 rfl
  have ho5 : vg3.toInt = (-1) ∨ vg3.toInt = (cHr t nn (ig2 6274) (ig2 6275)).toInt := tOf_v og3
  refine ft_go mi_k53 3 14 [(3, .int 0), (2, .int vg3), (0, .ref 98), (1, .int x1)] [] ig3 ag3 qg3 rg3 (by rfl) ?_
  have lp6 : ∀ (nz : Nat) (i6 : Nat → Int32) (a6 : Nat → List Int32) (q6 : Nat → List Int64) (r6 : Nat → Nat) (l3_6 : Int32) (l2_6 : Int32), kG yw53_98_L100_L14 ig3 ag3 qg3 rg3 i6 a6 q6 r6 → (0 : Int) ≤ l3_6.toInt → cLpS t nn (cO t nn n) oMul (nn.toInt - l3_6.toInt).toNat (l2_6, (i6 6274, i6 6275, a6 101, a6 102, i6 6403)) = cMul t nn (cO t nn n) oMul (i 6274, i 6275, a 101, a 102, i 6403) → (((i6 6273).toInt - l3_6.toInt)).toNat < nz → ko (6 * n + 11) (mi_h53, mi_c53) P (14, [(3, .int l3_6), (2, .int l2_6), (0, .ref 98), (1, .int x1)], [], (0, 0), ks i6 a6 q6 r6) := by
    intro nz
    induction nz with
    | zero =>
      intro _ _ _ _ _ _ _ _ _ hm
      exact absurd hm (Nat.not_lt_zero _)
    | succ nz ih6 =>
      intro i6 a6 q6 r6 l3_6 l2_6 hL6 p6_0 O6_0 hm6
      have fi6_6273 : ((0 : Int) ≤ (i6 6273).toInt) ∧ ((i6 6273).toInt ≤ 120) := hL6.I.1 6273
      have efig3_6273 : (ig3 6273).toInt = (ig2 6273).toInt := kg3.ti 6273 rfl
      have efi6_6273 : (i6 6273).toInt = (ig3 6273).toInt := hL6.ti 6273 rfl
      have eRr6_2 : r6 2 = 100 := (hL6.fr 2 rfl).trans eRrg3_2
      refine ft_go mi_k53 3 19 [(3, .int l3_6), (2, .int l2_6), (0, .ref 98), (1, .int x1)] [.int (i6 6273), .int l3_6] i6 a6 q6 r6 (by rfl) ?_
      refine ft_if mi_k53 (decide ((i6 6273) ≤ l3_6)) 55 22 [(3, .int l3_6), (2, .int l2_6), (0, .ref 98), (1, .int x1)] [] (by rfl) (fun c => ?_) (fun c => ?_)
      ·
        have c7 : (i6 6273).toInt ≤ l3_6.toInt := kd_le c; clear c
        have hG8 := kG_call hGg3 hL6 (by decide +kernel)
        exact ft_ret mi_k53 (by rfl) (hP  _ _ _ _ hG8 ⟨trivial, (cLS_end O6_0 (kj_sub0 (n := nn.toInt) (op116 c7 efi6_6273 efig2_6273 efig3_6273 hn1)))⟩)
      ·
        have c9 : l3_6.toInt < (i6 6273).toInt := kd_leF c; clear c
        refine ft_go mi_k53 2 24 [(3, .int l3_6), (2, .int l2_6), (0, .ref 98), (1, .int x1)] [.int (-1), .int l2_6] i6 a6 q6 r6 (by rfl) ?_
        refine ft_if mi_k53 (l2_6 == (-1)) 55 27 [(3, .int l3_6), (2, .int l2_6), (0, .ref 98), (1, .int x1)] [] (by rfl) (fun c => ?_) (fun c => ?_)
        ·
          have c10 : l2_6.toInt = ((-1) : Int32).toInt := kd_eq c; clear c
          have hG11 := kG_call hGg3 hL6 (by decide +kernel)
          exact ft_ret mi_k53 (by rfl) (hP  _ _ _ _ hG11 ⟨trivial, (cLS_out O6_0 (op64 c10 kopm1))⟩)
        ·
          have c12 : l2_6.toInt ≠ ((-1) : Int32).toInt := kd_eqF c; clear c
          refine ft_go mi_k53 2 29 [(3, .int l3_6), (2, .int l2_6), (0, .ref 98), (1, .int x1)] [.int x1, .ref 98] i6 a6 q6 r6 (by rfl) ?_
          refine ko_callN mi_k53.1 (pc := 29) (ls := [(3, .int l3_6), (2, .int l2_6), (0, .ref 98), (1, .int x1)]) (st := [.int x1, .ref 98]) (h := ks i6 a6 q6 r6) (i := (.invokevirtual 87, 3, 54, 0, 9, 0, 183)) (mi_k53.2 _ _ (by rfl)) (ft_invS mi_pq54 (by rfl)) (cy := mi_c54) mi_pq54 rfl (h54 _ _ _ _ hL6.I hL6.R x1 (op105 hp0.1 hp0.2) t nn ((((hL6.fa 99 rfl).trans (kg3.fa 99 rfl)).trans (kg2.fa 99 rfl)).trans hT) (((hL6.fi 6273 rfl).trans ((kg3.fi 6273 rfl).trans (kg2.fi 6273 rfl))).trans hN) eRr6_2 hX) (kj_d1 (n := n) (o := 10) (o1 := 11) (by decide)) ?_
          intro ig13 ag13 qg13 rg13 kg13 hg13
          have hGg13 := kG_call hL6 kg13 (by decide +kernel)
          have eRrg13_2 : rg13 2 = 100 := (kg13.fr 2 rfl).trans eRr6_2
          obtain ⟨hg13, og13⟩ := hg13
          refine ft_go mi_k53 2 36 [(3, .int l3_6), (2, .int l2_6), (0, .ref 98), (1, .int x1)] [.ref (rg13 2)] ig13 ag13 qg13 rg13 (by rfl) ?_
          refine ko_eq (x1 := (36, [(3, .int l3_6), (2, .int l2_6), (0, .ref 98), (1, .int x1)], [.ref 100], (0, 0), ks ig13 ag13 qg13 rg13)) (by rw [eRrg13_2]) ?_
          refine ft_go mi_k53 2 38 [(3, .int l3_6), (2, .int l2_6), (0, .ref 98), (1, .int x1)] [.int 0, .int l2_6, .ref 100] ig13 ag13 qg13 rg13 (by rfl) ?_
          refine ko_callI mi_k53.1 (pc := 38) (ls := [(3, .int l3_6), (2, .int l2_6), (0, .ref 98), (1, .int x1)]) (st := [.int 0, .int l2_6, .ref 100]) (h := ks ig13 ag13 qg13 rg13) (i := (.invokevirtual 60, 3, 17, 0, 9, 0, 187)) (mi_k53.2 _ _ (by rfl)) (ft_invS mi_pq17 (by rfl)) (cy := mi_c17) mi_pq17 rfl (kf17_100 hGg13.I hGg13.R l2_6 0) (kj_d3 (n := n) (c := 1) (o1 := 11) (by decide)) ?_
          intro vg14 ig14 ag14 qg14 rg14 kg14 hg14
          have hGg14 := kG_call hGg13 kg14 (by decide +kernel)
          have eRrg14_2 : rg14 2 = 100 := (kg14.fr 2 rfl).trans eRrg13_2
          obtain ⟨hg14, og14⟩ := hg14
          refine ft_go mi_k53 3 45 [(3, .int l3_6), (2, .int l2_6), (0, .ref 98), (1, .int x1)] [.ref (mi_RO + 12), .ref 98] ig14 ag14 qg14 rg14 (by rfl) ?_
          refine ko_callI mi_k53.1 (pc := 45) (ls := [(3, .int l3_6), (2, .int l2_6), (0, .ref 98), (1, .int x1)]) (st := [.ref (mi_RO + 12), .ref 98]) (h := ks ig14 ag14 qg14 rg14) (i := (.invokevirtual 78, 3, 47, 0, 9, 0, 189)) (mi_k53.2 _ _ (by rfl)) (ft_invS mi_pq47 (by rfl)) (cy := mi_c47) mi_pq47 rfl (ke47_98_1000012 hGg14.I hGg14.R t nn ((((((kg14.fa 99 rfl).trans (kg13.fa 99 rfl)).trans (hL6.fa 99 rfl)).trans (kg3.fa 99 rfl)).trans (kg2.fa 99 rfl)).trans hT) (((kg14.fi 6273 rfl).trans ((kg13.fi 6273 rfl).trans ((hL6.fi 6273 rfl).trans ((kg3.fi 6273 rfl).trans (kg2.fi 6273 rfl))))).trans hN) hX) (kj_d3 (n := n) (c := 9) (o1 := 11) (by decide)) ?_
          intro vg16 ig16 ag16 qg16 rg16 kg16 hg16
          have hGg16 := kG_call hGg14 kg16 (by decide +kernel)
          have eRrg16_2 : rg16 2 = 100 := (kg16.fr 2 rfl).trans eRrg14_2
          obtain ⟨hg16, og16⟩ := hg16
          have efig13_6273 : (ig13 6273).toInt = (i6 6273).toInt := kg13.ti 6273 rfl
          have efig14_6273 : (ig14 6273).toInt = (ig13 6273).toInt := kg14.ti 6273 rfl
          have ho18 : vg16.toInt = (-1) ∨ vg16.toInt = (cHr t nn (ig14 6274) (ig14 6275)).toInt := tOf_v og16
          have s19 : (l3_6 + 1).toInt = l3_6.toInt + (1 : Int32).toInt := kd_add (op18 p6_0 kop1) (op117 c9 fi6_6273.2 kop1)
          refine ft_go mi_k53 3 14 [(3, .int (l3_6 + 1)), (2, .int vg16), (0, .ref 98), (1, .int x1)] [] ig16 ag16 qg16 rg16 (by rfl) ?_
          have efig16_6273 : (ig16 6273).toInt = (ig14 6273).toInt := kg16.ti 6273 rfl
          exact ih6 _ _ _ _ _ _ hGg16 (op20 p6_0 s19 kop1) (cLS_again O6_0 (kj_sub2 (n := nn.toInt) (op118 c9 efi6_6273 efig2_6273 efig3_6273 hn1) (op4 p6_0) (op30 s19 kop1)) (op119 c12 kopm1) og13 (tAdd og14.1 (kg14.fi 6274 rfl) (kg14.fi 6275 rfl)) (tOf og16 (kg16.fi 6275 rfl) (kT3 (kg16.fa 101 rfl) (kg16.fa 102 rfl) (kg16.fi 6403 rfl)))) (kj_meas (op120 efig13_6273 efig14_6273 efig16_6273 s19 kop1) (op121 c9) hm6)
  exact lp6 _ _ _ _ _ _ _ (kG_self _ hGg3.I hGg3.R) (op36 kop0) (cLS_begin og2 (tOf og3 (kg3.fi 6275 rfl) (kT3 (kg3.fa 101 rfl) (kg3.fa 102 rfl) (kg3.fi 6403 rfl))) (kj_sub00 kop0)) (Nat.lt_succ_self _)
set_option maxRecDepth 100000 in
theorem kMsP100_52 (n : Nat) (h54 : kMP100_54 n) (h53 : kMP100_53 n) : kMP100_52 n := by
  intro i a q r hI hr x1 hp0 t nn hT hN hL hX
  have hG := kG_self wP100 hI hr
  refine km_ofN (q := (mi_h52, mi_c52)) rfl (by decide) (Nat.le_of_ble_eq_true rfl) ?_
  intro P hP
  have hn0 : (0 : Int) ≤ (n : Int) := Int.natCast_nonneg n
  have hn1 : (i 6273).toInt = nn.toInt := congrArg Int32.toInt hN
  have eRr_2 : r 2 = 100 := hL
  refine ft_go mi_k52 2 2 [(0, .ref 98), (1, .int x1)] [.int x1, .ref 98] i a q r (by rfl) ?_
  refine ko_callN mi_k52.1 (pc := 2) (ls := [(0, .ref 98), (1, .int x1)]) (st := [.int x1, .ref 98]) (h := ks i a q r) (i := (.invokevirtual 82, 3, 53, 0, 9, 0, 182)) (mi_k52.2 _ _ (by rfl)) (ft_invS mi_pq53 (by rfl)) (cy := mi_c53) mi_pq53 rfl (h53 _ _ _ _ hG.I hG.R x1 (op105 hp0.1 hp0.2) t nn hT hN eRr_2 hX) (kj_d1 (n := n) (o := 11) (o1 := 12) (by decide)) ?_
  intro ig2 ag2 qg2 rg2 kg2 hg2
  have hGg2 := kG_call hG kg2 (by decide +kernel)
  have eRrg2_2 : rg2 2 = 100 := (kg2.fr 2 rfl).trans eRr_2
  obtain ⟨hg2, og2⟩ := hg2
  refine ft_go mi_k52 2 8 [(0, .ref 98), (1, .int x1)] [.ref (mi_RO + 13), .ref 98] ig2 ag2 qg2 rg2 (by rfl) ?_
  refine ko_callI mi_k52.1 (pc := 8) (ls := [(0, .ref 98), (1, .int x1)]) (st := [.ref (mi_RO + 13), .ref 98]) (h := ks ig2 ag2 qg2 rg2) (i := (.invokevirtual 78, 3, 47, 0, 9, 0, 189)) (mi_k52.2 _ _ (by rfl)) (ft_invS mi_pq47 (by rfl)) (cy := mi_c47) mi_pq47 rfl (ke47_98_1000013 hGg2.I hGg2.R t nn ((kg2.fa 99 rfl).trans hT) ((kg2.fi 6273 rfl).trans hN) hX) (kj_d3 (n := n) (c := 9) (o1 := 12) (by decide)) ?_
  intro vg3 ig3 ag3 qg3 rg3 kg3 hg3
  have hGg3 := kG_call hGg2 kg3 (by decide +kernel)
  have eRrg3_2 : rg3 2 = 100 := (kg3.fr 2 rfl).trans eRrg2_2
  obtain ⟨hg3, og3⟩ := hg3
  have efig2_6273 : (ig2 6273).toInt = (i 6273).toInt := kg2.ti 6273 rfl
  have ho5 : vg3.toInt = (-1) ∨ vg3.toInt = (cHr t nn (ig2 6274) (ig2 6275)).toInt := tOf_v og3
  refine ft_go mi_k52 3 14 [(3, .int 0), (2, .int vg3), (0, .ref 98), (1, .int x1)] [] ig3 ag3 qg3 rg3 (by rfl) ?_
  have lp6 : ∀ (nz : Nat) (i6 : Nat → Int32) (a6 : Nat → List Int32) (q6 : Nat → List Int64) (r6 : Nat → Nat) (l3_6 : Int32) (l2_6 : Int32), kG yw52_98_L100_L14 ig3 ag3 qg3 rg3 i6 a6 q6 r6 → (0 : Int) ≤ l3_6.toInt → cLpS t nn (cP3 t nn (cO t nn n)) oSum (nn.toInt - l3_6.toInt).toNat (l2_6, (i6 6274, i6 6275, a6 101, a6 102, i6 6403)) = cMul t nn (cP3 t nn (cO t nn n)) oSum (i 6274, i 6275, a 101, a 102, i 6403) → (((i6 6273).toInt - l3_6.toInt)).toNat < nz → ko (6 * n + 12) (mi_h52, mi_c52) P (14, [(3, .int l3_6), (2, .int l2_6), (0, .ref 98), (1, .int x1)], [], (0, 0), ks i6 a6 q6 r6) := by
    intro nz
    induction nz with
    | zero =>
      intro _ _ _ _ _ _ _ _ _ hm
      exact absurd hm (Nat.not_lt_zero _)
    | succ nz ih6 =>
      intro i6 a6 q6 r6 l3_6 l2_6 hL6 p6_0 O6_0 hm6
      have fi6_6273 : ((0 : Int) ≤ (i6 6273).toInt) ∧ ((i6 6273).toInt ≤ 120) := hL6.I.1 6273
      have efig3_6273 : (ig3 6273).toInt = (ig2 6273).toInt := kg3.ti 6273 rfl
      have efi6_6273 : (i6 6273).toInt = (ig3 6273).toInt := hL6.ti 6273 rfl
      have eRr6_2 : r6 2 = 100 := (hL6.fr 2 rfl).trans eRrg3_2
      refine ft_go mi_k52 3 19 [(3, .int l3_6), (2, .int l2_6), (0, .ref 98), (1, .int x1)] [.int (i6 6273), .int l3_6] i6 a6 q6 r6 (by rfl) ?_
      refine ft_if mi_k52 (decide ((i6 6273) ≤ l3_6)) 55 22 [(3, .int l3_6), (2, .int l2_6), (0, .ref 98), (1, .int x1)] [] (by rfl) (fun c => ?_) (fun c => ?_)
      ·
        have c7 : (i6 6273).toInt ≤ l3_6.toInt := kd_le c; clear c
        have hG8 := kG_call hGg3 hL6 (by decide +kernel)
        exact ft_ret mi_k52 (by rfl) (hP  _ _ _ _ hG8 ⟨trivial, (cLS_end O6_0 (kj_sub0 (n := nn.toInt) (op116 c7 efi6_6273 efig2_6273 efig3_6273 hn1)))⟩)
      ·
        have c9 : l3_6.toInt < (i6 6273).toInt := kd_leF c; clear c
        refine ft_go mi_k52 2 24 [(3, .int l3_6), (2, .int l2_6), (0, .ref 98), (1, .int x1)] [.int (-1), .int l2_6] i6 a6 q6 r6 (by rfl) ?_
        refine ft_if mi_k52 (l2_6 == (-1)) 55 27 [(3, .int l3_6), (2, .int l2_6), (0, .ref 98), (1, .int x1)] [] (by rfl) (fun c => ?_) (fun c => ?_)
        ·
          have c10 : l2_6.toInt = ((-1) : Int32).toInt := kd_eq c; clear c
          have hG11 := kG_call hGg3 hL6 (by decide +kernel)
          exact ft_ret mi_k52 (by rfl) (hP  _ _ _ _ hG11 ⟨trivial, (cLS_out O6_0 (op64 c10 kopm1))⟩)
        ·
          have c12 : l2_6.toInt ≠ ((-1) : Int32).toInt := kd_eqF c; clear c
          refine ft_go mi_k52 2 29 [(3, .int l3_6), (2, .int l2_6), (0, .ref 98), (1, .int x1)] [.int x1, .ref 98] i6 a6 q6 r6 (by rfl) ?_
          refine ko_callN mi_k52.1 (pc := 29) (ls := [(3, .int l3_6), (2, .int l2_6), (0, .ref 98), (1, .int x1)]) (st := [.int x1, .ref 98]) (h := ks i6 a6 q6 r6) (i := (.invokevirtual 82, 3, 53, 0, 9, 0, 182)) (mi_k52.2 _ _ (by rfl)) (ft_invS mi_pq53 (by rfl)) (cy := mi_c53) mi_pq53 rfl (h53 _ _ _ _ hL6.I hL6.R x1 (op105 hp0.1 hp0.2) t nn ((((hL6.fa 99 rfl).trans (kg3.fa 99 rfl)).trans (kg2.fa 99 rfl)).trans hT) (((hL6.fi 6273 rfl).trans ((kg3.fi 6273 rfl).trans (kg2.fi 6273 rfl))).trans hN) eRr6_2 hX) (kj_d1 (n := n) (o := 11) (o1 := 12) (by decide)) ?_
          intro ig13 ag13 qg13 rg13 kg13 hg13
          have hGg13 := kG_call hL6 kg13 (by decide +kernel)
          have eRrg13_2 : rg13 2 = 100 := (kg13.fr 2 rfl).trans eRr6_2
          obtain ⟨hg13, og13⟩ := hg13
          refine ft_go mi_k52 2 36 [(3, .int l3_6), (2, .int l2_6), (0, .ref 98), (1, .int x1)] [.ref (rg13 2)] ig13 ag13 qg13 rg13 (by rfl) ?_
          refine ko_eq (x1 := (36, [(3, .int l3_6), (2, .int l2_6), (0, .ref 98), (1, .int x1)], [.ref 100], (0, 0), ks ig13 ag13 qg13 rg13)) (by rw [eRrg13_2]) ?_
          refine ft_go mi_k52 2 38 [(3, .int l3_6), (2, .int l2_6), (0, .ref 98), (1, .int x1)] [.int 0, .int l2_6, .ref 100] ig13 ag13 qg13 rg13 (by rfl) ?_
          refine ko_callI mi_k52.1 (pc := 38) (ls := [(3, .int l3_6), (2, .int l2_6), (0, .ref 98), (1, .int x1)]) (st := [.int 0, .int l2_6, .ref 100]) (h := ks ig13 ag13 qg13 rg13) (i := (.invokevirtual 60, 3, 17, 0, 9, 0, 187)) (mi_k52.2 _ _ (by rfl)) (ft_invS mi_pq17 (by rfl)) (cy := mi_c17) mi_pq17 rfl (kf17_100 hGg13.I hGg13.R l2_6 0) (kj_d3 (n := n) (c := 1) (o1 := 12) (by decide)) ?_
          intro vg14 ig14 ag14 qg14 rg14 kg14 hg14
          have hGg14 := kG_call hGg13 kg14 (by decide +kernel)
          have eRrg14_2 : rg14 2 = 100 := (kg14.fr 2 rfl).trans eRrg13_2
          obtain ⟨hg14, og14⟩ := hg14
          refine ft_go mi_k52 3 45 [(3, .int l3_6), (2, .int l2_6), (0, .ref 98), (1, .int x1)] [.ref (mi_RO + 13), .ref 98] ig14 ag14 qg14 rg14 (by rfl) ?_
          refine ko_callI mi_k52.1 (pc := 45) (ls := [(3, .int l3_6), (2, .int l2_6), (0, .ref 98), (1, .int x1)]) (st := [.ref (mi_RO + 13), .ref 98]) (h := ks ig14 ag14 qg14 rg14) (i := (.invokevirtual 78, 3, 47, 0, 9, 0, 189)) (mi_k52.2 _ _ (by rfl)) (ft_invS mi_pq47 (by rfl)) (cy := mi_c47) mi_pq47 rfl (ke47_98_1000013 hGg14.I hGg14.R t nn ((((((kg14.fa 99 rfl).trans (kg13.fa 99 rfl)).trans (hL6.fa 99 rfl)).trans (kg3.fa 99 rfl)).trans (kg2.fa 99 rfl)).trans hT) (((kg14.fi 6273 rfl).trans ((kg13.fi 6273 rfl).trans ((hL6.fi 6273 rfl).trans ((kg3.fi 6273 rfl).trans (kg2.fi 6273 rfl))))).trans hN) hX) (kj_d3 (n := n) (c := 9) (o1 := 12) (by decide)) ?_
          intro vg16 ig16 ag16 qg16 rg16 kg16 hg16
          have hGg16 := kG_call hGg14 kg16 (by decide +kernel)
          have eRrg16_2 : rg16 2 = 100 := (kg16.fr 2 rfl).trans eRrg14_2
          obtain ⟨hg16, og16⟩ := hg16
          have efig13_6273 : (ig13 6273).toInt = (i6 6273).toInt := kg13.ti 6273 rfl
          have efig14_6273 : (ig14 6273).toInt = (ig13 6273).toInt := kg14.ti 6273 rfl
          have ho18 : vg16.toInt = (-1) ∨ vg16.toInt = (cHr t nn (ig14 6274) (ig14 6275)).toInt := tOf_v og16
          have s19 : (l3_6 + 1).toInt = l3_6.toInt + (1 : Int32).toInt := kd_add (op18 p6_0 kop1) (op117 c9 fi6_6273.2 kop1)
          refine ft_go mi_k52 3 14 [(3, .int (l3_6 + 1)), (2, .int vg16), (0, .ref 98), (1, .int x1)] [] ig16 ag16 qg16 rg16 (by rfl) ?_
          have efig16_6273 : (ig16 6273).toInt = (ig14 6273).toInt := kg16.ti 6273 rfl
          exact ih6 _ _ _ _ _ _ hGg16 (op20 p6_0 s19 kop1) (cLS_again O6_0 (kj_sub2 (n := nn.toInt) (op118 c9 efi6_6273 efig2_6273 efig3_6273 hn1) (op4 p6_0) (op30 s19 kop1)) (op119 c12 kopm1) og13 (tAdd og14.1 (kg14.fi 6274 rfl) (kg14.fi 6275 rfl)) (tOf og16 (kg16.fi 6275 rfl) (kT3 (kg16.fa 101 rfl) (kg16.fa 102 rfl) (kg16.fi 6403 rfl)))) (kj_meas (op120 efig13_6273 efig14_6273 efig16_6273 s19 kop1) (op121 c9) hm6)
  exact lp6 _ _ _ _ _ _ _ (kG_self _ hGg3.I hGg3.R) (op36 kop0) (cLS_begin og2 (tOf og3 (kg3.fi 6275 rfl) (kT3 (kg3.fa 101 rfl) (kg3.fa 102 rfl) (kg3.fi 6403 rfl))) (kj_sub00 kop0)) (Nat.lt_succ_self _)
set_option maxRecDepth 100000 in
theorem kMsP100_51 (n : Nat) (h54 : kMP100_54 n) (h53 : kMP100_53 n) (h52 : kMP100_52 n) : kMP100_51 n := by
  intro i a q r hI hr x1 hp0 t nn hT hN hL hX
  have hG := kG_self wP100 hI hr
  refine km_ofN (q := (mi_h51, mi_c51)) rfl (by decide) (Nat.le_of_ble_eq_true rfl) ?_
  intro P hP
  have hn0 : (0 : Int) ≤ (n : Int) := Int.natCast_nonneg n
  have hn1 : (i 6273).toInt = nn.toInt := congrArg Int32.toInt hN
  have eRr_2 : r 2 = 100 := hL
  refine ft_go mi_k51 2 2 [(0, .ref 98), (1, .int x1)] [.int x1, .ref 98] i a q r (by rfl) ?_
  refine ko_callN mi_k51.1 (pc := 2) (ls := [(0, .ref 98), (1, .int x1)]) (st := [.int x1, .ref 98]) (h := ks i a q r) (i := (.invokevirtual 73, 3, 52, 0, 9, 0, 181)) (mi_k51.2 _ _ (by rfl)) (ft_invS mi_pq52 (by rfl)) (cy := mi_c52) mi_pq52 rfl (h52 _ _ _ _ hG.I hG.R x1 (op105 hp0.1 hp0.2) t nn hT hN eRr_2 hX) (kj_d1 (n := n) (o := 12) (o1 := 13) (by decide)) ?_
  intro ig2 ag2 qg2 rg2 kg2 hg2
  have hGg2 := kG_call hG kg2 (by decide +kernel)
  have eRrg2_2 : rg2 2 = 100 := (kg2.fr 2 rfl).trans eRr_2
  obtain ⟨hg2, og2⟩ := hg2
  refine ft_go mi_k51 2 8 [(0, .ref 98), (1, .int x1)] [.ref (mi_RO + 14), .ref 98] ig2 ag2 qg2 rg2 (by rfl) ?_
  refine ko_callI mi_k51.1 (pc := 8) (ls := [(0, .ref 98), (1, .int x1)]) (st := [.ref (mi_RO + 14), .ref 98]) (h := ks ig2 ag2 qg2 rg2) (i := (.invokevirtual 78, 3, 47, 0, 9, 0, 189)) (mi_k51.2 _ _ (by rfl)) (ft_invS mi_pq47 (by rfl)) (cy := mi_c47) mi_pq47 rfl (ke47_98_1000014 hGg2.I hGg2.R t nn ((kg2.fa 99 rfl).trans hT) ((kg2.fi 6273 rfl).trans hN) hX) (kj_d3 (n := n) (c := 9) (o1 := 13) (by decide)) ?_
  intro vg3 ig3 ag3 qg3 rg3 kg3 hg3
  have hGg3 := kG_call hGg2 kg3 (by decide +kernel)
  have eRrg3_2 : rg3 2 = 100 := (kg3.fr 2 rfl).trans eRrg2_2
  obtain ⟨hg3, og3⟩ := hg3
  have z4 : ((vg3.toInt = (-1)) ∧ ((ig3 6274).toInt = (ig2 6274).toInt)) ∨ (((ig3 6274).toInt = ((ig2 6274).toInt + 1)) ∧ ((ig2 6274).toInt < (ig2 6273).toInt) ∧ ((ig2 6275).toInt = 0) ∧ ((vg3.toInt = 60) ∨ (vg3.toInt = 61) ∨ (vg3.toInt = 62))) := hg3
  have ho5 : vg3.toInt = (-1) ∨ vg3.toInt = (cHr t nn (ig2 6274) (ig2 6275)).toInt := tOf_v og3
  refine ft_go mi_k51 3 14 [(2, .int vg3), (0, .ref 98), (1, .int x1)] [.int (-1), .int vg3] ig3 ag3 qg3 rg3 (by rfl) ?_
  refine ft_if mi_k51 (vg3 == (-1)) 32 17 [(2, .int vg3), (0, .ref 98), (1, .int x1)] [] (by rfl) (fun c => ?_) (fun c => ?_)
  ·
    have c6 : vg3.toInt = ((-1) : Int32).toInt := kd_eq c; clear c
    exact ft_ret mi_k51 (by rfl) (hP  _ _ _ _ hGg3 ⟨trivial, (cCm_out og2 (tOf og3 (kg3.fi 6275 rfl) (kT3 (kg3.fa 101 rfl) (kg3.fa 102 rfl) (kg3.fi 6403 rfl))) (op64 c6 kopm1))⟩)
  ·
    have c7 : vg3.toInt ≠ ((-1) : Int32).toInt := kd_eqF c; clear c
    refine ft_go mi_k51 2 19 [(2, .int vg3), (0, .ref 98), (1, .int x1)] [.int x1, .ref 98] ig3 ag3 qg3 rg3 (by rfl) ?_
    refine ko_callN mi_k51.1 (pc := 19) (ls := [(2, .int vg3), (0, .ref 98), (1, .int x1)]) (st := [.int x1, .ref 98]) (h := ks ig3 ag3 qg3 rg3) (i := (.invokevirtual 73, 3, 52, 0, 9, 0, 181)) (mi_k51.2 _ _ (by rfl)) (ft_invS mi_pq52 (by rfl)) (cy := mi_c52) mi_pq52 rfl (h52 _ _ _ _ hGg3.I hGg3.R x1 (op105 hp0.1 hp0.2) t nn (((kg3.fa 99 rfl).trans (kg2.fa 99 rfl)).trans hT) (((kg3.fi 6273 rfl).trans (kg2.fi 6273 rfl)).trans hN) eRrg3_2 hX) (kj_d1 (n := n) (o := 12) (o1 := 13) (by decide)) ?_
    intro ig8 ag8 qg8 rg8 kg8 hg8
    have hGg8 := kG_call hGg3 kg8 (by decide +kernel)
    have eRrg8_2 : rg8 2 = 100 := (kg8.fr 2 rfl).trans eRrg3_2
    obtain ⟨hg8, og8⟩ := hg8
    refine ft_go mi_k51 2 26 [(2, .int vg3), (0, .ref 98), (1, .int x1)] [.ref (rg8 2)] ig8 ag8 qg8 rg8 (by rfl) ?_
    refine ko_eq (x1 := (26, [(2, .int vg3), (0, .ref 98), (1, .int x1)], [.ref 100], (0, 0), ks ig8 ag8 qg8 rg8)) (by rw [eRrg8_2]) ?_
    refine ft_go mi_k51 2 28 [(2, .int vg3), (0, .ref 98), (1, .int x1)] [.int 0, .int vg3, .ref 100] ig8 ag8 qg8 rg8 (by rfl) ?_
    refine ko_callI mi_k51.1 (pc := 28) (ls := [(2, .int vg3), (0, .ref 98), (1, .int x1)]) (st := [.int 0, .int vg3, .ref 100]) (h := ks ig8 ag8 qg8 rg8) (i := (.invokevirtual 60, 3, 17, 0, 9, 0, 187)) (mi_k51.2 _ _ (by rfl)) (ft_invS mi_pq17 (by rfl)) (cy := mi_c17) mi_pq17 rfl (kf17_100 hGg8.I hGg8.R vg3 0) (kj_d3 (n := n) (c := 1) (o1 := 13) (by decide)) ?_
    intro vg9 ig9 ag9 qg9 rg9 kg9 hg9
    have hGg9 := kG_call hGg8 kg9 (by decide +kernel)
    have eRrg9_2 : rg9 2 = 100 := (kg9.fr 2 rfl).trans eRrg8_2
    obtain ⟨hg9, og9⟩ := hg9
    refine ft_go mi_k51 1 32 [(2, .int vg3), (0, .ref 98), (1, .int x1)] [] ig9 ag9 qg9 rg9 (by rfl) ?_
    exact ft_ret mi_k51 (by rfl) (hP  _ _ _ _ hGg9 ⟨trivial, (cCm_in og2 (tOf og3 (kg3.fi 6275 rfl) (kT3 (kg3.fa 101 rfl) (kg3.fa 102 rfl) (kg3.fi 6403 rfl))) (op142 c7 z4 kopm1) og8 (tAdd og9.1 (kg9.fi 6274 rfl) (kg9.fi 6275 rfl)))⟩)
set_option maxRecDepth 100000 in
theorem kMsP100_50 (n : Nat) (h54 : kMP100_54 n) (h53 : kMP100_53 n) (h52 : kMP100_52 n) (h51 : kMP100_51 n) : kMP100_50 n := by
  intro i a q r hI hr x1 hp0 t nn hT hN hL hX
  have hG := kG_self wP100 hI hr
  refine km_ofN (q := (mi_h50, mi_c50)) rfl (by decide) (Nat.le_of_ble_eq_true rfl) ?_
  intro P hP
  have hn0 : (0 : Int) ≤ (n : Int) := Int.natCast_nonneg n
  have hn1 : (i 6273).toInt = nn.toInt := congrArg Int32.toInt hN
  have eRr_2 : r 2 = 100 := hL
  refine ft_go mi_k50 2 2 [(0, .ref 98), (1, .int x1)] [.int x1, .ref 98] i a q r (by rfl) ?_
  refine ko_callN mi_k50.1 (pc := 2) (ls := [(0, .ref 98), (1, .int x1)]) (st := [.int x1, .ref 98]) (h := ks i a q r) (i := (.invokevirtual 70, 3, 51, 0, 9, 0, 180)) (mi_k50.2 _ _ (by rfl)) (ft_invS mi_pq51 (by rfl)) (cy := mi_c51) mi_pq51 rfl (h51 _ _ _ _ hG.I hG.R x1 (op105 hp0.1 hp0.2) t nn hT hN eRr_2 hX) (kj_d1 (n := n) (o := 13) (o1 := 14) (by decide)) ?_
  intro ig2 ag2 qg2 rg2 kg2 hg2
  have hGg2 := kG_call hG kg2 (by decide +kernel)
  have eRrg2_2 : rg2 2 = 100 := (kg2.fr 2 rfl).trans eRr_2
  obtain ⟨hg2, og2⟩ := hg2
  refine ft_go mi_k50 2 7 [(2, .int 0), (0, .ref 98), (1, .int x1)] [] ig2 ag2 qg2 rg2 (by rfl) ?_
  have lp3 : ∀ (nz : Nat) (i3 : Nat → Int32) (a3 : Nat → List Int32) (q3 : Nat → List Int64) (r3 : Nat → Nat) (l2_3 : Int32), kG yw50_98_L100_L7 ig2 ag2 qg2 rg2 i3 a3 q3 r3 → (0 : Int) ≤ l2_3.toInt → cLpB t nn (cP5 t nn (cO t nn n)) 38 (nn.toInt - l2_3.toInt).toNat (i3 6274, i3 6275, a3 101, a3 102, i3 6403) = cBin t nn (cP5 t nn (cO t nn n)) 38 (i 6274, i 6275, a 101, a 102, i 6403) → (((i3 6273).toInt - l2_3.toInt)).toNat < nz → ko (6 * n + 14) (mi_h50, mi_c50) P (7, [(2, .int l2_3), (0, .ref 98), (1, .int x1)], [], (0, 0), ks i3 a3 q3 r3) := by
    intro nz
    induction nz with
    | zero =>
      intro _ _ _ _ _ _ _ _ hm
      exact absurd hm (Nat.not_lt_zero _)
    | succ nz ih3 =>
      intro i3 a3 q3 r3 l2_3 hL3 p3_0 O3_0 hm3
      have fi3_6273 : ((0 : Int) ≤ (i3 6273).toInt) ∧ ((i3 6273).toInt ≤ 120) := hL3.I.1 6273
      have efig2_6273 : (ig2 6273).toInt = (i 6273).toInt := kg2.ti 6273 rfl
      have efi3_6273 : (i3 6273).toInt = (ig2 6273).toInt := hL3.ti 6273 rfl
      have eRr3_2 : r3 2 = 100 := (hL3.fr 2 rfl).trans eRrg2_2
      refine ft_go mi_k50 3 12 [(2, .int l2_3), (0, .ref 98), (1, .int x1)] [.int (i3 6273), .int l2_3] i3 a3 q3 r3 (by rfl) ?_
      refine ft_if mi_k50 (decide ((i3 6273) ≤ l2_3)) 46 15 [(2, .int l2_3), (0, .ref 98), (1, .int x1)] [] (by rfl) (fun c => ?_) (fun c => ?_)
      ·
        have c4 : (i3 6273).toInt ≤ l2_3.toInt := kd_le c; clear c
        have hG5 := kG_call hGg2 hL3 (by decide +kernel)
        exact ft_ret mi_k50 (by rfl) (hP  _ _ _ _ hG5 ⟨trivial, (cLB_end O3_0 (kj_sub0 (n := nn.toInt) (op143 c4 efi3_6273 efig2_6273 hn1)))⟩)
      ·
        have c6 : l2_3.toInt < (i3 6273).toInt := kd_leF c; clear c
        refine ft_go mi_k50 2 18 [(2, .int l2_3), (0, .ref 98), (1, .int x1)] [.int 38, .ref 98] i3 a3 q3 r3 (by rfl) ?_
        refine ko_callI mi_k50.1 (pc := 18) (ls := [(2, .int l2_3), (0, .ref 98), (1, .int x1)]) (st := [.int 38, .ref 98]) (h := ks i3 a3 q3 r3) (i := (.invokevirtual 39, 3, 46, 0, 9, 0, 200)) (mi_k50.2 _ _ (by rfl)) (ft_invS mi_pq46 (by rfl)) (cy := mi_c46) mi_pq46 rfl (ke46_98 hL3.I hL3.R 38 (op144 kop38) t nn (((hL3.fa 99 rfl).trans (kg2.fa 99 rfl)).trans hT) (((hL3.fi 6273 rfl).trans (kg2.fi 6273 rfl)).trans hN) hX) (kj_d3 (n := n) (c := 3) (o1 := 14) (by decide)) ?_
        intro vg7 ig7 ag7 qg7 rg7 kg7 hg7
        have hGg7 := kG_call hL3 kg7 (by decide +kernel)
        have eRrg7_2 : rg7 2 = 100 := (kg7.fr 2 rfl).trans eRr3_2
        obtain ⟨hg7, og7⟩ := hg7
        have z8 : ((vg7.toInt = 1) ∧ ((ig7 6274).toInt = ((i3 6274).toInt + 1)) ∧ ((i3 6274).toInt < (i3 6273).toInt) ∧ ((i3 6275).toInt = 0)) ∨ ((vg7.toInt = 0) ∧ ((ig7 6274).toInt = (i3 6274).toInt)) := hg7
        refine ft_if mi_k50 (vg7 == 0) 46 24 [(2, .int l2_3), (0, .ref 98), (1, .int x1)] [] (by rfl) (fun c => ?_) (fun c => ?_)
        ·
          have c9 : vg7.toInt = (0 : Int32).toInt := kd_eq c; clear c
          have hG10 := kG_call hGg2 hGg7 (by decide +kernel)
          exact ft_ret mi_k50 (by rfl) (hP  _ _ _ _ hG10 ⟨trivial, (cLB_out O3_0 (kj_sub1 (n := nn.toInt) (op145 c6 efi3_6273 efig2_6273 hn1) (op4 p3_0)) (tTk og7 (kg7.fi 6275 rfl) (kT3 (kg7.fa 101 rfl) (kg7.fa 102 rfl) (kg7.fi 6403 rfl))) (op98 c9 kop0))⟩)
        ·
          have c11 : vg7.toInt ≠ (0 : Int32).toInt := kd_eqF c; clear c
          refine ft_go mi_k50 2 26 [(2, .int l2_3), (0, .ref 98), (1, .int x1)] [.int x1, .ref 98] ig7 ag7 qg7 rg7 (by rfl) ?_
          refine ko_callN mi_k50.1 (pc := 26) (ls := [(2, .int l2_3), (0, .ref 98), (1, .int x1)]) (st := [.int x1, .ref 98]) (h := ks ig7 ag7 qg7 rg7) (i := (.invokevirtual 70, 3, 51, 0, 9, 0, 180)) (mi_k50.2 _ _ (by rfl)) (ft_invS mi_pq51 (by rfl)) (cy := mi_c51) mi_pq51 rfl (h51 _ _ _ _ hGg7.I hGg7.R x1 (op105 hp0.1 hp0.2) t nn ((((kg7.fa 99 rfl).trans (hL3.fa 99 rfl)).trans (kg2.fa 99 rfl)).trans hT) (((kg7.fi 6273 rfl).trans ((hL3.fi 6273 rfl).trans (kg2.fi 6273 rfl))).trans hN) eRrg7_2 hX) (kj_d1 (n := n) (o := 13) (o1 := 14) (by decide)) ?_
          intro ig12 ag12 qg12 rg12 kg12 hg12
          have hGg12 := kG_call hGg7 kg12 (by decide +kernel)
          have eRrg12_2 : rg12 2 = 100 := (kg12.fr 2 rfl).trans eRrg7_2
          obtain ⟨hg12, og12⟩ := hg12
          refine ft_go mi_k50 2 33 [(2, .int l2_3), (0, .ref 98), (1, .int x1)] [.ref (rg12 2)] ig12 ag12 qg12 rg12 (by rfl) ?_
          refine ko_eq (x1 := (33, [(2, .int l2_3), (0, .ref 98), (1, .int x1)], [.ref 100], (0, 0), ks ig12 ag12 qg12 rg12)) (by rw [eRrg12_2]) ?_
          refine ft_go mi_k50 2 36 [(2, .int l2_3), (0, .ref 98), (1, .int x1)] [.int 0, .int 38, .ref 100] ig12 ag12 qg12 rg12 (by rfl) ?_
          refine ko_callI mi_k50.1 (pc := 36) (ls := [(2, .int l2_3), (0, .ref 98), (1, .int x1)]) (st := [.int 0, .int 38, .ref 100]) (h := ks ig12 ag12 qg12 rg12) (i := (.invokevirtual 60, 3, 17, 0, 9, 0, 187)) (mi_k50.2 _ _ (by rfl)) (ft_invS mi_pq17 (by rfl)) (cy := mi_c17) mi_pq17 rfl (kf17_100 hGg12.I hGg12.R 38 0) (kj_d3 (n := n) (c := 1) (o1 := 14) (by decide)) ?_
          intro vg13 ig13 ag13 qg13 rg13 kg13 hg13
          have hGg13 := kG_call hGg12 kg13 (by decide +kernel)
          have eRrg13_2 : rg13 2 = 100 := (kg13.fr 2 rfl).trans eRrg12_2
          obtain ⟨hg13, og13⟩ := hg13
          have s15 : (l2_3 + 1).toInt = l2_3.toInt + (1 : Int32).toInt := kd_add (op18 p3_0 kop1) (op117 c6 fi3_6273.2 kop1)
          refine ft_go mi_k50 3 7 [(2, .int (l2_3 + 1)), (0, .ref 98), (1, .int x1)] [] ig13 ag13 qg13 rg13 (by rfl) ?_
          have efig7_6273 : (ig7 6273).toInt = (i3 6273).toInt := kg7.ti 6273 rfl
          have efig12_6273 : (ig12 6273).toInt = (ig7 6273).toInt := kg12.ti 6273 rfl
          have efig13_6273 : (ig13 6273).toInt = (ig12 6273).toInt := kg13.ti 6273 rfl
          exact ih3 _ _ _ _ _ hGg13 (op20 p3_0 s15 kop1) (cLB_again O3_0 (kj_sub2 (n := nn.toInt) (op145 c6 efi3_6273 efig2_6273 hn1) (op4 p3_0) (op30 s15 kop1)) (tTk og7 (kg7.fi 6275 rfl) (kT3 (kg7.fa 101 rfl) (kg7.fa 102 rfl) (kg7.fi 6403 rfl))) (op146 c11 z8 kop0) og12 (tAdd og13.1 (kg13.fi 6274 rfl) (kg13.fi 6275 rfl))) (kj_meas (op147 efig12_6273 efig13_6273 efig7_6273 s15 kop1) (op121 c6) hm3)
  exact lp3 _ _ _ _ _ _ (kG_self _ hGg2.I hGg2.R) (op36 kop0) (cLB_begin og2 (kj_sub00 kop0)) (Nat.lt_succ_self _)
set_option maxRecDepth 100000 in
theorem kMsP100_49 (n : Nat) (h54 : kMP100_54 n) (h53 : kMP100_53 n) (h52 : kMP100_52 n) (h51 : kMP100_51 n) (h50 : kMP100_50 n) : kMP100_49 n := by
  intro i a q r hI hr x1 hp0 t nn hT hN hL hX
  have hG := kG_self wP100 hI hr
  refine km_ofN (q := (mi_h49, mi_c49)) rfl (by decide) (Nat.le_of_ble_eq_true rfl) ?_
  intro P hP
  have hn0 : (0 : Int) ≤ (n : Int) := Int.natCast_nonneg n
  have hn1 : (i 6273).toInt = nn.toInt := congrArg Int32.toInt hN
  have eRr_2 : r 2 = 100 := hL
  refine ft_go mi_k49 2 2 [(0, .ref 98), (1, .int x1)] [.int x1, .ref 98] i a q r (by rfl) ?_
  refine ko_callN mi_k49.1 (pc := 2) (ls := [(0, .ref 98), (1, .int x1)]) (st := [.int x1, .ref 98]) (h := ks i a q r) (i := (.invokevirtual 67, 3, 50, 0, 9, 0, 179)) (mi_k49.2 _ _ (by rfl)) (ft_invS mi_pq50 (by rfl)) (cy := mi_c50) mi_pq50 rfl (h50 _ _ _ _ hG.I hG.R x1 (op105 hp0.1 hp0.2) t nn hT hN eRr_2 hX) (kj_d1 (n := n) (o := 14) (o1 := 15) (by decide)) ?_
  intro ig2 ag2 qg2 rg2 kg2 hg2
  have hGg2 := kG_call hG kg2 (by decide +kernel)
  have eRrg2_2 : rg2 2 = 100 := (kg2.fr 2 rfl).trans eRr_2
  obtain ⟨hg2, og2⟩ := hg2
  refine ft_go mi_k49 2 7 [(2, .int 0), (0, .ref 98), (1, .int x1)] [] ig2 ag2 qg2 rg2 (by rfl) ?_
  have lp3 : ∀ (nz : Nat) (i3 : Nat → Int32) (a3 : Nat → List Int32) (q3 : Nat → List Int64) (r3 : Nat → Nat) (l2_3 : Int32), kG yw49_98_L100_L7 ig2 ag2 qg2 rg2 i3 a3 q3 r3 → (0 : Int) ≤ l2_3.toInt → cLpB t nn (cP6 t nn (cO t nn n)) 124 (nn.toInt - l2_3.toInt).toNat (i3 6274, i3 6275, a3 101, a3 102, i3 6403) = cBin t nn (cP6 t nn (cO t nn n)) 124 (i 6274, i 6275, a 101, a 102, i 6403) → (((i3 6273).toInt - l2_3.toInt)).toNat < nz → ko (6 * n + 15) (mi_h49, mi_c49) P (7, [(2, .int l2_3), (0, .ref 98), (1, .int x1)], [], (0, 0), ks i3 a3 q3 r3) := by
    intro nz
    induction nz with
    | zero =>
      intro _ _ _ _ _ _ _ _ hm
      exact absurd hm (Nat.not_lt_zero _)
    | succ nz ih3 =>
      intro i3 a3 q3 r3 l2_3 hL3 p3_0 O3_0 hm3
      have fi3_6273 : ((0 : Int) ≤ (i3 6273).toInt) ∧ ((i3 6273).toInt ≤ 120) := hL3.I.1 6273
      have efig2_6273 : (ig2 6273).toInt = (i 6273).toInt := kg2.ti 6273 rfl
      have efi3_6273 : (i3 6273).toInt = (ig2 6273).toInt := hL3.ti 6273 rfl
      have eRr3_2 : r3 2 = 100 := (hL3.fr 2 rfl).trans eRrg2_2
      refine ft_go mi_k49 3 12 [(2, .int l2_3), (0, .ref 98), (1, .int x1)] [.int (i3 6273), .int l2_3] i3 a3 q3 r3 (by rfl) ?_
      refine ft_if mi_k49 (decide ((i3 6273) ≤ l2_3)) 46 15 [(2, .int l2_3), (0, .ref 98), (1, .int x1)] [] (by rfl) (fun c => ?_) (fun c => ?_)
      ·
        have c4 : (i3 6273).toInt ≤ l2_3.toInt := kd_le c; clear c
        have hG5 := kG_call hGg2 hL3 (by decide +kernel)
        exact ft_ret mi_k49 (by rfl) (hP  _ _ _ _ hG5 ⟨trivial, (cLB_end O3_0 (kj_sub0 (n := nn.toInt) (op143 c4 efi3_6273 efig2_6273 hn1)))⟩)
      ·
        have c6 : l2_3.toInt < (i3 6273).toInt := kd_leF c; clear c
        refine ft_go mi_k49 2 18 [(2, .int l2_3), (0, .ref 98), (1, .int x1)] [.int 124, .ref 98] i3 a3 q3 r3 (by rfl) ?_
        refine ko_callI mi_k49.1 (pc := 18) (ls := [(2, .int l2_3), (0, .ref 98), (1, .int x1)]) (st := [.int 124, .ref 98]) (h := ks i3 a3 q3 r3) (i := (.invokevirtual 39, 3, 46, 0, 9, 0, 200)) (mi_k49.2 _ _ (by rfl)) (ft_invS mi_pq46 (by rfl)) (cy := mi_c46) mi_pq46 rfl (ke46_98 hL3.I hL3.R 124 (op148 kop124) t nn (((hL3.fa 99 rfl).trans (kg2.fa 99 rfl)).trans hT) (((hL3.fi 6273 rfl).trans (kg2.fi 6273 rfl)).trans hN) hX) (kj_d3 (n := n) (c := 3) (o1 := 15) (by decide)) ?_
        intro vg7 ig7 ag7 qg7 rg7 kg7 hg7
        have hGg7 := kG_call hL3 kg7 (by decide +kernel)
        have eRrg7_2 : rg7 2 = 100 := (kg7.fr 2 rfl).trans eRr3_2
        obtain ⟨hg7, og7⟩ := hg7
        have z8 : ((vg7.toInt = 1) ∧ ((ig7 6274).toInt = ((i3 6274).toInt + 1)) ∧ ((i3 6274).toInt < (i3 6273).toInt) ∧ ((i3 6275).toInt = 0)) ∨ ((vg7.toInt = 0) ∧ ((ig7 6274).toInt = (i3 6274).toInt)) := hg7
        refine ft_if mi_k49 (vg7 == 0) 46 24 [(2, .int l2_3), (0, .ref 98), (1, .int x1)] [] (by rfl) (fun c => ?_) (fun c => ?_)
        ·
          have c9 : vg7.toInt = (0 : Int32).toInt := kd_eq c; clear c
          have hG10 := kG_call hGg2 hGg7 (by decide +kernel)
          exact ft_ret mi_k49 (by rfl) (hP  _ _ _ _ hG10 ⟨trivial, (cLB_out O3_0 (kj_sub1 (n := nn.toInt) (op145 c6 efi3_6273 efig2_6273 hn1) (op4 p3_0)) (tTk og7 (kg7.fi 6275 rfl) (kT3 (kg7.fa 101 rfl) (kg7.fa 102 rfl) (kg7.fi 6403 rfl))) (op98 c9 kop0))⟩)
        ·
          have c11 : vg7.toInt ≠ (0 : Int32).toInt := kd_eqF c; clear c
          refine ft_go mi_k49 2 26 [(2, .int l2_3), (0, .ref 98), (1, .int x1)] [.int x1, .ref 98] ig7 ag7 qg7 rg7 (by rfl) ?_
          refine ko_callN mi_k49.1 (pc := 26) (ls := [(2, .int l2_3), (0, .ref 98), (1, .int x1)]) (st := [.int x1, .ref 98]) (h := ks ig7 ag7 qg7 rg7) (i := (.invokevirtual 67, 3, 50, 0, 9, 0, 179)) (mi_k49.2 _ _ (by rfl)) (ft_invS mi_pq50 (by rfl)) (cy := mi_c50) mi_pq50 rfl (h50 _ _ _ _ hGg7.I hGg7.R x1 (op105 hp0.1 hp0.2) t nn ((((kg7.fa 99 rfl).trans (hL3.fa 99 rfl)).trans (kg2.fa 99 rfl)).trans hT) (((kg7.fi 6273 rfl).trans ((hL3.fi 6273 rfl).trans (kg2.fi 6273 rfl))).trans hN) eRrg7_2 hX) (kj_d1 (n := n) (o := 14) (o1 := 15) (by decide)) ?_
          intro ig12 ag12 qg12 rg12 kg12 hg12
          have hGg12 := kG_call hGg7 kg12 (by decide +kernel)
          have eRrg12_2 : rg12 2 = 100 := (kg12.fr 2 rfl).trans eRrg7_2
          obtain ⟨hg12, og12⟩ := hg12
          refine ft_go mi_k49 2 33 [(2, .int l2_3), (0, .ref 98), (1, .int x1)] [.ref (rg12 2)] ig12 ag12 qg12 rg12 (by rfl) ?_
          refine ko_eq (x1 := (33, [(2, .int l2_3), (0, .ref 98), (1, .int x1)], [.ref 100], (0, 0), ks ig12 ag12 qg12 rg12)) (by rw [eRrg12_2]) ?_
          refine ft_go mi_k49 2 36 [(2, .int l2_3), (0, .ref 98), (1, .int x1)] [.int 0, .int 124, .ref 100] ig12 ag12 qg12 rg12 (by rfl) ?_
          refine ko_callI mi_k49.1 (pc := 36) (ls := [(2, .int l2_3), (0, .ref 98), (1, .int x1)]) (st := [.int 0, .int 124, .ref 100]) (h := ks ig12 ag12 qg12 rg12) (i := (.invokevirtual 60, 3, 17, 0, 9, 0, 187)) (mi_k49.2 _ _ (by rfl)) (ft_invS mi_pq17 (by rfl)) (cy := mi_c17) mi_pq17 rfl (kf17_100 hGg12.I hGg12.R 124 0) (kj_d3 (n := n) (c := 1) (o1 := 15) (by decide)) ?_
          intro vg13 ig13 ag13 qg13 rg13 kg13 hg13
          have hGg13 := kG_call hGg12 kg13 (by decide +kernel)
          have eRrg13_2 : rg13 2 = 100 := (kg13.fr 2 rfl).trans eRrg12_2
          obtain ⟨hg13, og13⟩ := hg13
          have s15 : (l2_3 + 1).toInt = l2_3.toInt + (1 : Int32).toInt := kd_add (op18 p3_0 kop1) (op117 c6 fi3_6273.2 kop1)
          refine ft_go mi_k49 3 7 [(2, .int (l2_3 + 1)), (0, .ref 98), (1, .int x1)] [] ig13 ag13 qg13 rg13 (by rfl) ?_
          have efig7_6273 : (ig7 6273).toInt = (i3 6273).toInt := kg7.ti 6273 rfl
          have efig12_6273 : (ig12 6273).toInt = (ig7 6273).toInt := kg12.ti 6273 rfl
          have efig13_6273 : (ig13 6273).toInt = (ig12 6273).toInt := kg13.ti 6273 rfl
          exact ih3 _ _ _ _ _ hGg13 (op20 p3_0 s15 kop1) (cLB_again O3_0 (kj_sub2 (n := nn.toInt) (op145 c6 efi3_6273 efig2_6273 hn1) (op4 p3_0) (op30 s15 kop1)) (tTk og7 (kg7.fi 6275 rfl) (kT3 (kg7.fa 101 rfl) (kg7.fa 102 rfl) (kg7.fi 6403 rfl))) (op146 c11 z8 kop0) og12 (tAdd og13.1 (kg13.fi 6274 rfl) (kg13.fi 6275 rfl))) (kj_meas (op147 efig12_6273 efig13_6273 efig7_6273 s15 kop1) (op121 c6) hm3)
  exact lp3 _ _ _ _ _ _ (kG_self _ hGg2.I hGg2.R) (op36 kop0) (cLB_begin og2 (kj_sub00 kop0)) (Nat.lt_succ_self _)
theorem kMallP100 : ∀ n : Nat, kMP100_49 n ∧ kMP100_54 n
  | 0 => by
    have ih : ∀ m, 0 = m + 1 → kMP100_49 m ∧ kMP100_54 m := fun m h => by omega
    have h54 := kMsP100_54 0  ih
    have h53 := kMsP100_53 0 h54
    have h52 := kMsP100_52 0 h54 h53
    have h51 := kMsP100_51 0 h54 h53 h52
    have h50 := kMsP100_50 0 h54 h53 h52 h51
    have h49 := kMsP100_49 0 h54 h53 h52 h51 h50
    exact ⟨h49, h54⟩
  | n + 1 => by
    have ih : ∀ m, n + 1 = m + 1 → kMP100_49 m ∧ kMP100_54 m := fun m h => by
      have e : n = m := by omega
      subst e
      exact kMallP100 n
    have h54 := kMsP100_54 (n + 1)  ih
    have h53 := kMsP100_53 (n + 1) h54
    have h52 := kMsP100_52 (n + 1) h54 h53
    have h51 := kMsP100_51 (n + 1) h54 h53 h52
    have h50 := kMsP100_50 (n + 1) h54 h53 h52 h51
    have h49 := kMsP100_49 (n + 1) h54 h53 h52 h51 h50
    exact ⟨h49, h54⟩
def zw18_100 : kW := ([], [102], [], [])
set_option maxRecDepth 100000 in
theorem kf18_100 {i : Nat → Int32} {a : Nat → List Int32} {q : Nat → List Int64} {r : Nat → Nat} (hI : kI i a q) (hr : kr r) (x1 : Int32) : km 1 18 [.ref 100, .int x1] (ks i a q r) (kVN zw18_100 i a q r (fun i1 a1 q1 r1 => ((i1 6403).toInt = (i 6403).toInt) ∧ (a1 101, a1 102, i1 6403) = lAim x1 (a 101, a 102, i 6403))) := by
  have hG := kG_self zw18_100 hI hr
  refine km_ofN (q := (mi_h18, mi_c18)) rfl (by decide) (Nat.le_of_ble_eq_true rfl) ?_
  intro P hP
  refine ft_go mi_k18 1 1 [(0, .ref 100), (1, .int x1)] [.int x1] i a q r (by rfl) ?_
  refine ft_if mi_k18 (decide (x1 < 0)) 22 4 [(0, .ref 100), (1, .int x1)] [] (by rfl) (fun c => ?_) (fun c => ?_)
  ·
    have c1 : x1.toInt < (0 : Int32).toInt := kd_lt c; clear c
    exact ft_ret mi_k18 (by rfl) (hP  _ _ _ _ hG ⟨op150, ((show (a 101, a 102, i 6403) = (a 101, a 102, i 6403) from rfl).trans (if_neg (op151 c1 kop0)).symm)⟩)
  ·
    have c2 : (0 : Int32).toInt ≤ x1.toInt := kd_ltF c; clear c
    have fi_6403 : ((0 : Int) ≤ (i 6403).toInt) ∧ ((i 6403).toInt ≤ 121) := hG.I.1 6403
    refine ft_go mi_k18 3 9 [(0, .ref 100), (1, .int x1)] [.int (i 6403), .int x1] i a q r (by rfl) ?_
    refine ft_if mi_k18 (decide ((i 6403) ≤ x1)) 22 12 [(0, .ref 100), (1, .int x1)] [] (by rfl) (fun c => ?_) (fun c => ?_)
    ·
      have c3 : (i 6403).toInt ≤ x1.toInt := kd_le c; clear c
      exact ft_ret mi_k18 (by rfl) (hP  _ _ _ _ hG ⟨op150, ((show (a 101, a 102, i 6403) = (a 101, a 102, i 6403) from rfl).trans (if_neg (op152 c3)).symm)⟩)
    ·
      have c4 : x1.toInt < (i 6403).toInt := kd_leF c; clear c
      refine ft_go mi_k18 5 21 [(0, .ref 100), (1, .int x1)] [.int (i 6403), .int x1, .ref 102] i a q r (by rfl) ?_
      refine ko_iast3 mi_k18.1 (n := 121) (c := 121) (ax := (0, 0, 0, 0, 0)) (mi_k18.2 _ _ (by rfl)) (by rfl) (ksG102 _ _ _ _) (ksA102 _ _ _ _) (hG.I.2.1 102) rfl (op153 c2 kop0) (op154 c4 fi_6403.2) ?_
      intro a5 ea5 fa5
      have hJ5 := kG_a3 hG 102 rfl ea5 fa5 (kd_bd _)
      exact ft_ret mi_k18 (by rfl) (hP  _ _ _ _ hJ5 ⟨op150, ((show (a5 101, a5 102, i 6403) = (a 101, (a 102).set x1.toNatClampNeg (i 6403), i 6403) from by rw [fa5 101 (by decide), ea5]).trans (if_pos ⟨(op153 c2 kop0), (op155 c4)⟩).symm)⟩)
def yw48_98_L100 : kW := ([6274, 6275, 6403], [101, 102], [], [])
set_option maxRecDepth 100000 in
theorem ke48_98_L100 {i : Nat → Int32} {a : Nat → List Int32} {q : Nat → List Int64} {r : Nat → Nat} (hI : kI i a q) (hr : kr r) (t : List Int32) (nn : Int32) (hT : a 99 = t) (hN : i 6273 = nn) (hL : r 2 = 100) (hX : kBy t) : km 53 48 [.ref 98] (ks i a q r) (kVN yw48_98_L100 i a q r (fun i1 a1 q1 r1 => (True) ∧ (i1 6274, i1 6275, a1 101, a1 102, i1 6403) = cLin t nn (i 6274, i 6275, a 101, a 102, i 6403))) := by
  have hG := kG_self yw48_98_L100 hI hr
  refine km_ofN (q := (mi_h48, mi_c48)) rfl (by decide) (Nat.le_of_ble_eq_true rfl) ?_
  intro P hP
  have hn1 : (i 6273).toInt = nn.toInt := congrArg Int32.toInt hN
  have eRr_2 : r 2 = 100 := hL
  refine ft_go mi_k48 2 2 [(0, .ref 98)] [.int 0, .ref 98] i a q r (by rfl) ?_
  have nn0 := kop0
  refine ko_callN mi_k48.1 (pc := 2) (ls := [(0, .ref 98)]) (st := [.int 0, .ref 98]) (h := ks i a q r) (i := (.invokevirtual 56, 3, 49, 0, 9, 0, 178)) (mi_k48.2 _ _ (by rfl)) (ft_invS mi_pq49 (by rfl)) (cy := mi_c49) mi_pq49 rfl ((kMallP100 6).1 _ _ _ _ hG.I hG.R 0 (by have := kop0; omega) t nn hT hN eRr_2 hX) (by decide) ?_
  intro ig2 ag2 qg2 rg2 kg2 hg2
  have hGg2 := kG_call hG kg2 (by decide +kernel)
  have eRrg2_2 : rg2 2 = 100 := (kg2.fr 2 rfl).trans eRr_2
  obtain ⟨hg2, og2⟩ := hg2
  refine ft_go mi_k48 2 8 [(0, .ref 98)] [.int 63, .ref 98] ig2 ag2 qg2 rg2 (by rfl) ?_
  refine ko_callI mi_k48.1 (pc := 8) (ls := [(0, .ref 98)]) (st := [.int 63, .ref 98]) (h := ks ig2 ag2 qg2 rg2) (i := (.invokevirtual 39, 3, 46, 0, 9, 0, 200)) (mi_k48.2 _ _ (by rfl)) (ft_invS mi_pq46 (by rfl)) (cy := mi_c46) mi_pq46 rfl (ke46_98 hGg2.I hGg2.R 63 (op149 kop63) t nn ((kg2.fa 99 rfl).trans hT) ((kg2.fi 6273 rfl).trans hN) hX) (by decide) ?_
  intro vg3 ig3 ag3 qg3 rg3 kg3 hg3
  have hGg3 := kG_call hGg2 kg3 (by decide +kernel)
  have eRrg3_2 : rg3 2 = 100 := (kg3.fr 2 rfl).trans eRrg2_2
  obtain ⟨hg3, og3⟩ := hg3
  have fig3_6274 : ((0 : Int) ≤ (ig3 6274).toInt) ∧ ((ig3 6274).toInt ≤ 120) := hGg3.I.1 6274
  have fig2_6274 : ((0 : Int) ≤ (ig2 6274).toInt) ∧ ((ig2 6274).toInt ≤ 120) := hGg2.I.1 6274
  have fig2_6273 : ((0 : Int) ≤ (ig2 6273).toInt) ∧ ((ig2 6273).toInt ≤ 120) := hGg2.I.1 6273
  have fi_6273 : ((0 : Int) ≤ (i 6273).toInt) ∧ ((i 6273).toInt ≤ 120) := hG.I.1 6273
  have efig2_6273 : (ig2 6273).toInt = (i 6273).toInt := kg2.ti 6273 rfl
  have fig2_6275 : ((0 : Int) ≤ (ig2 6275).toInt) ∧ ((ig2 6275).toInt ≤ 1) := hGg2.I.1 6275
  have z4 : ((vg3.toInt = 1) ∧ ((ig3 6274).toInt = ((ig2 6274).toInt + 1)) ∧ ((ig2 6274).toInt < (ig2 6273).toInt) ∧ ((ig2 6275).toInt = 0)) ∨ ((vg3.toInt = 0) ∧ ((ig3 6274).toInt = (ig2 6274).toInt)) := hg3
  refine ft_if mi_k48 (vg3 == 0) 50 14 [(0, .ref 98)] [] (by rfl) (fun c => ?_) (fun c => ?_)
  ·
    have c5 : vg3.toInt = (0 : Int32).toInt := kd_eq c; clear c
    refine ft_go mi_k48 2 54 [(0, .ref 98)] [.ref (rg3 2)] ig3 ag3 qg3 rg3 (by rfl) ?_
    refine ko_eq (x1 := (54, [(0, .ref 98)], [.ref 100], (0, 0), ks ig3 ag3 qg3 rg3)) (by rw [eRrg3_2]) ?_
    refine ft_go mi_k48 2 56 [(0, .ref 98)] [.int 0, .int 2, .ref 100] ig3 ag3 qg3 rg3 (by rfl) ?_
    refine ko_callI mi_k48.1 (pc := 56) (ls := [(0, .ref 98)]) (st := [.int 0, .int 2, .ref 100]) (h := ks ig3 ag3 qg3 rg3) (i := (.invokevirtual 60, 3, 17, 0, 9, 0, 187)) (mi_k48.2 _ _ (by rfl)) (ft_invS mi_pq17 (by rfl)) (cy := mi_c17) mi_pq17 rfl (kf17_100 hGg3.I hGg3.R 2 0) (by decide) ?_
    intro vg6 ig6 ag6 qg6 rg6 kg6 hg6
    have hGg6 := kG_call hGg3 kg6 (by decide +kernel)
    have eRrg6_2 : rg6 2 = 100 := (kg6.fr 2 rfl).trans eRrg3_2
    obtain ⟨hg6, og6⟩ := hg6
    refine ft_go mi_k48 1 60 [(0, .ref 98)] [] ig6 ag6 qg6 rg6 (by rfl) ?_
    exact ft_ret mi_k48 (by rfl) (hP  _ _ _ _ hGg6 ⟨trivial, (cLi_one og2 (tTk og3 (kg3.fi 6275 rfl) (kT3 (kg3.fa 101 rfl) (kg3.fa 102 rfl) (kg3.fi 6403 rfl))) (op98 c5 kop0) (tAdd og6.1 (kg6.fi 6274 rfl) (kg6.fi 6275 rfl)))⟩)
  ·
    have c8 : vg3.toInt ≠ (0 : Int32).toInt := kd_eqF c; clear c
    refine ft_go mi_k48 2 18 [(0, .ref 98)] [.ref (rg3 2)] ig3 ag3 qg3 rg3 (by rfl) ?_
    refine ko_eq (x1 := (18, [(0, .ref 98)], [.ref 100], (0, 0), ks ig3 ag3 qg3 rg3)) (by rw [eRrg3_2]) ?_
    refine ft_go mi_k48 2 20 [(0, .ref 98)] [.int 0, .int 3, .ref 100] ig3 ag3 qg3 rg3 (by rfl) ?_
    refine ko_callI mi_k48.1 (pc := 20) (ls := [(0, .ref 98)]) (st := [.int 0, .int 3, .ref 100]) (h := ks ig3 ag3 qg3 rg3) (i := (.invokevirtual 60, 3, 17, 0, 9, 0, 187)) (mi_k48.2 _ _ (by rfl)) (ft_invS mi_pq17 (by rfl)) (cy := mi_c17) mi_pq17 rfl (kf17_100 hGg3.I hGg3.R 3 0) (by decide) ?_
    intro vg9 ig9 ag9 qg9 rg9 kg9 hg9
    have hGg9 := kG_call hGg3 kg9 (by decide +kernel)
    have eRrg9_2 : rg9 2 = 100 := (kg9.fr 2 rfl).trans eRrg3_2
    obtain ⟨hg9, og9⟩ := hg9
    have fig3_6403 : ((0 : Int) ≤ (ig3 6403).toInt) ∧ ((ig3 6403).toInt ≤ 121) := hGg3.I.1 6403
    have fig2_6403 : ((0 : Int) ≤ (ig2 6403).toInt) ∧ ((ig2 6403).toInt ≤ 121) := hGg2.I.1 6403
    have efig3_6403 : (ig3 6403).toInt = (ig2 6403).toInt := kg3.ti 6403 rfl
    have fig9_6403 : ((0 : Int) ≤ (ig9 6403).toInt) ∧ ((ig9 6403).toInt ≤ 121) := hGg9.I.1 6403
    have z10 : (((ig3 6403).toInt ≤ 120) ∧ ((ig9 6403).toInt = ((ig3 6403).toInt + 1))) ∨ (((121 : Int) ≤ (ig3 6403).toInt) ∧ ((ig9 6403).toInt = (ig3 6403).toInt)) := hg9
    refine ft_go mi_k48 3 26 [(1, .int vg9), (0, .ref 98)] [.int 0, .ref 98] ig9 ag9 qg9 rg9 (by rfl) ?_
    have nn0 := kop0
    refine ko_callN mi_k48.1 (pc := 26) (ls := [(1, .int vg9), (0, .ref 98)]) (st := [.int 0, .ref 98]) (h := ks ig9 ag9 qg9 rg9) (i := (.invokevirtual 56, 3, 49, 0, 9, 0, 178)) (mi_k48.2 _ _ (by rfl)) (ft_invS mi_pq49 (by rfl)) (cy := mi_c49) mi_pq49 rfl ((kMallP100 6).1 _ _ _ _ hGg9.I hGg9.R 0 (by have := kop0; omega) t nn ((((kg9.fa 99 rfl).trans (kg3.fa 99 rfl)).trans (kg2.fa 99 rfl)).trans hT) (((kg9.fi 6273 rfl).trans ((kg3.fi 6273 rfl).trans (kg2.fi 6273 rfl))).trans hN) eRrg9_2 hX) (by decide) ?_
    intro ig11 ag11 qg11 rg11 kg11 hg11
    have hGg11 := kG_call hGg9 kg11 (by decide +kernel)
    have eRrg11_2 : rg11 2 = 100 := (kg11.fr 2 rfl).trans eRrg9_2
    obtain ⟨hg11, og11⟩ := hg11
    refine ft_go mi_k48 2 33 [(1, .int vg9), (0, .ref 98)] [.ref (rg11 2)] ig11 ag11 qg11 rg11 (by rfl) ?_
    refine ko_eq (x1 := (33, [(1, .int vg9), (0, .ref 98)], [.ref 100], (0, 0), ks ig11 ag11 qg11 rg11)) (by rw [eRrg11_2]) ?_
    refine ft_go mi_k48 2 35 [(1, .int vg9), (0, .ref 98)] [.int 0, .int 2, .ref 100] ig11 ag11 qg11 rg11 (by rfl) ?_
    refine ko_callI mi_k48.1 (pc := 35) (ls := [(1, .int vg9), (0, .ref 98)]) (st := [.int 0, .int 2, .ref 100]) (h := ks ig11 ag11 qg11 rg11) (i := (.invokevirtual 60, 3, 17, 0, 9, 0, 187)) (mi_k48.2 _ _ (by rfl)) (ft_invS mi_pq17 (by rfl)) (cy := mi_c17) mi_pq17 rfl (kf17_100 hGg11.I hGg11.R 2 0) (by decide) ?_
    intro vg12 ig12 ag12 qg12 rg12 kg12 hg12
    have hGg12 := kG_call hGg11 kg12 (by decide +kernel)
    have eRrg12_2 : rg12 2 = 100 := (kg12.fr 2 rfl).trans eRrg11_2
    obtain ⟨hg12, og12⟩ := hg12
    refine ft_go mi_k48 3 43 [(1, .int vg9), (0, .ref 98)] [.ref (rg12 2)] ig12 ag12 qg12 rg12 (by rfl) ?_
    refine ko_eq (x1 := (43, [(1, .int vg9), (0, .ref 98)], [.ref 100], (0, 0), ks ig12 ag12 qg12 rg12)) (by rw [eRrg12_2]) ?_
    refine ft_go mi_k48 1 44 [(1, .int vg9), (0, .ref 98)] [.int vg9, .ref 100] ig12 ag12 qg12 rg12 (by rfl) ?_
    refine ko_callN mi_k48.1 (pc := 44) (ls := [(1, .int vg9), (0, .ref 98)]) (st := [.int vg9, .ref 100]) (h := ks ig12 ag12 qg12 rg12) (i := (.invokevirtual 64, 3, 18, 0, 9, 0, 204)) (mi_k48.2 _ _ (by rfl)) (ft_invS mi_pq18 (by rfl)) (cy := mi_c18) mi_pq18 rfl (kf18_100 hGg12.I hGg12.R vg9) (by decide) ?_
    intro ig14 ag14 qg14 rg14 kg14 hg14
    have hGg14 := kG_call hGg12 kg14 (by decide +kernel)
    have eRrg14_2 : rg14 2 = 100 := (kg14.fr 2 rfl).trans eRrg12_2
    obtain ⟨hg14, og14⟩ := hg14
    refine ft_go mi_k48 1 60 [(1, .int vg9), (0, .ref 98)] [] ig14 ag14 qg14 rg14 (by rfl) ?_
    exact ft_ret mi_k48 (by rfl) (hP  _ _ _ _ hGg14 ⟨trivial, (cLi_two og2 (tTk og3 (kg3.fi 6275 rfl) (kT3 (kg3.fa 101 rfl) (kg3.fa 102 rfl) (kg3.fi 6403 rfl))) (op96 c8 z4 kop0) (tAdd og9.1 (kg9.fi 6274 rfl) (kg9.fi 6275 rfl)) (cLi_2 og9.2 og11 (tAdd og12.1 (kg12.fi 6274 rfl) (kg12.fi 6275 rfl)) (tAim og14 (kg14.fi 6274 rfl) (kg14.fi 6275 rfl))))⟩)
def zw16_100 : kW := ([6400, 6403], [], [], [])
set_option maxRecDepth 100000 in
theorem kf16_100 {i : Nat → Int32} {a : Nat → List Int32} {q : Nat → List Int64} {r : Nat → Nat} (hI : kI i a q) (hr : kr r)  : km 1 16 [.ref 100] (ks i a q r) (kVN zw16_100 i a q r (fun i1 a1 q1 r1 => (True) ∧ (i1 6400 = 0 ∧ i1 6403 = 0))) := by
  have hG := kG_self zw16_100 hI hr
  refine km_ofN (q := (mi_h16, mi_c16)) rfl (by decide) (Nat.le_of_ble_eq_true rfl) ?_
  intro P hP
  have hJ1 := kG_i hG 6400 rfl (v := 0) ⟨(op36 kop0), (op157 kop0)⟩
  have hJ2 := kG_i hJ1 6403 rfl (v := 0) ⟨(op36 kop0), (op158 kop0)⟩
  refine ft_go mi_k16 6 10 [(0, .ref 100)] [] (ku (ku i 6400 0) 6403 0) a q r (by rfl) ?_
  exact ft_ret mi_k16 (by rfl) (hP  _ _ _ _ hJ2 ⟨trivial, ⟨(show (0 : Int32) = 0 from (by first | rfl | (simp only [sMn, sMx]; done) | (simp only [sMn, sMx]; rfl))), (show (0 : Int32) = 0 from (by first | rfl | (simp only [sMn, sMx]; done) | (simp only [sMn, sMx]; rfl)))⟩⟩)
def yw44_98_L100 : kW := ([6274, 6275, 6400, 6403], [101, 102], [], [])
def yw44_98_L100_L23 : kW := ([6274, 6275, 6403], [101, 102], [], [])
set_option maxRecDepth 100000 in
theorem ke44_98_L100 {i : Nat → Int32} {a : Nat → List Int32} {q : Nat → List Int64} {r : Nat → Nat} (hI : kI i a q) (hr : kr r) (t : List Int32) (nn : Int32) (hT : a 99 = t) (hN : i 6273 = nn) (hL : r 2 = 100) (hX : kBy t) : km 55 44 [.ref 98] (ks i a q r) (kVI yw44_98_L100 i a q r (fun v i1 a1 q1 r1 => ((v.toInt = (-1)) ∨ ((0 : Int) ≤ v.toInt)) ∧ ((cOk nn (cTxt t nn (a 101) (a 102)) ∧ v = -1 ∧ i1 6400 = 1 ∧ (a1 101, a1 102, i1 6403) = (cTxt t nn (a 101) (a 102)).2.2) ∨ (¬ cOk nn (cTxt t nn (a 101) (a 102)) ∧ v = (cTxt t nn (a 101) (a 102)).1 ∧ 0 ≤ v.toInt)))) := by
  have hG := kG_self yw44_98_L100 hI hr
  refine km_ofI (q := (mi_h44, mi_c44)) rfl (by decide) (Nat.le_of_ble_eq_true rfl) ?_
  intro P hP
  have hn1 : (i 6273).toInt = nn.toInt := congrArg Int32.toInt hN
  have eRr_2 : r 2 = 100 := hL
  have hJ2 := kG_i hG 6274 rfl (v := 0) ⟨(op36 kop0), (op156 kop0)⟩
  have hJ3 := kG_i hJ2 6275 rfl (v := 0) ⟨(op36 kop0), (op157 kop0)⟩
  refine ft_go mi_k44 8 14 [(0, .ref 98)] [.ref (r 2)] (ku (ku i 6274 0) 6275 0) a q r (by rfl) ?_
  refine ko_eq (x1 := (14, [(0, .ref 98)], [.ref 100], (0, 0), ks (ku (ku i 6274 0) 6275 0) a q r)) (by rw [eRr_2]) ?_
  refine ko_callN mi_k44.1 (pc := 14) (ls := [(0, .ref 98)]) (st := [.ref 100]) (h := ks (ku (ku i 6274 0) 6275 0) a q r) (i := (.invokevirtual 33, 3, 16, 0, 9, 0, 176)) (mi_k44.2 _ _ (by rfl)) (ft_invS mi_pq16 (by rfl)) (cy := mi_c16) mi_pq16 rfl (kf16_100 hJ3.I hJ3.R ) (by decide) ?_
  intro ig4 ag4 qg4 rg4 kg4 hg4
  have hGg4 := kG_call hJ3 kg4 (by decide +kernel)
  have eRrg4_2 : rg4 2 = 100 := (kg4.fr 2 rfl).trans eRr_2
  obtain ⟨hg4, og4⟩ := hg4
  have q5 : ig4 6400 = 0 := og4.1
  have q6 : ig4 6403 = 0 := og4.2
  refine ft_go mi_k44 1 18 [(0, .ref 98)] [.ref 98] ig4 ag4 qg4 rg4 (by rfl) ?_
  refine ko_callN mi_k44.1 (pc := 18) (ls := [(0, .ref 98)]) (st := [.ref 98]) (h := ks ig4 ag4 qg4 rg4) (i := (.invokevirtual 36, 3, 48, 0, 9, 0, 177)) (mi_k44.2 _ _ (by rfl)) (ft_invS mi_pq48 (by rfl)) (cy := mi_c48) mi_pq48 rfl (ke48_98_L100 hGg4.I hGg4.R t nn ((kg4.fa 99 rfl).trans hT) ((kg4.fi 6273 rfl).trans hN) eRrg4_2 hX) (by decide) ?_
  intro ig7 ag7 qg7 rg7 kg7 hg7
  have hGg7 := kG_call hGg4 kg7 (by decide +kernel)
  have eRrg7_2 : rg7 2 = 100 := (kg7.fr 2 rfl).trans eRrg4_2
  obtain ⟨hg7, og7⟩ := hg7
  refine ft_go mi_k44 2 23 [(1, .int 0), (0, .ref 98)] [] ig7 ag7 qg7 rg7 (by rfl) ?_
  have lp8 : ∀ (nz : Nat) (i8 : Nat → Int32) (a8 : Nat → List Int32) (q8 : Nat → List Int64) (r8 : Nat → Nat) (l1_8 : Int32), kG yw44_98_L100_L23 ig7 ag7 qg7 rg7 i8 a8 q8 r8 → (0 : Int) ≤ l1_8.toInt → cLpL t nn (nn.toInt - l1_8.toInt).toNat (i8 6274, i8 6275, a8 101, a8 102, i8 6403) = (cTxt t nn (a 101) (a 102)) → (((i8 6273).toInt - l1_8.toInt)).toNat < nz → ko 55 (mi_h44, mi_c44) P (23, [(1, .int l1_8), (0, .ref 98)], [], (0, 0), ks i8 a8 q8 r8) := by
    intro nz
    induction nz with
    | zero =>
      intro _ _ _ _ _ _ _ _ hm
      exact absurd hm (Nat.not_lt_zero _)
    | succ nz ih8 =>
      intro i8 a8 q8 r8 l1_8 hL8 p8_0 O8_0 hm8
      have fi8_6273 : ((0 : Int) ≤ (i8 6273).toInt) ∧ ((i8 6273).toInt ≤ 120) := hL8.I.1 6273
      have efig4_6273 : (ig4 6273).toInt = (i 6273).toInt := kg4.ti 6273 rfl
      have efig7_6273 : (ig7 6273).toInt = (ig4 6273).toInt := kg7.ti 6273 rfl
      have efi8_6273 : (i8 6273).toInt = (ig7 6273).toInt := hL8.ti 6273 rfl
      have eRr8_2 : r8 2 = 100 := (hL8.fr 2 rfl).trans eRrg7_2
      refine ft_go mi_k44 3 28 [(1, .int l1_8), (0, .ref 98)] [.int (i8 6273), .int l1_8] i8 a8 q8 r8 (by rfl) ?_
      refine ft_if mi_k44 (decide ((i8 6273) ≤ l1_8)) 50 31 [(1, .int l1_8), (0, .ref 98)] [] (by rfl) (fun c => ?_) (fun c => ?_)
      ·
        have c9 : (i8 6273).toInt ≤ l1_8.toInt := kd_le c; clear c
        have hG10 := kG_call hGg7 hL8 (by decide +kernel)
        have hD11 : (i8 6274, i8 6275, a8 101, a8 102, i8 6403) = (cTxt t nn (a 101) (a 102)) := cLL_end O8_0 (kj_sub0 (n := nn.toInt) (op116 c9 efi8_6273 efig4_6273 efig7_6273 hn1))
        have fi8_6275 : ((0 : Int) ≤ (i8 6275).toInt) ∧ ((i8 6275).toInt ≤ 1) := hG10.I.1 6275
        refine ft_go mi_k44 2 54 [(1, .int l1_8), (0, .ref 98)] [.int (i8 6275)] i8 a8 q8 r8 (by rfl) ?_
        refine ft_if mi_k44 ((i8 6275) != 0) 68 57 [(1, .int l1_8), (0, .ref 98)] [] (by rfl) (fun c => ?_) (fun c => ?_)
        ·
          have c12 : (i8 6275).toInt ≠ (0 : Int32).toInt := kd_ne c; clear c
          have fi8_6274 : ((0 : Int) ≤ (i8 6274).toInt) ∧ ((i8 6274).toInt ≤ 120) := hG10.I.1 6274
          refine ft_go mi_k44 2 72 [(1, .int l1_8), (0, .ref 98)] [.int (i8 6274)] i8 a8 q8 r8 (by rfl) ?_
          exact ft_ret mi_k44 (by rfl) (hP (i8 6274) _ _ _ _ hG10 ⟨(op159 fi8_6274.1), (rd_bad hD11 (op160 c12 fi8_6275.1 kop0) rfl (op4 fi8_6274.1))⟩)
        ·
          have c13 : (i8 6275).toInt = (0 : Int32).toInt := kd_neF c; clear c
          have fi8_6274 : ((0 : Int) ≤ (i8 6274).toInt) ∧ ((i8 6274).toInt ≤ 120) := hG10.I.1 6274
          refine ft_go mi_k44 4 65 [(1, .int l1_8), (0, .ref 98)] [.int (i8 6273), .int (i8 6274)] i8 a8 q8 r8 (by rfl) ?_
          refine ft_if mi_k44 (decide ((i8 6273) ≤ (i8 6274))) 73 68 [(1, .int l1_8), (0, .ref 98)] [] (by rfl) (fun c => ?_) (fun c => ?_)
          ·
            have c14 : (i8 6273).toInt ≤ (i8 6274).toInt := kd_le c; clear c
            refine ft_go mi_k44 2 77 [(1, .int l1_8), (0, .ref 98)] [.ref (r8 2)] i8 a8 q8 r8 (by rfl) ?_
            refine ko_eq (x1 := (77, [(1, .int l1_8), (0, .ref 98)], [.ref 100], (0, 0), ks i8 a8 q8 r8)) (by rw [eRr8_2]) ?_
            have hJ15 := kG_i hG10 6400 rfl (v := 1) ⟨(op62 kop1), (op63 kop1)⟩
            refine ft_go mi_k44 3 82 [(1, .int l1_8), (0, .ref 98)] [.int (-1)] (ku i8 6400 1) a8 q8 r8 (by rfl) ?_
            exact ft_ret mi_k44 (by rfl) (hP (-1) _ _ _ _ hJ15 ⟨(op161 kopm1), (rd_ok hD11 (op7 c13 fi8_6275.1 kop0) (op116 c14 efi8_6273 efig4_6273 efig7_6273 hn1) rfl rfl rfl)⟩)
          ·
            have c16 : (i8 6274).toInt < (i8 6273).toInt := kd_leF c; clear c
            refine ft_go mi_k44 2 72 [(1, .int l1_8), (0, .ref 98)] [.int (i8 6274)] i8 a8 q8 r8 (by rfl) ?_
            exact ft_ret mi_k44 (by rfl) (hP (i8 6274) _ _ _ _ hG10 ⟨(op159 fi8_6274.1), (rd_bad hD11 (op162 c16 efi8_6273 efig4_6273 efig7_6273 hn1) rfl (op4 fi8_6274.1))⟩)
      ·
        have c17 : l1_8.toInt < (i8 6273).toInt := kd_leF c; clear c
        refine ft_go mi_k44 2 34 [(1, .int l1_8), (0, .ref 98)] [.int 59, .ref 98] i8 a8 q8 r8 (by rfl) ?_
        refine ko_callI mi_k44.1 (pc := 34) (ls := [(1, .int l1_8), (0, .ref 98)]) (st := [.int 59, .ref 98]) (h := ks i8 a8 q8 r8) (i := (.invokevirtual 39, 3, 46, 0, 9, 0, 200)) (mi_k44.2 _ _ (by rfl)) (ft_invS mi_pq46 (by rfl)) (cy := mi_c46) mi_pq46 rfl (ke46_98 hL8.I hL8.R 59 (op163 kop59) t nn ((((hL8.fa 99 rfl).trans (kg7.fa 99 rfl)).trans (kg4.fa 99 rfl)).trans hT) (((hL8.fi 6273 rfl).trans ((kg7.fi 6273 rfl).trans (kg4.fi 6273 rfl))).trans hN) hX) (by decide) ?_
        intro vg18 ig18 ag18 qg18 rg18 kg18 hg18
        have hGg18 := kG_call hL8 kg18 (by decide +kernel)
        have eRrg18_2 : rg18 2 = 100 := (kg18.fr 2 rfl).trans eRr8_2
        obtain ⟨hg18, og18⟩ := hg18
        have fig18_6274 : ((0 : Int) ≤ (ig18 6274).toInt) ∧ ((ig18 6274).toInt ≤ 120) := hGg18.I.1 6274
        have z19 : ((vg18.toInt = 1) ∧ ((ig18 6274).toInt = ((i8 6274).toInt + 1)) ∧ ((i8 6274).toInt < (i8 6273).toInt) ∧ ((i8 6275).toInt = 0)) ∨ ((vg18.toInt = 0) ∧ ((ig18 6274).toInt = (i8 6274).toInt)) := hg18
        refine ft_if mi_k44 (vg18 == 0) 50 40 [(1, .int l1_8), (0, .ref 98)] [] (by rfl) (fun c => ?_) (fun c => ?_)
        ·
          have c20 : vg18.toInt = (0 : Int32).toInt := kd_eq c; clear c
          have hG21 := kG_call hGg7 hGg18 (by decide +kernel)
          have hD22 : (ig18 6274, ig18 6275, ag18 101, ag18 102, ig18 6403) = (cTxt t nn (a 101) (a 102)) := cLL_out O8_0 (kj_sub1 (n := nn.toInt) (op118 c17 efi8_6273 efig4_6273 efig7_6273 hn1) (op4 p8_0)) (tTk og18 (kg18.fi 6275 rfl) (kT3 (kg18.fa 101 rfl) (kg18.fa 102 rfl) (kg18.fi 6403 rfl))) (op98 c20 kop0)
          have fig18_6275 : ((0 : Int) ≤ (ig18 6275).toInt) ∧ ((ig18 6275).toInt ≤ 1) := hG21.I.1 6275
          refine ft_go mi_k44 2 54 [(1, .int l1_8), (0, .ref 98)] [.int (ig18 6275)] ig18 ag18 qg18 rg18 (by rfl) ?_
          refine ft_if mi_k44 ((ig18 6275) != 0) 68 57 [(1, .int l1_8), (0, .ref 98)] [] (by rfl) (fun c => ?_) (fun c => ?_)
          ·
            have c23 : (ig18 6275).toInt ≠ (0 : Int32).toInt := kd_ne c; clear c
            refine ft_go mi_k44 2 72 [(1, .int l1_8), (0, .ref 98)] [.int (ig18 6274)] ig18 ag18 qg18 rg18 (by rfl) ?_
            exact ft_ret mi_k44 (by rfl) (hP (ig18 6274) _ _ _ _ hG21 ⟨(op159 fig18_6274.1), (rd_bad hD22 (op160 c23 fig18_6275.1 kop0) rfl (op4 fig18_6274.1))⟩)
          ·
            have c24 : (ig18 6275).toInt = (0 : Int32).toInt := kd_neF c; clear c
            have efig18_6273 : (ig18 6273).toInt = (i8 6273).toInt := kg18.ti 6273 rfl
            refine ft_go mi_k44 4 65 [(1, .int l1_8), (0, .ref 98)] [.int (ig18 6273), .int (ig18 6274)] ig18 ag18 qg18 rg18 (by rfl) ?_
            refine ft_if mi_k44 (decide ((ig18 6273) ≤ (ig18 6274))) 73 68 [(1, .int l1_8), (0, .ref 98)] [] (by rfl) (fun c => ?_) (fun c => ?_)
            ·
              have c25 : (ig18 6273).toInt ≤ (ig18 6274).toInt := kd_le c; clear c
              refine ft_go mi_k44 2 77 [(1, .int l1_8), (0, .ref 98)] [.ref (rg18 2)] ig18 ag18 qg18 rg18 (by rfl) ?_
              refine ko_eq (x1 := (77, [(1, .int l1_8), (0, .ref 98)], [.ref 100], (0, 0), ks ig18 ag18 qg18 rg18)) (by rw [eRrg18_2]) ?_
              have hJ26 := kG_i hG21 6400 rfl (v := 1) ⟨(op62 kop1), (op63 kop1)⟩
              refine ft_go mi_k44 3 82 [(1, .int l1_8), (0, .ref 98)] [.int (-1)] (ku ig18 6400 1) ag18 qg18 rg18 (by rfl) ?_
              exact ft_ret mi_k44 (by rfl) (hP (-1) _ _ _ _ hJ26 ⟨(op161 kopm1), (rd_ok hD22 (op7 c24 fig18_6275.1 kop0) (op164 c25 efi8_6273 efig18_6273 efig4_6273 efig7_6273 hn1) rfl rfl rfl)⟩)
            ·
              have c27 : (ig18 6274).toInt < (ig18 6273).toInt := kd_leF c; clear c
              refine ft_go mi_k44 2 72 [(1, .int l1_8), (0, .ref 98)] [.int (ig18 6274)] ig18 ag18 qg18 rg18 (by rfl) ?_
              exact ft_ret mi_k44 (by rfl) (hP (ig18 6274) _ _ _ _ hG21 ⟨(op159 fig18_6274.1), (rd_bad hD22 (op165 c27 efi8_6273 efig18_6273 efig4_6273 efig7_6273 hn1) rfl (op4 fig18_6274.1))⟩)
        ·
          have c28 : vg18.toInt ≠ (0 : Int32).toInt := kd_eqF c; clear c
          refine ft_go mi_k44 1 41 [(1, .int l1_8), (0, .ref 98)] [.ref 98] ig18 ag18 qg18 rg18 (by rfl) ?_
          refine ko_callN mi_k44.1 (pc := 41) (ls := [(1, .int l1_8), (0, .ref 98)]) (st := [.ref 98]) (h := ks ig18 ag18 qg18 rg18) (i := (.invokevirtual 36, 3, 48, 0, 9, 0, 177)) (mi_k44.2 _ _ (by rfl)) (ft_invS mi_pq48 (by rfl)) (cy := mi_c48) mi_pq48 rfl (ke48_98_L100 hGg18.I hGg18.R t nn (((((kg18.fa 99 rfl).trans (hL8.fa 99 rfl)).trans (kg7.fa 99 rfl)).trans (kg4.fa 99 rfl)).trans hT) (((kg18.fi 6273 rfl).trans ((hL8.fi 6273 rfl).trans ((kg7.fi 6273 rfl).trans (kg4.fi 6273 rfl)))).trans hN) eRrg18_2 hX) (by decide) ?_
          intro ig29 ag29 qg29 rg29 kg29 hg29
          have hGg29 := kG_call hGg18 kg29 (by decide +kernel)
          have eRrg29_2 : rg29 2 = 100 := (kg29.fr 2 rfl).trans eRrg18_2
          obtain ⟨hg29, og29⟩ := hg29
          have s30 : (l1_8 + 1).toInt = l1_8.toInt + (1 : Int32).toInt := kd_add (op18 p8_0 kop1) (op117 c17 fi8_6273.2 kop1)
          refine ft_go mi_k44 2 23 [(1, .int (l1_8 + 1)), (0, .ref 98)] [] ig29 ag29 qg29 rg29 (by rfl) ?_
          have efig18_6273 : (ig18 6273).toInt = (i8 6273).toInt := kg18.ti 6273 rfl
          have efig29_6273 : (ig29 6273).toInt = (ig18 6273).toInt := kg29.ti 6273 rfl
          exact ih8 _ _ _ _ _ hGg29 (op20 p8_0 s30 kop1) (cLL_again O8_0 (kj_sub2 (n := nn.toInt) (op118 c17 efi8_6273 efig4_6273 efig7_6273 hn1) (op4 p8_0) (op30 s30 kop1)) (tTk og18 (kg18.fi 6275 rfl) (kT3 (kg18.fa 101 rfl) (kg18.fa 102 rfl) (kg18.fi 6403 rfl))) (op146 c28 z19 kop0) og29) (kj_meas (op166 efig18_6273 efig29_6273 s30 kop1) (op121 c17) hm8)
  exact lp8 _ _ _ _ _ _ (kG_self _ hGg7.I hGg7.R) (op36 kop0) (cLL_begin og7 (kS5 (show ig4 6274 = 0 from (by first | rfl | (simp only [(show ig4 6274 = (0 : Int32) from kg4.fi 6274 rfl), sMn, sMx]; done) | (simp only [(show ig4 6274 = (0 : Int32) from kg4.fi 6274 rfl), sMn, sMx]; rfl))) (show ig4 6275 = 0 from (by first | rfl | (simp only [(show ig4 6275 = (0 : Int32) from kg4.fi 6275 rfl), sMn, sMx]; done) | (simp only [(show ig4 6275 = (0 : Int32) from kg4.fi 6275 rfl), sMn, sMx]; rfl))) (show ag4 101 = a 101 from (by first | rfl | (simp only [kg4.fa 101 rfl, sMn, sMx]; done) | (simp only [kg4.fa 101 rfl, sMn, sMx]; rfl))) (show ag4 102 = a 102 from (by first | rfl | (simp only [kg4.fa 102 rfl, sMn, sMx]; done) | (simp only [kg4.fa 102 rfl, sMn, sMx]; rfl))) (show ig4 6403 = 0 from (by first | rfl | (simp only [q6, sMn, sMx]; done) | (simp only [q6, sMn, sMx]; rfl)))) (kj_sub00 kop0)) (Nat.lt_succ_self _)
def yw86_0_L100 : kW := ([6273, 6274, 6275, 6400, 6403], [101, 102], [], [0, 2])
set_option maxRecDepth 100000 in
theorem ke86_0_L100 {i : Nat → Int32} {a : Nat → List Int32} {q : Nat → List Int64} {r : Nat → Nat} (hI : kI i a q) (hr : kr r) (t : List Int32) (nn : Int32) (hT : a 99 = t) (hN : i 6273 = nn) (hL : r 2 = 100) (hX : kBy t) : km 57 86 [.ref 0] (ks i a q r) (kVI yw86_0_L100 i a q r (fun v i1 a1 q1 r1 => ((i1 6273).toInt = 0) ∧ ((cOk nn (cTxt t nn (a 101) (a 102)) ∧ v = 1 ∧ r1 0 = 100 ∧ r1 2 = 10 ∧ i1 6400 = 1 ∧ (a1 101, a1 102, i1 6403) = (cTxt t nn (a 101) (a 102)).2.2) ∨ (¬ cOk nn (cTxt t nn (a 101) (a 102)) ∧ v = -100 - (cTxt t nn (a 101) (a 102)).1 ∧ r1 0 = 10 ∧ r1 2 = 100)))) := by
  have hG := kG_self yw86_0_L100 hI hr
  refine km_ofI (q := (mi_h86, mi_c86)) rfl (by decide) (Nat.le_of_ble_eq_true rfl) ?_
  intro P hP
  have hn1 : (i 6273).toInt = nn.toInt := congrArg Int32.toInt hN
  have eRr_2 : r 2 = 100 := hL
  have eRr_0 : r 0 = 10 := kr_0 hr hL (by decide)
  refine ft_go mi_k86 2 4 [(0, .ref 0)] [.ref 98] i a q r (by rfl) ?_
  refine ko_callI mi_k86.1 (pc := 4) (ls := [(0, .ref 0)]) (st := [.ref 98]) (h := ks i a q r) (i := (.invokevirtual 113, 3, 44, 0, 9, 0, 175)) (mi_k86.2 _ _ (by rfl)) (ft_invS mi_pq44 (by rfl)) (cy := mi_c44) mi_pq44 rfl (ke44_98_L100 hG.I hG.R t nn hT hN eRr_2 hX) (by decide) ?_
  intro vg2 ig2 ag2 qg2 rg2 kg2 hg2
  have hGg2 := kG_call hG kg2 (by decide +kernel)
  have eRrg2_0 : rg2 0 = 10 := (kg2.fr 0 rfl).trans eRr_0
  have eRrg2_2 : rg2 2 = 100 := (kg2.fr 2 rfl).trans eRr_2
  obtain ⟨hg2, og2⟩ := hg2
  have hJ4 := kG_i hGg2 6273 rfl (v := 0) ⟨(op36 kop0), (op156 kop0)⟩
  refine ft_go mi_k86 6 17 [(1, .int vg2), (0, .ref 0)] [.int vg2] (ku ig2 6273 0) ag2 qg2 rg2 (by rfl) ?_
  refine ft_if mi_k86 (decide (vg2 < 0)) 25 20 [(1, .int vg2), (0, .ref 0)] [] (by rfl) (fun c => ?_) (fun c => ?_)
  ·
    have c5 : vg2.toInt < (0 : Int32).toInt := kd_lt c; clear c
    refine ft_go mi_k86 7 40 [(1, .int vg2), (0, .ref 0)] [.ref (rg2 0), .ref 98, .ref 1] (ku ig2 6273 0) ag2 qg2 rg2 (by rfl) ?_
    refine ko_eq (x1 := (40, [(1, .int vg2), (0, .ref 0)], [.ref 10, .ref 98, .ref 1], (0, 0), ks (ku ig2 6273 0) ag2 qg2 rg2)) (by rw [eRrg2_0]) ?_
    refine ko_callP mi_k86.1 (pc := 40) (ls := [(1, .int vg2), (0, .ref 0)]) (st := [.ref 10, .ref 98, .ref 1]) (h := ks (ku ig2 6273 0) ag2 qg2 rg2) (i := (.invokevirtual 121, 3, 43, 0, 9, 0, 205)) (mi_k86.2 _ _ (by rfl)) (ft_invS mi_pq43 (by rfl)) (cy := mi_c43) mi_pq43 rfl (kc43 (ku ig2 6273 0) ag2 qg2 rg2 10) (by decide) ?_
    rintro _ _ ⟨rfl, rfl⟩
    refine ko_eq (x1 := (43, [(1, .int vg2), (0, .ref 0)], [.ref 100, .ref 1], (0, 0), ks (ku ig2 6273 0) ag2 qg2 (ku rg2 2 10))) (by rw [eRrg2_2] <;> rfl) ?_
    have hJ6 := kG_r2 hJ4 2 rfl 0 rfl (v := 10) (v2 := 100) (by first | exact ⟨Or.inl ⟨rfl, rfl⟩, hJ4.R.2⟩ | exact ⟨Or.inr ⟨rfl, rfl⟩, hJ4.R.2⟩)
    refine ko_steps mi_in86 2 _ (47, [(1, .int vg2), (0, .ref 0)], [.int 1], (0, 0), ks (ku ig2 6273 0) ag2 qg2 (ku (ku rg2 2 10) 0 100)) (by rfl) ?_
    exact ft_ret mi_k86 (by rfl) (hP 1 _ _ _ _ hJ6 ⟨(op41 kop0), (lw_ok og2 (op167 c5 kop0) rfl rfl rfl rfl (kT3 rfl rfl rfl))⟩)
  ·
    have c7 : (0 : Int32).toInt ≤ vg2.toInt := kd_ltF c; clear c
    have b8 : ((-2147483648 : Int) ≤ vg2.toInt) ∧ (vg2.toInt ≤ 2147483647) := kd_bd vg2
    refine ft_go mi_k86 3 24 [(1, .int vg2), (0, .ref 0)] [.int ((-100) - vg2)] (ku ig2 6273 0) ag2 qg2 rg2 (by rfl) ?_
    exact ft_ret mi_k86 (by rfl) (hP ((-100) - vg2) _ _ _ _ hJ4 ⟨(op41 kop0), (lw_bad og2 (op153 c7 kop0) rfl eRrg2_0 eRrg2_2)⟩)
