section
theorem kop0 : (0 : Int32).toInt = 0 := by decide
theorem kopm1 : ((-1) : Int32).toInt = (-1) := by decide
theorem kop1 : (1 : Int32).toInt = 1 := by decide
theorem kop4 : (4 : Int32).toInt = 4 := by decide
theorem kop121 : (121 : Int32).toInt = 121 := by decide
theorem kop6 : (6 : Int32).toInt = 6 := by decide
theorem kop255 : (255 : Int32).toInt = 255 := by decide
theorem kop119 : (119 : Int32).toInt = 119 := by decide
theorem kop112 : (112 : Int32).toInt = 112 := by decide
theorem kop2 : (2 : Int32).toInt = 2 := by decide
theorem kop104 : (104 : Int32).toInt = 104 := by decide
theorem kop3 : (3 : Int32).toInt = 3 := by decide
theorem kop110 : (110 : Int32).toInt = 110 := by decide
theorem kop111 : (111 : Int32).toInt = 111 := by decide
theorem kop5 : (5 : Int32).toInt = 5 := by decide
theorem kop100 : (100 : Int32).toInt = 100 := by decide
theorem kop40 : (40 : Int32).toInt = 40 := by decide
theorem kop33 : (33 : Int32).toInt = 33 := by decide
theorem kop45 : (45 : Int32).toInt = 45 := by decide
theorem kop41 : (41 : Int32).toInt = 41 := by decide
theorem kop42 : (42 : Int32).toInt = 42 := by decide
theorem kop47 : (47 : Int32).toInt = 47 := by decide
theorem kop37 : (37 : Int32).toInt = 37 := by decide
theorem kop43 : (43 : Int32).toInt = 43 := by decide
theorem kop60 : (60 : Int32).toInt = 60 := by decide
theorem kop61 : (61 : Int32).toInt = 61 := by decide
theorem kop62 : (62 : Int32).toInt = 62 := by decide
theorem kop38 : (38 : Int32).toInt = 38 := by decide
theorem kop124 : (124 : Int32).toInt = 124 := by decide
theorem kop63 : (63 : Int32).toInt = 63 := by decide
theorem kop59 : (59 : Int32).toInt = 59 := by decide
theorem op0 {a0 a1 a2 a3 : Int} (h0 : a0 = (-1)) : (((-1) : Int) ≤ a0) ∧ (a0 ≤ 255) ∧ ((a0 = (-1)) ∨ ((a1 = 0) ∧ (a2 < a3))) := by omega
theorem op1 {a0 a1 a2 a3 : Int} (h0 : a0 ≠ a1) (h1 : (0 : Int) ≤ a0) (h2 : a1 = 0) : ¬ (a0 = 0 ∧ a2 < a3) := by omega
theorem op2 {a0 a1 : Int} (h0 : a0 < a1) (h1 : (0 : Int) ≤ a0) (h2 : a1 = 0) : False := oz905 h0 h1 h2
theorem op3 {a0 a1 a2 a3 : Int} (h0 : a0 ≤ a1) (h1 : a0 = a2) : ¬ (a3 = 0 ∧ a1 < a2) := by omega
theorem op4 {a0 : Int} (h0 : (0 : Int) ≤ a0) : (0 : Int) ≤ a0 := oz3 h0
theorem op5 {a0 a1 : Int} (h0 : a0 < a1) (h1 : a1 ≤ 120) : a0 < 120 := oz702 h0 h1
theorem op6 {a0 a1 a2 a3 a4 : Int} (h0 : a0 = a1) (h1 : a2 < a3) (h2 : (0 : Int) ≤ a0) (h3 : (0 : Int) ≤ a4) (h4 : a4 ≤ 255) (h5 : a1 = 0) : (((-1) : Int) ≤ a4) ∧ (a4 ≤ 255) ∧ ((a4 = (-1)) ∨ ((a0 = 0) ∧ (a2 < a3))) := by omega
theorem op7 {a0 a1 : Int} (h0 : a0 = a1) (h1 : (0 : Int) ≤ a0) (h2 : a1 = 0) : a0 = 0 := od48 h0 h1 h2
theorem op8 {a0 a1 a2 : Int} (h0 : a0 < a1) (h1 : a1 = a2) : a0 < a2 := od20 h0 h1
theorem op12 {a0 a1 : Int} (h0 : a0 ≤ a1) (h1 : a0 = 4) : 4 ≤ a1 := by omega
theorem op13 {a0 a1 a2 : Int} (h0 : a0 ≤ a1) (h1 : a0 = 121) (h2 : a2 = 1) : (-2147483648 : Int) ≤ a1 - a2 := oz910 h0 h1 h2
theorem op14 {a0 a1 : Int} (h0 : a0 ≤ 121) (h1 : a1 = 1) : a0 - a1 ≤ 2147483647 := oz911 h0 h1
theorem op15 {a0 a1 : Int} (h0 : a0 ≤ a1) (h1 : a0 = 121) : ((a1 ≤ 120) ∧ (a1 = (a1 + 1))) ∨ (((121 : Int) ≤ a1) ∧ (a1 = a1)) := od9 h0 h1
theorem op16 {a0 a1 : Int} (h0 : a0 ≤ a1) (h1 : a0 = 121) : ¬ (a1 ≤ 120) := od10 h0 h1
theorem op17 {a0 a1 : Int} (h0 : a0 < a1) (h1 : a1 = 121) : a0 < 121 := oz912 h0 h1
theorem op18 {a0 a1 : Int} (h0 : (0 : Int) ≤ a0) (h1 : a1 = 1) : (-2147483648 : Int) ≤ a0 + a1 := oz12 h0 h1
theorem op19 {a0 a1 : Int} (h0 : a0 ≤ 121) (h1 : a1 = 1) : a0 + a1 ≤ 2147483647 := oz913 h0 h1
theorem op20 {a0 a1 a2 : Int} (h0 : (0 : Int) ≤ a0) (h1 : a1 = a0 + a2) (h2 : a2 = 1) : (0 : Int) ≤ a1 := oz14 h0 h1 h2
theorem op21 {a0 a1 a2 a3 : Int} (h0 : a0 < a1) (h1 : a2 = a0 + a3) (h2 : a1 = 121) (h3 : a3 = 1) : a2 ≤ 121 := oz914 h0 h1 h2 h3
theorem op22 {a0 a1 a2 : Int} (h0 : (0 : Int) ≤ a0) (h1 : a1 = a0 + a2) (h2 : a2 = 1) : (-2147483648 : Int) ≤ a1 - a2 := oz915 h0 h1 h2
theorem op23 {a0 a1 a2 : Int} (h0 : a0 ≤ 121) (h1 : a1 = a0 + a2) (h2 : a2 = 1) : a1 - a2 ≤ 2147483647 := oz916 h0 h1 h2
theorem op24 {a0 a1 a2 a3 : Int} (h0 : a0 < a1) (h1 : a2 = a0 + a3) (h2 : a1 = 121) (h3 : a3 = 1) : ((a0 ≤ 120) ∧ (a2 = (a0 + 1))) ∨ (((121 : Int) ≤ a0) ∧ (a2 = a0)) := od17 h0 h1 h2 h3
theorem op25 {a0 a1 : Int} (h0 : a0 < a1) (h1 : a1 = 121) : a0 ≤ 120 := od18 h0 h1
theorem op26 {a0 a1 : Int} (h0 : a0 ≤ 120) (h1 : a1 = 1) : a0 + a1 ≤ 2147483647 := oz192 h0 h1
theorem op27 {a0 a1 a2 a3 a4 a5 : Int} (h0 : a0 ≤ 120) (h1 : a1 = a2 + a3) (h2 : (a4 = (-1)) ∨ ((a5 = 0) ∧ (a2 < a0))) (h3 : (48 : Int) ≤ a4) (h4 : a3 = 1) : a1 ≤ 120 := by omega
theorem op28 {a0 a1 a2 : Int} (h0 : a0 < a1) (h1 : a1 = 4) (h2 : a2 = 1) : a0 + a2 ≤ 2147483647 := oz717 h0 h1 h2
theorem op29 {a0 a1 : Int} (h0 : a0 < a1) (h1 : a1 = 4) : a0 < 4 := by omega
theorem op30 {a0 a1 a2 : Int} (h0 : a0 = a1 + a2) (h1 : a2 = 1) : a0 = a1 + 1 := oz169 h0 h1
theorem op31 {a0 a1 : Int} (h0 : a0 = a1) (h1 : (48 : Int) ≤ a0) : 48 ≤ a1 := by omega
theorem op32 {a0 a1 : Int} (h0 : a0 = a1) (h1 : a0 ≤ 57) : a1 ≤ 57 := by omega
theorem op33 {a0 a1 a2 : Int} (h0 : a0 = a1 + a2) (h1 : a2 = 1) : (4 - a0) < (4 - a1) := oz723 h0 h1
theorem op34 {a0 a1 : Int} (h0 : a0 < a1) (h1 : a1 = 4) : (1 : Int) ≤ (4 - a0) := oz724 h0 h1
theorem op35 {a0 a1 : Int} (h0 : a0 = a1) (h1 : ¬ (((48 : Int) ≤ a0) ∧ (a0 ≤ 57))) : ¬ (48 ≤ a1 ∧ a1 ≤ 57) := by omega
theorem op36 {a0 : Int} (h0 : a0 = 0) : (0 : Int) ≤ a0 := oz46 h0
theorem op37 {a0 a1 a2 a3 : Int} (h0 : a0 = (-1)) : ((a0 = (-1)) ∧ (a1 = a1)) ∨ ((a1 = (a1 + 1)) ∧ (a1 < a2) ∧ (a3 = 0) ∧ ((a0 = 119) ∨ (a0 = 112) ∨ (a0 = 104) ∨ (a0 = 110) ∨ (a0 = 111) ∨ (a0 = 100))) := by omega
theorem op38 {a0 a1 a2 : Int} (h0 : a0 = a1) (h1 : a0 = a2) (h2 : a1 = (-1)) : ¬ (a2 = 119 ∨ a2 = 112 ∨ a2 = 104 ∨ a2 = 110 ∨ a2 = 111 ∨ a2 = 100) := by omega
theorem op39 {a0 a1 : Int} (h0 : a0 ≠ a1) (h1 : ((-1) : Int) ≤ a0) (h2 : a1 = (-1)) : (0 : Int) ≤ a0 := by omega
theorem op40 {a0 : Int} (h0 : a0 ≤ 255) : a0 ≤ 255 := oz661 h0
theorem op41 {a0 : Int} (h0 : a0 = 0) : a0 = 0 := oz236 h0
theorem op42 {a0 : Int} (h0 : a0 = 6) : a0 = 6 := oz1484 h0
theorem op43 {a0 a1 : Int} (h0 : a0 < a1) (h1 : a1 = 0) : ¬ (((0 : Int) ≤ a0) ∧ (a0 ≤ 255)) := by omega
theorem op44 {a0 a1 : Int} (h0 : a0 < a1) (h1 : a0 = 255) : ¬ (((0 : Int) ≤ a1) ∧ (a1 ≤ 255)) := by omega
theorem op45 {a0 a1 a2 : Int} (h0 : a0 ≤ a1) (h1 : a1 ≤ a2) (h2 : a0 = 0) (h3 : a2 = 255) : ((0 : Int) ≤ a1) ∧ (a1 ≤ 255) := by omega
theorem op46 {a0 a1 a2 a3 a4 a5 a6 a7 a8 : Int} (h0 : a0 ≠ a1) (h1 : a2 ≠ a1) (h2 : a3 ≠ a1) (h3 : a4 ≠ a1) (h4 : a5 ≠ a1) (h5 : a6 ≠ a1) (h6 : (a7 ≤ 127 → a1 = a7)) (h7 : a0 = 119) (h8 : a2 = 112) (h9 : a3 = 104) (h10 : a4 = 110) (h11 : a5 = 111) (h12 : a6 = 100) (h13 : a8 = (-1)) : (((-1) : Int) ≤ a8) ∧ (a8 ≤ 5) ∧ (((a7 = 119) → (a8 = 0))) ∧ (((a7 = 112) → (a8 = 1))) ∧ (((a7 = 104) → (a8 = 2))) ∧ (((a7 = 110) → (a8 = 3))) ∧ (((a7 = 111) → (a8 = 4))) ∧ (((a7 = 100) → (a8 = 5))) ∧ (((a8 = 0) → (a7 = 119))) ∧ (((a8 = 1) → (a7 = 112))) ∧ (((a8 = 2) → (a7 = 104))) ∧ (((a8 = 3) → (a7 = 110))) ∧ (((a8 = 4) → (a7 = 111))) ∧ (((a8 = 5) → (a7 = 100))) ∧ ((a8 = (-1)) ∨ (a7 = 119) ∨ (a7 = 112) ∨ (a7 = 104) ∨ (a7 = 110) ∨ (a7 = 111) ∨ (a7 = 100)) := ⟨by omega, by omega, by omega, by omega, by omega, by omega, by omega, by omega, by omega, by omega, by omega, by omega, by omega, by omega, by omega⟩
theorem op47 {a0 a1 a2 a3 : Int} (h0 : a0 = a1) (h1 : a2 ≤ 255) (h2 : (a2 ≤ 127 → a1 = a2)) (h3 : (128 ≤ a2 → a1 = a2 - 256)) (h4 : a0 = 100) (h5 : a3 = 5) : (((-1) : Int) ≤ a3) ∧ (a3 ≤ 5) ∧ (((a2 = 119) → (a3 = 0))) ∧ (((a2 = 112) → (a3 = 1))) ∧ (((a2 = 104) → (a3 = 2))) ∧ (((a2 = 110) → (a3 = 3))) ∧ (((a2 = 111) → (a3 = 4))) ∧ (((a2 = 100) → (a3 = 5))) ∧ (((a3 = 0) → (a2 = 119))) ∧ (((a3 = 1) → (a2 = 112))) ∧ (((a3 = 2) → (a2 = 104))) ∧ (((a3 = 3) → (a2 = 110))) ∧ (((a3 = 4) → (a2 = 111))) ∧ (((a3 = 5) → (a2 = 100))) ∧ ((a3 = (-1)) ∨ (a2 = 119) ∨ (a2 = 112) ∨ (a2 = 104) ∨ (a2 = 110) ∨ (a2 = 111) ∨ (a2 = 100)) := ⟨by omega, by omega, by omega, by omega, by omega, by omega, by omega, by omega, by omega, by omega, by omega, by omega, by omega, by omega, by omega⟩
theorem op48 {a0 a1 a2 a3 : Int} (h0 : a0 = a1) (h1 : a2 ≤ 255) (h2 : (a2 ≤ 127 → a1 = a2)) (h3 : (128 ≤ a2 → a1 = a2 - 256)) (h4 : a0 = 111) (h5 : a3 = 4) : (((-1) : Int) ≤ a3) ∧ (a3 ≤ 5) ∧ (((a2 = 119) → (a3 = 0))) ∧ (((a2 = 112) → (a3 = 1))) ∧ (((a2 = 104) → (a3 = 2))) ∧ (((a2 = 110) → (a3 = 3))) ∧ (((a2 = 111) → (a3 = 4))) ∧ (((a2 = 100) → (a3 = 5))) ∧ (((a3 = 0) → (a2 = 119))) ∧ (((a3 = 1) → (a2 = 112))) ∧ (((a3 = 2) → (a2 = 104))) ∧ (((a3 = 3) → (a2 = 110))) ∧ (((a3 = 4) → (a2 = 111))) ∧ (((a3 = 5) → (a2 = 100))) ∧ ((a3 = (-1)) ∨ (a2 = 119) ∨ (a2 = 112) ∨ (a2 = 104) ∨ (a2 = 110) ∨ (a2 = 111) ∨ (a2 = 100)) := ⟨by omega, by omega, by omega, by omega, by omega, by omega, by omega, by omega, by omega, by omega, by omega, by omega, by omega, by omega, by omega⟩
theorem op49 {a0 a1 a2 a3 : Int} (h0 : a0 = a1) (h1 : a2 ≤ 255) (h2 : (a2 ≤ 127 → a1 = a2)) (h3 : (128 ≤ a2 → a1 = a2 - 256)) (h4 : a0 = 110) (h5 : a3 = 3) : (((-1) : Int) ≤ a3) ∧ (a3 ≤ 5) ∧ (((a2 = 119) → (a3 = 0))) ∧ (((a2 = 112) → (a3 = 1))) ∧ (((a2 = 104) → (a3 = 2))) ∧ (((a2 = 110) → (a3 = 3))) ∧ (((a2 = 111) → (a3 = 4))) ∧ (((a2 = 100) → (a3 = 5))) ∧ (((a3 = 0) → (a2 = 119))) ∧ (((a3 = 1) → (a2 = 112))) ∧ (((a3 = 2) → (a2 = 104))) ∧ (((a3 = 3) → (a2 = 110))) ∧ (((a3 = 4) → (a2 = 111))) ∧ (((a3 = 5) → (a2 = 100))) ∧ ((a3 = (-1)) ∨ (a2 = 119) ∨ (a2 = 112) ∨ (a2 = 104) ∨ (a2 = 110) ∨ (a2 = 111) ∨ (a2 = 100)) := ⟨by omega, by omega, by omega, by omega, by omega, by omega, by omega, by omega, by omega, by omega, by omega, by omega, by omega, by omega, by omega⟩
theorem op50 {a0 a1 a2 a3 : Int} (h0 : a0 = a1) (h1 : a2 ≤ 255) (h2 : (a2 ≤ 127 → a1 = a2)) (h3 : (128 ≤ a2 → a1 = a2 - 256)) (h4 : a0 = 104) (h5 : a3 = 2) : (((-1) : Int) ≤ a3) ∧ (a3 ≤ 5) ∧ (((a2 = 119) → (a3 = 0))) ∧ (((a2 = 112) → (a3 = 1))) ∧ (((a2 = 104) → (a3 = 2))) ∧ (((a2 = 110) → (a3 = 3))) ∧ (((a2 = 111) → (a3 = 4))) ∧ (((a2 = 100) → (a3 = 5))) ∧ (((a3 = 0) → (a2 = 119))) ∧ (((a3 = 1) → (a2 = 112))) ∧ (((a3 = 2) → (a2 = 104))) ∧ (((a3 = 3) → (a2 = 110))) ∧ (((a3 = 4) → (a2 = 111))) ∧ (((a3 = 5) → (a2 = 100))) ∧ ((a3 = (-1)) ∨ (a2 = 119) ∨ (a2 = 112) ∨ (a2 = 104) ∨ (a2 = 110) ∨ (a2 = 111) ∨ (a2 = 100)) := ⟨by omega, by omega, by omega, by omega, by omega, by omega, by omega, by omega, by omega, by omega, by omega, by omega, by omega, by omega, by omega⟩
theorem op51 {a0 a1 a2 a3 : Int} (h0 : a0 = a1) (h1 : a2 ≤ 255) (h2 : (a2 ≤ 127 → a1 = a2)) (h3 : (128 ≤ a2 → a1 = a2 - 256)) (h4 : a0 = 112) (h5 : a3 = 1) : (((-1) : Int) ≤ a3) ∧ (a3 ≤ 5) ∧ (((a2 = 119) → (a3 = 0))) ∧ (((a2 = 112) → (a3 = 1))) ∧ (((a2 = 104) → (a3 = 2))) ∧ (((a2 = 110) → (a3 = 3))) ∧ (((a2 = 111) → (a3 = 4))) ∧ (((a2 = 100) → (a3 = 5))) ∧ (((a3 = 0) → (a2 = 119))) ∧ (((a3 = 1) → (a2 = 112))) ∧ (((a3 = 2) → (a2 = 104))) ∧ (((a3 = 3) → (a2 = 110))) ∧ (((a3 = 4) → (a2 = 111))) ∧ (((a3 = 5) → (a2 = 100))) ∧ ((a3 = (-1)) ∨ (a2 = 119) ∨ (a2 = 112) ∨ (a2 = 104) ∨ (a2 = 110) ∨ (a2 = 111) ∨ (a2 = 100)) := ⟨by omega, by omega, by omega, by omega, by omega, by omega, by omega, by omega, by omega, by omega, by omega, by omega, by omega, by omega, by omega⟩
theorem op52 {a0 a1 a2 a3 : Int} (h0 : a0 = a1) (h1 : a2 ≤ 255) (h2 : (a2 ≤ 127 → a1 = a2)) (h3 : (128 ≤ a2 → a1 = a2 - 256)) (h4 : a0 = 119) (h5 : a3 = 0) : (((-1) : Int) ≤ a3) ∧ (a3 ≤ 5) ∧ (((a2 = 119) → (a3 = 0))) ∧ (((a2 = 112) → (a3 = 1))) ∧ (((a2 = 104) → (a3 = 2))) ∧ (((a2 = 110) → (a3 = 3))) ∧ (((a2 = 111) → (a3 = 4))) ∧ (((a2 = 100) → (a3 = 5))) ∧ (((a3 = 0) → (a2 = 119))) ∧ (((a3 = 1) → (a2 = 112))) ∧ (((a3 = 2) → (a2 = 104))) ∧ (((a3 = 3) → (a2 = 110))) ∧ (((a3 = 4) → (a2 = 111))) ∧ (((a3 = 5) → (a2 = 100))) ∧ ((a3 = (-1)) ∨ (a2 = 119) ∨ (a2 = 112) ∨ (a2 = 104) ∨ (a2 = 110) ∨ (a2 = 111) ∨ (a2 = 100)) := ⟨by omega, by omega, by omega, by omega, by omega, by omega, by omega, by omega, by omega, by omega, by omega, by omega, by omega, by omega, by omega⟩
theorem op53 {a0 : Int} (h0 : (0 : Int) ≤ a0) (h1 : a0 ≤ 255) : ((0 : Int) ≤ a0) ∧ (a0 ≤ 255) := oz666 h0 h1
theorem op54 {a0 a1 : Int} (h0 : ((-1) : Int) ≤ a0) (h1 : a0 ≤ 5) (h2 : ((a1 = 119) → (a0 = 0))) (h3 : ((a1 = 112) → (a0 = 1))) (h4 : ((a1 = 104) → (a0 = 2))) (h5 : ((a1 = 110) → (a0 = 3))) (h6 : ((a1 = 111) → (a0 = 4))) (h7 : ((a1 = 100) → (a0 = 5))) (h8 : ((a0 = 0) → (a1 = 119))) (h9 : ((a0 = 1) → (a1 = 112))) (h10 : ((a0 = 2) → (a1 = 104))) (h11 : ((a0 = 3) → (a1 = 110))) (h12 : ((a0 = 4) → (a1 = 111))) (h13 : ((a0 = 5) → (a1 = 100))) (h14 : (a0 = (-1)) ∨ (a1 = 119) ∨ (a1 = 112) ∨ (a1 = 104) ∨ (a1 = 110) ∨ (a1 = 111) ∨ (a1 = 100)) : (((-1) : Int) ≤ a0) ∧ (a0 ≤ 5) ∧ (((a1 = 119) → (a0 = 0))) ∧ (((a1 = 112) → (a0 = 1))) ∧ (((a1 = 104) → (a0 = 2))) ∧ (((a1 = 110) → (a0 = 3))) ∧ (((a1 = 111) → (a0 = 4))) ∧ (((a1 = 100) → (a0 = 5))) ∧ (((a0 = 0) → (a1 = 119))) ∧ (((a0 = 1) → (a1 = 112))) ∧ (((a0 = 2) → (a1 = 104))) ∧ (((a0 = 3) → (a1 = 110))) ∧ (((a0 = 4) → (a1 = 111))) ∧ (((a0 = 5) → (a1 = 100))) ∧ ((a0 = (-1)) ∨ (a1 = 119) ∨ (a1 = 112) ∨ (a1 = 104) ∨ (a1 = 110) ∨ (a1 = 111) ∨ (a1 = 100)) := ⟨h0, h1, h2, h3, h4, h5, h6, h7, h8, h9, h10, h11, h12, h13, h14⟩
theorem op55 {a0 : Int} (h0 : (0 : Int) ≤ a0) (h1 : a0 ≤ 255) (h2 : ¬ (((0 : Int) ≤ a0) ∧ (a0 ≤ 255))) : False := by omega
theorem op56 (h0 : (2 : Int) ≤ 1) : False := by omega
theorem op57 {a0 a1 a2 : Int} (h0 : a0 ≠ a1) (h1 : a2 = a0) (h2 : ((-1) : Int) ≤ a0) (h3 : a0 ≤ 255) (h4 : a1 = (-1)) : ((0 : Int) ≤ a2) ∧ (a2 ≤ 255) := by omega
theorem op58 {a0 a1 a2 a3 a4 a5 a6 : Int} (h0 : a0 ≠ a1) (h1 : a2 ≤ 120) (h2 : a3 = a4 + a5) (h3 : ((-1) : Int) ≤ a0) (h4 : (a0 = (-1)) ∨ ((a6 = 0) ∧ (a4 < a2))) (h5 : a1 = (-1)) (h6 : a5 = 1) : a3 ≤ 120 := by omega
theorem op59 {a0 a1 a2 a3 a4 a5 a6 a7 a8 : Int} (h0 : a0 ≤ a1) (h1 : (0 : Int) ≤ a2) (h2 : a3 = a4 + a5) (h3 : a6 = a7) (h4 : (a1 = (-1)) ∨ (a6 = 119) ∨ (a6 = 112) ∨ (a6 = 104) ∨ (a6 = 110) ∨ (a6 = 111) ∨ (a6 = 100)) (h5 : (a7 = (-1)) ∨ ((a2 = 0) ∧ (a4 < a8))) (h6 : a0 = 0) (h7 : a5 = 1) : ((a7 = (-1)) ∧ (a3 = a4)) ∨ ((a3 = (a4 + 1)) ∧ (a4 < a8) ∧ (a2 = 0) ∧ ((a7 = 119) ∨ (a7 = 112) ∨ (a7 = 104) ∨ (a7 = 110) ∨ (a7 = 111) ∨ (a7 = 100))) := by omega
theorem op60 {a0 a1 a2 a3 a4 : Int} (h0 : a0 ≤ a1) (h1 : a2 = a3) (h2 : a4 = a2) (h3 : (a1 = (-1)) ∨ (a4 = 119) ∨ (a4 = 112) ∨ (a4 = 104) ∨ (a4 = 110) ∨ (a4 = 111) ∨ (a4 = 100)) (h4 : a0 = 0) : a3 = 119 ∨ a3 = 112 ∨ a3 = 104 ∨ a3 = 110 ∨ a3 = 111 ∨ a3 = 100 := by omega
theorem op61 {a0 a1 a2 a3 a4 : Int} (h0 : a0 < a1) (h1 : a2 = a3) (h2 : a4 = a2) (h3 : ((a4 = 119) → (a0 = 0))) (h4 : ((a4 = 112) → (a0 = 1))) (h5 : ((a4 = 104) → (a0 = 2))) (h6 : ((a4 = 110) → (a0 = 3))) (h7 : ((a4 = 111) → (a0 = 4))) (h8 : ((a4 = 100) → (a0 = 5))) (h9 : a1 = 0) : ¬ (a3 = 119 ∨ a3 = 112 ∨ a3 = 104 ∨ a3 = 110 ∨ a3 = 111 ∨ a3 = 100) := by omega
theorem op62 {a0 : Int} (h0 : a0 = 1) : (0 : Int) ≤ a0 := oz246 h0
theorem op63 {a0 : Int} (h0 : a0 = 1) : a0 ≤ 1 := oz558 h0
theorem op64 {a0 a1 : Int} (h0 : a0 = a1) (h1 : a1 = (-1)) : a0 = -1 := by omega
theorem op65 {a0 a1 a2 : Int} (h0 : a0 ≤ a1) (h1 : (a1 + a2) = 6) (h2 : a0 = 6) : a2 ≤ 0 := by omega
theorem op66 {a0 a1 a2 : Int} (h0 : a0 < a1) (h1 : (a0 + a2) = 6) (h2 : a1 = 6) : (1 : Int) ≤ a2 := oz925 h0 h1 h2
theorem op67 {a0 a1 a2 a3 a4 a5 : Int} (h0 : a0 = a1) (h1 : ((a0 = (-1)) ∧ (a2 = a3)) ∨ ((a2 = (a3 + 1)) ∧ (a3 < a4) ∧ (a5 = 0) ∧ ((a0 = 119) ∨ (a0 = 112) ∨ (a0 = 104) ∨ (a0 = 110) ∨ (a0 = 111) ∨ (a0 = 100)))) (h2 : a1 = (-1)) : a2 = a3 := by rcases h1 with ⟨h1_0, h1_1⟩ | ⟨h1_0, h1_1, h1_2, h1_z | h1_z | h1_z | h1_z | h1_z | h1_z⟩ <;> omega
theorem op68 {a0 a1 a2 a3 : Int} (h0 : a0 = (-1)) : ((a0 = (-1)) ∧ (a1 = a1)) ∨ ((a1 = (a1 + 1)) ∧ (a1 < a2) ∧ (a3 = 0) ∧ ((a0 = 40) ∨ (a0 = 33) ∨ (a0 = 45))) := by omega
theorem op69 {a0 a1 a2 : Int} (h0 : a0 = a1) (h1 : a0 = a2) (h2 : a1 = (-1)) : ¬ (a2 = 40 ∨ a2 = 33 ∨ a2 = 45) := by omega
theorem op70 {a0 : Int} (h0 : a0 = 3) : a0 = 3 := oz1421 h0
theorem op71 {a0 a1 a2 a3 a4 a5 : Int} (h0 : a0 ≠ a1) (h1 : a2 ≠ a1) (h2 : a3 ≠ a1) (h3 : (a4 ≤ 127 → a1 = a4)) (h4 : a0 = 40) (h5 : a2 = 33) (h6 : a3 = 45) (h7 : a5 = (-1)) : (((-1) : Int) ≤ a5) ∧ (a5 ≤ 2) ∧ (((a4 = 40) → (a5 = 0))) ∧ (((a4 = 33) → (a5 = 1))) ∧ (((a4 = 45) → (a5 = 2))) ∧ (((a5 = 0) → (a4 = 40))) ∧ (((a5 = 1) → (a4 = 33))) ∧ (((a5 = 2) → (a4 = 45))) ∧ ((a5 = (-1)) ∨ (a4 = 40) ∨ (a4 = 33) ∨ (a4 = 45)) := ⟨by omega, by omega, by omega, by omega, by omega, by omega, by omega, by omega, by omega⟩
theorem op72 {a0 a1 a2 a3 : Int} (h0 : a0 = a1) (h1 : a2 ≤ 255) (h2 : (a2 ≤ 127 → a1 = a2)) (h3 : (128 ≤ a2 → a1 = a2 - 256)) (h4 : a0 = 45) (h5 : a3 = 2) : (((-1) : Int) ≤ a3) ∧ (a3 ≤ 2) ∧ (((a2 = 40) → (a3 = 0))) ∧ (((a2 = 33) → (a3 = 1))) ∧ (((a2 = 45) → (a3 = 2))) ∧ (((a3 = 0) → (a2 = 40))) ∧ (((a3 = 1) → (a2 = 33))) ∧ (((a3 = 2) → (a2 = 45))) ∧ ((a3 = (-1)) ∨ (a2 = 40) ∨ (a2 = 33) ∨ (a2 = 45)) := ⟨by omega, by omega, by omega, by omega, by omega, by omega, by omega, by omega, by omega⟩
theorem op73 {a0 a1 a2 a3 : Int} (h0 : a0 = a1) (h1 : a2 ≤ 255) (h2 : (a2 ≤ 127 → a1 = a2)) (h3 : (128 ≤ a2 → a1 = a2 - 256)) (h4 : a0 = 33) (h5 : a3 = 1) : (((-1) : Int) ≤ a3) ∧ (a3 ≤ 2) ∧ (((a2 = 40) → (a3 = 0))) ∧ (((a2 = 33) → (a3 = 1))) ∧ (((a2 = 45) → (a3 = 2))) ∧ (((a3 = 0) → (a2 = 40))) ∧ (((a3 = 1) → (a2 = 33))) ∧ (((a3 = 2) → (a2 = 45))) ∧ ((a3 = (-1)) ∨ (a2 = 40) ∨ (a2 = 33) ∨ (a2 = 45)) := ⟨by omega, by omega, by omega, by omega, by omega, by omega, by omega, by omega, by omega⟩
theorem op74 {a0 a1 a2 a3 : Int} (h0 : a0 = a1) (h1 : a2 ≤ 255) (h2 : (a2 ≤ 127 → a1 = a2)) (h3 : (128 ≤ a2 → a1 = a2 - 256)) (h4 : a0 = 40) (h5 : a3 = 0) : (((-1) : Int) ≤ a3) ∧ (a3 ≤ 2) ∧ (((a2 = 40) → (a3 = 0))) ∧ (((a2 = 33) → (a3 = 1))) ∧ (((a2 = 45) → (a3 = 2))) ∧ (((a3 = 0) → (a2 = 40))) ∧ (((a3 = 1) → (a2 = 33))) ∧ (((a3 = 2) → (a2 = 45))) ∧ ((a3 = (-1)) ∨ (a2 = 40) ∨ (a2 = 33) ∨ (a2 = 45)) := ⟨by omega, by omega, by omega, by omega, by omega, by omega, by omega, by omega, by omega⟩
theorem op75 {a0 a1 : Int} (h0 : ((-1) : Int) ≤ a0) (h1 : a0 ≤ 2) (h2 : ((a1 = 40) → (a0 = 0))) (h3 : ((a1 = 33) → (a0 = 1))) (h4 : ((a1 = 45) → (a0 = 2))) (h5 : ((a0 = 0) → (a1 = 40))) (h6 : ((a0 = 1) → (a1 = 33))) (h7 : ((a0 = 2) → (a1 = 45))) (h8 : (a0 = (-1)) ∨ (a1 = 40) ∨ (a1 = 33) ∨ (a1 = 45)) : (((-1) : Int) ≤ a0) ∧ (a0 ≤ 2) ∧ (((a1 = 40) → (a0 = 0))) ∧ (((a1 = 33) → (a0 = 1))) ∧ (((a1 = 45) → (a0 = 2))) ∧ (((a0 = 0) → (a1 = 40))) ∧ (((a0 = 1) → (a1 = 33))) ∧ (((a0 = 2) → (a1 = 45))) ∧ ((a0 = (-1)) ∨ (a1 = 40) ∨ (a1 = 33) ∨ (a1 = 45)) := ⟨h0, h1, h2, h3, h4, h5, h6, h7, h8⟩
theorem op76 {a0 a1 a2 a3 a4 a5 a6 a7 a8 a9 : Int} (h0 : a0 ≤ a1) (h1 : a2 ≠ a3) (h2 : (0 : Int) ≤ a4) (h3 : a5 = a6 + a7) (h4 : a8 = a2) (h5 : a1 ≤ 2) (h6 : ((a8 = 40) → (a1 = 0))) (h7 : ((a1 = 0) → (a8 = 40))) (h8 : ((a1 = 1) → (a8 = 33))) (h9 : ((a1 = 2) → (a8 = 45))) (h10 : ((-1) : Int) ≤ a2) (h11 : (a2 = (-1)) ∨ ((a4 = 0) ∧ (a6 < a9))) (h12 : a0 = 0) (h13 : a3 = (-1)) (h14 : a7 = 1) : ((a2 = (-1)) ∧ (a5 = a6)) ∨ ((a5 = (a6 + 1)) ∧ (a6 < a9) ∧ (a4 = 0) ∧ ((a2 = 40) ∨ (a2 = 33) ∨ (a2 = 45))) := by omega
theorem op77 {a0 a1 a2 a3 a4 : Int} (h0 : a0 ≤ a1) (h1 : a2 = a3) (h2 : a4 = a2) (h3 : a1 ≤ 2) (h4 : ((a4 = 40) → (a1 = 0))) (h5 : ((a1 = 0) → (a4 = 40))) (h6 : ((a1 = 1) → (a4 = 33))) (h7 : ((a1 = 2) → (a4 = 45))) (h8 : a0 = 0) : a3 = 40 ∨ a3 = 33 ∨ a3 = 45 := by omega
theorem op78 {a0 a1 a2 a3 a4 : Int} (h0 : a0 < a1) (h1 : a2 = a3) (h2 : a4 = a2) (h3 : ((a4 = 40) → (a0 = 0))) (h4 : ((a4 = 33) → (a0 = 1))) (h5 : ((a4 = 45) → (a0 = 2))) (h6 : a1 = 0) : ¬ (a3 = 40 ∨ a3 = 33 ∨ a3 = 45) := by omega
theorem op79 {a0 a1 a2 : Int} (h0 : (0 : Int) ≤ a0) (h1 : (a1 + a0) = 6) (h2 : a2 = 1) : a1 + a2 ≤ 2147483647 := oz739 h0 h1 h2
theorem op80 {a0 a1 a2 a3 a4 : Int} (h0 : a0 = a1 + 1) (h1 : (0 : Int) ≤ a2) (h2 : (a2 + a0) = 6) (h3 : a3 = a2 + a4) (h4 : a4 = 1) : ((0 : Int) ≤ a3) ∧ ((a3 + a1) = 6) := oz926 h0 h1 h2 h3 h4
theorem op81 {a0 a1 a2 a3 a4 a5 a6 a7 a8 : Int} (h0 : a0 ≠ a1) (h1 : a2 = a3) (h2 : a0 = (-1) ∨ a0 = a2) (h3 : a4 = a3) (h4 : ((a0 = (-1)) ∧ (a5 = a6)) ∨ ((a5 = (a6 + 1)) ∧ (a6 < a7) ∧ (a8 = 0) ∧ ((a0 = 40) ∨ (a0 = 33) ∨ (a0 = 45)))) (h5 : ¬ (((48 : Int) ≤ a4) ∧ (a4 ≤ 57))) (h6 : a1 = (-1)) : ¬ (48 ≤ a3 ∧ a3 ≤ 57) := by rcases h4 with ⟨h4_0, h4_1⟩ | ⟨h4_0, h4_1, h4_2, h4_z | h4_z | h4_z⟩ <;> omega
theorem op82 {a0 a1 a2 a3 a4 : Int} (h0 : a0 ≠ a1) (h1 : a2 = a3) (h2 : a0 = (-1) ∨ a0 = a2) (h3 : a4 = a3) (h4 : ((-1) : Int) ≤ a4) (h5 : a1 = (-1)) : a4 = a0 := by omega
theorem op83 {a0 a1 a2 a3 a4 a5 a6 a7 a8 : Int} (h0 : a0 ≠ a1) (h1 : a2 = a3) (h2 : a4 = (-1) ∨ a4 = a2) (h3 : a0 = a3) (h4 : ((a4 = (-1)) ∧ (a5 = a6)) ∨ ((a5 = (a6 + 1)) ∧ (a6 < a7) ∧ (a8 = 0) ∧ ((a4 = 40) ∨ (a4 = 33) ∨ (a4 = 45)))) (h5 : a1 = 45) : ¬ (a4 = 45) := by rcases h4 with ⟨h4_0, h4_1⟩ | ⟨h4_0, h4_1, h4_2, h4_z | h4_z | h4_z⟩ <;> omega
theorem op84 {a0 a1 a2 a3 a4 a5 : Int} (h0 : a0 ≠ a1) (h1 : ((a0 = (-1)) ∧ (a2 = a3)) ∨ ((a2 = (a3 + 1)) ∧ (a3 < a4) ∧ (a5 = 0) ∧ ((a0 = 40) ∨ (a0 = 33) ∨ (a0 = 45)))) (h2 : a1 = (-1)) : a0 ≠ -1 := by rcases h1 with ⟨h1_0, h1_1⟩ | ⟨h1_0, h1_1, h1_2, h1_z | h1_z | h1_z⟩ <;> omega
theorem op85 {a0 a1 a2 a3 a4 a5 a6 a7 a8 a9 : Int} (h0 : a0 ≠ a1) (h1 : a0 ≠ a2) (h2 : a3 = a4) (h3 : a5 = (-1) ∨ a5 = a3) (h4 : a0 = a4) (h5 : ((a5 = (-1)) ∧ (a6 = a7)) ∨ ((a6 = (a7 + 1)) ∧ (a7 < a8) ∧ (a9 = 0) ∧ ((a5 = 40) ∨ (a5 = 33) ∨ (a5 = 45)))) (h6 : a1 = 40) (h7 : a2 = 45) : a5 ≠ 40 := by rcases h5 with ⟨h5_0, h5_1⟩ | ⟨h5_0, h5_1, h5_2, h5_z | h5_z | h5_z⟩ <;> omega
theorem op86 {a0 a1 a2 : Int} (h0 : a0 = a1) (h1 : a0 = a2) (h2 : a1 = 45) : ¬ (48 ≤ a2 ∧ a2 ≤ 57) := by omega
theorem op87 {a0 a1 a2 a3 a4 a5 a6 a7 a8 a9 : Int} (h0 : a0 ≠ a1) (h1 : a2 = a3) (h2 : a4 = a5) (h3 : a0 = (-1) ∨ a0 = a4) (h4 : a2 = a5) (h5 : ((a0 = (-1)) ∧ (a6 = a7)) ∨ ((a6 = (a7 + 1)) ∧ (a7 < a8) ∧ (a9 = 0) ∧ ((a0 = 40) ∨ (a0 = 33) ∨ (a0 = 45)))) (h6 : a1 = (-1)) (h7 : a3 = 45) : a0 = 45 := by rcases h5 with ⟨h5_0, h5_1⟩ | ⟨h5_0, h5_1, h5_2, h5_z | h5_z | h5_z⟩ <;> omega
theorem op88 {a0 a1 a2 a3 a4 a5 : Int} (h0 : a0 ≠ a1) (h1 : a2 = a3) (h2 : a4 = a5) (h3 : a0 = (-1) ∨ a0 = a4) (h4 : a2 = a5) (h5 : a1 = (-1)) (h6 : a3 = 45) : a0 ≠ 40 := by omega
theorem op89 {a0 a1 a2 a3 a4 a5 a6 : Int} (h0 : a0 = a1) (h1 : a2 ≤ 120) (h2 : (0 : Int) ≤ a1) (h3 : a3 = a4 + a5) (h4 : (a0 = (-1)) ∨ ((a6 = 0) ∧ (a4 < a2))) (h5 : a5 = 1) : a3 ≤ 120 := by omega
theorem op90 {a0 a1 a2 a3 a4 a5 a6 : Int} (h0 : a0 = a1) (h1 : (0 : Int) ≤ a2) (h2 : (0 : Int) ≤ a1) (h3 : a3 = a4 + a5) (h4 : (a0 = (-1)) ∨ ((a2 = 0) ∧ (a4 < a6))) (h5 : a5 = 1) : ((a5 = 1) ∧ (a3 = (a4 + 1)) ∧ (a4 < a6) ∧ (a2 = 0)) ∨ ((a5 = 0) ∧ (a3 = a4)) := by omega
theorem op91 {a0 a1 a2 : Int} (h0 : a0 = a1) (h1 : a0 = a2) : a2 = a1 := ou85 h0 h1
theorem op92 {a0 a1 a2 a3 : Int} (h0 : a0 = 0) : ((a0 = 1) ∧ (a1 = (a1 + 1)) ∧ (a1 < a2) ∧ (a3 = 0)) ∨ ((a0 = 0) ∧ (a1 = a1)) := by omega
theorem op93 {a0 a1 a2 : Int} (h0 : a0 ≠ a1) (h1 : a0 = a2) : ¬ (a2 = a1) := ou86 h0 h1
theorem op94 {a0 : Int} (h0 : a0 = 41) : (0 : Int) ≤ a0 := oz774 h0
theorem op95 {a0 a1 a2 : Int} (h0 : a0 = a1) (h1 : a0 = a2) (h2 : a1 = 40) : ¬ (48 ≤ a2 ∧ a2 ≤ 57) := by omega
theorem op96 {a0 a1 a2 a3 a4 a5 : Int} (h0 : a0 ≠ a1) (h1 : ((a0 = 1) ∧ (a2 = (a3 + 1)) ∧ (a3 < a4) ∧ (a5 = 0)) ∨ ((a0 = 0) ∧ (a2 = a3))) (h2 : a1 = 0) : a0 ≠ 0 := by omega
theorem op97 {a0 a1 a2 a3 a4 a5 a6 a7 a8 a9 : Int} (h0 : a0 ≠ a1) (h1 : a2 = a3) (h2 : a4 = a5) (h3 : a0 = (-1) ∨ a0 = a4) (h4 : a2 = a5) (h5 : ((a0 = (-1)) ∧ (a6 = a7)) ∨ ((a6 = (a7 + 1)) ∧ (a7 < a8) ∧ (a9 = 0) ∧ ((a0 = 40) ∨ (a0 = 33) ∨ (a0 = 45)))) (h6 : a1 = (-1)) (h7 : a3 = 40) : a0 = 40 := by rcases h5 with ⟨h5_0, h5_1⟩ | ⟨h5_0, h5_1, h5_2, h5_z | h5_z | h5_z⟩ <;> omega
theorem op98 {a0 a1 : Int} (h0 : a0 = a1) (h1 : a1 = 0) : a0 = 0 := og41 h0 h1
theorem op99 {a0 a1 a2 a3 a4 a5 : Int} (h0 : a0 ≠ a1) (h1 : ((a0 = (-1)) ∧ (a2 = a3)) ∨ ((a2 = (a3 + 1)) ∧ (a3 < a4) ∧ (a5 = 0) ∧ ((a0 = 119) ∨ (a0 = 112) ∨ (a0 = 104) ∨ (a0 = 110) ∨ (a0 = 111) ∨ (a0 = 100)))) (h2 : a1 = (-1)) : (0 : Int) ≤ a0 := by rcases h1 with ⟨h1_0, h1_1⟩ | ⟨h1_0, h1_1, h1_2, h1_z | h1_z | h1_z | h1_z | h1_z | h1_z⟩ <;> omega
theorem op100 {a0 a1 a2 a3 a4 : Int} (h0 : ((a0 = (-1)) ∧ (a1 = a2)) ∨ ((a1 = (a2 + 1)) ∧ (a2 < a3) ∧ (a4 = 0) ∧ ((a0 = 119) ∨ (a0 = 112) ∨ (a0 = 104) ∨ (a0 = 110) ∨ (a0 = 111) ∨ (a0 = 100)))) : a0 ≤ 255 := by rcases h0 with ⟨h0_0, h0_1⟩ | ⟨h0_0, h0_1, h0_2, h0_z | h0_z | h0_z | h0_z | h0_z | h0_z⟩ <;> omega
theorem op101 {a0 a1 a2 a3 a4 a5 a6 : Int} (h0 : a0 ≠ a1) (h1 : a2 = a0) (h2 : ((a0 = (-1)) ∧ (a3 = a4)) ∨ ((a3 = (a4 + 1)) ∧ (a4 < a5) ∧ (a6 = 0) ∧ ((a0 = 119) ∨ (a0 = 112) ∨ (a0 = 104) ∨ (a0 = 110) ∨ (a0 = 111) ∨ (a0 = 100)))) (h3 : a1 = (-1)) : ((0 : Int) ≤ a2) ∧ (a2 ≤ 255) := by rcases h2 with ⟨h2_0, h2_1⟩ | ⟨h2_0, h2_1, h2_2, h2_z | h2_z | h2_z | h2_z | h2_z | h2_z⟩ <;> omega
theorem op102 {a0 a1 a2 a3 a4 a5 a6 a7 : Int} (h0 : a0 ≠ a1) (h1 : a0 = (-1) ∨ a0 = a2) (h2 : a3 = a2) (h3 : ((a0 = (-1)) ∧ (a4 = a5)) ∨ ((a4 = (a5 + 1)) ∧ (a5 < a6) ∧ (a7 = 0) ∧ ((a0 = 119) ∨ (a0 = 112) ∨ (a0 = 104) ∨ (a0 = 110) ∨ (a0 = 111) ∨ (a0 = 100)))) (h4 : ((-1) : Int) ≤ a3) (h5 : a1 = (-1)) : ¬ (48 ≤ a2 ∧ a2 ≤ 57) := by rcases h3 with ⟨h3_0, h3_1⟩ | ⟨h3_0, h3_1, h3_2, h3_z | h3_z | h3_z | h3_z | h3_z | h3_z⟩ <;> omega
theorem op103 {a0 a1 a2 a3 a4 a5 a6 a7 : Int} (h0 : a0 ≠ a1) (h1 : a2 = a0) (h2 : ((a0 = (-1)) ∧ (a3 = a4)) ∨ ((a3 = (a4 + 1)) ∧ (a4 < a5) ∧ (a6 = 0) ∧ ((a0 = 119) ∨ (a0 = 112) ∨ (a0 = 104) ∨ (a0 = 110) ∨ (a0 = 111) ∨ (a0 = 100)))) (h3 : a7 ≤ 5) (h4 : ((a2 = 119) → (a7 = 0))) (h5 : ((a2 = 112) → (a7 = 1))) (h6 : ((a2 = 104) → (a7 = 2))) (h7 : ((a2 = 110) → (a7 = 3))) (h8 : ((a2 = 111) → (a7 = 4))) (h9 : ((a2 = 100) → (a7 = 5))) (h10 : a1 = (-1)) : (a0 = 119 ∧ a7 = 0) ∨ (a0 = 112 ∧ a7 = 1) ∨ (a0 = 104 ∧ a7 = 2) ∨ (a0 = 110 ∧ a7 = 3) ∨ (a0 = 111 ∧ a7 = 4) ∨ (a0 = 100 ∧ a7 = 5) := by rcases h2 with ⟨h2_0, h2_1⟩ | ⟨h2_0, h2_1, h2_2, h2_z | h2_z | h2_z | h2_z | h2_z | h2_z⟩ <;> omega
theorem op104 {a0 a1 a2 a3 a4 a5 : Int} (h0 : a0 ≠ a1) (h1 : ((a0 = (-1)) ∧ (a2 = a3)) ∨ ((a2 = (a3 + 1)) ∧ (a3 < a4) ∧ (a5 = 0) ∧ ((a0 = 119) ∨ (a0 = 112) ∨ (a0 = 104) ∨ (a0 = 110) ∨ (a0 = 111) ∨ (a0 = 100)))) (h2 : a1 = (-1)) : a0 ≠ -1 := by rcases h1 with ⟨h1_0, h1_1⟩ | ⟨h1_0, h1_1, h1_2, h1_z | h1_z | h1_z | h1_z | h1_z | h1_z⟩ <;> omega
theorem op105 {a0 a1 : Int} (h0 : (0 : Int) ≤ a0) (h1 : (a0 + a1) = 6) : ((0 : Int) ≤ a0) ∧ ((a0 + a1) = 6) := oz928 h0 h1
theorem op106 {a0 a1 a2 a3 : Int} (h0 : a0 = (-1)) : ((a0 = (-1)) ∧ (a1 = a1)) ∨ ((a1 = (a1 + 1)) ∧ (a1 < a2) ∧ (a3 = 0) ∧ ((a0 = 42) ∨ (a0 = 47) ∨ (a0 = 37))) := by omega
theorem op107 {a0 a1 a2 : Int} (h0 : a0 = a1) (h1 : a0 = a2) (h2 : a1 = (-1)) : ¬ (a2 = 42 ∨ a2 = 47 ∨ a2 = 37) := by omega
theorem op108 {a0 a1 a2 a3 a4 a5 : Int} (h0 : a0 ≠ a1) (h1 : a2 ≠ a1) (h2 : a3 ≠ a1) (h3 : (a4 ≤ 127 → a1 = a4)) (h4 : a0 = 42) (h5 : a2 = 47) (h6 : a3 = 37) (h7 : a5 = (-1)) : (((-1) : Int) ≤ a5) ∧ (a5 ≤ 2) ∧ (((a4 = 42) → (a5 = 0))) ∧ (((a4 = 47) → (a5 = 1))) ∧ (((a4 = 37) → (a5 = 2))) ∧ (((a5 = 0) → (a4 = 42))) ∧ (((a5 = 1) → (a4 = 47))) ∧ (((a5 = 2) → (a4 = 37))) ∧ ((a5 = (-1)) ∨ (a4 = 42) ∨ (a4 = 47) ∨ (a4 = 37)) := ⟨by omega, by omega, by omega, by omega, by omega, by omega, by omega, by omega, by omega⟩
theorem op109 {a0 a1 a2 a3 : Int} (h0 : a0 = a1) (h1 : a2 ≤ 255) (h2 : (a2 ≤ 127 → a1 = a2)) (h3 : (128 ≤ a2 → a1 = a2 - 256)) (h4 : a0 = 37) (h5 : a3 = 2) : (((-1) : Int) ≤ a3) ∧ (a3 ≤ 2) ∧ (((a2 = 42) → (a3 = 0))) ∧ (((a2 = 47) → (a3 = 1))) ∧ (((a2 = 37) → (a3 = 2))) ∧ (((a3 = 0) → (a2 = 42))) ∧ (((a3 = 1) → (a2 = 47))) ∧ (((a3 = 2) → (a2 = 37))) ∧ ((a3 = (-1)) ∨ (a2 = 42) ∨ (a2 = 47) ∨ (a2 = 37)) := ⟨by omega, by omega, by omega, by omega, by omega, by omega, by omega, by omega, by omega⟩
theorem op110 {a0 a1 a2 a3 : Int} (h0 : a0 = a1) (h1 : a2 ≤ 255) (h2 : (a2 ≤ 127 → a1 = a2)) (h3 : (128 ≤ a2 → a1 = a2 - 256)) (h4 : a0 = 47) (h5 : a3 = 1) : (((-1) : Int) ≤ a3) ∧ (a3 ≤ 2) ∧ (((a2 = 42) → (a3 = 0))) ∧ (((a2 = 47) → (a3 = 1))) ∧ (((a2 = 37) → (a3 = 2))) ∧ (((a3 = 0) → (a2 = 42))) ∧ (((a3 = 1) → (a2 = 47))) ∧ (((a3 = 2) → (a2 = 37))) ∧ ((a3 = (-1)) ∨ (a2 = 42) ∨ (a2 = 47) ∨ (a2 = 37)) := ⟨by omega, by omega, by omega, by omega, by omega, by omega, by omega, by omega, by omega⟩
theorem op111 {a0 a1 a2 a3 : Int} (h0 : a0 = a1) (h1 : a2 ≤ 255) (h2 : (a2 ≤ 127 → a1 = a2)) (h3 : (128 ≤ a2 → a1 = a2 - 256)) (h4 : a0 = 42) (h5 : a3 = 0) : (((-1) : Int) ≤ a3) ∧ (a3 ≤ 2) ∧ (((a2 = 42) → (a3 = 0))) ∧ (((a2 = 47) → (a3 = 1))) ∧ (((a2 = 37) → (a3 = 2))) ∧ (((a3 = 0) → (a2 = 42))) ∧ (((a3 = 1) → (a2 = 47))) ∧ (((a3 = 2) → (a2 = 37))) ∧ ((a3 = (-1)) ∨ (a2 = 42) ∨ (a2 = 47) ∨ (a2 = 37)) := ⟨by omega, by omega, by omega, by omega, by omega, by omega, by omega, by omega, by omega⟩
theorem op112 {a0 a1 : Int} (h0 : ((-1) : Int) ≤ a0) (h1 : a0 ≤ 2) (h2 : ((a1 = 42) → (a0 = 0))) (h3 : ((a1 = 47) → (a0 = 1))) (h4 : ((a1 = 37) → (a0 = 2))) (h5 : ((a0 = 0) → (a1 = 42))) (h6 : ((a0 = 1) → (a1 = 47))) (h7 : ((a0 = 2) → (a1 = 37))) (h8 : (a0 = (-1)) ∨ (a1 = 42) ∨ (a1 = 47) ∨ (a1 = 37)) : (((-1) : Int) ≤ a0) ∧ (a0 ≤ 2) ∧ (((a1 = 42) → (a0 = 0))) ∧ (((a1 = 47) → (a0 = 1))) ∧ (((a1 = 37) → (a0 = 2))) ∧ (((a0 = 0) → (a1 = 42))) ∧ (((a0 = 1) → (a1 = 47))) ∧ (((a0 = 2) → (a1 = 37))) ∧ ((a0 = (-1)) ∨ (a1 = 42) ∨ (a1 = 47) ∨ (a1 = 37)) := ⟨h0, h1, h2, h3, h4, h5, h6, h7, h8⟩
theorem op113 {a0 a1 a2 a3 a4 a5 a6 a7 a8 a9 : Int} (h0 : a0 ≤ a1) (h1 : a2 ≠ a3) (h2 : (0 : Int) ≤ a4) (h3 : a5 = a6 + a7) (h4 : a8 = a2) (h5 : a1 ≤ 2) (h6 : ((a8 = 42) → (a1 = 0))) (h7 : ((a1 = 0) → (a8 = 42))) (h8 : ((a1 = 1) → (a8 = 47))) (h9 : ((a1 = 2) → (a8 = 37))) (h10 : ((-1) : Int) ≤ a2) (h11 : (a2 = (-1)) ∨ ((a4 = 0) ∧ (a6 < a9))) (h12 : a0 = 0) (h13 : a3 = (-1)) (h14 : a7 = 1) : ((a2 = (-1)) ∧ (a5 = a6)) ∨ ((a5 = (a6 + 1)) ∧ (a6 < a9) ∧ (a4 = 0) ∧ ((a2 = 42) ∨ (a2 = 47) ∨ (a2 = 37))) := by omega
theorem op114 {a0 a1 a2 a3 a4 : Int} (h0 : a0 ≤ a1) (h1 : a2 = a3) (h2 : a4 = a2) (h3 : a1 ≤ 2) (h4 : ((a4 = 42) → (a1 = 0))) (h5 : ((a1 = 0) → (a4 = 42))) (h6 : ((a1 = 1) → (a4 = 47))) (h7 : ((a1 = 2) → (a4 = 37))) (h8 : a0 = 0) : a3 = 42 ∨ a3 = 47 ∨ a3 = 37 := by omega
theorem op115 {a0 a1 a2 a3 a4 : Int} (h0 : a0 < a1) (h1 : a2 = a3) (h2 : a4 = a2) (h3 : ((a4 = 42) → (a0 = 0))) (h4 : ((a4 = 47) → (a0 = 1))) (h5 : ((a4 = 37) → (a0 = 2))) (h6 : a1 = 0) : ¬ (a3 = 42 ∨ a3 = 47 ∨ a3 = 37) := by omega
theorem op116 {a0 a1 a2 a3 a4 a5 : Int} (h0 : a0 ≤ a1) (h1 : a0 = a2) (h2 : a3 = a4) (h3 : a2 = a3) (h4 : a4 = a5) : a5 ≤ a1 := by omega
theorem op117 {a0 a1 a2 : Int} (h0 : a0 < a1) (h1 : a1 ≤ 120) (h2 : a2 = 1) : a0 + a2 ≤ 2147483647 := oz929 h0 h1 h2
theorem op118 {a0 a1 a2 a3 a4 a5 : Int} (h0 : a0 < a1) (h1 : a1 = a2) (h2 : a3 = a4) (h3 : a2 = a3) (h4 : a4 = a5) : a0 < a5 := by omega
theorem op119 {a0 a1 : Int} (h0 : a0 ≠ a1) (h1 : a1 = (-1)) : ¬ (a0 = -1) := by omega
theorem op120 {a0 a1 a2 a3 a4 a5 a6 : Int} (h0 : a0 = a1) (h1 : a2 = a0) (h2 : a3 = a2) (h3 : a4 = a5 + a6) (h4 : a6 = 1) : (a3 - a4) < (a1 - a5) := oz445 h0 h1 h2 h3 h4
theorem op121 {a0 a1 : Int} (h0 : a0 < a1) : (1 : Int) ≤ (a1 - a0) := oz45 h0
theorem op122 {a0 a1 a2 a3 : Int} (h0 : a0 = (-1)) : ((a0 = (-1)) ∧ (a1 = a1)) ∨ ((a1 = (a1 + 1)) ∧ (a1 < a2) ∧ (a3 = 0) ∧ ((a0 = 43) ∨ (a0 = 45))) := by omega
theorem op123 {a0 a1 a2 : Int} (h0 : a0 = a1) (h1 : a0 = a2) (h2 : a1 = (-1)) : ¬ (a2 = 43 ∨ a2 = 45) := by omega
theorem op124 {a0 : Int} (h0 : a0 = 2) : a0 = 2 := oz1411 h0
theorem op125 {a0 a1 a2 a3 a4 : Int} (h0 : a0 ≠ a1) (h1 : a2 ≠ a1) (h2 : (a3 ≤ 127 → a1 = a3)) (h3 : a0 = 43) (h4 : a2 = 45) (h5 : a4 = (-1)) : (((-1) : Int) ≤ a4) ∧ (a4 ≤ 1) ∧ (((a3 = 43) → (a4 = 0))) ∧ (((a3 = 45) → (a4 = 1))) ∧ (((a4 = 0) → (a3 = 43))) ∧ (((a4 = 1) → (a3 = 45))) ∧ ((a4 = (-1)) ∨ (a3 = 43) ∨ (a3 = 45)) := ⟨by omega, by omega, by omega, by omega, by omega, by omega, by omega⟩
theorem op126 {a0 a1 a2 a3 : Int} (h0 : a0 = a1) (h1 : a2 ≤ 255) (h2 : (a2 ≤ 127 → a1 = a2)) (h3 : (128 ≤ a2 → a1 = a2 - 256)) (h4 : a0 = 45) (h5 : a3 = 1) : (((-1) : Int) ≤ a3) ∧ (a3 ≤ 1) ∧ (((a2 = 43) → (a3 = 0))) ∧ (((a2 = 45) → (a3 = 1))) ∧ (((a3 = 0) → (a2 = 43))) ∧ (((a3 = 1) → (a2 = 45))) ∧ ((a3 = (-1)) ∨ (a2 = 43) ∨ (a2 = 45)) := ⟨by omega, by omega, by omega, by omega, by omega, by omega, by omega⟩
theorem op127 {a0 a1 a2 a3 : Int} (h0 : a0 = a1) (h1 : a2 ≤ 255) (h2 : (a2 ≤ 127 → a1 = a2)) (h3 : (128 ≤ a2 → a1 = a2 - 256)) (h4 : a0 = 43) (h5 : a3 = 0) : (((-1) : Int) ≤ a3) ∧ (a3 ≤ 1) ∧ (((a2 = 43) → (a3 = 0))) ∧ (((a2 = 45) → (a3 = 1))) ∧ (((a3 = 0) → (a2 = 43))) ∧ (((a3 = 1) → (a2 = 45))) ∧ ((a3 = (-1)) ∨ (a2 = 43) ∨ (a2 = 45)) := ⟨by omega, by omega, by omega, by omega, by omega, by omega, by omega⟩
theorem op128 {a0 a1 : Int} (h0 : ((-1) : Int) ≤ a0) (h1 : a0 ≤ 1) (h2 : ((a1 = 43) → (a0 = 0))) (h3 : ((a1 = 45) → (a0 = 1))) (h4 : ((a0 = 0) → (a1 = 43))) (h5 : ((a0 = 1) → (a1 = 45))) : (((-1) : Int) ≤ a0) ∧ (a0 ≤ 1) ∧ (((a1 = 43) → (a0 = 0))) ∧ (((a1 = 45) → (a0 = 1))) ∧ (((a0 = 0) → (a1 = 43))) ∧ (((a0 = 1) → (a1 = 45))) ∧ ((a0 = (-1)) ∨ (a1 = 43) ∨ (a1 = 45)) := ⟨h0, h1, h2, h3, h4, h5, by omega⟩
theorem op129 {a0 a1 a2 a3 a4 a5 a6 a7 a8 a9 : Int} (h0 : a0 ≤ a1) (h1 : a2 ≠ a3) (h2 : (0 : Int) ≤ a4) (h3 : a5 = a6 + a7) (h4 : a8 = a2) (h5 : a1 ≤ 1) (h6 : ((a8 = 43) → (a1 = 0))) (h7 : ((a1 = 0) → (a8 = 43))) (h8 : ((a1 = 1) → (a8 = 45))) (h9 : ((-1) : Int) ≤ a2) (h10 : (a2 = (-1)) ∨ ((a4 = 0) ∧ (a6 < a9))) (h11 : a0 = 0) (h12 : a3 = (-1)) (h13 : a7 = 1) : ((a2 = (-1)) ∧ (a5 = a6)) ∨ ((a5 = (a6 + 1)) ∧ (a6 < a9) ∧ (a4 = 0) ∧ ((a2 = 43) ∨ (a2 = 45))) := by omega
theorem op130 {a0 a1 a2 a3 a4 : Int} (h0 : a0 ≤ a1) (h1 : a2 = a3) (h2 : a4 = a2) (h3 : a1 ≤ 1) (h4 : ((a4 = 43) → (a1 = 0))) (h5 : ((a1 = 0) → (a4 = 43))) (h6 : ((a1 = 1) → (a4 = 45))) (h7 : a0 = 0) : a3 = 43 ∨ a3 = 45 := by omega
theorem op131 {a0 a1 a2 a3 a4 : Int} (h0 : a0 < a1) (h1 : a2 = a3) (h2 : a4 = a2) (h3 : ((a4 = 43) → (a0 = 0))) (h4 : ((a4 = 45) → (a0 = 1))) (h5 : a1 = 0) : ¬ (a3 = 43 ∨ a3 = 45) := by omega
theorem op132 {a0 a1 a2 a3 : Int} (h0 : a0 = (-1)) : ((a0 = (-1)) ∧ (a1 = a1)) ∨ ((a1 = (a1 + 1)) ∧ (a1 < a2) ∧ (a3 = 0) ∧ ((a0 = 60) ∨ (a0 = 61) ∨ (a0 = 62))) := by omega
theorem op133 {a0 a1 a2 : Int} (h0 : a0 = a1) (h1 : a0 = a2) (h2 : a1 = (-1)) : ¬ (a2 = 60 ∨ a2 = 61 ∨ a2 = 62) := by omega
theorem op134 {a0 a1 a2 a3 a4 a5 : Int} (h0 : a0 ≠ a1) (h1 : a2 ≠ a1) (h2 : a3 ≠ a1) (h3 : (a4 ≤ 127 → a1 = a4)) (h4 : a0 = 60) (h5 : a2 = 61) (h6 : a3 = 62) (h7 : a5 = (-1)) : (((-1) : Int) ≤ a5) ∧ (a5 ≤ 2) ∧ (((a4 = 60) → (a5 = 0))) ∧ (((a4 = 61) → (a5 = 1))) ∧ (((a4 = 62) → (a5 = 2))) ∧ (((a5 = 0) → (a4 = 60))) ∧ (((a5 = 1) → (a4 = 61))) ∧ (((a5 = 2) → (a4 = 62))) ∧ ((a5 = (-1)) ∨ (a4 = 60) ∨ (a4 = 61) ∨ (a4 = 62)) := ⟨by omega, by omega, by omega, by omega, by omega, by omega, by omega, by omega, by omega⟩
theorem op135 {a0 a1 a2 a3 : Int} (h0 : a0 = a1) (h1 : a2 ≤ 255) (h2 : (a2 ≤ 127 → a1 = a2)) (h3 : (128 ≤ a2 → a1 = a2 - 256)) (h4 : a0 = 62) (h5 : a3 = 2) : (((-1) : Int) ≤ a3) ∧ (a3 ≤ 2) ∧ (((a2 = 60) → (a3 = 0))) ∧ (((a2 = 61) → (a3 = 1))) ∧ (((a2 = 62) → (a3 = 2))) ∧ (((a3 = 0) → (a2 = 60))) ∧ (((a3 = 1) → (a2 = 61))) ∧ (((a3 = 2) → (a2 = 62))) ∧ ((a3 = (-1)) ∨ (a2 = 60) ∨ (a2 = 61) ∨ (a2 = 62)) := ⟨by omega, by omega, by omega, by omega, by omega, by omega, by omega, by omega, by omega⟩
theorem op136 {a0 a1 a2 a3 : Int} (h0 : a0 = a1) (h1 : a2 ≤ 255) (h2 : (a2 ≤ 127 → a1 = a2)) (h3 : (128 ≤ a2 → a1 = a2 - 256)) (h4 : a0 = 61) (h5 : a3 = 1) : (((-1) : Int) ≤ a3) ∧ (a3 ≤ 2) ∧ (((a2 = 60) → (a3 = 0))) ∧ (((a2 = 61) → (a3 = 1))) ∧ (((a2 = 62) → (a3 = 2))) ∧ (((a3 = 0) → (a2 = 60))) ∧ (((a3 = 1) → (a2 = 61))) ∧ (((a3 = 2) → (a2 = 62))) ∧ ((a3 = (-1)) ∨ (a2 = 60) ∨ (a2 = 61) ∨ (a2 = 62)) := ⟨by omega, by omega, by omega, by omega, by omega, by omega, by omega, by omega, by omega⟩
theorem op137 {a0 a1 a2 a3 : Int} (h0 : a0 = a1) (h1 : a2 ≤ 255) (h2 : (a2 ≤ 127 → a1 = a2)) (h3 : (128 ≤ a2 → a1 = a2 - 256)) (h4 : a0 = 60) (h5 : a3 = 0) : (((-1) : Int) ≤ a3) ∧ (a3 ≤ 2) ∧ (((a2 = 60) → (a3 = 0))) ∧ (((a2 = 61) → (a3 = 1))) ∧ (((a2 = 62) → (a3 = 2))) ∧ (((a3 = 0) → (a2 = 60))) ∧ (((a3 = 1) → (a2 = 61))) ∧ (((a3 = 2) → (a2 = 62))) ∧ ((a3 = (-1)) ∨ (a2 = 60) ∨ (a2 = 61) ∨ (a2 = 62)) := ⟨by omega, by omega, by omega, by omega, by omega, by omega, by omega, by omega, by omega⟩
theorem op138 {a0 a1 : Int} (h0 : ((-1) : Int) ≤ a0) (h1 : a0 ≤ 2) (h2 : ((a1 = 60) → (a0 = 0))) (h3 : ((a1 = 61) → (a0 = 1))) (h4 : ((a1 = 62) → (a0 = 2))) (h5 : ((a0 = 0) → (a1 = 60))) (h6 : ((a0 = 1) → (a1 = 61))) (h7 : ((a0 = 2) → (a1 = 62))) (h8 : (a0 = (-1)) ∨ (a1 = 60) ∨ (a1 = 61) ∨ (a1 = 62)) : (((-1) : Int) ≤ a0) ∧ (a0 ≤ 2) ∧ (((a1 = 60) → (a0 = 0))) ∧ (((a1 = 61) → (a0 = 1))) ∧ (((a1 = 62) → (a0 = 2))) ∧ (((a0 = 0) → (a1 = 60))) ∧ (((a0 = 1) → (a1 = 61))) ∧ (((a0 = 2) → (a1 = 62))) ∧ ((a0 = (-1)) ∨ (a1 = 60) ∨ (a1 = 61) ∨ (a1 = 62)) := ⟨h0, h1, h2, h3, h4, h5, h6, h7, h8⟩
theorem op139 {a0 a1 a2 a3 a4 a5 a6 a7 a8 a9 : Int} (h0 : a0 ≤ a1) (h1 : a2 ≠ a3) (h2 : (0 : Int) ≤ a4) (h3 : a5 = a6 + a7) (h4 : a8 = a2) (h5 : a1 ≤ 2) (h6 : ((a8 = 61) → (a1 = 1))) (h7 : ((a8 = 62) → (a1 = 2))) (h8 : ((a1 = 0) → (a8 = 60))) (h9 : ((a1 = 1) → (a8 = 61))) (h10 : ((a1 = 2) → (a8 = 62))) (h11 : ((-1) : Int) ≤ a2) (h12 : (a2 = (-1)) ∨ ((a4 = 0) ∧ (a6 < a9))) (h13 : a0 = 0) (h14 : a3 = (-1)) (h15 : a7 = 1) : ((a2 = (-1)) ∧ (a5 = a6)) ∨ ((a5 = (a6 + 1)) ∧ (a6 < a9) ∧ (a4 = 0) ∧ ((a2 = 60) ∨ (a2 = 61) ∨ (a2 = 62))) := by omega
theorem op140 {a0 a1 a2 a3 a4 : Int} (h0 : a0 ≤ a1) (h1 : a2 = a3) (h2 : a4 = a2) (h3 : a1 ≤ 2) (h4 : ((a4 = 61) → (a1 = 1))) (h5 : ((a4 = 62) → (a1 = 2))) (h6 : ((a1 = 0) → (a4 = 60))) (h7 : ((a1 = 1) → (a4 = 61))) (h8 : ((a1 = 2) → (a4 = 62))) (h9 : a0 = 0) : a3 = 60 ∨ a3 = 61 ∨ a3 = 62 := by omega
theorem op141 {a0 a1 a2 a3 a4 : Int} (h0 : a0 < a1) (h1 : a2 = a3) (h2 : a4 = a2) (h3 : ((a4 = 60) → (a0 = 0))) (h4 : ((a4 = 61) → (a0 = 1))) (h5 : ((a4 = 62) → (a0 = 2))) (h6 : a1 = 0) : ¬ (a3 = 60 ∨ a3 = 61 ∨ a3 = 62) := by omega
theorem op142 {a0 a1 a2 a3 a4 a5 : Int} (h0 : a0 ≠ a1) (h1 : ((a0 = (-1)) ∧ (a2 = a3)) ∨ ((a2 = (a3 + 1)) ∧ (a3 < a4) ∧ (a5 = 0) ∧ ((a0 = 60) ∨ (a0 = 61) ∨ (a0 = 62)))) (h2 : a1 = (-1)) : ¬ (a0 = -1) := by rcases h1 with ⟨h1_0, h1_1⟩ | ⟨h1_0, h1_1, h1_2, h1_z | h1_z | h1_z⟩ <;> omega
theorem op143 {a0 a1 a2 a3 a4 : Int} (h0 : a0 ≤ a1) (h1 : a0 = a2) (h2 : a2 = a3) (h3 : a3 = a4) : a4 ≤ a1 := by omega
theorem op144 {a0 : Int} (h0 : a0 = 38) : (0 : Int) ≤ a0 := oz879 h0
theorem op145 {a0 a1 a2 a3 a4 : Int} (h0 : a0 < a1) (h1 : a1 = a2) (h2 : a2 = a3) (h3 : a3 = a4) : a0 < a4 := by omega
theorem op146 {a0 a1 a2 a3 a4 a5 : Int} (h0 : a0 ≠ a1) (h1 : ((a0 = 1) ∧ (a2 = (a3 + 1)) ∧ (a3 < a4) ∧ (a5 = 0)) ∨ ((a0 = 0) ∧ (a2 = a3))) (h2 : a1 = 0) : ¬ (a0 = 0) := by omega
theorem op147 {a0 a1 a2 a3 a4 a5 a6 : Int} (h0 : a0 = a1) (h1 : a2 = a0) (h2 : a1 = a3) (h3 : a4 = a5 + a6) (h4 : a6 = 1) : (a2 - a4) < (a3 - a5) := by omega
theorem op148 {a0 : Int} (h0 : a0 = 124) : (0 : Int) ≤ a0 := oz901 h0
theorem op149 {a0 : Int} (h0 : a0 = 63) : (0 : Int) ≤ a0 := oz1286 h0
theorem op150 {a0 : Int}  : a0 = a0 := oz34
theorem op151 {a0 a1 a2 : Int} (h0 : a0 < a1) (h1 : a1 = 0) : ¬ ((0 : Int) ≤ a0 ∧ a0 < a2) := by omega
theorem op152 {a0 a1 : Int} (h0 : a0 ≤ a1) : ¬ ((0 : Int) ≤ a1 ∧ a1 < a0) := by omega
theorem op153 {a0 a1 : Int} (h0 : a0 ≤ a1) (h1 : a0 = 0) : (0 : Int) ≤ a1 := oz389 h0 h1
theorem op154 {a0 a1 : Int} (h0 : a0 < a1) (h1 : a1 ≤ 121) : a0 < 121 := oz1034 h0 h1
theorem op155 {a0 a1 : Int} (h0 : a0 < a1) : a0 < a1 := oz270 h0
theorem op156 {a0 : Int} (h0 : a0 = 0) : a0 ≤ 120 := oz1297 h0
theorem op157 {a0 : Int} (h0 : a0 = 0) : a0 ≤ 1 := oz1328 h0
theorem op158 {a0 : Int} (h0 : a0 = 0) : a0 ≤ 121 := oz1033 h0
theorem op159 {a0 : Int} (h0 : (0 : Int) ≤ a0) : (a0 = (-1)) ∨ ((0 : Int) ≤ a0) := oz1329 h0
theorem op160 {a0 a1 a2 a3 : Int} (h0 : a0 ≠ a1) (h1 : (0 : Int) ≤ a0) (h2 : a1 = 0) : ¬ (a0 = 0 ∧ a2 ≤ a3) := by omega
theorem op161 {a0 : Int} (h0 : a0 = (-1)) : (a0 = (-1)) ∨ ((0 : Int) ≤ a0) := oz1330 h0
theorem op162 {a0 a1 a2 a3 a4 a5 a6 : Int} (h0 : a0 < a1) (h1 : a1 = a2) (h2 : a3 = a4) (h3 : a2 = a3) (h4 : a4 = a5) : ¬ (a6 = 0 ∧ a5 ≤ a0) := by omega
theorem op163 {a0 : Int} (h0 : a0 = 59) : (0 : Int) ≤ a0 := oz1304 h0
theorem op164 {a0 a1 a2 a3 a4 a5 a6 : Int} (h0 : a0 ≤ a1) (h1 : a2 = a3) (h2 : a0 = a2) (h3 : a4 = a5) (h4 : a3 = a4) (h5 : a5 = a6) : a6 ≤ a1 := by omega
theorem op165 {a0 a1 a2 a3 a4 a5 a6 a7 : Int} (h0 : a0 < a1) (h1 : a2 = a3) (h2 : a1 = a2) (h3 : a4 = a5) (h4 : a3 = a4) (h5 : a5 = a6) : ¬ (a7 = 0 ∧ a6 ≤ a0) := by omega
theorem op166 {a0 a1 a2 a3 a4 a5 : Int} (h0 : a0 = a1) (h1 : a2 = a0) (h2 : a3 = a4 + a5) (h3 : a5 = 1) : (a2 - a3) < (a1 - a4) := oz1175 h0 h1 h2 h3
theorem op167 {a0 a1 : Int} (h0 : a0 < a1) (h1 : a1 = 0) : a0 < 0 := oz1670 h0 h1
set_option maxRecDepth 100000 in
theorem ke45_98 {i : Nat → Int32} {a : Nat → List Int32} {q : Nat → List Int64} {r : Nat → Nat} (hI : kI i a q) (hr : kr r) (t : List Int32) (nn : Int32) (hT : a 99 = t) (hN : i 6273 = nn) (hX : kBy t) : km 1 45 [.ref 98] (ks i a q r) (kPI (ks i a q r) (fun v => ((((-1) : Int) ≤ v.toInt) ∧ (v.toInt ≤ 255) ∧ ((v.toInt = (-1)) ∨ (((i 6275).toInt = 0) ∧ ((i 6274).toInt < (i 6273).toInt)))) ∧ v = cHr t nn (i 6274) (i 6275))) := by
  have hG := kG_self kW0 hI hr
  refine km_ofPI (q := (mi_h45, mi_c45)) rfl (by decide) (Nat.le_of_ble_eq_true rfl) ?_
  intro P hP
  have hn1 : (i 6273).toInt = nn.toInt := congrArg Int32.toInt hN
  have fi_6275 : ((0 : Int) ≤ (i 6275).toInt) ∧ ((i 6275).toInt ≤ 1) := hG.I.1 6275
  first | refine ft_goL mi_k45 2 4 [(0, .ref 98)] [.int (i 6275)] (by rfl) ?_ | refine ft_go mi_k45 2 4 [(0, .ref 98)] [.int (i 6275)] i a q r (by rfl) ?_
  refine ft_ifS mi_k45 ((i 6275) != 0) 37 7 [] (by rfl) (fun c => ?_) (fun c => ?_)
  ·
    have c2 : (i 6275).toInt ≠ (0 : Int32).toInt := kd_ne c; clear c
    first | refine ft_goS mi_k45 1 38 [.int (-1)] (by rfl) ?_ | refine ft_go mi_k45 1 38 [(0, .ref 98)] [.int (-1)] i a q r (by rfl) ?_
    exact ft_ret mi_k45 (by rfl) (hP (-1) ⟨(op0 kopm1), (show ((-1) : Int32) = cHr t nn (i 6274) (i 6275) from (cHr_out (op1 c2 fi_6275.1 kop0)))⟩)
  ·
    have c3 : (i 6275).toInt = (0 : Int32).toInt := kd_neF c; clear c
    have fi_6274 : ((0 : Int) ≤ (i 6274).toInt) ∧ ((i 6274).toInt ≤ 120) := hG.I.1 6274
    first | refine ft_goS mi_k45 2 11 [.int (i 6274)] (by rfl) ?_ | refine ft_go mi_k45 2 11 [(0, .ref 98)] [.int (i 6274)] i a q r (by rfl) ?_
    refine ft_ifS mi_k45 (decide ((i 6274) < 0)) 37 14 [] (by rfl) (fun c => ?_) (fun c => ?_)
    ·
      have c4 : (i 6274).toInt < (0 : Int32).toInt := kd_lt c; clear c
      exact (op2 c4 fi_6274.1 kop0).elim
    ·
      have c5 : (0 : Int32).toInt ≤ (i 6274).toInt := kd_ltF c; clear c
      have fi_6273 : ((0 : Int) ≤ (i 6273).toInt) ∧ ((i 6273).toInt ≤ 120) := hG.I.1 6273
      first | refine ft_goS mi_k45 4 22 [.int (i 6273), .int (i 6274)] (by rfl) ?_ | refine ft_go mi_k45 4 22 [(0, .ref 98)] [.int (i 6273), .int (i 6274)] i a q r (by rfl) ?_
      refine ft_ifS mi_k45 (decide ((i 6273) ≤ (i 6274))) 37 25 [] (by rfl) (fun c => ?_) (fun c => ?_)
      ·
        have c6 : (i 6273).toInt ≤ (i 6274).toInt := kd_le c; clear c
        first | refine ft_goS mi_k45 1 38 [.int (-1)] (by rfl) ?_ | refine ft_go mi_k45 1 38 [(0, .ref 98)] [.int (-1)] i a q r (by rfl) ?_
        exact ft_ret mi_k45 (by rfl) (hP (-1) ⟨(op0 kopm1), (show ((-1) : Int32) = cHr t nn (i 6274) (i 6275) from (cHr_out (op3 c6 hn1)))⟩)
      ·
        have c7 : (i 6274).toInt < (i 6273).toInt := kd_leF c; clear c
        first | refine ft_goS mi_k45 4 33 [.int (i 6274), .ref 99] (by rfl) ?_ | refine ft_go mi_k45 4 33 [(0, .ref 98)] [.int (i 6274), .ref 99] i a q r (by rfl) ?_
        refine ko_iald3 mi_k45.1 (n := 120) (c := 120) (ax := (0, 0, 0, 0, 0)) (mi_k45.2 _ _ (by rfl)) (by rfl) (ksG99 _ _ _ _) (hG.I.2.1 99) rfl (op4 fi_6274.1) (op5 c7 fi_6273.2) ?_
        have hx8 : ((0 : Int) ≤ ((a 99).getD (i 6274).toNatClampNeg 0).toInt) ∧ (((a 99).getD (i 6274).toNatClampNeg 0).toInt ≤ 255) := (hT ▸ hX ((i 6274).toNatClampNeg) : (0 : Int) ≤ ((a 99).getD ((i 6274).toNatClampNeg) 0).toInt ∧ ((a 99).getD ((i 6274).toNatClampNeg) 0).toInt ≤ 255)
        first | refine ft_goS mi_k45 1 38 [.int ((a 99).getD (i 6274).toNatClampNeg 0)] (by rfl) ?_ | refine ft_go mi_k45 1 38 [(0, .ref 98)] [.int ((a 99).getD (i 6274).toNatClampNeg 0)] i a q r (by rfl) ?_
        exact ft_ret mi_k45 (by rfl) (hP ((a 99).getD (i 6274).toNatClampNeg 0) ⟨(op6 c3 c7 fi_6275.1 hx8.1 hx8.2 kop0), (show ((a 99).getD (i 6274).toNatClampNeg 0) = cHr t nn (i 6274) (i 6275) from (by rw [hT]; exact cHr_in (op7 c3 fi_6275.1 kop0) (op8 c7 hn1)))⟩)
def zw17_10 : kW := ([643], [11, 12], [], [])
set_option maxRecDepth 100000 in
theorem kf17_10 {i : Nat → Int32} {a : Nat → List Int32} {q : Nat → List Int64} {r : Nat → Nat} (hI : kI i a q) (hr : kr r) (x1 : Int32) (x2 : Int32) : km 1 17 [.ref 10, .int x1, .int x2] (ks i a q r) (kVI zw17_10 i a q r (fun v i1 a1 q1 r1 => ((((i 643).toInt ≤ 120) ∧ ((i1 643).toInt = ((i 643).toInt + 1))) ∨ (((121 : Int) ≤ (i 643).toInt) ∧ ((i1 643).toInt = (i 643).toInt))) ∧ ((a1 11, a1 12, i1 643) = lAdd x1 x2 (a 11, a 12, i 643) ∧ v = i1 643 - 1))) := by
  have hG := kG_self zw17_10 hI hr
  refine km_ofI (q := (mi_h17, mi_c17)) rfl (by decide) (Nat.le_of_ble_eq_true rfl) ?_
  intro P hP
  have fi_643 : ((0 : Int) ≤ (i 643).toInt) ∧ ((i 643).toInt ≤ 121) := hG.I.1 643
  first | refine fo_goL mi_k17 fz17_0_3_6 [(0, .ref 10), (1, .int x1), (2, .int x2)] [.int 121, .int (i 643)] (by rfl) ?_ | refine ft_go mi_k17 3 6 [(0, .ref 10), (1, .int x1), (2, .int x2)] [.int 121, .int (i 643)] i a q r (by rfl) ?_
  refine ft_ifS mi_k17 (decide (121 ≤ (i 643))) 39 9 [] (by rfl) (fun c => ?_) (fun c => ?_)
  ·
    have c1 : (121 : Int32).toInt ≤ (i 643).toInt := kd_le c; clear c
    have s2 : ((i 643) - 1).toInt = (i 643).toInt - (1 : Int32).toInt := kd_sub (op13 c1 kop121 kop1) (op14 fi_643.2 kop1)
    first | refine fo_goS mi_k17 fz17_39_4_45 [.int ((i 643) - 1)] (by rfl) ?_ | refine ft_go mi_k17 4 45 [(0, .ref 10), (1, .int x1), (2, .int x2)] [.int ((i 643) - 1)] i a q r (by rfl) ?_
    exact ft_ret mi_k17 (by rfl) (hP ((i 643) - 1) _ _ _ _ hG ⟨(op15 c1 kop121), ⟨(show (a 11, a 12, i 643) = (a 11, a 12, i 643) from rfl).trans (if_neg (op16 c1 kop121)).symm, rfl⟩⟩)
  ·
    have c3 : (i 643).toInt < (121 : Int32).toInt := kd_leF c; clear c
    first | refine fo_goS mi_k17 fz17_9_5_18 [.int x1, .int (i 643), .ref 11] (by rfl) ?_ | refine ft_go mi_k17 5 18 [(0, .ref 10), (1, .int x1), (2, .int x2)] [.int x1, .int (i 643), .ref 11] i a q r (by rfl) ?_
    refine ko_iast3 mi_k17.1 (n := 121) (c := 121) (ax := (0, 0, 0, 0, 0)) (mi_k17.2 _ _ (by rfl)) (by rfl) (ksG11 _ _ _ _) (ksA11 _ _ _ _) (hG.I.2.1 11) rfl (op4 fi_643.1) (op17 c3 kop121) ?_
    intro a4 ea4 fa4
    have hJ4 := kG_a3 hG 11 rfl ea4 fa4 (kd_bd _)
    first | refine fo_goS mi_k17 fz17_19_5_28 [.int x2, .int (i 643), .ref 12] (by rfl) ?_ | refine ft_go mi_k17 5 28 [(0, .ref 10), (1, .int x1), (2, .int x2)] [.int x2, .int (i 643), .ref 12] i a4 q r (by rfl) ?_
    refine ko_iast3 mi_k17.1 (n := 121) (c := 121) (ax := (0, 0, 0, 0, 0)) (mi_k17.2 _ _ (by rfl)) (by rfl) (ksG12 _ _ _ _) (ksA12 _ _ _ _) (hJ4.I.2.1 12) rfl (op4 fi_643.1) (op17 c3 kop121) ?_
    intro a5 ea5 fa5
    have hJ5 := kG_a3 hJ4 12 rfl ea5 fa5 (kd_bd _)
    have s6 : ((i 643) + 1).toInt = (i 643).toInt + (1 : Int32).toInt := kd_add (op18 fi_643.1 kop1) (op19 fi_643.2 kop1)
    have hJ7 := kG_i hJ5 643 rfl (v := ((i 643) + 1)) ⟨(op20 fi_643.1 s6 kop1), (op21 c3 s6 kop121 kop1)⟩
    have s8 : (((i 643) + 1) - 1).toInt = ((i 643) + 1).toInt - (1 : Int32).toInt := kd_sub (op22 fi_643.1 s6 kop1) (op23 fi_643.2 s6 kop1)
    first | refine fo_goI mi_k17 fz17_29_10_45 [.int (((i 643) + 1) - 1)] (ku i 643 ((i 643) + 1)) (by rfl) ?_ | refine ft_go mi_k17 10 45 [(0, .ref 10), (1, .int x1), (2, .int x2)] [.int (((i 643) + 1) - 1)] (ku i 643 ((i 643) + 1)) a5 q r (by rfl) ?_
    exact ft_ret mi_k17 (by rfl) (hP (((i 643) + 1) - 1) _ _ _ _ hJ7 ⟨(op24 c3 s6 kop121 kop1), ⟨(show (a5 11, a5 12, ((i 643) + 1)) = ((a 11).set (i 643).toNatClampNeg x1, (a 12).set (i 643).toNatClampNeg x2, i 643 + 1) from by rw [fa5 11 (by decide), ea4, ea5, fa4 12 (by decide)]).trans (if_pos (op25 c3 kop121)).symm, rfl⟩⟩)
def yw55_98_L10 : kW := ([643, 6274], [11, 12], [], [])
def yw55_98_L10_L4 : kW := ([6274], [], [], [])
set_option maxRecDepth 100000 in
theorem ke55_98_L10 {i : Nat → Int32} {a : Nat → List Int32} {q : Nat → List Int64} {r : Nat → Nat} (hI : kI i a q) (hr : kr r) (t : List Int32) (nn : Int32) (hT : a 99 = t) (hN : i 6273 = nn) (hL : r 2 = 10) (hX : kBy t) : km 3 55 [.ref 98] (ks i a q r) (kVN yw55_98_L10 i a q r (fun i1 a1 q1 r1 => (True) ∧ (i1 6274, i1 6275, a1 11, a1 12, i1 643) = cNum t nn (i 6274, i 6275, a 11, a 12, i 643))) := by
  have hG := kG_self yw55_98_L10 hI hr
  refine km_ofN (q := (mi_h55, mi_c55)) rfl (by decide) (Nat.le_of_ble_eq_true rfl) ?_
  intro P hP
  have hn1 : (i 6273).toInt = nn.toInt := congrArg Int32.toInt hN
  have eRr_2 : r 2 = 10 := hL
  first | refine fo_goL mi_k55 fz55_0_4_4 [(2, .int 0), (1, .int 0), (0, .ref 98)] [] (by rfl) ?_ | refine fo_go mi_k55 fz55_38_4_4 [(2, .int 0), (1, .int 0), (0, .ref 98)] [] i a q r (by rfl) ?_ | refine ft_go mi_k55 4 4 [(2, .int 0), (1, .int 0), (0, .ref 98)] [] i a q r (by rfl) ?_
  have lp2 : ∀ (nz : Nat) (i2 : Nat → Int32) (a2 : Nat → List Int32) (q2 : Nat → List Int64) (r2 : Nat → Nat) (l2_2 : Int32) (l1_2 : Int32), kG yw55_98_L10_L4 i a q r i2 a2 q2 r2 → (0 : Int) ≤ l2_2.toInt → cDig t nn (4 - l2_2.toInt).toNat (l1_2, (i2 6274, i2 6275, a2 11, a2 12, i2 643)) = cDig t nn 4 (0, (i 6274, i 6275, a 11, a 12, i 643)) → ((4 - l2_2.toInt)).toNat < nz → ko 3 (mi_h55, mi_c55) P (4, [(2, .int l2_2), (1, .int l1_2), (0, .ref 98)], [], (0, 0), ks i2 a2 q2 r2) := by
    intro nz
    induction nz with
    | zero =>
      intro _ _ _ _ _ _ _ _ _ hm
      exact absurd hm (Nat.not_lt_zero _)
    | succ nz ih2 =>
      intro i2 a2 q2 r2 l2_2 l1_2 hL2 p2_0 O2_0 hm2
      have eRr2_2 : r2 2 = 10 := (hL2.fr 2 rfl).trans eRr_2
      first | refine ft_goL mi_k55 2 6 [(2, .int l2_2), (1, .int l1_2), (0, .ref 98)] [.int 4, .int l2_2] (by rfl) ?_ | refine ft_go mi_k55 2 6 [(2, .int l2_2), (1, .int l1_2), (0, .ref 98)] [.int 4, .int l2_2] i2 a2 q2 r2 (by rfl) ?_
      refine ft_ifS mi_k55 (decide (4 ≤ l2_2)) 48 9 [] (by rfl) (fun c => ?_) (fun c => ?_)
      ·
        have c3 : (4 : Int32).toInt ≤ l2_2.toInt := kd_le c; clear c
        have hG4 := kG_call hG hL2 (by decide +kernel)
        have hD5 : (l1_2, (i2 6274, i2 6275, a2 11, a2 12, i2 643)) = cDig t nn 4 (0, (i 6274, i 6275, a 11, a 12, i 643)) := cDg_end O2_0 (kj_sub0 (n := 4) (op12 c3 kop4))
        first | refine fo_goS mi_k55 fz55_48_2_52 [.ref (r2 2)] (by rfl) ?_ | refine ft_go mi_k55 2 52 [(2, .int l2_2), (1, .int l1_2), (0, .ref 98)] [.ref (r2 2)] i2 a2 q2 r2 (by rfl) ?_
        refine ko_eq (x1 := (52, [(2, .int l2_2), (1, .int l1_2), (0, .ref 98)], [.ref 10], (0, 0), ks i2 a2 q2 r2)) (by rw [eRr2_2]) ?_
        first | refine fo_goS mi_k55 fz55_52_2_54 [.int l1_2, .int 0, .ref 10] (by rfl) ?_ | refine ft_go mi_k55 2 54 [(2, .int l2_2), (1, .int l1_2), (0, .ref 98)] [.int l1_2, .int 0, .ref 10] i2 a2 q2 r2 (by rfl) ?_
        refine ko_callI mi_k55.1 (pc := 54) (ls := [(2, .int l2_2), (1, .int l1_2), (0, .ref 98)]) (st := [.int l1_2, .int 0, .ref 10]) (h := ks i2 a2 q2 r2) (i := (.invokevirtual 60, 3, 17, 0, 9, 0, 187)) (mi_k55.2 _ _ (by rfl)) (ft_invS mi_pq17 (by rfl)) (cy := mi_c17) mi_pq17 rfl (kf17_10 hG4.I hG4.R 0 l1_2) (by decide) ?_
        intro vg6 ig6 ag6 qg6 rg6 kg6 hg6
        have hGg6 := kG_call hG4 kg6 (by decide +kernel)
        have eRrg6_2 : rg6 2 = 10 := (kg6.fr 2 rfl).trans eRr2_2
        obtain ⟨hg6, og6⟩ := hg6
        first | refine ft_goS mi_k55 1 58 [] (by rfl) ?_ | refine ft_go mi_k55 1 58 [(2, .int l2_2), (1, .int l1_2), (0, .ref 98)] [] ig6 ag6 qg6 rg6 (by rfl) ?_
        exact ft_ret mi_k55 (by rfl) (hP  _ _ _ _ hGg6 ⟨trivial, (cNu_of hD5 (tAdd og6.1 (kg6.fi 6274 rfl) (kg6.fi 6275 rfl)))⟩)
      ·
        have c8 : l2_2.toInt < (4 : Int32).toInt := kd_leF c; clear c
        first | refine ft_goS mi_k55 1 10 [.ref 98] (by rfl) ?_ | refine ft_go mi_k55 1 10 [(2, .int l2_2), (1, .int l1_2), (0, .ref 98)] [.ref 98] i2 a2 q2 r2 (by rfl) ?_
        refine ko_callPI mi_k55.1 (pc := 10) (ls := [(2, .int l2_2), (1, .int l1_2), (0, .ref 98)]) (st := [.ref 98]) (h := ks i2 a2 q2 r2) (i := (.invokevirtual 46, 3, 45, 0, 9, 0, 184)) (mi_k55.2 _ _ (by rfl)) (ft_invS mi_pq45 (by rfl)) (cy := mi_c45) mi_pq45 rfl (ke45_98 hL2.I hL2.R t nn ((hL2.fa 99 rfl).trans hT) ((hL2.fi 6273 rfl).trans hN) hX) (by decide) ?_
        intro vg9 hg9
        obtain ⟨hg9, og9⟩ := hg9
        have fi2_6274 : ((0 : Int) ≤ (i2 6274).toInt) ∧ ((i2 6274).toInt ≤ 120) := hL2.I.1 6274
        have fi2_6273 : ((0 : Int) ≤ (i2 6273).toInt) ∧ ((i2 6273).toInt ≤ 120) := hL2.I.1 6273
        have z10 : (((-1) : Int) ≤ vg9.toInt) ∧ (vg9.toInt ≤ 255) ∧ ((vg9.toInt = (-1)) ∨ (((i2 6275).toInt = 0) ∧ ((i2 6274).toInt < (i2 6273).toInt))) := hg9
        have q11 : vg9 = cHr t nn (i2 6274) (i2 6275) := og9
        have hv12 : vg9.toInt = (cHr t nn (i2 6274) (i2 6275)).toInt := congrArg Int32.toInt og9
        refine ko_callPI mi_k55.1 (pc := 13) (ls := [(2, .int l2_2), (1, .int l1_2), (0, .ref 98)]) (st := [.int vg9]) (h := ks i2 a2 q2 r2) (i := (.invokestatic 92, 3, 56, 0, 9, 0, 185)) (mi_k55.2 _ _ (by rfl)) (ft_invS mi_pq56 (by rfl)) (cy := mi_c56) mi_pq56 rfl (kc56 hL2.I hL2.R vg9) (by decide) ?_
        intro vg13 hg13
        rcases hg13 with ⟨eg13, hg13⟩ | ⟨eg13, hg13⟩
        ·
          subst eg13
          have z14 : ((48 : Int) ≤ vg9.toInt) ∧ (vg9.toInt ≤ 57) := hg13
          have b15 : ((-2147483648 : Int) ≤ l1_2.toInt) ∧ (l1_2.toInt ≤ 2147483647) := kd_bd l1_2
          first | refine fo_goS mi_k55 fz55_16_5_24 [.ref 98, .int (l1_2 * 10)] (by rfl) ?_ | refine ft_go mi_k55 5 24 [(2, .int l2_2), (1, .int l1_2), (0, .ref 98)] [.ref 98, .int (l1_2 * 10)] i2 a2 q2 r2 (by rfl) ?_
          refine ko_callPI mi_k55.1 (pc := 24) (ls := [(2, .int l2_2), (1, .int l1_2), (0, .ref 98)]) (st := [.ref 98, .int (l1_2 * 10)]) (h := ks i2 a2 q2 r2) (i := (.invokevirtual 46, 3, 45, 0, 9, 0, 184)) (mi_k55.2 _ _ (by rfl)) (ft_invS mi_pq45 (by rfl)) (cy := mi_c45) mi_pq45 rfl (ke45_98 hL2.I hL2.R t nn ((hL2.fa 99 rfl).trans hT) ((hL2.fi 6273 rfl).trans hN) hX) (by decide) ?_
          intro vg16 hg16
          obtain ⟨hg16, og16⟩ := hg16
          have q18 : vg16 = cHr t nn (i2 6274) (i2 6275) := og16
          have hv19 : vg16.toInt = (cHr t nn (i2 6274) (i2 6275)).toInt := congrArg Int32.toInt og16
          have b20 : ((-2147483648 : Int) ≤ (l1_2 * 10).toInt) ∧ ((l1_2 * 10).toInt ≤ 2147483647) := kd_bd (l1_2 * 10)
          have b21 : ((-2147483648 : Int) ≤ vg16.toInt) ∧ (vg16.toInt ≤ 2147483647) := kd_bd vg16
          have b22 : ((-2147483648 : Int) ≤ ((l1_2 * 10) + vg16).toInt) ∧ (((l1_2 * 10) + vg16).toInt ≤ 2147483647) := kd_bd ((l1_2 * 10) + vg16)
          have s23 : ((i2 6274) + 1).toInt = (i2 6274).toInt + (1 : Int32).toInt := kd_add (op18 fi2_6274.1 kop1) (op26 fi2_6274.2 kop1)
          have hJ24 := kG_i hL2 6274 rfl (v := ((i2 6274) + 1)) ⟨(op20 fi2_6274.1 s23 kop1), (op27 fi2_6273.2 s23 z10.2.2 z14.1 kop1)⟩
          have s25 : (l2_2 + 1).toInt = l2_2.toInt + (1 : Int32).toInt := kd_add (op18 p2_0 kop1) (op28 c8 kop4 kop1)
          first | refine fo_go mi_k55 fz55_27_12_4 [(2, .int (l2_2 + 1)), (1, .int (((l1_2 * 10) + vg16) - 48)), (0, .ref 98)] [] (ku i2 6274 ((i2 6274) + 1)) a2 q2 r2 (by rfl) ?_ | refine ft_go mi_k55 12 4 [(2, .int (l2_2 + 1)), (1, .int (((l1_2 * 10) + vg16) - 48)), (0, .ref 98)] [] (ku i2 6274 ((i2 6274) + 1)) a2 q2 r2 (by rfl) ?_
          exact ih2 _ _ _ _ _ _ hJ24 (op20 p2_0 s25 kop1) (cDg_again O2_0 (kj_sub2 (n := 4) (op29 c8 kop4) (op4 p2_0) (op30 s25 kop1)) (op31 hv12 z14.1) (op32 hv12 z14.2) (congrArg (fun z : Int32 => ((l1_2 * 10) + z) - 48) og16) rfl) (kj_meas (op33 s25 kop1) (op34 c8 kop4) hm2)
        ·
          subst eg13
          have z26 : ¬ (((48 : Int) ≤ vg9.toInt) ∧ (vg9.toInt ≤ 57)) := hg13
          first | refine ft_goS mi_k55 1 48 [] (by rfl) ?_ | refine ft_go mi_k55 1 48 [(2, .int l2_2), (1, .int l1_2), (0, .ref 98)] [] i2 a2 q2 r2 (by rfl) ?_
          have hG27 := kG_call hG hL2 (by decide +kernel)
          have hD28 : (l1_2, (i2 6274, i2 6275, a2 11, a2 12, i2 643)) = cDig t nn 4 (0, (i 6274, i 6275, a 11, a 12, i 643)) := cDg_out O2_0 (op35 hv12 z26)
          first | refine fo_goS mi_k55 fz55_48_2_52 [.ref (r2 2)] (by rfl) ?_ | refine ft_go mi_k55 2 52 [(2, .int l2_2), (1, .int l1_2), (0, .ref 98)] [.ref (r2 2)] i2 a2 q2 r2 (by rfl) ?_
          refine ko_eq (x1 := (52, [(2, .int l2_2), (1, .int l1_2), (0, .ref 98)], [.ref 10], (0, 0), ks i2 a2 q2 r2)) (by rw [eRr2_2]) ?_
          first | refine fo_goS mi_k55 fz55_52_2_54 [.int l1_2, .int 0, .ref 10] (by rfl) ?_ | refine ft_go mi_k55 2 54 [(2, .int l2_2), (1, .int l1_2), (0, .ref 98)] [.int l1_2, .int 0, .ref 10] i2 a2 q2 r2 (by rfl) ?_
          refine ko_callI mi_k55.1 (pc := 54) (ls := [(2, .int l2_2), (1, .int l1_2), (0, .ref 98)]) (st := [.int l1_2, .int 0, .ref 10]) (h := ks i2 a2 q2 r2) (i := (.invokevirtual 60, 3, 17, 0, 9, 0, 187)) (mi_k55.2 _ _ (by rfl)) (ft_invS mi_pq17 (by rfl)) (cy := mi_c17) mi_pq17 rfl (kf17_10 hG27.I hG27.R 0 l1_2) (by decide) ?_
          intro vg29 ig29 ag29 qg29 rg29 kg29 hg29
          have hGg29 := kG_call hG27 kg29 (by decide +kernel)
          have eRrg29_2 : rg29 2 = 10 := (kg29.fr 2 rfl).trans eRr2_2
          obtain ⟨hg29, og29⟩ := hg29
          first | refine ft_goS mi_k55 1 58 [] (by rfl) ?_ | refine ft_go mi_k55 1 58 [(2, .int l2_2), (1, .int l1_2), (0, .ref 98)] [] ig29 ag29 qg29 rg29 (by rfl) ?_
          exact ft_ret mi_k55 (by rfl) (hP  _ _ _ _ hGg29 ⟨trivial, (cNu_of hD28 (tAdd og29.1 (kg29.fi 6274 rfl) (kg29.fi 6275 rfl)))⟩)
  exact lp2 _ _ _ _ _ _ _ (kG_self _ hG.I hG.R) (op36 kop0) (by rw [kop0]; rfl) (Nat.lt_succ_self _)
set_option maxRecDepth 100000 in
theorem ke230_1000010 {i : Nat → Int32} {a : Nat → List Int32} {q : Nat → List Int64} {r : Nat → Nat} (hI : kI i a q) (hr : kr r)  : km 1 230 [.ref (mi_RO + 10)] (ks i a q r) (kPI (ks i a q r) (fun v => v.toInt = 0)) := by
  have hG := kG_self kW0 hI hr
  refine km_ofPI (q := (mi_h230, mi_c230)) rfl (by decide) (Nat.le_of_ble_eq_true rfl) ?_
  intro P hP
  first | refine ft_goL mi_k230 5 14 [(0, .ref (mi_RO + 10))] [.int 0] (by rfl) ?_ | refine ft_go mi_k230 5 14 [(0, .ref (mi_RO + 10))] [.int 0] i a q r (by rfl) ?_
  exact ft_ret mi_k230 (by rfl) (hP 0 (op41 kop0))
set_option maxRecDepth 100000 in
theorem ke227_1000010 {i : Nat → Int32} {a : Nat → List Int32} {q : Nat → List Int64} {r : Nat → Nat} (hI : kI i a q) (hr : kr r)  : km 3 227 [.ref (mi_RO + 10)] (ks i a q r) (kPI (ks i a q r) (fun v => v.toInt = 6)) := by
  have hG := kG_self kW0 hI hr
  refine km_ofPI (q := (mi_h227, mi_c227)) rfl (by decide) (Nat.le_of_ble_eq_true rfl) ?_
  intro P hP
  first | refine ft_goL mi_k227 4 6 [(0, .ref (mi_RO + 10))] [.ref (mi_RO + 10), .int 6] (by rfl) ?_ | refine ft_go mi_k227 4 6 [(0, .ref (mi_RO + 10))] [.ref (mi_RO + 10), .int 6] i a q r (by rfl) ?_ | refine ko_steps mi_in227 4 _ (6, [(0, .ref (mi_RO + 10))], [.ref (mi_RO + 10), .int 6], (0, 0), ks i a q r) (by rfl) ?_
  refine ko_callPI mi_k227.1 (pc := 6) (ls := [(0, .ref (mi_RO + 10))]) (st := [.ref (mi_RO + 10), .int 6]) (h := ks i a q r) (i := (.invokevirtual 335, 3, 230, 0, 9, 0, 32)) (mi_k227.2 _ _ (by rfl)) (ft_invS mi_pq230 (by rfl)) (cy := mi_c230) mi_pq230 rfl (ke230_1000010 hG.I hG.R ) (by decide) ?_
  intro vg1 hg1
  have z2 : vg1.toInt = 0 := hg1
  refine ko_eq (x1 := (9, [(0, .ref (mi_RO + 10))], [.int 0, .int 6], (0, 0), ks i a q r)) (by rw [(kj_eq (op41 z2) (by decide) : vg1 = 0)]) ?_
  first | refine ft_goS mi_k227 1 10 [.int ((6 : Int32) >>> ((0 : Int32) &&& 31))] (by rfl) ?_ | refine ft_go mi_k227 1 10 [(0, .ref (mi_RO + 10))] [.int ((6 : Int32) >>> ((0 : Int32) &&& 31))] i a q r (by rfl) ?_ | refine ko_steps mi_in227 1 _ (10, [(0, .ref (mi_RO + 10))], [.int ((6 : Int32) >>> ((0 : Int32) &&& 31))], (0, 0), ks i a q r) (by rfl) ?_
  refine ko_top (by decide : ((6 : Int32) >>> ((0 : Int32) &&& 31) : Int32) = 6) ?_
  exact ft_ret mi_k227 (by rfl) (hP 6 (op42 kop6))
set_option maxRecDepth 100000 in
theorem ke232 {i : Nat → Int32} {a : Nat → List Int32} {q : Nat → List Int64} {r : Nat → Nat} (hI : kI i a q) (hr : kr r) (x1 : Int32) : km 1 232 [.int x1] (ks i a q r) (kPI (ks i a q r) (fun v => (v = 1 ∧ (((0 : Int) ≤ x1.toInt) ∧ (x1.toInt ≤ 255))) ∨ (v = 0 ∧ (¬ (((0 : Int) ≤ x1.toInt) ∧ (x1.toInt ≤ 255)))))) := by
  have hG := kG_self kW0 hI hr
  refine km_ofPI (q := (mi_h232, mi_c232)) rfl (by decide) (Nat.le_of_ble_eq_true rfl) ?_
  intro P hP
  first | refine ft_goL mi_k232 1 1 [(0, .int x1)] [.int x1] (by rfl) ?_ | refine ft_go mi_k232 1 1 [(0, .int x1)] [.int x1] i a q r (by rfl) ?_
  refine ft_ifS mi_k232 (decide (x1 < 0)) 15 4 [] (by rfl) (fun c => ?_) (fun c => ?_)
  ·
    have c1 : x1.toInt < (0 : Int32).toInt := kd_lt c; clear c
    first | refine ft_goS mi_k232 1 16 [.int 0] (by rfl) ?_ | refine ft_go mi_k232 1 16 [(0, .int x1)] [.int 0] i a q r (by rfl) ?_
    exact ft_ret mi_k232 (by rfl) (hP 0 (Or.inr ⟨rfl, (op43 c1 kop0)⟩))
  ·
    have c2 : (0 : Int32).toInt ≤ x1.toInt := kd_ltF c; clear c
    first | refine ft_goS mi_k232 2 8 [.int 255, .int x1] (by rfl) ?_ | refine ft_go mi_k232 2 8 [(0, .int x1)] [.int 255, .int x1] i a q r (by rfl) ?_
    refine ft_ifS mi_k232 (decide (255 < x1)) 15 11 [] (by rfl) (fun c => ?_) (fun c => ?_)
    ·
      have c3 : (255 : Int32).toInt < x1.toInt := kd_lt c; clear c
      first | refine ft_goS mi_k232 1 16 [.int 0] (by rfl) ?_ | refine ft_go mi_k232 1 16 [(0, .int x1)] [.int 0] i a q r (by rfl) ?_
      exact ft_ret mi_k232 (by rfl) (hP 0 (Or.inr ⟨rfl, (op44 c3 kop255)⟩))
    ·
      have c4 : x1.toInt ≤ (255 : Int32).toInt := kd_ltF c; clear c
      first | refine ft_goS mi_k232 2 16 [.int 1] (by rfl) ?_ | refine ft_go mi_k232 2 16 [(0, .int x1)] [.int 1] i a q r (by rfl) ?_
      exact ft_ret mi_k232 (by rfl) (hP 1 (Or.inl ⟨rfl, (op45 c2 c4 kop0 kop255)⟩))
set_option maxRecDepth 100000 in
theorem ke234_1000020_l10_l26 {i : Nat → Int32} {a : Nat → List Int32} {q : Nat → List Int64} {r : Nat → Nat} (hI : kI i a q) (hr : kr r) (x2 : Int32) (hp0 : ((0 : Int) ≤ x2.toInt) ∧ (x2.toInt ≤ 255)) : km 1 234 [.ref (mi_RO + 20), .int x2, .int 0, .int 6] (ks i a q r) (kPI (ks i a q r) (fun v => (((-1) : Int) ≤ v.toInt) ∧ (v.toInt ≤ 5) ∧ (((x2.toInt = 119) → (v.toInt = 0))) ∧ (((x2.toInt = 112) → (v.toInt = 1))) ∧ (((x2.toInt = 104) → (v.toInt = 2))) ∧ (((x2.toInt = 110) → (v.toInt = 3))) ∧ (((x2.toInt = 111) → (v.toInt = 4))) ∧ (((x2.toInt = 100) → (v.toInt = 5))) ∧ (((v.toInt = 0) → (x2.toInt = 119))) ∧ (((v.toInt = 1) → (x2.toInt = 112))) ∧ (((v.toInt = 2) → (x2.toInt = 104))) ∧ (((v.toInt = 3) → (x2.toInt = 110))) ∧ (((v.toInt = 4) → (x2.toInt = 111))) ∧ (((v.toInt = 5) → (x2.toInt = 100))) ∧ ((v.toInt = (-1)) ∨ (x2.toInt = 119) ∨ (x2.toInt = 112) ∨ (x2.toInt = 104) ∨ (x2.toInt = 110) ∨ (x2.toInt = 111) ∨ (x2.toInt = 100)))) := by
  have hG := kG_self kW0 hI hr
  refine km_ofPI (q := (mi_h234, mi_c234)) rfl (by decide) (Nat.le_of_ble_eq_true rfl) ?_
  intro P hP
  have s1 : ((x2.toInt ≤ 127 → x2.toInt8.toInt32.toInt = x2.toInt)) ∧ ((128 ≤ x2.toInt → x2.toInt8.toInt32.toInt = x2.toInt - 256)) := kd_i2b (op4 hp0.1) (op40 hp0.2)
  first | refine ft_goL mi_k234 12 19 [(5, .int 0), (4, .int x2.toInt8.toInt32), (0, .ref (mi_RO + 20)), (1, .int x2), (2, .int 0), (3, .int 6)] [.int x2.toInt8.toInt32, .int 119] (by rfl) ?_ | refine ft_go mi_k234 12 19 [(5, .int 0), (4, .int x2.toInt8.toInt32), (0, .ref (mi_RO + 20)), (1, .int x2), (2, .int 0), (3, .int 6)] [.int x2.toInt8.toInt32, .int 119] i a q r (by rfl) ?_ | refine ko_steps mi_in234 12 _ (19, [(5, .int 0), (4, .int x2.toInt8.toInt32), (0, .ref (mi_RO + 20)), (1, .int x2), (2, .int 0), (3, .int 6)], [.int x2.toInt8.toInt32, .int 119], (0, 0), ks i a q r) (by rfl) ?_
  refine ft_ifS mi_k234 (119 != x2.toInt8.toInt32) 25 22 [] (by rfl) (fun c => ?_) (fun c => ?_)
  ·
    have c2 : (119 : Int32).toInt ≠ x2.toInt8.toInt32.toInt := kd_ne c; clear c
    first | refine fo_goL mi_k234 fz234_25_1_28 [(5, .int (0 + 1)), (4, .int x2.toInt8.toInt32), (0, .ref (mi_RO + 20)), (1, .int x2), (2, .int 0), (3, .int 6)] [] (by rfl) ?_ | refine ft_go mi_k234 1 28 [(5, .int (0 + 1)), (4, .int x2.toInt8.toInt32), (0, .ref (mi_RO + 20)), (1, .int x2), (2, .int 0), (3, .int 6)] [] i a q r (by rfl) ?_ | refine ko_steps mi_in234 1 _ (28, [(5, .int (0 + 1)), (4, .int x2.toInt8.toInt32), (0, .ref (mi_RO + 20)), (1, .int x2), (2, .int 0), (3, .int 6)], [], (0, 0), ks i a q r) (by rfl) ?_
    refine ko_loc (by decide : (0 + 1 : Int32) = 1) ?_
    first | refine ft_goL mi_k234 8 19 [(5, .int 1), (4, .int x2.toInt8.toInt32), (0, .ref (mi_RO + 20)), (1, .int x2), (2, .int 0), (3, .int 6)] [.int x2.toInt8.toInt32, .int 112] (by rfl) ?_ | refine ft_goS mi_k234 8 19 [.int x2.toInt8.toInt32, .int 112] (by rfl) ?_ | refine ft_go mi_k234 8 19 [(5, .int 1), (4, .int x2.toInt8.toInt32), (0, .ref (mi_RO + 20)), (1, .int x2), (2, .int 0), (3, .int 6)] [.int x2.toInt8.toInt32, .int 112] i a q r (by rfl) ?_ | refine ko_steps mi_in234 8 _ (19, [(5, .int 1), (4, .int x2.toInt8.toInt32), (0, .ref (mi_RO + 20)), (1, .int x2), (2, .int 0), (3, .int 6)], [.int x2.toInt8.toInt32, .int 112], (0, 0), ks i a q r) (by rfl) ?_
    refine ft_ifS mi_k234 (112 != x2.toInt8.toInt32) 25 22 [] (by rfl) (fun c => ?_) (fun c => ?_)
    ·
      have c3 : (112 : Int32).toInt ≠ x2.toInt8.toInt32.toInt := kd_ne c; clear c
      first | refine fo_goL mi_k234 fz234_25_1_28 [(5, .int (1 + 1)), (4, .int x2.toInt8.toInt32), (0, .ref (mi_RO + 20)), (1, .int x2), (2, .int 0), (3, .int 6)] [] (by rfl) ?_ | refine ft_go mi_k234 1 28 [(5, .int (1 + 1)), (4, .int x2.toInt8.toInt32), (0, .ref (mi_RO + 20)), (1, .int x2), (2, .int 0), (3, .int 6)] [] i a q r (by rfl) ?_ | refine ko_steps mi_in234 1 _ (28, [(5, .int (1 + 1)), (4, .int x2.toInt8.toInt32), (0, .ref (mi_RO + 20)), (1, .int x2), (2, .int 0), (3, .int 6)], [], (0, 0), ks i a q r) (by rfl) ?_
      refine ko_loc (by decide : (1 + 1 : Int32) = 2) ?_
      first | refine ft_goL mi_k234 8 19 [(5, .int 2), (4, .int x2.toInt8.toInt32), (0, .ref (mi_RO + 20)), (1, .int x2), (2, .int 0), (3, .int 6)] [.int x2.toInt8.toInt32, .int 104] (by rfl) ?_ | refine ft_goS mi_k234 8 19 [.int x2.toInt8.toInt32, .int 104] (by rfl) ?_ | refine ft_go mi_k234 8 19 [(5, .int 2), (4, .int x2.toInt8.toInt32), (0, .ref (mi_RO + 20)), (1, .int x2), (2, .int 0), (3, .int 6)] [.int x2.toInt8.toInt32, .int 104] i a q r (by rfl) ?_ | refine ko_steps mi_in234 8 _ (19, [(5, .int 2), (4, .int x2.toInt8.toInt32), (0, .ref (mi_RO + 20)), (1, .int x2), (2, .int 0), (3, .int 6)], [.int x2.toInt8.toInt32, .int 104], (0, 0), ks i a q r) (by rfl) ?_
      refine ft_ifS mi_k234 (104 != x2.toInt8.toInt32) 25 22 [] (by rfl) (fun c => ?_) (fun c => ?_)
      ·
        have c4 : (104 : Int32).toInt ≠ x2.toInt8.toInt32.toInt := kd_ne c; clear c
        first | refine fo_goL mi_k234 fz234_25_1_28 [(5, .int (2 + 1)), (4, .int x2.toInt8.toInt32), (0, .ref (mi_RO + 20)), (1, .int x2), (2, .int 0), (3, .int 6)] [] (by rfl) ?_ | refine ft_go mi_k234 1 28 [(5, .int (2 + 1)), (4, .int x2.toInt8.toInt32), (0, .ref (mi_RO + 20)), (1, .int x2), (2, .int 0), (3, .int 6)] [] i a q r (by rfl) ?_ | refine ko_steps mi_in234 1 _ (28, [(5, .int (2 + 1)), (4, .int x2.toInt8.toInt32), (0, .ref (mi_RO + 20)), (1, .int x2), (2, .int 0), (3, .int 6)], [], (0, 0), ks i a q r) (by rfl) ?_
        refine ko_loc (by decide : (2 + 1 : Int32) = 3) ?_
        first | refine ft_goL mi_k234 8 19 [(5, .int 3), (4, .int x2.toInt8.toInt32), (0, .ref (mi_RO + 20)), (1, .int x2), (2, .int 0), (3, .int 6)] [.int x2.toInt8.toInt32, .int 110] (by rfl) ?_ | refine ft_goS mi_k234 8 19 [.int x2.toInt8.toInt32, .int 110] (by rfl) ?_ | refine ft_go mi_k234 8 19 [(5, .int 3), (4, .int x2.toInt8.toInt32), (0, .ref (mi_RO + 20)), (1, .int x2), (2, .int 0), (3, .int 6)] [.int x2.toInt8.toInt32, .int 110] i a q r (by rfl) ?_ | refine ko_steps mi_in234 8 _ (19, [(5, .int 3), (4, .int x2.toInt8.toInt32), (0, .ref (mi_RO + 20)), (1, .int x2), (2, .int 0), (3, .int 6)], [.int x2.toInt8.toInt32, .int 110], (0, 0), ks i a q r) (by rfl) ?_
        refine ft_ifS mi_k234 (110 != x2.toInt8.toInt32) 25 22 [] (by rfl) (fun c => ?_) (fun c => ?_)
        ·
          have c5 : (110 : Int32).toInt ≠ x2.toInt8.toInt32.toInt := kd_ne c; clear c
          first | refine fo_goL mi_k234 fz234_25_1_28 [(5, .int (3 + 1)), (4, .int x2.toInt8.toInt32), (0, .ref (mi_RO + 20)), (1, .int x2), (2, .int 0), (3, .int 6)] [] (by rfl) ?_ | refine ft_go mi_k234 1 28 [(5, .int (3 + 1)), (4, .int x2.toInt8.toInt32), (0, .ref (mi_RO + 20)), (1, .int x2), (2, .int 0), (3, .int 6)] [] i a q r (by rfl) ?_ | refine ko_steps mi_in234 1 _ (28, [(5, .int (3 + 1)), (4, .int x2.toInt8.toInt32), (0, .ref (mi_RO + 20)), (1, .int x2), (2, .int 0), (3, .int 6)], [], (0, 0), ks i a q r) (by rfl) ?_
          refine ko_loc (by decide : (3 + 1 : Int32) = 4) ?_
          first | refine ft_goL mi_k234 8 19 [(5, .int 4), (4, .int x2.toInt8.toInt32), (0, .ref (mi_RO + 20)), (1, .int x2), (2, .int 0), (3, .int 6)] [.int x2.toInt8.toInt32, .int 111] (by rfl) ?_ | refine ft_goS mi_k234 8 19 [.int x2.toInt8.toInt32, .int 111] (by rfl) ?_ | refine ft_go mi_k234 8 19 [(5, .int 4), (4, .int x2.toInt8.toInt32), (0, .ref (mi_RO + 20)), (1, .int x2), (2, .int 0), (3, .int 6)] [.int x2.toInt8.toInt32, .int 111] i a q r (by rfl) ?_ | refine ko_steps mi_in234 8 _ (19, [(5, .int 4), (4, .int x2.toInt8.toInt32), (0, .ref (mi_RO + 20)), (1, .int x2), (2, .int 0), (3, .int 6)], [.int x2.toInt8.toInt32, .int 111], (0, 0), ks i a q r) (by rfl) ?_
          refine ft_ifS mi_k234 (111 != x2.toInt8.toInt32) 25 22 [] (by rfl) (fun c => ?_) (fun c => ?_)
          ·
            have c6 : (111 : Int32).toInt ≠ x2.toInt8.toInt32.toInt := kd_ne c; clear c
            first | refine fo_goL mi_k234 fz234_25_1_28 [(5, .int (4 + 1)), (4, .int x2.toInt8.toInt32), (0, .ref (mi_RO + 20)), (1, .int x2), (2, .int 0), (3, .int 6)] [] (by rfl) ?_ | refine ft_go mi_k234 1 28 [(5, .int (4 + 1)), (4, .int x2.toInt8.toInt32), (0, .ref (mi_RO + 20)), (1, .int x2), (2, .int 0), (3, .int 6)] [] i a q r (by rfl) ?_ | refine ko_steps mi_in234 1 _ (28, [(5, .int (4 + 1)), (4, .int x2.toInt8.toInt32), (0, .ref (mi_RO + 20)), (1, .int x2), (2, .int 0), (3, .int 6)], [], (0, 0), ks i a q r) (by rfl) ?_
            refine ko_loc (by decide : (4 + 1 : Int32) = 5) ?_
            first | refine ft_goL mi_k234 8 19 [(5, .int 5), (4, .int x2.toInt8.toInt32), (0, .ref (mi_RO + 20)), (1, .int x2), (2, .int 0), (3, .int 6)] [.int x2.toInt8.toInt32, .int 100] (by rfl) ?_ | refine ft_goS mi_k234 8 19 [.int x2.toInt8.toInt32, .int 100] (by rfl) ?_ | refine ft_go mi_k234 8 19 [(5, .int 5), (4, .int x2.toInt8.toInt32), (0, .ref (mi_RO + 20)), (1, .int x2), (2, .int 0), (3, .int 6)] [.int x2.toInt8.toInt32, .int 100] i a q r (by rfl) ?_ | refine ko_steps mi_in234 8 _ (19, [(5, .int 5), (4, .int x2.toInt8.toInt32), (0, .ref (mi_RO + 20)), (1, .int x2), (2, .int 0), (3, .int 6)], [.int x2.toInt8.toInt32, .int 100], (0, 0), ks i a q r) (by rfl) ?_
            refine ft_ifS mi_k234 (100 != x2.toInt8.toInt32) 25 22 [] (by rfl) (fun c => ?_) (fun c => ?_)
            ·
              have c7 : (100 : Int32).toInt ≠ x2.toInt8.toInt32.toInt := kd_ne c; clear c
              first | refine fo_goL mi_k234 fz234_25_1_28 [(5, .int (5 + 1)), (4, .int x2.toInt8.toInt32), (0, .ref (mi_RO + 20)), (1, .int x2), (2, .int 0), (3, .int 6)] [] (by rfl) ?_ | refine ft_go mi_k234 1 28 [(5, .int (5 + 1)), (4, .int x2.toInt8.toInt32), (0, .ref (mi_RO + 20)), (1, .int x2), (2, .int 0), (3, .int 6)] [] i a q r (by rfl) ?_ | refine ko_steps mi_in234 1 _ (28, [(5, .int (5 + 1)), (4, .int x2.toInt8.toInt32), (0, .ref (mi_RO + 20)), (1, .int x2), (2, .int 0), (3, .int 6)], [], (0, 0), ks i a q r) (by rfl) ?_
              refine ko_loc (by decide : (5 + 1 : Int32) = 6) ?_
              first | refine ft_goL mi_k234 5 32 [(5, .int 6), (4, .int x2.toInt8.toInt32), (0, .ref (mi_RO + 20)), (1, .int x2), (2, .int 0), (3, .int 6)] [.int (-1)] (by rfl) ?_ | refine ft_goS mi_k234 5 32 [.int (-1)] (by rfl) ?_ | refine ft_go mi_k234 5 32 [(5, .int 6), (4, .int x2.toInt8.toInt32), (0, .ref (mi_RO + 20)), (1, .int x2), (2, .int 0), (3, .int 6)] [.int (-1)] i a q r (by rfl) ?_ | refine ko_steps mi_in234 5 _ (32, [(5, .int 6), (4, .int x2.toInt8.toInt32), (0, .ref (mi_RO + 20)), (1, .int x2), (2, .int 0), (3, .int 6)], [.int (-1)], (0, 0), ks i a q r) (by rfl) ?_
              exact ft_ret mi_k234 (by rfl) (hP (-1) (op46 c2 c3 c4 c5 c6 c7 s1.1 kop119 kop112 kop104 kop110 kop111 kop100 kopm1))
            ·
              have c8 : (100 : Int32).toInt = x2.toInt8.toInt32.toInt := kd_neF c; clear c
              first | refine fo_goS mi_k234 fz234_22_1_24 [.int 5] (by rfl) ?_ | refine ft_go mi_k234 1 24 [(5, .int 5), (4, .int x2.toInt8.toInt32), (0, .ref (mi_RO + 20)), (1, .int x2), (2, .int 0), (3, .int 6)] [.int 5] i a q r (by rfl) ?_ | refine ko_steps mi_in234 1 _ (24, [(5, .int 5), (4, .int x2.toInt8.toInt32), (0, .ref (mi_RO + 20)), (1, .int x2), (2, .int 0), (3, .int 6)], [.int 5], (0, 0), ks i a q r) (by rfl) ?_
              exact ft_ret mi_k234 (by rfl) (hP 5 (op47 c8 hp0.2 s1.1 s1.2 kop100 kop5))
          ·
            have c9 : (111 : Int32).toInt = x2.toInt8.toInt32.toInt := kd_neF c; clear c
            first | refine fo_goS mi_k234 fz234_22_1_24 [.int 4] (by rfl) ?_ | refine ft_go mi_k234 1 24 [(5, .int 4), (4, .int x2.toInt8.toInt32), (0, .ref (mi_RO + 20)), (1, .int x2), (2, .int 0), (3, .int 6)] [.int 4] i a q r (by rfl) ?_ | refine ko_steps mi_in234 1 _ (24, [(5, .int 4), (4, .int x2.toInt8.toInt32), (0, .ref (mi_RO + 20)), (1, .int x2), (2, .int 0), (3, .int 6)], [.int 4], (0, 0), ks i a q r) (by rfl) ?_
            exact ft_ret mi_k234 (by rfl) (hP 4 (op48 c9 hp0.2 s1.1 s1.2 kop111 kop4))
        ·
          have c10 : (110 : Int32).toInt = x2.toInt8.toInt32.toInt := kd_neF c; clear c
          first | refine fo_goS mi_k234 fz234_22_1_24 [.int 3] (by rfl) ?_ | refine ft_go mi_k234 1 24 [(5, .int 3), (4, .int x2.toInt8.toInt32), (0, .ref (mi_RO + 20)), (1, .int x2), (2, .int 0), (3, .int 6)] [.int 3] i a q r (by rfl) ?_ | refine ko_steps mi_in234 1 _ (24, [(5, .int 3), (4, .int x2.toInt8.toInt32), (0, .ref (mi_RO + 20)), (1, .int x2), (2, .int 0), (3, .int 6)], [.int 3], (0, 0), ks i a q r) (by rfl) ?_
          exact ft_ret mi_k234 (by rfl) (hP 3 (op49 c10 hp0.2 s1.1 s1.2 kop110 kop3))
      ·
        have c11 : (104 : Int32).toInt = x2.toInt8.toInt32.toInt := kd_neF c; clear c
        first | refine fo_goS mi_k234 fz234_22_1_24 [.int 2] (by rfl) ?_ | refine ft_go mi_k234 1 24 [(5, .int 2), (4, .int x2.toInt8.toInt32), (0, .ref (mi_RO + 20)), (1, .int x2), (2, .int 0), (3, .int 6)] [.int 2] i a q r (by rfl) ?_ | refine ko_steps mi_in234 1 _ (24, [(5, .int 2), (4, .int x2.toInt8.toInt32), (0, .ref (mi_RO + 20)), (1, .int x2), (2, .int 0), (3, .int 6)], [.int 2], (0, 0), ks i a q r) (by rfl) ?_
        exact ft_ret mi_k234 (by rfl) (hP 2 (op50 c11 hp0.2 s1.1 s1.2 kop104 kop2))
    ·
      have c12 : (112 : Int32).toInt = x2.toInt8.toInt32.toInt := kd_neF c; clear c
      first | refine fo_goS mi_k234 fz234_22_1_24 [.int 1] (by rfl) ?_ | refine ft_go mi_k234 1 24 [(5, .int 1), (4, .int x2.toInt8.toInt32), (0, .ref (mi_RO + 20)), (1, .int x2), (2, .int 0), (3, .int 6)] [.int 1] i a q r (by rfl) ?_ | refine ko_steps mi_in234 1 _ (24, [(5, .int 1), (4, .int x2.toInt8.toInt32), (0, .ref (mi_RO + 20)), (1, .int x2), (2, .int 0), (3, .int 6)], [.int 1], (0, 0), ks i a q r) (by rfl) ?_
      exact ft_ret mi_k234 (by rfl) (hP 1 (op51 c12 hp0.2 s1.1 s1.2 kop112 kop1))
  ·
    have c13 : (119 : Int32).toInt = x2.toInt8.toInt32.toInt := kd_neF c; clear c
    first | refine fo_goS mi_k234 fz234_22_1_24 [.int 0] (by rfl) ?_ | refine ft_go mi_k234 1 24 [(5, .int 0), (4, .int x2.toInt8.toInt32), (0, .ref (mi_RO + 20)), (1, .int x2), (2, .int 0), (3, .int 6)] [.int 0] i a q r (by rfl) ?_ | refine ko_steps mi_in234 1 _ (24, [(5, .int 0), (4, .int x2.toInt8.toInt32), (0, .ref (mi_RO + 20)), (1, .int x2), (2, .int 0), (3, .int 6)], [.int 0], (0, 0), ks i a q r) (by rfl) ?_
    exact ft_ret mi_k234 (by rfl) (hP 0 (op52 c13 hp0.2 s1.1 s1.2 kop119 kop0))
set_option maxRecDepth 100000 in
theorem ke233_1000020_l10_l26 {i : Nat → Int32} {a : Nat → List Int32} {q : Nat → List Int64} {r : Nat → Nat} (hI : kI i a q) (hr : kr r) (x2 : Int32) (hp0 : ((0 : Int) ≤ x2.toInt) ∧ (x2.toInt ≤ 255)) : km 3 233 [.ref (mi_RO + 20), .int x2, .int 0, .int 6] (ks i a q r) (kPI (ks i a q r) (fun v => (((-1) : Int) ≤ v.toInt) ∧ (v.toInt ≤ 5) ∧ (((x2.toInt = 119) → (v.toInt = 0))) ∧ (((x2.toInt = 112) → (v.toInt = 1))) ∧ (((x2.toInt = 104) → (v.toInt = 2))) ∧ (((x2.toInt = 110) → (v.toInt = 3))) ∧ (((x2.toInt = 111) → (v.toInt = 4))) ∧ (((x2.toInt = 100) → (v.toInt = 5))) ∧ (((v.toInt = 0) → (x2.toInt = 119))) ∧ (((v.toInt = 1) → (x2.toInt = 112))) ∧ (((v.toInt = 2) → (x2.toInt = 104))) ∧ (((v.toInt = 3) → (x2.toInt = 110))) ∧ (((v.toInt = 4) → (x2.toInt = 111))) ∧ (((v.toInt = 5) → (x2.toInt = 100))) ∧ ((v.toInt = (-1)) ∨ (x2.toInt = 119) ∨ (x2.toInt = 112) ∨ (x2.toInt = 104) ∨ (x2.toInt = 110) ∨ (x2.toInt = 111) ∨ (x2.toInt = 100)))) := by
  have hG := kG_self kW0 hI hr
  refine km_ofPI (q := (mi_h233, mi_c233)) rfl (by decide) (Nat.le_of_ble_eq_true rfl) ?_
  intro P hP
  first | refine fo_goL mi_k233 fz233_0_1_1 [(0, .ref (mi_RO + 20)), (1, .int x2), (2, .int 0), (3, .int 6)] [.int x2] (by rfl) ?_ | refine ft_go mi_k233 1 1 [(0, .ref (mi_RO + 20)), (1, .int x2), (2, .int 0), (3, .int 6)] [.int x2] i a q r (by rfl) ?_ | refine ko_steps mi_in233 1 _ (1, [(0, .ref (mi_RO + 20)), (1, .int x2), (2, .int 0), (3, .int 6)], [.int x2], (0, 0), ks i a q r) (by rfl) ?_
  refine ko_callPI mi_k233.1 (pc := 1) (ls := [(0, .ref (mi_RO + 20)), (1, .int x2), (2, .int 0), (3, .int 6)]) (st := [.int x2]) (h := ks i a q r) (i := (.invokestatic 88, 3, 232, 0, 9, 0, 195)) (mi_k233.2 _ _ (by rfl)) (ft_invS mi_pq232 (by rfl)) (cy := mi_c232) mi_pq232 rfl (ke232 hG.I hG.R x2) (by decide) ?_
  intro vg1 hg1
  rcases hg1 with ⟨eg1, hg1⟩ | ⟨eg1, hg1⟩
  ·
    subst eg1
    first | refine ft_goS mi_k233 4 14 [.int (bif decide ((0 : Int32) < 0) then 0 else 0)] (by rfl) ?_ | refine ft_go mi_k233 4 14 [(0, .ref (mi_RO + 20)), (1, .int x2), (2, .int 0), (3, .int 6)] [.int (bif decide ((0 : Int32) < 0) then 0 else 0)] i a q r (by rfl) ?_ | refine ko_steps mi_in233 4 _ (14, [(0, .ref (mi_RO + 20)), (1, .int x2), (2, .int 0), (3, .int 6)], [.int (bif decide ((0 : Int32) < 0) then 0 else 0)], (0, 0), ks i a q r) (by rfl) ?_
    refine ko_top (by decide : (bif decide ((0 : Int32) < 0) then 0 else 0 : Int32) = 0) ?_
    first | refine ft_goL mi_k233 5 21 [(2, .int 0), (0, .ref (mi_RO + 20)), (1, .int x2), (3, .int 6)] [.int (bif decide ((6 : Int32) < 6) then 6 else 6)] (by rfl) ?_ | refine ft_go mi_k233 5 21 [(2, .int 0), (0, .ref (mi_RO + 20)), (1, .int x2), (3, .int 6)] [.int (bif decide ((6 : Int32) < 6) then 6 else 6)] i a q r (by rfl) ?_ | refine ko_steps mi_in233 5 _ (21, [(2, .int 0), (0, .ref (mi_RO + 20)), (1, .int x2), (3, .int 6)], [.int (bif decide ((6 : Int32) < 6) then 6 else 6)], (0, 0), ks i a q r) (by rfl) ?_
    refine ko_top (by decide : (bif decide ((6 : Int32) < 6) then 6 else 6 : Int32) = 6) ?_
    first | refine ft_goL mi_k233 8 33 [(3, .int 6), (2, .int 0), (0, .ref (mi_RO + 20)), (1, .int x2)] [.int 6, .int 0, .int x2, .ref (mi_RO + 20)] (by rfl) ?_ | refine ft_go mi_k233 8 33 [(3, .int 6), (2, .int 0), (0, .ref (mi_RO + 20)), (1, .int x2)] [.int 6, .int 0, .int x2, .ref (mi_RO + 20)] i a q r (by rfl) ?_ | refine ko_steps mi_in233 8 _ (33, [(3, .int 6), (2, .int 0), (0, .ref (mi_RO + 20)), (1, .int x2)], [.int 6, .int 0, .int x2, .ref (mi_RO + 20)], (0, 0), ks i a q r) (by rfl) ?_
    refine ko_callPI mi_k233.1 (pc := 33) (ls := [(3, .int 6), (2, .int 0), (0, .ref (mi_RO + 20)), (1, .int x2)]) (st := [.int 6, .int 0, .int x2, .ref (mi_RO + 20)]) (h := ks i a q r) (i := (.invokestatic 95, 3, 234, 0, 9, 0, 198)) (mi_k233.2 _ _ (by rfl)) (ft_invS mi_pq234 (by rfl)) (cy := mi_c234) mi_pq234 rfl (ke234_1000020_l10_l26 hG.I hG.R x2 (op53 hp0.1 hp0.2)) (by decide) ?_
    intro vg3 hg3
    have z4 : (((-1) : Int) ≤ vg3.toInt) ∧ (vg3.toInt ≤ 5) ∧ (((x2.toInt = 119) → (vg3.toInt = 0))) ∧ (((x2.toInt = 112) → (vg3.toInt = 1))) ∧ (((x2.toInt = 104) → (vg3.toInt = 2))) ∧ (((x2.toInt = 110) → (vg3.toInt = 3))) ∧ (((x2.toInt = 111) → (vg3.toInt = 4))) ∧ (((x2.toInt = 100) → (vg3.toInt = 5))) ∧ (((vg3.toInt = 0) → (x2.toInt = 119))) ∧ (((vg3.toInt = 1) → (x2.toInt = 112))) ∧ (((vg3.toInt = 2) → (x2.toInt = 104))) ∧ (((vg3.toInt = 3) → (x2.toInt = 110))) ∧ (((vg3.toInt = 4) → (x2.toInt = 111))) ∧ (((vg3.toInt = 5) → (x2.toInt = 100))) ∧ ((vg3.toInt = (-1)) ∨ (x2.toInt = 119) ∨ (x2.toInt = 112) ∨ (x2.toInt = 104) ∨ (x2.toInt = 110) ∨ (x2.toInt = 111) ∨ (x2.toInt = 100)) := hg3
    exact ft_ret mi_k233 (by rfl) (hP vg3 (op54 z4.1 z4.2.1 z4.2.2.1 z4.2.2.2.1 z4.2.2.2.2.1 z4.2.2.2.2.2.1 z4.2.2.2.2.2.2.1 z4.2.2.2.2.2.2.2.1 z4.2.2.2.2.2.2.2.2.1 z4.2.2.2.2.2.2.2.2.2.1 z4.2.2.2.2.2.2.2.2.2.2.1 z4.2.2.2.2.2.2.2.2.2.2.2.1 z4.2.2.2.2.2.2.2.2.2.2.2.2.1 z4.2.2.2.2.2.2.2.2.2.2.2.2.2.1 z4.2.2.2.2.2.2.2.2.2.2.2.2.2.2))
  ·
    subst eg1
    have z5 : ¬ (((0 : Int) ≤ x2.toInt) ∧ (x2.toInt ≤ 255)) := hg1
    exact (op55 hp0.1 hp0.2 z5).elim
set_option maxRecDepth 100000 in
theorem ke229_1000010_l10 {i : Nat → Int32} {a : Nat → List Int32} {q : Nat → List Int64} {r : Nat → Nat} (hI : kI i a q) (hr : kr r) (x1 : Int32) (hp0 : ((0 : Int) ≤ x1.toInt) ∧ (x1.toInt ≤ 255)) : km 5 229 [.ref (mi_RO + 10), .int x1, .int 0] (ks i a q r) (kPI (ks i a q r) (fun v => (((-1) : Int) ≤ v.toInt) ∧ (v.toInt ≤ 5) ∧ (((x1.toInt = 119) → (v.toInt = 0))) ∧ (((x1.toInt = 112) → (v.toInt = 1))) ∧ (((x1.toInt = 104) → (v.toInt = 2))) ∧ (((x1.toInt = 110) → (v.toInt = 3))) ∧ (((x1.toInt = 111) → (v.toInt = 4))) ∧ (((x1.toInt = 100) → (v.toInt = 5))) ∧ (((v.toInt = 0) → (x1.toInt = 119))) ∧ (((v.toInt = 1) → (x1.toInt = 112))) ∧ (((v.toInt = 2) → (x1.toInt = 104))) ∧ (((v.toInt = 3) → (x1.toInt = 110))) ∧ (((v.toInt = 4) → (x1.toInt = 111))) ∧ (((v.toInt = 5) → (x1.toInt = 100))) ∧ ((v.toInt = (-1)) ∨ (x1.toInt = 119) ∨ (x1.toInt = 112) ∨ (x1.toInt = 104) ∨ (x1.toInt = 110) ∨ (x1.toInt = 111) ∨ (x1.toInt = 100)))) := by
  have hG := kG_self kW0 hI hr
  refine km_ofPI (q := (mi_h229, mi_c229)) rfl (by decide) (Nat.le_of_ble_eq_true rfl) ?_
  intro P hP
  first | refine fo_goL mi_k229 fz229_0_1_1 [(0, .ref (mi_RO + 10)), (1, .int x1), (2, .int 0)] [.ref (mi_RO + 10)] (by rfl) ?_ | refine ft_go mi_k229 1 1 [(0, .ref (mi_RO + 10)), (1, .int x1), (2, .int 0)] [.ref (mi_RO + 10)] i a q r (by rfl) ?_
  refine ko_callPI mi_k229.1 (pc := 1) (ls := [(0, .ref (mi_RO + 10)), (1, .int x1), (2, .int 0)]) (st := [.ref (mi_RO + 10)]) (h := ks i a q r) (i := (.invokevirtual 492, 3, 231, 0, 9, 0, 192)) (mi_k229.2 _ _ (by rfl)) (ft_invS mi_pq231 (by rfl)) (cy := mi_c231) mi_pq231 rfl (kc231_S10 hG.I hG.R ) (by decide) ?_
  intro vg1 hg1
  rcases hg1 with ⟨eg1, hg1⟩ | ⟨eg1, hg1⟩
  ·
    subst eg1
    first | refine ft_goS mi_k229 6 14 [.ref (mi_RO + 10), .int 0, .int x1, .ref (mi_RO + 20)] (by rfl) ?_ | refine ft_go mi_k229 6 14 [(0, .ref (mi_RO + 10)), (1, .int x1), (2, .int 0)] [.ref (mi_RO + 10), .int 0, .int x1, .ref (mi_RO + 20)] i a q r (by rfl) ?_
    refine ko_callPI mi_k229.1 (pc := 14) (ls := [(0, .ref (mi_RO + 10)), (1, .int x1), (2, .int 0)]) (st := [.ref (mi_RO + 10), .int 0, .int x1, .ref (mi_RO + 20)]) (h := ks i a q r) (i := (.invokevirtual 505, 3, 227, 0, 9, 0, 193)) (mi_k229.2 _ _ (by rfl)) (ft_invS mi_pq227 (by rfl)) (cy := mi_c227) mi_pq227 rfl (ke227_1000010 hG.I hG.R ) (by decide) ?_
    intro vg2 hg2
    have z3 : vg2.toInt = 6 := hg2
    refine ko_eq (x1 := (17, [(0, .ref (mi_RO + 10)), (1, .int x1), (2, .int 0)], [.int 6, .int 0, .int x1, .ref (mi_RO + 20)], (0, 0), ks i a q r)) (by rw [(kj_eq (op42 z3) (by decide) : vg2 = 6)]) ?_
    refine ko_callPI mi_k229.1 (pc := 17) (ls := [(0, .ref (mi_RO + 10)), (1, .int x1), (2, .int 0)]) (st := [.int 6, .int 0, .int x1, .ref (mi_RO + 20)]) (h := ks i a q r) (i := (.invokestatic 637, 3, 233, 0, 9, 0, 194)) (mi_k229.2 _ _ (by rfl)) (ft_invS mi_pq233 (by rfl)) (cy := mi_c233) mi_pq233 rfl (ke233_1000020_l10_l26 hG.I hG.R x1 (op53 hp0.1 hp0.2)) (by decide) ?_
    intro vg4 hg4
    have z5 : (((-1) : Int) ≤ vg4.toInt) ∧ (vg4.toInt ≤ 5) ∧ (((x1.toInt = 119) → (vg4.toInt = 0))) ∧ (((x1.toInt = 112) → (vg4.toInt = 1))) ∧ (((x1.toInt = 104) → (vg4.toInt = 2))) ∧ (((x1.toInt = 110) → (vg4.toInt = 3))) ∧ (((x1.toInt = 111) → (vg4.toInt = 4))) ∧ (((x1.toInt = 100) → (vg4.toInt = 5))) ∧ (((vg4.toInt = 0) → (x1.toInt = 119))) ∧ (((vg4.toInt = 1) → (x1.toInt = 112))) ∧ (((vg4.toInt = 2) → (x1.toInt = 104))) ∧ (((vg4.toInt = 3) → (x1.toInt = 110))) ∧ (((vg4.toInt = 4) → (x1.toInt = 111))) ∧ (((vg4.toInt = 5) → (x1.toInt = 100))) ∧ ((vg4.toInt = (-1)) ∨ (x1.toInt = 119) ∨ (x1.toInt = 112) ∨ (x1.toInt = 104) ∨ (x1.toInt = 110) ∨ (x1.toInt = 111) ∨ (x1.toInt = 100)) := hg4
    first | refine fo_goS mi_k229 fz229_20_1_36 [.int vg4] (by rfl) ?_ | refine ft_go mi_k229 1 36 [(0, .ref (mi_RO + 10)), (1, .int x1), (2, .int 0)] [.int vg4] i a q r (by rfl) ?_
    exact ft_ret mi_k229 (by rfl) (hP vg4 (op54 z5.1 z5.2.1 z5.2.2.1 z5.2.2.2.1 z5.2.2.2.2.1 z5.2.2.2.2.2.1 z5.2.2.2.2.2.2.1 z5.2.2.2.2.2.2.2.1 z5.2.2.2.2.2.2.2.2.1 z5.2.2.2.2.2.2.2.2.2.1 z5.2.2.2.2.2.2.2.2.2.2.1 z5.2.2.2.2.2.2.2.2.2.2.2.1 z5.2.2.2.2.2.2.2.2.2.2.2.2.1 z5.2.2.2.2.2.2.2.2.2.2.2.2.2.1 z5.2.2.2.2.2.2.2.2.2.2.2.2.2.2))
  ·
    subst eg1
    have z6 : (2 : Int) ≤ 1 := hg1
    exact (op56 z6).elim
set_option maxRecDepth 100000 in
theorem ke228_1000010 {i : Nat → Int32} {a : Nat → List Int32} {q : Nat → List Int64} {r : Nat → Nat} (hI : kI i a q) (hr : kr r) (x1 : Int32) (hp0 : ((0 : Int) ≤ x1.toInt) ∧ (x1.toInt ≤ 255)) : km 7 228 [.ref (mi_RO + 10), .int x1] (ks i a q r) (kPI (ks i a q r) (fun v => (((-1) : Int) ≤ v.toInt) ∧ (v.toInt ≤ 5) ∧ (((x1.toInt = 119) → (v.toInt = 0))) ∧ (((x1.toInt = 112) → (v.toInt = 1))) ∧ (((x1.toInt = 104) → (v.toInt = 2))) ∧ (((x1.toInt = 110) → (v.toInt = 3))) ∧ (((x1.toInt = 111) → (v.toInt = 4))) ∧ (((x1.toInt = 100) → (v.toInt = 5))) ∧ (((v.toInt = 0) → (x1.toInt = 119))) ∧ (((v.toInt = 1) → (x1.toInt = 112))) ∧ (((v.toInt = 2) → (x1.toInt = 104))) ∧ (((v.toInt = 3) → (x1.toInt = 110))) ∧ (((v.toInt = 4) → (x1.toInt = 111))) ∧ (((v.toInt = 5) → (x1.toInt = 100))) ∧ ((v.toInt = (-1)) ∨ (x1.toInt = 119) ∨ (x1.toInt = 112) ∨ (x1.toInt = 104) ∨ (x1.toInt = 110) ∨ (x1.toInt = 111) ∨ (x1.toInt = 100)))) := by
  have hG := kG_self kW0 hI hr
  refine km_ofPI (q := (mi_h228, mi_c228)) rfl (by decide) (Nat.le_of_ble_eq_true rfl) ?_
  intro P hP
  first | refine fo_goL mi_k228 fz228_0_3_3 [(0, .ref (mi_RO + 10)), (1, .int x1)] [.int 0, .int x1, .ref (mi_RO + 10)] (by rfl) ?_ | refine ft_go mi_k228 3 3 [(0, .ref (mi_RO + 10)), (1, .int x1)] [.int 0, .int x1, .ref (mi_RO + 10)] i a q r (by rfl) ?_
  refine ko_callPI mi_k228.1 (pc := 3) (ls := [(0, .ref (mi_RO + 10)), (1, .int x1)]) (st := [.int 0, .int x1, .ref (mi_RO + 10)]) (h := ks i a q r) (i := (.invokevirtual 633, 3, 229, 0, 9, 0, 191)) (mi_k228.2 _ _ (by rfl)) (ft_invS mi_pq229 (by rfl)) (cy := mi_c229) mi_pq229 rfl (ke229_1000010_l10 hG.I hG.R x1 (op53 hp0.1 hp0.2)) (by decide) ?_
  intro vg1 hg1
  have z2 : (((-1) : Int) ≤ vg1.toInt) ∧ (vg1.toInt ≤ 5) ∧ (((x1.toInt = 119) → (vg1.toInt = 0))) ∧ (((x1.toInt = 112) → (vg1.toInt = 1))) ∧ (((x1.toInt = 104) → (vg1.toInt = 2))) ∧ (((x1.toInt = 110) → (vg1.toInt = 3))) ∧ (((x1.toInt = 111) → (vg1.toInt = 4))) ∧ (((x1.toInt = 100) → (vg1.toInt = 5))) ∧ (((vg1.toInt = 0) → (x1.toInt = 119))) ∧ (((vg1.toInt = 1) → (x1.toInt = 112))) ∧ (((vg1.toInt = 2) → (x1.toInt = 104))) ∧ (((vg1.toInt = 3) → (x1.toInt = 110))) ∧ (((vg1.toInt = 4) → (x1.toInt = 111))) ∧ (((vg1.toInt = 5) → (x1.toInt = 100))) ∧ ((vg1.toInt = (-1)) ∨ (x1.toInt = 119) ∨ (x1.toInt = 112) ∨ (x1.toInt = 104) ∨ (x1.toInt = 110) ∨ (x1.toInt = 111) ∨ (x1.toInt = 100)) := hg1
  exact ft_ret mi_k228 (by rfl) (hP vg1 (op54 z2.1 z2.2.1 z2.2.2.1 z2.2.2.2.1 z2.2.2.2.2.1 z2.2.2.2.2.2.1 z2.2.2.2.2.2.2.1 z2.2.2.2.2.2.2.2.1 z2.2.2.2.2.2.2.2.2.1 z2.2.2.2.2.2.2.2.2.2.1 z2.2.2.2.2.2.2.2.2.2.2.1 z2.2.2.2.2.2.2.2.2.2.2.2.1 z2.2.2.2.2.2.2.2.2.2.2.2.2.1 z2.2.2.2.2.2.2.2.2.2.2.2.2.2.1 z2.2.2.2.2.2.2.2.2.2.2.2.2.2.2))
def yw47_98_1000010 : kW := ([6274], [], [], [])
set_option maxRecDepth 100000 in
theorem ke47_98_1000010 {i : Nat → Int32} {a : Nat → List Int32} {q : Nat → List Int64} {r : Nat → Nat} (hI : kI i a q) (hr : kr r) (t : List Int32) (nn : Int32) (hT : a 99 = t) (hN : i 6273 = nn) (hX : kBy t) : km 9 47 [.ref 98, .ref (mi_RO + 10)] (ks i a q r) (kVI yw47_98_1000010 i a q r (fun v i1 a1 q1 r1 => (((v.toInt = (-1)) ∧ ((i1 6274).toInt = (i 6274).toInt)) ∨ (((i1 6274).toInt = ((i 6274).toInt + 1)) ∧ ((i 6274).toInt < (i 6273).toInt) ∧ ((i 6275).toInt = 0) ∧ ((v.toInt = 119) ∨ (v.toInt = 112) ∨ (v.toInt = 104) ∨ (v.toInt = 110) ∨ (v.toInt = 111) ∨ (v.toInt = 100)))) ∧ (v, i1 6274) = cOfP t nn oNam (i 6274) (i 6275))) := by
  have hG := kG_self yw47_98_1000010 hI hr
  refine km_ofI (q := (mi_h47, mi_c47)) rfl (by decide) (Nat.le_of_ble_eq_true rfl) ?_
  intro P hP
  have hn1 : (i 6273).toInt = nn.toInt := congrArg Int32.toInt hN
  first | refine fo_goL mi_k47 fz47_0_1_1 [(0, .ref 98), (1, .ref (mi_RO + 10))] [.ref 98] (by rfl) ?_ | refine ft_go mi_k47 1 1 [(0, .ref 98), (1, .ref (mi_RO + 10))] [.ref 98] i a q r (by rfl) ?_
  refine ko_callPI mi_k47.1 (pc := 1) (ls := [(0, .ref 98), (1, .ref (mi_RO + 10))]) (st := [.ref 98]) (h := ks i a q r) (i := (.invokevirtual 46, 3, 45, 0, 9, 0, 184)) (mi_k47.2 _ _ (by rfl)) (ft_invS mi_pq45 (by rfl)) (cy := mi_c45) mi_pq45 rfl (ke45_98 hG.I hG.R t nn hT hN hX) (by decide) ?_
  intro vg2 hg2
  obtain ⟨hg2, og2⟩ := hg2
  have fi_6275 : ((0 : Int) ≤ (i 6275).toInt) ∧ ((i 6275).toInt ≤ 1) := hG.I.1 6275
  have fi_6274 : ((0 : Int) ≤ (i 6274).toInt) ∧ ((i 6274).toInt ≤ 120) := hG.I.1 6274
  have fi_6273 : ((0 : Int) ≤ (i 6273).toInt) ∧ ((i 6273).toInt ≤ 120) := hG.I.1 6273
  have z3 : (((-1) : Int) ≤ vg2.toInt) ∧ (vg2.toInt ≤ 255) ∧ ((vg2.toInt = (-1)) ∨ (((i 6275).toInt = 0) ∧ ((i 6274).toInt < (i 6273).toInt))) := hg2
  have q4 : vg2 = cHr t nn (i 6274) (i 6275) := og2
  have hv5 : vg2.toInt = (cHr t nn (i 6274) (i 6275)).toInt := congrArg Int32.toInt og2
  first | refine fo_goL mi_k47 fz47_4_3_7 [(2, .int vg2), (0, .ref 98), (1, .ref (mi_RO + 10))] [.int (-1), .int vg2] (by rfl) ?_ | refine ft_go mi_k47 3 7 [(2, .int vg2), (0, .ref 98), (1, .ref (mi_RO + 10))] [.int (-1), .int vg2] i a q r (by rfl) ?_
  refine ft_ifS mi_k47 (vg2 == (-1)) 19 10 [] (by rfl) (fun c => ?_) (fun c => ?_)
  ·
    have c6 : vg2.toInt = ((-1) : Int32).toInt := kd_eq c; clear c
    first | refine fo_goS mi_k47 fz47_19_1_20 [.int (-1)] (by rfl) ?_ | refine ft_go mi_k47 1 20 [(2, .int vg2), (0, .ref 98), (1, .ref (mi_RO + 10))] [.int (-1)] i a q r (by rfl) ?_
    exact ft_ret mi_k47 (by rfl) (hP (-1) _ _ _ _ hG ⟨(op37 kopm1), (ofP_n (o := oNam) (decide_eq_false (op38 c6 hv5 kopm1)))⟩)
  ·
    have c7 : vg2.toInt ≠ ((-1) : Int32).toInt := kd_eqF c; clear c
    have s8 : ((vg2.toUInt32 % 65536).toInt32).toInt = vg2.toInt := kd_i2c (op39 c7 z3.1 kopm1) (Int.le_trans (op40 z3.2.1) (by decide))
    first | refine ft_goS mi_k47 3 13 [.int ((vg2.toUInt32 % 65536).toInt32), .ref (mi_RO + 10)] (by rfl) ?_ | refine ft_go mi_k47 3 13 [(2, .int vg2), (0, .ref 98), (1, .ref (mi_RO + 10))] [.int ((vg2.toUInt32 % 65536).toInt32), .ref (mi_RO + 10)] i a q r (by rfl) ?_
    refine ko_callPI mi_k47.1 (pc := 13) (ls := [(2, .int vg2), (0, .ref 98), (1, .ref (mi_RO + 10))]) (st := [.int ((vg2.toUInt32 % 65536).toInt32), .ref (mi_RO + 10)]) (h := ks i a q r) (i := (.invokevirtual 50, 3, 228, 0, 9, 0, 190)) (mi_k47.2 _ _ (by rfl)) (ft_invS mi_pq228 (by rfl)) (cy := mi_c228) mi_pq228 rfl (ke228_1000010 hG.I hG.R ((vg2.toUInt32 % 65536).toInt32) (op57 c7 s8 z3.1 z3.2.1 kopm1)) (by decide) ?_
    intro vg9 hg9
    have z10 : (((-1) : Int) ≤ vg9.toInt) ∧ (vg9.toInt ≤ 5) ∧ (((((vg2.toUInt32 % 65536).toInt32).toInt = 119) → (vg9.toInt = 0))) ∧ (((((vg2.toUInt32 % 65536).toInt32).toInt = 112) → (vg9.toInt = 1))) ∧ (((((vg2.toUInt32 % 65536).toInt32).toInt = 104) → (vg9.toInt = 2))) ∧ (((((vg2.toUInt32 % 65536).toInt32).toInt = 110) → (vg9.toInt = 3))) ∧ (((((vg2.toUInt32 % 65536).toInt32).toInt = 111) → (vg9.toInt = 4))) ∧ (((((vg2.toUInt32 % 65536).toInt32).toInt = 100) → (vg9.toInt = 5))) ∧ (((vg9.toInt = 0) → (((vg2.toUInt32 % 65536).toInt32).toInt = 119))) ∧ (((vg9.toInt = 1) → (((vg2.toUInt32 % 65536).toInt32).toInt = 112))) ∧ (((vg9.toInt = 2) → (((vg2.toUInt32 % 65536).toInt32).toInt = 104))) ∧ (((vg9.toInt = 3) → (((vg2.toUInt32 % 65536).toInt32).toInt = 110))) ∧ (((vg9.toInt = 4) → (((vg2.toUInt32 % 65536).toInt32).toInt = 111))) ∧ (((vg9.toInt = 5) → (((vg2.toUInt32 % 65536).toInt32).toInt = 100))) ∧ ((vg9.toInt = (-1)) ∨ (((vg2.toUInt32 % 65536).toInt32).toInt = 119) ∨ (((vg2.toUInt32 % 65536).toInt32).toInt = 112) ∨ (((vg2.toUInt32 % 65536).toInt32).toInt = 104) ∨ (((vg2.toUInt32 % 65536).toInt32).toInt = 110) ∨ (((vg2.toUInt32 % 65536).toInt32).toInt = 111) ∨ (((vg2.toUInt32 % 65536).toInt32).toInt = 100)) := hg9
    refine ft_ifS mi_k47 (decide (0 ≤ vg9)) 21 19 [] (by rfl) (fun c => ?_) (fun c => ?_)
    ·
      have c11 : (0 : Int32).toInt ≤ vg9.toInt := kd_le c; clear c
      have s12 : ((i 6274) + 1).toInt = (i 6274).toInt + (1 : Int32).toInt := kd_add (op18 fi_6274.1 kop1) (op26 fi_6274.2 kop1)
      have hJ13 := kG_i hG 6274 rfl (v := ((i 6274) + 1)) ⟨(op20 fi_6274.1 s12 kop1), (op58 c7 fi_6273.2 s12 z3.1 z3.2.2 kopm1 kop1)⟩
      first | refine fo_goI mi_k47 fz47_21_7_32 [.int vg2] (ku i 6274 ((i 6274) + 1)) (by rfl) ?_ | refine ft_go mi_k47 7 32 [(2, .int vg2), (0, .ref 98), (1, .ref (mi_RO + 10))] [.int vg2] (ku i 6274 ((i 6274) + 1)) a q r (by rfl) ?_
      exact ft_ret mi_k47 (by rfl) (hP vg2 _ _ _ _ hJ13 ⟨(op59 c11 fi_6275.1 s12 s8 z10.2.2.2.2.2.2.2.2.2.2.2.2.2.2 z3.2.2 kop0 kop1), (ofP_y (o := oNam) (decide_eq_true (op60 c11 hv5 s8 z10.2.2.2.2.2.2.2.2.2.2.2.2.2.2 kop0)) og2)⟩)
    ·
      have c14 : vg9.toInt < (0 : Int32).toInt := kd_leF c; clear c
      first | refine fo_goS mi_k47 fz47_19_1_20 [.int (-1)] (by rfl) ?_ | refine ft_go mi_k47 1 20 [(2, .int vg2), (0, .ref 98), (1, .ref (mi_RO + 10))] [.int (-1)] i a q r (by rfl) ?_
      exact ft_ret mi_k47 (by rfl) (hP (-1) _ _ _ _ hG ⟨(op37 kopm1), (ofP_n (o := oNam) (decide_eq_false (op61 c14 hv5 s8 z10.2.2.1 z10.2.2.2.1 z10.2.2.2.2.1 z10.2.2.2.2.2.1 z10.2.2.2.2.2.2.1 z10.2.2.2.2.2.2.2.1 kop0)))⟩)
set_option maxRecDepth 100000 in
theorem ke230_1000011 {i : Nat → Int32} {a : Nat → List Int32} {q : Nat → List Int64} {r : Nat → Nat} (hI : kI i a q) (hr : kr r)  : km 1 230 [.ref (mi_RO + 11)] (ks i a q r) (kPI (ks i a q r) (fun v => v.toInt = 0)) := by
  have hG := kG_self kW0 hI hr
  refine km_ofPI (q := (mi_h230, mi_c230)) rfl (by decide) (Nat.le_of_ble_eq_true rfl) ?_
  intro P hP
  first | refine ft_goL mi_k230 5 14 [(0, .ref (mi_RO + 11))] [.int 0] (by rfl) ?_ | refine ft_go mi_k230 5 14 [(0, .ref (mi_RO + 11))] [.int 0] i a q r (by rfl) ?_
  exact ft_ret mi_k230 (by rfl) (hP 0 (op41 kop0))
set_option maxRecDepth 100000 in
theorem ke227_1000011 {i : Nat → Int32} {a : Nat → List Int32} {q : Nat → List Int64} {r : Nat → Nat} (hI : kI i a q) (hr : kr r)  : km 3 227 [.ref (mi_RO + 11)] (ks i a q r) (kPI (ks i a q r) (fun v => v.toInt = 3)) := by
  have hG := kG_self kW0 hI hr
  refine km_ofPI (q := (mi_h227, mi_c227)) rfl (by decide) (Nat.le_of_ble_eq_true rfl) ?_
  intro P hP
  first | refine ft_goL mi_k227 4 6 [(0, .ref (mi_RO + 11))] [.ref (mi_RO + 11), .int 3] (by rfl) ?_ | refine ft_go mi_k227 4 6 [(0, .ref (mi_RO + 11))] [.ref (mi_RO + 11), .int 3] i a q r (by rfl) ?_ | refine ko_steps mi_in227 4 _ (6, [(0, .ref (mi_RO + 11))], [.ref (mi_RO + 11), .int 3], (0, 0), ks i a q r) (by rfl) ?_
  refine ko_callPI mi_k227.1 (pc := 6) (ls := [(0, .ref (mi_RO + 11))]) (st := [.ref (mi_RO + 11), .int 3]) (h := ks i a q r) (i := (.invokevirtual 335, 3, 230, 0, 9, 0, 32)) (mi_k227.2 _ _ (by rfl)) (ft_invS mi_pq230 (by rfl)) (cy := mi_c230) mi_pq230 rfl (ke230_1000011 hG.I hG.R ) (by decide) ?_
  intro vg1 hg1
  have z2 : vg1.toInt = 0 := hg1
  refine ko_eq (x1 := (9, [(0, .ref (mi_RO + 11))], [.int 0, .int 3], (0, 0), ks i a q r)) (by rw [(kj_eq (op41 z2) (by decide) : vg1 = 0)]) ?_
  first | refine ft_goS mi_k227 1 10 [.int ((3 : Int32) >>> ((0 : Int32) &&& 31))] (by rfl) ?_ | refine ft_go mi_k227 1 10 [(0, .ref (mi_RO + 11))] [.int ((3 : Int32) >>> ((0 : Int32) &&& 31))] i a q r (by rfl) ?_ | refine ko_steps mi_in227 1 _ (10, [(0, .ref (mi_RO + 11))], [.int ((3 : Int32) >>> ((0 : Int32) &&& 31))], (0, 0), ks i a q r) (by rfl) ?_
  refine ko_top (by decide : ((3 : Int32) >>> ((0 : Int32) &&& 31) : Int32) = 3) ?_
  exact ft_ret mi_k227 (by rfl) (hP 3 (op70 kop3))
set_option maxRecDepth 100000 in
theorem ke234_1000021_l10_l23 {i : Nat → Int32} {a : Nat → List Int32} {q : Nat → List Int64} {r : Nat → Nat} (hI : kI i a q) (hr : kr r) (x2 : Int32) (hp0 : ((0 : Int) ≤ x2.toInt) ∧ (x2.toInt ≤ 255)) : km 1 234 [.ref (mi_RO + 21), .int x2, .int 0, .int 3] (ks i a q r) (kPI (ks i a q r) (fun v => (((-1) : Int) ≤ v.toInt) ∧ (v.toInt ≤ 2) ∧ (((x2.toInt = 40) → (v.toInt = 0))) ∧ (((x2.toInt = 33) → (v.toInt = 1))) ∧ (((x2.toInt = 45) → (v.toInt = 2))) ∧ (((v.toInt = 0) → (x2.toInt = 40))) ∧ (((v.toInt = 1) → (x2.toInt = 33))) ∧ (((v.toInt = 2) → (x2.toInt = 45))) ∧ ((v.toInt = (-1)) ∨ (x2.toInt = 40) ∨ (x2.toInt = 33) ∨ (x2.toInt = 45)))) := by
  have hG := kG_self kW0 hI hr
  refine km_ofPI (q := (mi_h234, mi_c234)) rfl (by decide) (Nat.le_of_ble_eq_true rfl) ?_
  intro P hP
  have s1 : ((x2.toInt ≤ 127 → x2.toInt8.toInt32.toInt = x2.toInt)) ∧ ((128 ≤ x2.toInt → x2.toInt8.toInt32.toInt = x2.toInt - 256)) := kd_i2b (op4 hp0.1) (op40 hp0.2)
  first | refine ft_goL mi_k234 12 19 [(5, .int 0), (4, .int x2.toInt8.toInt32), (0, .ref (mi_RO + 21)), (1, .int x2), (2, .int 0), (3, .int 3)] [.int x2.toInt8.toInt32, .int 40] (by rfl) ?_ | refine ft_go mi_k234 12 19 [(5, .int 0), (4, .int x2.toInt8.toInt32), (0, .ref (mi_RO + 21)), (1, .int x2), (2, .int 0), (3, .int 3)] [.int x2.toInt8.toInt32, .int 40] i a q r (by rfl) ?_ | refine ko_steps mi_in234 12 _ (19, [(5, .int 0), (4, .int x2.toInt8.toInt32), (0, .ref (mi_RO + 21)), (1, .int x2), (2, .int 0), (3, .int 3)], [.int x2.toInt8.toInt32, .int 40], (0, 0), ks i a q r) (by rfl) ?_
  refine ft_ifS mi_k234 (40 != x2.toInt8.toInt32) 25 22 [] (by rfl) (fun c => ?_) (fun c => ?_)
  ·
    have c2 : (40 : Int32).toInt ≠ x2.toInt8.toInt32.toInt := kd_ne c; clear c
    first | refine fo_goL mi_k234 fz234_25_1_28 [(5, .int (0 + 1)), (4, .int x2.toInt8.toInt32), (0, .ref (mi_RO + 21)), (1, .int x2), (2, .int 0), (3, .int 3)] [] (by rfl) ?_ | refine ft_go mi_k234 1 28 [(5, .int (0 + 1)), (4, .int x2.toInt8.toInt32), (0, .ref (mi_RO + 21)), (1, .int x2), (2, .int 0), (3, .int 3)] [] i a q r (by rfl) ?_ | refine ko_steps mi_in234 1 _ (28, [(5, .int (0 + 1)), (4, .int x2.toInt8.toInt32), (0, .ref (mi_RO + 21)), (1, .int x2), (2, .int 0), (3, .int 3)], [], (0, 0), ks i a q r) (by rfl) ?_
    refine ko_loc (by decide : (0 + 1 : Int32) = 1) ?_
    first | refine ft_goL mi_k234 8 19 [(5, .int 1), (4, .int x2.toInt8.toInt32), (0, .ref (mi_RO + 21)), (1, .int x2), (2, .int 0), (3, .int 3)] [.int x2.toInt8.toInt32, .int 33] (by rfl) ?_ | refine ft_goS mi_k234 8 19 [.int x2.toInt8.toInt32, .int 33] (by rfl) ?_ | refine ft_go mi_k234 8 19 [(5, .int 1), (4, .int x2.toInt8.toInt32), (0, .ref (mi_RO + 21)), (1, .int x2), (2, .int 0), (3, .int 3)] [.int x2.toInt8.toInt32, .int 33] i a q r (by rfl) ?_ | refine ko_steps mi_in234 8 _ (19, [(5, .int 1), (4, .int x2.toInt8.toInt32), (0, .ref (mi_RO + 21)), (1, .int x2), (2, .int 0), (3, .int 3)], [.int x2.toInt8.toInt32, .int 33], (0, 0), ks i a q r) (by rfl) ?_
    refine ft_ifS mi_k234 (33 != x2.toInt8.toInt32) 25 22 [] (by rfl) (fun c => ?_) (fun c => ?_)
    ·
      have c3 : (33 : Int32).toInt ≠ x2.toInt8.toInt32.toInt := kd_ne c; clear c
      first | refine fo_goL mi_k234 fz234_25_1_28 [(5, .int (1 + 1)), (4, .int x2.toInt8.toInt32), (0, .ref (mi_RO + 21)), (1, .int x2), (2, .int 0), (3, .int 3)] [] (by rfl) ?_ | refine ft_go mi_k234 1 28 [(5, .int (1 + 1)), (4, .int x2.toInt8.toInt32), (0, .ref (mi_RO + 21)), (1, .int x2), (2, .int 0), (3, .int 3)] [] i a q r (by rfl) ?_ | refine ko_steps mi_in234 1 _ (28, [(5, .int (1 + 1)), (4, .int x2.toInt8.toInt32), (0, .ref (mi_RO + 21)), (1, .int x2), (2, .int 0), (3, .int 3)], [], (0, 0), ks i a q r) (by rfl) ?_
      refine ko_loc (by decide : (1 + 1 : Int32) = 2) ?_
      first | refine ft_goL mi_k234 8 19 [(5, .int 2), (4, .int x2.toInt8.toInt32), (0, .ref (mi_RO + 21)), (1, .int x2), (2, .int 0), (3, .int 3)] [.int x2.toInt8.toInt32, .int 45] (by rfl) ?_ | refine ft_goS mi_k234 8 19 [.int x2.toInt8.toInt32, .int 45] (by rfl) ?_ | refine ft_go mi_k234 8 19 [(5, .int 2), (4, .int x2.toInt8.toInt32), (0, .ref (mi_RO + 21)), (1, .int x2), (2, .int 0), (3, .int 3)] [.int x2.toInt8.toInt32, .int 45] i a q r (by rfl) ?_ | refine ko_steps mi_in234 8 _ (19, [(5, .int 2), (4, .int x2.toInt8.toInt32), (0, .ref (mi_RO + 21)), (1, .int x2), (2, .int 0), (3, .int 3)], [.int x2.toInt8.toInt32, .int 45], (0, 0), ks i a q r) (by rfl) ?_
      refine ft_ifS mi_k234 (45 != x2.toInt8.toInt32) 25 22 [] (by rfl) (fun c => ?_) (fun c => ?_)
      ·
        have c4 : (45 : Int32).toInt ≠ x2.toInt8.toInt32.toInt := kd_ne c; clear c
        first | refine fo_goL mi_k234 fz234_25_1_28 [(5, .int (2 + 1)), (4, .int x2.toInt8.toInt32), (0, .ref (mi_RO + 21)), (1, .int x2), (2, .int 0), (3, .int 3)] [] (by rfl) ?_ | refine ft_go mi_k234 1 28 [(5, .int (2 + 1)), (4, .int x2.toInt8.toInt32), (0, .ref (mi_RO + 21)), (1, .int x2), (2, .int 0), (3, .int 3)] [] i a q r (by rfl) ?_ | refine ko_steps mi_in234 1 _ (28, [(5, .int (2 + 1)), (4, .int x2.toInt8.toInt32), (0, .ref (mi_RO + 21)), (1, .int x2), (2, .int 0), (3, .int 3)], [], (0, 0), ks i a q r) (by rfl) ?_
        refine ko_loc (by decide : (2 + 1 : Int32) = 3) ?_
        first | refine ft_goL mi_k234 5 32 [(5, .int 3), (4, .int x2.toInt8.toInt32), (0, .ref (mi_RO + 21)), (1, .int x2), (2, .int 0), (3, .int 3)] [.int (-1)] (by rfl) ?_ | refine ft_goS mi_k234 5 32 [.int (-1)] (by rfl) ?_ | refine ft_go mi_k234 5 32 [(5, .int 3), (4, .int x2.toInt8.toInt32), (0, .ref (mi_RO + 21)), (1, .int x2), (2, .int 0), (3, .int 3)] [.int (-1)] i a q r (by rfl) ?_ | refine ko_steps mi_in234 5 _ (32, [(5, .int 3), (4, .int x2.toInt8.toInt32), (0, .ref (mi_RO + 21)), (1, .int x2), (2, .int 0), (3, .int 3)], [.int (-1)], (0, 0), ks i a q r) (by rfl) ?_
        exact ft_ret mi_k234 (by rfl) (hP (-1) (op71 c2 c3 c4 s1.1 kop40 kop33 kop45 kopm1))
      ·
        have c5 : (45 : Int32).toInt = x2.toInt8.toInt32.toInt := kd_neF c; clear c
        first | refine fo_goS mi_k234 fz234_22_1_24 [.int 2] (by rfl) ?_ | refine ft_go mi_k234 1 24 [(5, .int 2), (4, .int x2.toInt8.toInt32), (0, .ref (mi_RO + 21)), (1, .int x2), (2, .int 0), (3, .int 3)] [.int 2] i a q r (by rfl) ?_ | refine ko_steps mi_in234 1 _ (24, [(5, .int 2), (4, .int x2.toInt8.toInt32), (0, .ref (mi_RO + 21)), (1, .int x2), (2, .int 0), (3, .int 3)], [.int 2], (0, 0), ks i a q r) (by rfl) ?_
        exact ft_ret mi_k234 (by rfl) (hP 2 (op72 c5 hp0.2 s1.1 s1.2 kop45 kop2))
    ·
      have c6 : (33 : Int32).toInt = x2.toInt8.toInt32.toInt := kd_neF c; clear c
      first | refine fo_goS mi_k234 fz234_22_1_24 [.int 1] (by rfl) ?_ | refine ft_go mi_k234 1 24 [(5, .int 1), (4, .int x2.toInt8.toInt32), (0, .ref (mi_RO + 21)), (1, .int x2), (2, .int 0), (3, .int 3)] [.int 1] i a q r (by rfl) ?_ | refine ko_steps mi_in234 1 _ (24, [(5, .int 1), (4, .int x2.toInt8.toInt32), (0, .ref (mi_RO + 21)), (1, .int x2), (2, .int 0), (3, .int 3)], [.int 1], (0, 0), ks i a q r) (by rfl) ?_
      exact ft_ret mi_k234 (by rfl) (hP 1 (op73 c6 hp0.2 s1.1 s1.2 kop33 kop1))
  ·
    have c7 : (40 : Int32).toInt = x2.toInt8.toInt32.toInt := kd_neF c; clear c
    first | refine fo_goS mi_k234 fz234_22_1_24 [.int 0] (by rfl) ?_ | refine ft_go mi_k234 1 24 [(5, .int 0), (4, .int x2.toInt8.toInt32), (0, .ref (mi_RO + 21)), (1, .int x2), (2, .int 0), (3, .int 3)] [.int 0] i a q r (by rfl) ?_ | refine ko_steps mi_in234 1 _ (24, [(5, .int 0), (4, .int x2.toInt8.toInt32), (0, .ref (mi_RO + 21)), (1, .int x2), (2, .int 0), (3, .int 3)], [.int 0], (0, 0), ks i a q r) (by rfl) ?_
    exact ft_ret mi_k234 (by rfl) (hP 0 (op74 c7 hp0.2 s1.1 s1.2 kop40 kop0))
set_option maxRecDepth 100000 in
theorem ke233_1000021_l10_l23 {i : Nat → Int32} {a : Nat → List Int32} {q : Nat → List Int64} {r : Nat → Nat} (hI : kI i a q) (hr : kr r) (x2 : Int32) (hp0 : ((0 : Int) ≤ x2.toInt) ∧ (x2.toInt ≤ 255)) : km 3 233 [.ref (mi_RO + 21), .int x2, .int 0, .int 3] (ks i a q r) (kPI (ks i a q r) (fun v => (((-1) : Int) ≤ v.toInt) ∧ (v.toInt ≤ 2) ∧ (((x2.toInt = 40) → (v.toInt = 0))) ∧ (((x2.toInt = 33) → (v.toInt = 1))) ∧ (((x2.toInt = 45) → (v.toInt = 2))) ∧ (((v.toInt = 0) → (x2.toInt = 40))) ∧ (((v.toInt = 1) → (x2.toInt = 33))) ∧ (((v.toInt = 2) → (x2.toInt = 45))) ∧ ((v.toInt = (-1)) ∨ (x2.toInt = 40) ∨ (x2.toInt = 33) ∨ (x2.toInt = 45)))) := by
  have hG := kG_self kW0 hI hr
  refine km_ofPI (q := (mi_h233, mi_c233)) rfl (by decide) (Nat.le_of_ble_eq_true rfl) ?_
  intro P hP
  first | refine fo_goL mi_k233 fz233_0_1_1 [(0, .ref (mi_RO + 21)), (1, .int x2), (2, .int 0), (3, .int 3)] [.int x2] (by rfl) ?_ | refine ft_go mi_k233 1 1 [(0, .ref (mi_RO + 21)), (1, .int x2), (2, .int 0), (3, .int 3)] [.int x2] i a q r (by rfl) ?_ | refine ko_steps mi_in233 1 _ (1, [(0, .ref (mi_RO + 21)), (1, .int x2), (2, .int 0), (3, .int 3)], [.int x2], (0, 0), ks i a q r) (by rfl) ?_
  refine ko_callPI mi_k233.1 (pc := 1) (ls := [(0, .ref (mi_RO + 21)), (1, .int x2), (2, .int 0), (3, .int 3)]) (st := [.int x2]) (h := ks i a q r) (i := (.invokestatic 88, 3, 232, 0, 9, 0, 195)) (mi_k233.2 _ _ (by rfl)) (ft_invS mi_pq232 (by rfl)) (cy := mi_c232) mi_pq232 rfl (ke232 hG.I hG.R x2) (by decide) ?_
  intro vg1 hg1
  rcases hg1 with ⟨eg1, hg1⟩ | ⟨eg1, hg1⟩
  ·
    subst eg1
    first | refine ft_goS mi_k233 4 14 [.int (bif decide ((0 : Int32) < 0) then 0 else 0)] (by rfl) ?_ | refine ft_go mi_k233 4 14 [(0, .ref (mi_RO + 21)), (1, .int x2), (2, .int 0), (3, .int 3)] [.int (bif decide ((0 : Int32) < 0) then 0 else 0)] i a q r (by rfl) ?_ | refine ko_steps mi_in233 4 _ (14, [(0, .ref (mi_RO + 21)), (1, .int x2), (2, .int 0), (3, .int 3)], [.int (bif decide ((0 : Int32) < 0) then 0 else 0)], (0, 0), ks i a q r) (by rfl) ?_
    refine ko_top (by decide : (bif decide ((0 : Int32) < 0) then 0 else 0 : Int32) = 0) ?_
    first | refine ft_goL mi_k233 5 21 [(2, .int 0), (0, .ref (mi_RO + 21)), (1, .int x2), (3, .int 3)] [.int (bif decide ((3 : Int32) < 3) then 3 else 3)] (by rfl) ?_ | refine ft_go mi_k233 5 21 [(2, .int 0), (0, .ref (mi_RO + 21)), (1, .int x2), (3, .int 3)] [.int (bif decide ((3 : Int32) < 3) then 3 else 3)] i a q r (by rfl) ?_ | refine ko_steps mi_in233 5 _ (21, [(2, .int 0), (0, .ref (mi_RO + 21)), (1, .int x2), (3, .int 3)], [.int (bif decide ((3 : Int32) < 3) then 3 else 3)], (0, 0), ks i a q r) (by rfl) ?_
    refine ko_top (by decide : (bif decide ((3 : Int32) < 3) then 3 else 3 : Int32) = 3) ?_
    first | refine ft_goL mi_k233 8 33 [(3, .int 3), (2, .int 0), (0, .ref (mi_RO + 21)), (1, .int x2)] [.int 3, .int 0, .int x2, .ref (mi_RO + 21)] (by rfl) ?_ | refine ft_go mi_k233 8 33 [(3, .int 3), (2, .int 0), (0, .ref (mi_RO + 21)), (1, .int x2)] [.int 3, .int 0, .int x2, .ref (mi_RO + 21)] i a q r (by rfl) ?_ | refine ko_steps mi_in233 8 _ (33, [(3, .int 3), (2, .int 0), (0, .ref (mi_RO + 21)), (1, .int x2)], [.int 3, .int 0, .int x2, .ref (mi_RO + 21)], (0, 0), ks i a q r) (by rfl) ?_
    refine ko_callPI mi_k233.1 (pc := 33) (ls := [(3, .int 3), (2, .int 0), (0, .ref (mi_RO + 21)), (1, .int x2)]) (st := [.int 3, .int 0, .int x2, .ref (mi_RO + 21)]) (h := ks i a q r) (i := (.invokestatic 95, 3, 234, 0, 9, 0, 198)) (mi_k233.2 _ _ (by rfl)) (ft_invS mi_pq234 (by rfl)) (cy := mi_c234) mi_pq234 rfl (ke234_1000021_l10_l23 hG.I hG.R x2 (op53 hp0.1 hp0.2)) (by decide) ?_
    intro vg3 hg3
    have z4 : (((-1) : Int) ≤ vg3.toInt) ∧ (vg3.toInt ≤ 2) ∧ (((x2.toInt = 40) → (vg3.toInt = 0))) ∧ (((x2.toInt = 33) → (vg3.toInt = 1))) ∧ (((x2.toInt = 45) → (vg3.toInt = 2))) ∧ (((vg3.toInt = 0) → (x2.toInt = 40))) ∧ (((vg3.toInt = 1) → (x2.toInt = 33))) ∧ (((vg3.toInt = 2) → (x2.toInt = 45))) ∧ ((vg3.toInt = (-1)) ∨ (x2.toInt = 40) ∨ (x2.toInt = 33) ∨ (x2.toInt = 45)) := hg3
    exact ft_ret mi_k233 (by rfl) (hP vg3 (op75 z4.1 z4.2.1 z4.2.2.1 z4.2.2.2.1 z4.2.2.2.2.1 z4.2.2.2.2.2.1 z4.2.2.2.2.2.2.1 z4.2.2.2.2.2.2.2.1 z4.2.2.2.2.2.2.2.2))
  ·
    subst eg1
    have z5 : ¬ (((0 : Int) ≤ x2.toInt) ∧ (x2.toInt ≤ 255)) := hg1
    exact (op55 hp0.1 hp0.2 z5).elim
set_option maxRecDepth 100000 in
theorem ke229_1000011_l10 {i : Nat → Int32} {a : Nat → List Int32} {q : Nat → List Int64} {r : Nat → Nat} (hI : kI i a q) (hr : kr r) (x1 : Int32) (hp0 : ((0 : Int) ≤ x1.toInt) ∧ (x1.toInt ≤ 255)) : km 5 229 [.ref (mi_RO + 11), .int x1, .int 0] (ks i a q r) (kPI (ks i a q r) (fun v => (((-1) : Int) ≤ v.toInt) ∧ (v.toInt ≤ 2) ∧ (((x1.toInt = 40) → (v.toInt = 0))) ∧ (((x1.toInt = 33) → (v.toInt = 1))) ∧ (((x1.toInt = 45) → (v.toInt = 2))) ∧ (((v.toInt = 0) → (x1.toInt = 40))) ∧ (((v.toInt = 1) → (x1.toInt = 33))) ∧ (((v.toInt = 2) → (x1.toInt = 45))) ∧ ((v.toInt = (-1)) ∨ (x1.toInt = 40) ∨ (x1.toInt = 33) ∨ (x1.toInt = 45)))) := by
  have hG := kG_self kW0 hI hr
  refine km_ofPI (q := (mi_h229, mi_c229)) rfl (by decide) (Nat.le_of_ble_eq_true rfl) ?_
  intro P hP
  first | refine fo_goL mi_k229 fz229_0_1_1 [(0, .ref (mi_RO + 11)), (1, .int x1), (2, .int 0)] [.ref (mi_RO + 11)] (by rfl) ?_ | refine ft_go mi_k229 1 1 [(0, .ref (mi_RO + 11)), (1, .int x1), (2, .int 0)] [.ref (mi_RO + 11)] i a q r (by rfl) ?_
  refine ko_callPI mi_k229.1 (pc := 1) (ls := [(0, .ref (mi_RO + 11)), (1, .int x1), (2, .int 0)]) (st := [.ref (mi_RO + 11)]) (h := ks i a q r) (i := (.invokevirtual 492, 3, 231, 0, 9, 0, 192)) (mi_k229.2 _ _ (by rfl)) (ft_invS mi_pq231 (by rfl)) (cy := mi_c231) mi_pq231 rfl (kc231_S11 hG.I hG.R ) (by decide) ?_
  intro vg1 hg1
  rcases hg1 with ⟨eg1, hg1⟩ | ⟨eg1, hg1⟩
  ·
    subst eg1
    first | refine ft_goS mi_k229 6 14 [.ref (mi_RO + 11), .int 0, .int x1, .ref (mi_RO + 21)] (by rfl) ?_ | refine ft_go mi_k229 6 14 [(0, .ref (mi_RO + 11)), (1, .int x1), (2, .int 0)] [.ref (mi_RO + 11), .int 0, .int x1, .ref (mi_RO + 21)] i a q r (by rfl) ?_
    refine ko_callPI mi_k229.1 (pc := 14) (ls := [(0, .ref (mi_RO + 11)), (1, .int x1), (2, .int 0)]) (st := [.ref (mi_RO + 11), .int 0, .int x1, .ref (mi_RO + 21)]) (h := ks i a q r) (i := (.invokevirtual 505, 3, 227, 0, 9, 0, 193)) (mi_k229.2 _ _ (by rfl)) (ft_invS mi_pq227 (by rfl)) (cy := mi_c227) mi_pq227 rfl (ke227_1000011 hG.I hG.R ) (by decide) ?_
    intro vg2 hg2
    have z3 : vg2.toInt = 3 := hg2
    refine ko_eq (x1 := (17, [(0, .ref (mi_RO + 11)), (1, .int x1), (2, .int 0)], [.int 3, .int 0, .int x1, .ref (mi_RO + 21)], (0, 0), ks i a q r)) (by rw [(kj_eq (op70 z3) (by decide) : vg2 = 3)]) ?_
    refine ko_callPI mi_k229.1 (pc := 17) (ls := [(0, .ref (mi_RO + 11)), (1, .int x1), (2, .int 0)]) (st := [.int 3, .int 0, .int x1, .ref (mi_RO + 21)]) (h := ks i a q r) (i := (.invokestatic 637, 3, 233, 0, 9, 0, 194)) (mi_k229.2 _ _ (by rfl)) (ft_invS mi_pq233 (by rfl)) (cy := mi_c233) mi_pq233 rfl (ke233_1000021_l10_l23 hG.I hG.R x1 (op53 hp0.1 hp0.2)) (by decide) ?_
    intro vg4 hg4
    have z5 : (((-1) : Int) ≤ vg4.toInt) ∧ (vg4.toInt ≤ 2) ∧ (((x1.toInt = 40) → (vg4.toInt = 0))) ∧ (((x1.toInt = 33) → (vg4.toInt = 1))) ∧ (((x1.toInt = 45) → (vg4.toInt = 2))) ∧ (((vg4.toInt = 0) → (x1.toInt = 40))) ∧ (((vg4.toInt = 1) → (x1.toInt = 33))) ∧ (((vg4.toInt = 2) → (x1.toInt = 45))) ∧ ((vg4.toInt = (-1)) ∨ (x1.toInt = 40) ∨ (x1.toInt = 33) ∨ (x1.toInt = 45)) := hg4
    first | refine fo_goS mi_k229 fz229_20_1_36 [.int vg4] (by rfl) ?_ | refine ft_go mi_k229 1 36 [(0, .ref (mi_RO + 11)), (1, .int x1), (2, .int 0)] [.int vg4] i a q r (by rfl) ?_
    exact ft_ret mi_k229 (by rfl) (hP vg4 (op75 z5.1 z5.2.1 z5.2.2.1 z5.2.2.2.1 z5.2.2.2.2.1 z5.2.2.2.2.2.1 z5.2.2.2.2.2.2.1 z5.2.2.2.2.2.2.2.1 z5.2.2.2.2.2.2.2.2))
  ·
    subst eg1
    have z6 : (2 : Int) ≤ 1 := hg1
    exact (op56 z6).elim
set_option maxRecDepth 100000 in
theorem ke228_1000011 {i : Nat → Int32} {a : Nat → List Int32} {q : Nat → List Int64} {r : Nat → Nat} (hI : kI i a q) (hr : kr r) (x1 : Int32) (hp0 : ((0 : Int) ≤ x1.toInt) ∧ (x1.toInt ≤ 255)) : km 7 228 [.ref (mi_RO + 11), .int x1] (ks i a q r) (kPI (ks i a q r) (fun v => (((-1) : Int) ≤ v.toInt) ∧ (v.toInt ≤ 2) ∧ (((x1.toInt = 40) → (v.toInt = 0))) ∧ (((x1.toInt = 33) → (v.toInt = 1))) ∧ (((x1.toInt = 45) → (v.toInt = 2))) ∧ (((v.toInt = 0) → (x1.toInt = 40))) ∧ (((v.toInt = 1) → (x1.toInt = 33))) ∧ (((v.toInt = 2) → (x1.toInt = 45))) ∧ ((v.toInt = (-1)) ∨ (x1.toInt = 40) ∨ (x1.toInt = 33) ∨ (x1.toInt = 45)))) := by
  have hG := kG_self kW0 hI hr
  refine km_ofPI (q := (mi_h228, mi_c228)) rfl (by decide) (Nat.le_of_ble_eq_true rfl) ?_
  intro P hP
  first | refine fo_goL mi_k228 fz228_0_3_3 [(0, .ref (mi_RO + 11)), (1, .int x1)] [.int 0, .int x1, .ref (mi_RO + 11)] (by rfl) ?_ | refine ft_go mi_k228 3 3 [(0, .ref (mi_RO + 11)), (1, .int x1)] [.int 0, .int x1, .ref (mi_RO + 11)] i a q r (by rfl) ?_
  refine ko_callPI mi_k228.1 (pc := 3) (ls := [(0, .ref (mi_RO + 11)), (1, .int x1)]) (st := [.int 0, .int x1, .ref (mi_RO + 11)]) (h := ks i a q r) (i := (.invokevirtual 633, 3, 229, 0, 9, 0, 191)) (mi_k228.2 _ _ (by rfl)) (ft_invS mi_pq229 (by rfl)) (cy := mi_c229) mi_pq229 rfl (ke229_1000011_l10 hG.I hG.R x1 (op53 hp0.1 hp0.2)) (by decide) ?_
  intro vg1 hg1
  have z2 : (((-1) : Int) ≤ vg1.toInt) ∧ (vg1.toInt ≤ 2) ∧ (((x1.toInt = 40) → (vg1.toInt = 0))) ∧ (((x1.toInt = 33) → (vg1.toInt = 1))) ∧ (((x1.toInt = 45) → (vg1.toInt = 2))) ∧ (((vg1.toInt = 0) → (x1.toInt = 40))) ∧ (((vg1.toInt = 1) → (x1.toInt = 33))) ∧ (((vg1.toInt = 2) → (x1.toInt = 45))) ∧ ((vg1.toInt = (-1)) ∨ (x1.toInt = 40) ∨ (x1.toInt = 33) ∨ (x1.toInt = 45)) := hg1
  exact ft_ret mi_k228 (by rfl) (hP vg1 (op75 z2.1 z2.2.1 z2.2.2.1 z2.2.2.2.1 z2.2.2.2.2.1 z2.2.2.2.2.2.1 z2.2.2.2.2.2.2.1 z2.2.2.2.2.2.2.2.1 z2.2.2.2.2.2.2.2.2))
def yw47_98_1000011 : kW := ([6274], [], [], [])
set_option maxRecDepth 100000 in
theorem ke47_98_1000011 {i : Nat → Int32} {a : Nat → List Int32} {q : Nat → List Int64} {r : Nat → Nat} (hI : kI i a q) (hr : kr r) (t : List Int32) (nn : Int32) (hT : a 99 = t) (hN : i 6273 = nn) (hX : kBy t) : km 9 47 [.ref 98, .ref (mi_RO + 11)] (ks i a q r) (kVI yw47_98_1000011 i a q r (fun v i1 a1 q1 r1 => (((v.toInt = (-1)) ∧ ((i1 6274).toInt = (i 6274).toInt)) ∨ (((i1 6274).toInt = ((i 6274).toInt + 1)) ∧ ((i 6274).toInt < (i 6273).toInt) ∧ ((i 6275).toInt = 0) ∧ ((v.toInt = 40) ∨ (v.toInt = 33) ∨ (v.toInt = 45)))) ∧ (v, i1 6274) = cOfP t nn oOpn (i 6274) (i 6275))) := by
  have hG := kG_self yw47_98_1000011 hI hr
  refine km_ofI (q := (mi_h47, mi_c47)) rfl (by decide) (Nat.le_of_ble_eq_true rfl) ?_
  intro P hP
  have hn1 : (i 6273).toInt = nn.toInt := congrArg Int32.toInt hN
  first | refine fo_goL mi_k47 fz47_0_1_1 [(0, .ref 98), (1, .ref (mi_RO + 11))] [.ref 98] (by rfl) ?_ | refine ft_go mi_k47 1 1 [(0, .ref 98), (1, .ref (mi_RO + 11))] [.ref 98] i a q r (by rfl) ?_
  refine ko_callPI mi_k47.1 (pc := 1) (ls := [(0, .ref 98), (1, .ref (mi_RO + 11))]) (st := [.ref 98]) (h := ks i a q r) (i := (.invokevirtual 46, 3, 45, 0, 9, 0, 184)) (mi_k47.2 _ _ (by rfl)) (ft_invS mi_pq45 (by rfl)) (cy := mi_c45) mi_pq45 rfl (ke45_98 hG.I hG.R t nn hT hN hX) (by decide) ?_
  intro vg2 hg2
  obtain ⟨hg2, og2⟩ := hg2
  have fi_6275 : ((0 : Int) ≤ (i 6275).toInt) ∧ ((i 6275).toInt ≤ 1) := hG.I.1 6275
  have fi_6274 : ((0 : Int) ≤ (i 6274).toInt) ∧ ((i 6274).toInt ≤ 120) := hG.I.1 6274
  have fi_6273 : ((0 : Int) ≤ (i 6273).toInt) ∧ ((i 6273).toInt ≤ 120) := hG.I.1 6273
  have z3 : (((-1) : Int) ≤ vg2.toInt) ∧ (vg2.toInt ≤ 255) ∧ ((vg2.toInt = (-1)) ∨ (((i 6275).toInt = 0) ∧ ((i 6274).toInt < (i 6273).toInt))) := hg2
  have q4 : vg2 = cHr t nn (i 6274) (i 6275) := og2
  have hv5 : vg2.toInt = (cHr t nn (i 6274) (i 6275)).toInt := congrArg Int32.toInt og2
  first | refine fo_goL mi_k47 fz47_4_3_7 [(2, .int vg2), (0, .ref 98), (1, .ref (mi_RO + 11))] [.int (-1), .int vg2] (by rfl) ?_ | refine ft_go mi_k47 3 7 [(2, .int vg2), (0, .ref 98), (1, .ref (mi_RO + 11))] [.int (-1), .int vg2] i a q r (by rfl) ?_
  refine ft_ifS mi_k47 (vg2 == (-1)) 19 10 [] (by rfl) (fun c => ?_) (fun c => ?_)
  ·
    have c6 : vg2.toInt = ((-1) : Int32).toInt := kd_eq c; clear c
    first | refine fo_goS mi_k47 fz47_19_1_20 [.int (-1)] (by rfl) ?_ | refine ft_go mi_k47 1 20 [(2, .int vg2), (0, .ref 98), (1, .ref (mi_RO + 11))] [.int (-1)] i a q r (by rfl) ?_
    exact ft_ret mi_k47 (by rfl) (hP (-1) _ _ _ _ hG ⟨(op68 kopm1), (ofP_n (o := oOpn) (decide_eq_false (op69 c6 hv5 kopm1)))⟩)
  ·
    have c7 : vg2.toInt ≠ ((-1) : Int32).toInt := kd_eqF c; clear c
    have s8 : ((vg2.toUInt32 % 65536).toInt32).toInt = vg2.toInt := kd_i2c (op39 c7 z3.1 kopm1) (Int.le_trans (op40 z3.2.1) (by decide))
    first | refine ft_goS mi_k47 3 13 [.int ((vg2.toUInt32 % 65536).toInt32), .ref (mi_RO + 11)] (by rfl) ?_ | refine ft_go mi_k47 3 13 [(2, .int vg2), (0, .ref 98), (1, .ref (mi_RO + 11))] [.int ((vg2.toUInt32 % 65536).toInt32), .ref (mi_RO + 11)] i a q r (by rfl) ?_
    refine ko_callPI mi_k47.1 (pc := 13) (ls := [(2, .int vg2), (0, .ref 98), (1, .ref (mi_RO + 11))]) (st := [.int ((vg2.toUInt32 % 65536).toInt32), .ref (mi_RO + 11)]) (h := ks i a q r) (i := (.invokevirtual 50, 3, 228, 0, 9, 0, 190)) (mi_k47.2 _ _ (by rfl)) (ft_invS mi_pq228 (by rfl)) (cy := mi_c228) mi_pq228 rfl (ke228_1000011 hG.I hG.R ((vg2.toUInt32 % 65536).toInt32) (op57 c7 s8 z3.1 z3.2.1 kopm1)) (by decide) ?_
    intro vg9 hg9
    have z10 : (((-1) : Int) ≤ vg9.toInt) ∧ (vg9.toInt ≤ 2) ∧ (((((vg2.toUInt32 % 65536).toInt32).toInt = 40) → (vg9.toInt = 0))) ∧ (((((vg2.toUInt32 % 65536).toInt32).toInt = 33) → (vg9.toInt = 1))) ∧ (((((vg2.toUInt32 % 65536).toInt32).toInt = 45) → (vg9.toInt = 2))) ∧ (((vg9.toInt = 0) → (((vg2.toUInt32 % 65536).toInt32).toInt = 40))) ∧ (((vg9.toInt = 1) → (((vg2.toUInt32 % 65536).toInt32).toInt = 33))) ∧ (((vg9.toInt = 2) → (((vg2.toUInt32 % 65536).toInt32).toInt = 45))) ∧ ((vg9.toInt = (-1)) ∨ (((vg2.toUInt32 % 65536).toInt32).toInt = 40) ∨ (((vg2.toUInt32 % 65536).toInt32).toInt = 33) ∨ (((vg2.toUInt32 % 65536).toInt32).toInt = 45)) := hg9
    refine ft_ifS mi_k47 (decide (0 ≤ vg9)) 21 19 [] (by rfl) (fun c => ?_) (fun c => ?_)
    ·
      have c11 : (0 : Int32).toInt ≤ vg9.toInt := kd_le c; clear c
      have s12 : ((i 6274) + 1).toInt = (i 6274).toInt + (1 : Int32).toInt := kd_add (op18 fi_6274.1 kop1) (op26 fi_6274.2 kop1)
      have hJ13 := kG_i hG 6274 rfl (v := ((i 6274) + 1)) ⟨(op20 fi_6274.1 s12 kop1), (op58 c7 fi_6273.2 s12 z3.1 z3.2.2 kopm1 kop1)⟩
      first | refine fo_goI mi_k47 fz47_21_7_32 [.int vg2] (ku i 6274 ((i 6274) + 1)) (by rfl) ?_ | refine ft_go mi_k47 7 32 [(2, .int vg2), (0, .ref 98), (1, .ref (mi_RO + 11))] [.int vg2] (ku i 6274 ((i 6274) + 1)) a q r (by rfl) ?_
      exact ft_ret mi_k47 (by rfl) (hP vg2 _ _ _ _ hJ13 ⟨(op76 c11 c7 fi_6275.1 s12 s8 z10.2.1 z10.2.2.1 z10.2.2.2.2.2.1 z10.2.2.2.2.2.2.1 z10.2.2.2.2.2.2.2.1 z3.1 z3.2.2 kop0 kopm1 kop1), (ofP_y (o := oOpn) (decide_eq_true (op77 c11 hv5 s8 z10.2.1 z10.2.2.1 z10.2.2.2.2.2.1 z10.2.2.2.2.2.2.1 z10.2.2.2.2.2.2.2.1 kop0)) og2)⟩)
    ·
      have c14 : vg9.toInt < (0 : Int32).toInt := kd_leF c; clear c
      first | refine fo_goS mi_k47 fz47_19_1_20 [.int (-1)] (by rfl) ?_ | refine ft_go mi_k47 1 20 [(2, .int vg2), (0, .ref 98), (1, .ref (mi_RO + 11))] [.int (-1)] i a q r (by rfl) ?_
      exact ft_ret mi_k47 (by rfl) (hP (-1) _ _ _ _ hG ⟨(op68 kopm1), (ofP_n (o := oOpn) (decide_eq_false (op78 c14 hv5 s8 z10.2.2.1 z10.2.2.2.1 z10.2.2.2.2.1 kop0)))⟩)
def yw46_98 : kW := ([6274], [], [], [])
set_option maxRecDepth 100000 in
theorem ke46_98 {i : Nat → Int32} {a : Nat → List Int32} {q : Nat → List Int64} {r : Nat → Nat} (hI : kI i a q) (hr : kr r) (x1 : Int32) (hp0 : (0 : Int) ≤ x1.toInt) (t : List Int32) (nn : Int32) (hT : a 99 = t) (hN : i 6273 = nn) (hX : kBy t) : km 3 46 [.ref 98, .int x1] (ks i a q r) (kVI yw46_98 i a q r (fun v i1 a1 q1 r1 => (((v.toInt = 1) ∧ ((i1 6274).toInt = ((i 6274).toInt + 1)) ∧ ((i 6274).toInt < (i 6273).toInt) ∧ ((i 6275).toInt = 0)) ∨ ((v.toInt = 0) ∧ ((i1 6274).toInt = (i 6274).toInt))) ∧ (v, i1 6274) = cTkP t nn x1 (i 6274) (i 6275))) := by
  have hG := kG_self yw46_98 hI hr
  refine km_ofI (q := (mi_h46, mi_c46)) rfl (by decide) (Nat.le_of_ble_eq_true rfl) ?_
  intro P hP
  have hn1 : (i 6273).toInt = nn.toInt := congrArg Int32.toInt hN
  first | refine ft_goL mi_k46 1 1 [(0, .ref 98), (1, .int x1)] [.ref 98] (by rfl) ?_ | refine ft_go mi_k46 1 1 [(0, .ref 98), (1, .int x1)] [.ref 98] i a q r (by rfl) ?_
  refine ko_callPI mi_k46.1 (pc := 1) (ls := [(0, .ref 98), (1, .int x1)]) (st := [.ref 98]) (h := ks i a q r) (i := (.invokevirtual 46, 3, 45, 0, 9, 0, 184)) (mi_k46.2 _ _ (by rfl)) (ft_invS mi_pq45 (by rfl)) (cy := mi_c45) mi_pq45 rfl (ke45_98 hG.I hG.R t nn hT hN hX) (by decide) ?_
  intro vg2 hg2
  obtain ⟨hg2, og2⟩ := hg2
  have fi_6275 : ((0 : Int) ≤ (i 6275).toInt) ∧ ((i 6275).toInt ≤ 1) := hG.I.1 6275
  have fi_6274 : ((0 : Int) ≤ (i 6274).toInt) ∧ ((i 6274).toInt ≤ 120) := hG.I.1 6274
  have fi_6273 : ((0 : Int) ≤ (i 6273).toInt) ∧ ((i 6273).toInt ≤ 120) := hG.I.1 6273
  have z3 : (((-1) : Int) ≤ vg2.toInt) ∧ (vg2.toInt ≤ 255) ∧ ((vg2.toInt = (-1)) ∨ (((i 6275).toInt = 0) ∧ ((i 6274).toInt < (i 6273).toInt))) := hg2
  have q4 : vg2 = cHr t nn (i 6274) (i 6275) := og2
  have hv5 : vg2.toInt = (cHr t nn (i 6274) (i 6275)).toInt := congrArg Int32.toInt og2
  first | refine ft_goS mi_k46 1 5 [.int x1, .int vg2] (by rfl) ?_ | refine ft_go mi_k46 1 5 [(0, .ref 98), (1, .int x1)] [.int x1, .int vg2] i a q r (by rfl) ?_
  refine ft_ifS mi_k46 (vg2 == x1) 10 8 [] (by rfl) (fun c => ?_) (fun c => ?_)
  ·
    have c6 : vg2.toInt = x1.toInt := kd_eq c; clear c
    have s7 : ((i 6274) + 1).toInt = (i 6274).toInt + (1 : Int32).toInt := kd_add (op18 fi_6274.1 kop1) (op26 fi_6274.2 kop1)
    have hJ8 := kG_i hG 6274 rfl (v := ((i 6274) + 1)) ⟨(op20 fi_6274.1 s7 kop1), (op89 c6 fi_6273.2 hp0 s7 z3.2.2 kop1)⟩
    first | refine fo_goI mi_k46 fz46_10_7_21 [.int 1] (ku i 6274 ((i 6274) + 1)) (by rfl) ?_ | refine ft_go mi_k46 7 21 [(0, .ref 98), (1, .int x1)] [.int 1] (ku i 6274 ((i 6274) + 1)) a q r (by rfl) ?_
    exact ft_ret mi_k46 (by rfl) (hP 1 _ _ _ _ hJ8 ⟨(op90 c6 fi_6275.1 hp0 s7 z3.2.2 kop1), (tkP_y (op91 c6 hv5))⟩)
  ·
    have c9 : vg2.toInt ≠ x1.toInt := kd_eqF c; clear c
    first | refine ft_goS mi_k46 1 9 [.int 0] (by rfl) ?_ | refine ft_go mi_k46 1 9 [(0, .ref 98), (1, .int x1)] [.int 0] i a q r (by rfl) ?_
    exact ft_ret mi_k46 (by rfl) (hP 0 _ _ _ _ hG ⟨(op92 kop0), (tkP_n (op93 c9 hv5))⟩)
set_option maxRecDepth 100000 in
theorem ke230_1000012 {i : Nat → Int32} {a : Nat → List Int32} {q : Nat → List Int64} {r : Nat → Nat} (hI : kI i a q) (hr : kr r)  : km 1 230 [.ref (mi_RO + 12)] (ks i a q r) (kPI (ks i a q r) (fun v => v.toInt = 0)) := by
  have hG := kG_self kW0 hI hr
  refine km_ofPI (q := (mi_h230, mi_c230)) rfl (by decide) (Nat.le_of_ble_eq_true rfl) ?_
  intro P hP
  first | refine ft_goL mi_k230 5 14 [(0, .ref (mi_RO + 12))] [.int 0] (by rfl) ?_ | refine ft_go mi_k230 5 14 [(0, .ref (mi_RO + 12))] [.int 0] i a q r (by rfl) ?_
  exact ft_ret mi_k230 (by rfl) (hP 0 (op41 kop0))
set_option maxRecDepth 100000 in
theorem ke227_1000012 {i : Nat → Int32} {a : Nat → List Int32} {q : Nat → List Int64} {r : Nat → Nat} (hI : kI i a q) (hr : kr r)  : km 3 227 [.ref (mi_RO + 12)] (ks i a q r) (kPI (ks i a q r) (fun v => v.toInt = 3)) := by
  have hG := kG_self kW0 hI hr
  refine km_ofPI (q := (mi_h227, mi_c227)) rfl (by decide) (Nat.le_of_ble_eq_true rfl) ?_
  intro P hP
  first | refine ft_goL mi_k227 4 6 [(0, .ref (mi_RO + 12))] [.ref (mi_RO + 12), .int 3] (by rfl) ?_ | refine ft_go mi_k227 4 6 [(0, .ref (mi_RO + 12))] [.ref (mi_RO + 12), .int 3] i a q r (by rfl) ?_ | refine ko_steps mi_in227 4 _ (6, [(0, .ref (mi_RO + 12))], [.ref (mi_RO + 12), .int 3], (0, 0), ks i a q r) (by rfl) ?_
  refine ko_callPI mi_k227.1 (pc := 6) (ls := [(0, .ref (mi_RO + 12))]) (st := [.ref (mi_RO + 12), .int 3]) (h := ks i a q r) (i := (.invokevirtual 335, 3, 230, 0, 9, 0, 32)) (mi_k227.2 _ _ (by rfl)) (ft_invS mi_pq230 (by rfl)) (cy := mi_c230) mi_pq230 rfl (ke230_1000012 hG.I hG.R ) (by decide) ?_
  intro vg1 hg1
  have z2 : vg1.toInt = 0 := hg1
  refine ko_eq (x1 := (9, [(0, .ref (mi_RO + 12))], [.int 0, .int 3], (0, 0), ks i a q r)) (by rw [(kj_eq (op41 z2) (by decide) : vg1 = 0)]) ?_
  first | refine ft_goS mi_k227 1 10 [.int ((3 : Int32) >>> ((0 : Int32) &&& 31))] (by rfl) ?_ | refine ft_go mi_k227 1 10 [(0, .ref (mi_RO + 12))] [.int ((3 : Int32) >>> ((0 : Int32) &&& 31))] i a q r (by rfl) ?_ | refine ko_steps mi_in227 1 _ (10, [(0, .ref (mi_RO + 12))], [.int ((3 : Int32) >>> ((0 : Int32) &&& 31))], (0, 0), ks i a q r) (by rfl) ?_
  refine ko_top (by decide : ((3 : Int32) >>> ((0 : Int32) &&& 31) : Int32) = 3) ?_
  exact ft_ret mi_k227 (by rfl) (hP 3 (op70 kop3))
set_option maxRecDepth 100000 in
theorem ke234_1000022_l10_l23 {i : Nat → Int32} {a : Nat → List Int32} {q : Nat → List Int64} {r : Nat → Nat} (hI : kI i a q) (hr : kr r) (x2 : Int32) (hp0 : ((0 : Int) ≤ x2.toInt) ∧ (x2.toInt ≤ 255)) : km 1 234 [.ref (mi_RO + 22), .int x2, .int 0, .int 3] (ks i a q r) (kPI (ks i a q r) (fun v => (((-1) : Int) ≤ v.toInt) ∧ (v.toInt ≤ 2) ∧ (((x2.toInt = 42) → (v.toInt = 0))) ∧ (((x2.toInt = 47) → (v.toInt = 1))) ∧ (((x2.toInt = 37) → (v.toInt = 2))) ∧ (((v.toInt = 0) → (x2.toInt = 42))) ∧ (((v.toInt = 1) → (x2.toInt = 47))) ∧ (((v.toInt = 2) → (x2.toInt = 37))) ∧ ((v.toInt = (-1)) ∨ (x2.toInt = 42) ∨ (x2.toInt = 47) ∨ (x2.toInt = 37)))) := by
  have hG := kG_self kW0 hI hr
  refine km_ofPI (q := (mi_h234, mi_c234)) rfl (by decide) (Nat.le_of_ble_eq_true rfl) ?_
  intro P hP
  have s1 : ((x2.toInt ≤ 127 → x2.toInt8.toInt32.toInt = x2.toInt)) ∧ ((128 ≤ x2.toInt → x2.toInt8.toInt32.toInt = x2.toInt - 256)) := kd_i2b (op4 hp0.1) (op40 hp0.2)
  first | refine ft_goL mi_k234 12 19 [(5, .int 0), (4, .int x2.toInt8.toInt32), (0, .ref (mi_RO + 22)), (1, .int x2), (2, .int 0), (3, .int 3)] [.int x2.toInt8.toInt32, .int 42] (by rfl) ?_ | refine ft_go mi_k234 12 19 [(5, .int 0), (4, .int x2.toInt8.toInt32), (0, .ref (mi_RO + 22)), (1, .int x2), (2, .int 0), (3, .int 3)] [.int x2.toInt8.toInt32, .int 42] i a q r (by rfl) ?_ | refine ko_steps mi_in234 12 _ (19, [(5, .int 0), (4, .int x2.toInt8.toInt32), (0, .ref (mi_RO + 22)), (1, .int x2), (2, .int 0), (3, .int 3)], [.int x2.toInt8.toInt32, .int 42], (0, 0), ks i a q r) (by rfl) ?_
  refine ft_ifS mi_k234 (42 != x2.toInt8.toInt32) 25 22 [] (by rfl) (fun c => ?_) (fun c => ?_)
  ·
    have c2 : (42 : Int32).toInt ≠ x2.toInt8.toInt32.toInt := kd_ne c; clear c
    first | refine fo_goL mi_k234 fz234_25_1_28 [(5, .int (0 + 1)), (4, .int x2.toInt8.toInt32), (0, .ref (mi_RO + 22)), (1, .int x2), (2, .int 0), (3, .int 3)] [] (by rfl) ?_ | refine ft_go mi_k234 1 28 [(5, .int (0 + 1)), (4, .int x2.toInt8.toInt32), (0, .ref (mi_RO + 22)), (1, .int x2), (2, .int 0), (3, .int 3)] [] i a q r (by rfl) ?_ | refine ko_steps mi_in234 1 _ (28, [(5, .int (0 + 1)), (4, .int x2.toInt8.toInt32), (0, .ref (mi_RO + 22)), (1, .int x2), (2, .int 0), (3, .int 3)], [], (0, 0), ks i a q r) (by rfl) ?_
    refine ko_loc (by decide : (0 + 1 : Int32) = 1) ?_
    first | refine ft_goL mi_k234 8 19 [(5, .int 1), (4, .int x2.toInt8.toInt32), (0, .ref (mi_RO + 22)), (1, .int x2), (2, .int 0), (3, .int 3)] [.int x2.toInt8.toInt32, .int 47] (by rfl) ?_ | refine ft_goS mi_k234 8 19 [.int x2.toInt8.toInt32, .int 47] (by rfl) ?_ | refine ft_go mi_k234 8 19 [(5, .int 1), (4, .int x2.toInt8.toInt32), (0, .ref (mi_RO + 22)), (1, .int x2), (2, .int 0), (3, .int 3)] [.int x2.toInt8.toInt32, .int 47] i a q r (by rfl) ?_ | refine ko_steps mi_in234 8 _ (19, [(5, .int 1), (4, .int x2.toInt8.toInt32), (0, .ref (mi_RO + 22)), (1, .int x2), (2, .int 0), (3, .int 3)], [.int x2.toInt8.toInt32, .int 47], (0, 0), ks i a q r) (by rfl) ?_
    refine ft_ifS mi_k234 (47 != x2.toInt8.toInt32) 25 22 [] (by rfl) (fun c => ?_) (fun c => ?_)
    ·
      have c3 : (47 : Int32).toInt ≠ x2.toInt8.toInt32.toInt := kd_ne c; clear c
      first | refine fo_goL mi_k234 fz234_25_1_28 [(5, .int (1 + 1)), (4, .int x2.toInt8.toInt32), (0, .ref (mi_RO + 22)), (1, .int x2), (2, .int 0), (3, .int 3)] [] (by rfl) ?_ | refine ft_go mi_k234 1 28 [(5, .int (1 + 1)), (4, .int x2.toInt8.toInt32), (0, .ref (mi_RO + 22)), (1, .int x2), (2, .int 0), (3, .int 3)] [] i a q r (by rfl) ?_ | refine ko_steps mi_in234 1 _ (28, [(5, .int (1 + 1)), (4, .int x2.toInt8.toInt32), (0, .ref (mi_RO + 22)), (1, .int x2), (2, .int 0), (3, .int 3)], [], (0, 0), ks i a q r) (by rfl) ?_
      refine ko_loc (by decide : (1 + 1 : Int32) = 2) ?_
      first | refine ft_goL mi_k234 8 19 [(5, .int 2), (4, .int x2.toInt8.toInt32), (0, .ref (mi_RO + 22)), (1, .int x2), (2, .int 0), (3, .int 3)] [.int x2.toInt8.toInt32, .int 37] (by rfl) ?_ | refine ft_goS mi_k234 8 19 [.int x2.toInt8.toInt32, .int 37] (by rfl) ?_ | refine ft_go mi_k234 8 19 [(5, .int 2), (4, .int x2.toInt8.toInt32), (0, .ref (mi_RO + 22)), (1, .int x2), (2, .int 0), (3, .int 3)] [.int x2.toInt8.toInt32, .int 37] i a q r (by rfl) ?_ | refine ko_steps mi_in234 8 _ (19, [(5, .int 2), (4, .int x2.toInt8.toInt32), (0, .ref (mi_RO + 22)), (1, .int x2), (2, .int 0), (3, .int 3)], [.int x2.toInt8.toInt32, .int 37], (0, 0), ks i a q r) (by rfl) ?_
      refine ft_ifS mi_k234 (37 != x2.toInt8.toInt32) 25 22 [] (by rfl) (fun c => ?_) (fun c => ?_)
      ·
        have c4 : (37 : Int32).toInt ≠ x2.toInt8.toInt32.toInt := kd_ne c; clear c
        first | refine fo_goL mi_k234 fz234_25_1_28 [(5, .int (2 + 1)), (4, .int x2.toInt8.toInt32), (0, .ref (mi_RO + 22)), (1, .int x2), (2, .int 0), (3, .int 3)] [] (by rfl) ?_ | refine ft_go mi_k234 1 28 [(5, .int (2 + 1)), (4, .int x2.toInt8.toInt32), (0, .ref (mi_RO + 22)), (1, .int x2), (2, .int 0), (3, .int 3)] [] i a q r (by rfl) ?_ | refine ko_steps mi_in234 1 _ (28, [(5, .int (2 + 1)), (4, .int x2.toInt8.toInt32), (0, .ref (mi_RO + 22)), (1, .int x2), (2, .int 0), (3, .int 3)], [], (0, 0), ks i a q r) (by rfl) ?_
        refine ko_loc (by decide : (2 + 1 : Int32) = 3) ?_
        first | refine ft_goL mi_k234 5 32 [(5, .int 3), (4, .int x2.toInt8.toInt32), (0, .ref (mi_RO + 22)), (1, .int x2), (2, .int 0), (3, .int 3)] [.int (-1)] (by rfl) ?_ | refine ft_goS mi_k234 5 32 [.int (-1)] (by rfl) ?_ | refine ft_go mi_k234 5 32 [(5, .int 3), (4, .int x2.toInt8.toInt32), (0, .ref (mi_RO + 22)), (1, .int x2), (2, .int 0), (3, .int 3)] [.int (-1)] i a q r (by rfl) ?_ | refine ko_steps mi_in234 5 _ (32, [(5, .int 3), (4, .int x2.toInt8.toInt32), (0, .ref (mi_RO + 22)), (1, .int x2), (2, .int 0), (3, .int 3)], [.int (-1)], (0, 0), ks i a q r) (by rfl) ?_
        exact ft_ret mi_k234 (by rfl) (hP (-1) (op108 c2 c3 c4 s1.1 kop42 kop47 kop37 kopm1))
      ·
        have c5 : (37 : Int32).toInt = x2.toInt8.toInt32.toInt := kd_neF c; clear c
        first | refine fo_goS mi_k234 fz234_22_1_24 [.int 2] (by rfl) ?_ | refine ft_go mi_k234 1 24 [(5, .int 2), (4, .int x2.toInt8.toInt32), (0, .ref (mi_RO + 22)), (1, .int x2), (2, .int 0), (3, .int 3)] [.int 2] i a q r (by rfl) ?_ | refine ko_steps mi_in234 1 _ (24, [(5, .int 2), (4, .int x2.toInt8.toInt32), (0, .ref (mi_RO + 22)), (1, .int x2), (2, .int 0), (3, .int 3)], [.int 2], (0, 0), ks i a q r) (by rfl) ?_
        exact ft_ret mi_k234 (by rfl) (hP 2 (op109 c5 hp0.2 s1.1 s1.2 kop37 kop2))
    ·
      have c6 : (47 : Int32).toInt = x2.toInt8.toInt32.toInt := kd_neF c; clear c
      first | refine fo_goS mi_k234 fz234_22_1_24 [.int 1] (by rfl) ?_ | refine ft_go mi_k234 1 24 [(5, .int 1), (4, .int x2.toInt8.toInt32), (0, .ref (mi_RO + 22)), (1, .int x2), (2, .int 0), (3, .int 3)] [.int 1] i a q r (by rfl) ?_ | refine ko_steps mi_in234 1 _ (24, [(5, .int 1), (4, .int x2.toInt8.toInt32), (0, .ref (mi_RO + 22)), (1, .int x2), (2, .int 0), (3, .int 3)], [.int 1], (0, 0), ks i a q r) (by rfl) ?_
      exact ft_ret mi_k234 (by rfl) (hP 1 (op110 c6 hp0.2 s1.1 s1.2 kop47 kop1))
  ·
    have c7 : (42 : Int32).toInt = x2.toInt8.toInt32.toInt := kd_neF c; clear c
    first | refine fo_goS mi_k234 fz234_22_1_24 [.int 0] (by rfl) ?_ | refine ft_go mi_k234 1 24 [(5, .int 0), (4, .int x2.toInt8.toInt32), (0, .ref (mi_RO + 22)), (1, .int x2), (2, .int 0), (3, .int 3)] [.int 0] i a q r (by rfl) ?_ | refine ko_steps mi_in234 1 _ (24, [(5, .int 0), (4, .int x2.toInt8.toInt32), (0, .ref (mi_RO + 22)), (1, .int x2), (2, .int 0), (3, .int 3)], [.int 0], (0, 0), ks i a q r) (by rfl) ?_
    exact ft_ret mi_k234 (by rfl) (hP 0 (op111 c7 hp0.2 s1.1 s1.2 kop42 kop0))
set_option maxRecDepth 100000 in
theorem ke233_1000022_l10_l23 {i : Nat → Int32} {a : Nat → List Int32} {q : Nat → List Int64} {r : Nat → Nat} (hI : kI i a q) (hr : kr r) (x2 : Int32) (hp0 : ((0 : Int) ≤ x2.toInt) ∧ (x2.toInt ≤ 255)) : km 3 233 [.ref (mi_RO + 22), .int x2, .int 0, .int 3] (ks i a q r) (kPI (ks i a q r) (fun v => (((-1) : Int) ≤ v.toInt) ∧ (v.toInt ≤ 2) ∧ (((x2.toInt = 42) → (v.toInt = 0))) ∧ (((x2.toInt = 47) → (v.toInt = 1))) ∧ (((x2.toInt = 37) → (v.toInt = 2))) ∧ (((v.toInt = 0) → (x2.toInt = 42))) ∧ (((v.toInt = 1) → (x2.toInt = 47))) ∧ (((v.toInt = 2) → (x2.toInt = 37))) ∧ ((v.toInt = (-1)) ∨ (x2.toInt = 42) ∨ (x2.toInt = 47) ∨ (x2.toInt = 37)))) := by
  have hG := kG_self kW0 hI hr
  refine km_ofPI (q := (mi_h233, mi_c233)) rfl (by decide) (Nat.le_of_ble_eq_true rfl) ?_
  intro P hP
  first | refine fo_goL mi_k233 fz233_0_1_1 [(0, .ref (mi_RO + 22)), (1, .int x2), (2, .int 0), (3, .int 3)] [.int x2] (by rfl) ?_ | refine ft_go mi_k233 1 1 [(0, .ref (mi_RO + 22)), (1, .int x2), (2, .int 0), (3, .int 3)] [.int x2] i a q r (by rfl) ?_ | refine ko_steps mi_in233 1 _ (1, [(0, .ref (mi_RO + 22)), (1, .int x2), (2, .int 0), (3, .int 3)], [.int x2], (0, 0), ks i a q r) (by rfl) ?_
  refine ko_callPI mi_k233.1 (pc := 1) (ls := [(0, .ref (mi_RO + 22)), (1, .int x2), (2, .int 0), (3, .int 3)]) (st := [.int x2]) (h := ks i a q r) (i := (.invokestatic 88, 3, 232, 0, 9, 0, 195)) (mi_k233.2 _ _ (by rfl)) (ft_invS mi_pq232 (by rfl)) (cy := mi_c232) mi_pq232 rfl (ke232 hG.I hG.R x2) (by decide) ?_
  intro vg1 hg1
  rcases hg1 with ⟨eg1, hg1⟩ | ⟨eg1, hg1⟩
  ·
    subst eg1
    first | refine ft_goS mi_k233 4 14 [.int (bif decide ((0 : Int32) < 0) then 0 else 0)] (by rfl) ?_ | refine ft_go mi_k233 4 14 [(0, .ref (mi_RO + 22)), (1, .int x2), (2, .int 0), (3, .int 3)] [.int (bif decide ((0 : Int32) < 0) then 0 else 0)] i a q r (by rfl) ?_ | refine ko_steps mi_in233 4 _ (14, [(0, .ref (mi_RO + 22)), (1, .int x2), (2, .int 0), (3, .int 3)], [.int (bif decide ((0 : Int32) < 0) then 0 else 0)], (0, 0), ks i a q r) (by rfl) ?_
    refine ko_top (by decide : (bif decide ((0 : Int32) < 0) then 0 else 0 : Int32) = 0) ?_
    first | refine ft_goL mi_k233 5 21 [(2, .int 0), (0, .ref (mi_RO + 22)), (1, .int x2), (3, .int 3)] [.int (bif decide ((3 : Int32) < 3) then 3 else 3)] (by rfl) ?_ | refine ft_go mi_k233 5 21 [(2, .int 0), (0, .ref (mi_RO + 22)), (1, .int x2), (3, .int 3)] [.int (bif decide ((3 : Int32) < 3) then 3 else 3)] i a q r (by rfl) ?_ | refine ko_steps mi_in233 5 _ (21, [(2, .int 0), (0, .ref (mi_RO + 22)), (1, .int x2), (3, .int 3)], [.int (bif decide ((3 : Int32) < 3) then 3 else 3)], (0, 0), ks i a q r) (by rfl) ?_
    refine ko_top (by decide : (bif decide ((3 : Int32) < 3) then 3 else 3 : Int32) = 3) ?_
    first | refine ft_goL mi_k233 8 33 [(3, .int 3), (2, .int 0), (0, .ref (mi_RO + 22)), (1, .int x2)] [.int 3, .int 0, .int x2, .ref (mi_RO + 22)] (by rfl) ?_ | refine ft_go mi_k233 8 33 [(3, .int 3), (2, .int 0), (0, .ref (mi_RO + 22)), (1, .int x2)] [.int 3, .int 0, .int x2, .ref (mi_RO + 22)] i a q r (by rfl) ?_ | refine ko_steps mi_in233 8 _ (33, [(3, .int 3), (2, .int 0), (0, .ref (mi_RO + 22)), (1, .int x2)], [.int 3, .int 0, .int x2, .ref (mi_RO + 22)], (0, 0), ks i a q r) (by rfl) ?_
    refine ko_callPI mi_k233.1 (pc := 33) (ls := [(3, .int 3), (2, .int 0), (0, .ref (mi_RO + 22)), (1, .int x2)]) (st := [.int 3, .int 0, .int x2, .ref (mi_RO + 22)]) (h := ks i a q r) (i := (.invokestatic 95, 3, 234, 0, 9, 0, 198)) (mi_k233.2 _ _ (by rfl)) (ft_invS mi_pq234 (by rfl)) (cy := mi_c234) mi_pq234 rfl (ke234_1000022_l10_l23 hG.I hG.R x2 (op53 hp0.1 hp0.2)) (by decide) ?_
    intro vg3 hg3
    have z4 : (((-1) : Int) ≤ vg3.toInt) ∧ (vg3.toInt ≤ 2) ∧ (((x2.toInt = 42) → (vg3.toInt = 0))) ∧ (((x2.toInt = 47) → (vg3.toInt = 1))) ∧ (((x2.toInt = 37) → (vg3.toInt = 2))) ∧ (((vg3.toInt = 0) → (x2.toInt = 42))) ∧ (((vg3.toInt = 1) → (x2.toInt = 47))) ∧ (((vg3.toInt = 2) → (x2.toInt = 37))) ∧ ((vg3.toInt = (-1)) ∨ (x2.toInt = 42) ∨ (x2.toInt = 47) ∨ (x2.toInt = 37)) := hg3
    exact ft_ret mi_k233 (by rfl) (hP vg3 (op112 z4.1 z4.2.1 z4.2.2.1 z4.2.2.2.1 z4.2.2.2.2.1 z4.2.2.2.2.2.1 z4.2.2.2.2.2.2.1 z4.2.2.2.2.2.2.2.1 z4.2.2.2.2.2.2.2.2))
  ·
    subst eg1
    have z5 : ¬ (((0 : Int) ≤ x2.toInt) ∧ (x2.toInt ≤ 255)) := hg1
    exact (op55 hp0.1 hp0.2 z5).elim
set_option maxRecDepth 100000 in
theorem ke229_1000012_l10 {i : Nat → Int32} {a : Nat → List Int32} {q : Nat → List Int64} {r : Nat → Nat} (hI : kI i a q) (hr : kr r) (x1 : Int32) (hp0 : ((0 : Int) ≤ x1.toInt) ∧ (x1.toInt ≤ 255)) : km 5 229 [.ref (mi_RO + 12), .int x1, .int 0] (ks i a q r) (kPI (ks i a q r) (fun v => (((-1) : Int) ≤ v.toInt) ∧ (v.toInt ≤ 2) ∧ (((x1.toInt = 42) → (v.toInt = 0))) ∧ (((x1.toInt = 47) → (v.toInt = 1))) ∧ (((x1.toInt = 37) → (v.toInt = 2))) ∧ (((v.toInt = 0) → (x1.toInt = 42))) ∧ (((v.toInt = 1) → (x1.toInt = 47))) ∧ (((v.toInt = 2) → (x1.toInt = 37))) ∧ ((v.toInt = (-1)) ∨ (x1.toInt = 42) ∨ (x1.toInt = 47) ∨ (x1.toInt = 37)))) := by
  have hG := kG_self kW0 hI hr
  refine km_ofPI (q := (mi_h229, mi_c229)) rfl (by decide) (Nat.le_of_ble_eq_true rfl) ?_
  intro P hP
  first | refine fo_goL mi_k229 fz229_0_1_1 [(0, .ref (mi_RO + 12)), (1, .int x1), (2, .int 0)] [.ref (mi_RO + 12)] (by rfl) ?_ | refine ft_go mi_k229 1 1 [(0, .ref (mi_RO + 12)), (1, .int x1), (2, .int 0)] [.ref (mi_RO + 12)] i a q r (by rfl) ?_
  refine ko_callPI mi_k229.1 (pc := 1) (ls := [(0, .ref (mi_RO + 12)), (1, .int x1), (2, .int 0)]) (st := [.ref (mi_RO + 12)]) (h := ks i a q r) (i := (.invokevirtual 492, 3, 231, 0, 9, 0, 192)) (mi_k229.2 _ _ (by rfl)) (ft_invS mi_pq231 (by rfl)) (cy := mi_c231) mi_pq231 rfl (kc231_S12 hG.I hG.R ) (by decide) ?_
  intro vg1 hg1
  rcases hg1 with ⟨eg1, hg1⟩ | ⟨eg1, hg1⟩
  ·
    subst eg1
    first | refine ft_goS mi_k229 6 14 [.ref (mi_RO + 12), .int 0, .int x1, .ref (mi_RO + 22)] (by rfl) ?_ | refine ft_go mi_k229 6 14 [(0, .ref (mi_RO + 12)), (1, .int x1), (2, .int 0)] [.ref (mi_RO + 12), .int 0, .int x1, .ref (mi_RO + 22)] i a q r (by rfl) ?_
    refine ko_callPI mi_k229.1 (pc := 14) (ls := [(0, .ref (mi_RO + 12)), (1, .int x1), (2, .int 0)]) (st := [.ref (mi_RO + 12), .int 0, .int x1, .ref (mi_RO + 22)]) (h := ks i a q r) (i := (.invokevirtual 505, 3, 227, 0, 9, 0, 193)) (mi_k229.2 _ _ (by rfl)) (ft_invS mi_pq227 (by rfl)) (cy := mi_c227) mi_pq227 rfl (ke227_1000012 hG.I hG.R ) (by decide) ?_
    intro vg2 hg2
    have z3 : vg2.toInt = 3 := hg2
    refine ko_eq (x1 := (17, [(0, .ref (mi_RO + 12)), (1, .int x1), (2, .int 0)], [.int 3, .int 0, .int x1, .ref (mi_RO + 22)], (0, 0), ks i a q r)) (by rw [(kj_eq (op70 z3) (by decide) : vg2 = 3)]) ?_
    refine ko_callPI mi_k229.1 (pc := 17) (ls := [(0, .ref (mi_RO + 12)), (1, .int x1), (2, .int 0)]) (st := [.int 3, .int 0, .int x1, .ref (mi_RO + 22)]) (h := ks i a q r) (i := (.invokestatic 637, 3, 233, 0, 9, 0, 194)) (mi_k229.2 _ _ (by rfl)) (ft_invS mi_pq233 (by rfl)) (cy := mi_c233) mi_pq233 rfl (ke233_1000022_l10_l23 hG.I hG.R x1 (op53 hp0.1 hp0.2)) (by decide) ?_
    intro vg4 hg4
    have z5 : (((-1) : Int) ≤ vg4.toInt) ∧ (vg4.toInt ≤ 2) ∧ (((x1.toInt = 42) → (vg4.toInt = 0))) ∧ (((x1.toInt = 47) → (vg4.toInt = 1))) ∧ (((x1.toInt = 37) → (vg4.toInt = 2))) ∧ (((vg4.toInt = 0) → (x1.toInt = 42))) ∧ (((vg4.toInt = 1) → (x1.toInt = 47))) ∧ (((vg4.toInt = 2) → (x1.toInt = 37))) ∧ ((vg4.toInt = (-1)) ∨ (x1.toInt = 42) ∨ (x1.toInt = 47) ∨ (x1.toInt = 37)) := hg4
    first | refine fo_goS mi_k229 fz229_20_1_36 [.int vg4] (by rfl) ?_ | refine ft_go mi_k229 1 36 [(0, .ref (mi_RO + 12)), (1, .int x1), (2, .int 0)] [.int vg4] i a q r (by rfl) ?_
    exact ft_ret mi_k229 (by rfl) (hP vg4 (op112 z5.1 z5.2.1 z5.2.2.1 z5.2.2.2.1 z5.2.2.2.2.1 z5.2.2.2.2.2.1 z5.2.2.2.2.2.2.1 z5.2.2.2.2.2.2.2.1 z5.2.2.2.2.2.2.2.2))
  ·
    subst eg1
    have z6 : (2 : Int) ≤ 1 := hg1
    exact (op56 z6).elim
set_option maxRecDepth 100000 in
theorem ke228_1000012 {i : Nat → Int32} {a : Nat → List Int32} {q : Nat → List Int64} {r : Nat → Nat} (hI : kI i a q) (hr : kr r) (x1 : Int32) (hp0 : ((0 : Int) ≤ x1.toInt) ∧ (x1.toInt ≤ 255)) : km 7 228 [.ref (mi_RO + 12), .int x1] (ks i a q r) (kPI (ks i a q r) (fun v => (((-1) : Int) ≤ v.toInt) ∧ (v.toInt ≤ 2) ∧ (((x1.toInt = 42) → (v.toInt = 0))) ∧ (((x1.toInt = 47) → (v.toInt = 1))) ∧ (((x1.toInt = 37) → (v.toInt = 2))) ∧ (((v.toInt = 0) → (x1.toInt = 42))) ∧ (((v.toInt = 1) → (x1.toInt = 47))) ∧ (((v.toInt = 2) → (x1.toInt = 37))) ∧ ((v.toInt = (-1)) ∨ (x1.toInt = 42) ∨ (x1.toInt = 47) ∨ (x1.toInt = 37)))) := by
  have hG := kG_self kW0 hI hr
  refine km_ofPI (q := (mi_h228, mi_c228)) rfl (by decide) (Nat.le_of_ble_eq_true rfl) ?_
  intro P hP
  first | refine fo_goL mi_k228 fz228_0_3_3 [(0, .ref (mi_RO + 12)), (1, .int x1)] [.int 0, .int x1, .ref (mi_RO + 12)] (by rfl) ?_ | refine ft_go mi_k228 3 3 [(0, .ref (mi_RO + 12)), (1, .int x1)] [.int 0, .int x1, .ref (mi_RO + 12)] i a q r (by rfl) ?_
  refine ko_callPI mi_k228.1 (pc := 3) (ls := [(0, .ref (mi_RO + 12)), (1, .int x1)]) (st := [.int 0, .int x1, .ref (mi_RO + 12)]) (h := ks i a q r) (i := (.invokevirtual 633, 3, 229, 0, 9, 0, 191)) (mi_k228.2 _ _ (by rfl)) (ft_invS mi_pq229 (by rfl)) (cy := mi_c229) mi_pq229 rfl (ke229_1000012_l10 hG.I hG.R x1 (op53 hp0.1 hp0.2)) (by decide) ?_
  intro vg1 hg1
  have z2 : (((-1) : Int) ≤ vg1.toInt) ∧ (vg1.toInt ≤ 2) ∧ (((x1.toInt = 42) → (vg1.toInt = 0))) ∧ (((x1.toInt = 47) → (vg1.toInt = 1))) ∧ (((x1.toInt = 37) → (vg1.toInt = 2))) ∧ (((vg1.toInt = 0) → (x1.toInt = 42))) ∧ (((vg1.toInt = 1) → (x1.toInt = 47))) ∧ (((vg1.toInt = 2) → (x1.toInt = 37))) ∧ ((vg1.toInt = (-1)) ∨ (x1.toInt = 42) ∨ (x1.toInt = 47) ∨ (x1.toInt = 37)) := hg1
  exact ft_ret mi_k228 (by rfl) (hP vg1 (op112 z2.1 z2.2.1 z2.2.2.1 z2.2.2.2.1 z2.2.2.2.2.1 z2.2.2.2.2.2.1 z2.2.2.2.2.2.2.1 z2.2.2.2.2.2.2.2.1 z2.2.2.2.2.2.2.2.2))
def yw47_98_1000012 : kW := ([6274], [], [], [])
set_option maxRecDepth 100000 in
theorem ke47_98_1000012 {i : Nat → Int32} {a : Nat → List Int32} {q : Nat → List Int64} {r : Nat → Nat} (hI : kI i a q) (hr : kr r) (t : List Int32) (nn : Int32) (hT : a 99 = t) (hN : i 6273 = nn) (hX : kBy t) : km 9 47 [.ref 98, .ref (mi_RO + 12)] (ks i a q r) (kVI yw47_98_1000012 i a q r (fun v i1 a1 q1 r1 => (((v.toInt = (-1)) ∧ ((i1 6274).toInt = (i 6274).toInt)) ∨ (((i1 6274).toInt = ((i 6274).toInt + 1)) ∧ ((i 6274).toInt < (i 6273).toInt) ∧ ((i 6275).toInt = 0) ∧ ((v.toInt = 42) ∨ (v.toInt = 47) ∨ (v.toInt = 37)))) ∧ (v, i1 6274) = cOfP t nn oMul (i 6274) (i 6275))) := by
  have hG := kG_self yw47_98_1000012 hI hr
  refine km_ofI (q := (mi_h47, mi_c47)) rfl (by decide) (Nat.le_of_ble_eq_true rfl) ?_
  intro P hP
  have hn1 : (i 6273).toInt = nn.toInt := congrArg Int32.toInt hN
  first | refine fo_goL mi_k47 fz47_0_1_1 [(0, .ref 98), (1, .ref (mi_RO + 12))] [.ref 98] (by rfl) ?_ | refine ft_go mi_k47 1 1 [(0, .ref 98), (1, .ref (mi_RO + 12))] [.ref 98] i a q r (by rfl) ?_
  refine ko_callPI mi_k47.1 (pc := 1) (ls := [(0, .ref 98), (1, .ref (mi_RO + 12))]) (st := [.ref 98]) (h := ks i a q r) (i := (.invokevirtual 46, 3, 45, 0, 9, 0, 184)) (mi_k47.2 _ _ (by rfl)) (ft_invS mi_pq45 (by rfl)) (cy := mi_c45) mi_pq45 rfl (ke45_98 hG.I hG.R t nn hT hN hX) (by decide) ?_
  intro vg2 hg2
  obtain ⟨hg2, og2⟩ := hg2
  have fi_6275 : ((0 : Int) ≤ (i 6275).toInt) ∧ ((i 6275).toInt ≤ 1) := hG.I.1 6275
  have fi_6274 : ((0 : Int) ≤ (i 6274).toInt) ∧ ((i 6274).toInt ≤ 120) := hG.I.1 6274
  have fi_6273 : ((0 : Int) ≤ (i 6273).toInt) ∧ ((i 6273).toInt ≤ 120) := hG.I.1 6273
  have z3 : (((-1) : Int) ≤ vg2.toInt) ∧ (vg2.toInt ≤ 255) ∧ ((vg2.toInt = (-1)) ∨ (((i 6275).toInt = 0) ∧ ((i 6274).toInt < (i 6273).toInt))) := hg2
  have q4 : vg2 = cHr t nn (i 6274) (i 6275) := og2
  have hv5 : vg2.toInt = (cHr t nn (i 6274) (i 6275)).toInt := congrArg Int32.toInt og2
  first | refine fo_goL mi_k47 fz47_4_3_7 [(2, .int vg2), (0, .ref 98), (1, .ref (mi_RO + 12))] [.int (-1), .int vg2] (by rfl) ?_ | refine ft_go mi_k47 3 7 [(2, .int vg2), (0, .ref 98), (1, .ref (mi_RO + 12))] [.int (-1), .int vg2] i a q r (by rfl) ?_
  refine ft_ifS mi_k47 (vg2 == (-1)) 19 10 [] (by rfl) (fun c => ?_) (fun c => ?_)
  ·
    have c6 : vg2.toInt = ((-1) : Int32).toInt := kd_eq c; clear c
    first | refine fo_goS mi_k47 fz47_19_1_20 [.int (-1)] (by rfl) ?_ | refine ft_go mi_k47 1 20 [(2, .int vg2), (0, .ref 98), (1, .ref (mi_RO + 12))] [.int (-1)] i a q r (by rfl) ?_
    exact ft_ret mi_k47 (by rfl) (hP (-1) _ _ _ _ hG ⟨(op106 kopm1), (ofP_n (o := oMul) (decide_eq_false (op107 c6 hv5 kopm1)))⟩)
  ·
    have c7 : vg2.toInt ≠ ((-1) : Int32).toInt := kd_eqF c; clear c
    have s8 : ((vg2.toUInt32 % 65536).toInt32).toInt = vg2.toInt := kd_i2c (op39 c7 z3.1 kopm1) (Int.le_trans (op40 z3.2.1) (by decide))
    first | refine ft_goS mi_k47 3 13 [.int ((vg2.toUInt32 % 65536).toInt32), .ref (mi_RO + 12)] (by rfl) ?_ | refine ft_go mi_k47 3 13 [(2, .int vg2), (0, .ref 98), (1, .ref (mi_RO + 12))] [.int ((vg2.toUInt32 % 65536).toInt32), .ref (mi_RO + 12)] i a q r (by rfl) ?_
    refine ko_callPI mi_k47.1 (pc := 13) (ls := [(2, .int vg2), (0, .ref 98), (1, .ref (mi_RO + 12))]) (st := [.int ((vg2.toUInt32 % 65536).toInt32), .ref (mi_RO + 12)]) (h := ks i a q r) (i := (.invokevirtual 50, 3, 228, 0, 9, 0, 190)) (mi_k47.2 _ _ (by rfl)) (ft_invS mi_pq228 (by rfl)) (cy := mi_c228) mi_pq228 rfl (ke228_1000012 hG.I hG.R ((vg2.toUInt32 % 65536).toInt32) (op57 c7 s8 z3.1 z3.2.1 kopm1)) (by decide) ?_
    intro vg9 hg9
    have z10 : (((-1) : Int) ≤ vg9.toInt) ∧ (vg9.toInt ≤ 2) ∧ (((((vg2.toUInt32 % 65536).toInt32).toInt = 42) → (vg9.toInt = 0))) ∧ (((((vg2.toUInt32 % 65536).toInt32).toInt = 47) → (vg9.toInt = 1))) ∧ (((((vg2.toUInt32 % 65536).toInt32).toInt = 37) → (vg9.toInt = 2))) ∧ (((vg9.toInt = 0) → (((vg2.toUInt32 % 65536).toInt32).toInt = 42))) ∧ (((vg9.toInt = 1) → (((vg2.toUInt32 % 65536).toInt32).toInt = 47))) ∧ (((vg9.toInt = 2) → (((vg2.toUInt32 % 65536).toInt32).toInt = 37))) ∧ ((vg9.toInt = (-1)) ∨ (((vg2.toUInt32 % 65536).toInt32).toInt = 42) ∨ (((vg2.toUInt32 % 65536).toInt32).toInt = 47) ∨ (((vg2.toUInt32 % 65536).toInt32).toInt = 37)) := hg9
    refine ft_ifS mi_k47 (decide (0 ≤ vg9)) 21 19 [] (by rfl) (fun c => ?_) (fun c => ?_)
    ·
      have c11 : (0 : Int32).toInt ≤ vg9.toInt := kd_le c; clear c
      have s12 : ((i 6274) + 1).toInt = (i 6274).toInt + (1 : Int32).toInt := kd_add (op18 fi_6274.1 kop1) (op26 fi_6274.2 kop1)
      have hJ13 := kG_i hG 6274 rfl (v := ((i 6274) + 1)) ⟨(op20 fi_6274.1 s12 kop1), (op58 c7 fi_6273.2 s12 z3.1 z3.2.2 kopm1 kop1)⟩
      first | refine fo_goI mi_k47 fz47_21_7_32 [.int vg2] (ku i 6274 ((i 6274) + 1)) (by rfl) ?_ | refine ft_go mi_k47 7 32 [(2, .int vg2), (0, .ref 98), (1, .ref (mi_RO + 12))] [.int vg2] (ku i 6274 ((i 6274) + 1)) a q r (by rfl) ?_
      exact ft_ret mi_k47 (by rfl) (hP vg2 _ _ _ _ hJ13 ⟨(op113 c11 c7 fi_6275.1 s12 s8 z10.2.1 z10.2.2.1 z10.2.2.2.2.2.1 z10.2.2.2.2.2.2.1 z10.2.2.2.2.2.2.2.1 z3.1 z3.2.2 kop0 kopm1 kop1), (ofP_y (o := oMul) (decide_eq_true (op114 c11 hv5 s8 z10.2.1 z10.2.2.1 z10.2.2.2.2.2.1 z10.2.2.2.2.2.2.1 z10.2.2.2.2.2.2.2.1 kop0)) og2)⟩)
    ·
      have c14 : vg9.toInt < (0 : Int32).toInt := kd_leF c; clear c
      first | refine fo_goS mi_k47 fz47_19_1_20 [.int (-1)] (by rfl) ?_ | refine ft_go mi_k47 1 20 [(2, .int vg2), (0, .ref 98), (1, .ref (mi_RO + 12))] [.int (-1)] i a q r (by rfl) ?_
      exact ft_ret mi_k47 (by rfl) (hP (-1) _ _ _ _ hG ⟨(op106 kopm1), (ofP_n (o := oMul) (decide_eq_false (op115 c14 hv5 s8 z10.2.2.1 z10.2.2.2.1 z10.2.2.2.2.1 kop0)))⟩)
set_option maxRecDepth 100000 in
theorem ke230_1000013 {i : Nat → Int32} {a : Nat → List Int32} {q : Nat → List Int64} {r : Nat → Nat} (hI : kI i a q) (hr : kr r)  : km 1 230 [.ref (mi_RO + 13)] (ks i a q r) (kPI (ks i a q r) (fun v => v.toInt = 0)) := by
  have hG := kG_self kW0 hI hr
  refine km_ofPI (q := (mi_h230, mi_c230)) rfl (by decide) (Nat.le_of_ble_eq_true rfl) ?_
  intro P hP
  first | refine ft_goL mi_k230 5 14 [(0, .ref (mi_RO + 13))] [.int 0] (by rfl) ?_ | refine ft_go mi_k230 5 14 [(0, .ref (mi_RO + 13))] [.int 0] i a q r (by rfl) ?_
  exact ft_ret mi_k230 (by rfl) (hP 0 (op41 kop0))
set_option maxRecDepth 100000 in
theorem ke227_1000013 {i : Nat → Int32} {a : Nat → List Int32} {q : Nat → List Int64} {r : Nat → Nat} (hI : kI i a q) (hr : kr r)  : km 3 227 [.ref (mi_RO + 13)] (ks i a q r) (kPI (ks i a q r) (fun v => v.toInt = 2)) := by
  have hG := kG_self kW0 hI hr
  refine km_ofPI (q := (mi_h227, mi_c227)) rfl (by decide) (Nat.le_of_ble_eq_true rfl) ?_
  intro P hP
  first | refine ft_goL mi_k227 4 6 [(0, .ref (mi_RO + 13))] [.ref (mi_RO + 13), .int 2] (by rfl) ?_ | refine ft_go mi_k227 4 6 [(0, .ref (mi_RO + 13))] [.ref (mi_RO + 13), .int 2] i a q r (by rfl) ?_ | refine ko_steps mi_in227 4 _ (6, [(0, .ref (mi_RO + 13))], [.ref (mi_RO + 13), .int 2], (0, 0), ks i a q r) (by rfl) ?_
  refine ko_callPI mi_k227.1 (pc := 6) (ls := [(0, .ref (mi_RO + 13))]) (st := [.ref (mi_RO + 13), .int 2]) (h := ks i a q r) (i := (.invokevirtual 335, 3, 230, 0, 9, 0, 32)) (mi_k227.2 _ _ (by rfl)) (ft_invS mi_pq230 (by rfl)) (cy := mi_c230) mi_pq230 rfl (ke230_1000013 hG.I hG.R ) (by decide) ?_
  intro vg1 hg1
  have z2 : vg1.toInt = 0 := hg1
  refine ko_eq (x1 := (9, [(0, .ref (mi_RO + 13))], [.int 0, .int 2], (0, 0), ks i a q r)) (by rw [(kj_eq (op41 z2) (by decide) : vg1 = 0)]) ?_
  first | refine ft_goS mi_k227 1 10 [.int ((2 : Int32) >>> ((0 : Int32) &&& 31))] (by rfl) ?_ | refine ft_go mi_k227 1 10 [(0, .ref (mi_RO + 13))] [.int ((2 : Int32) >>> ((0 : Int32) &&& 31))] i a q r (by rfl) ?_ | refine ko_steps mi_in227 1 _ (10, [(0, .ref (mi_RO + 13))], [.int ((2 : Int32) >>> ((0 : Int32) &&& 31))], (0, 0), ks i a q r) (by rfl) ?_
  refine ko_top (by decide : ((2 : Int32) >>> ((0 : Int32) &&& 31) : Int32) = 2) ?_
  exact ft_ret mi_k227 (by rfl) (hP 2 (op124 kop2))
set_option maxRecDepth 100000 in
theorem ke234_1000023_l10_l22 {i : Nat → Int32} {a : Nat → List Int32} {q : Nat → List Int64} {r : Nat → Nat} (hI : kI i a q) (hr : kr r) (x2 : Int32) (hp0 : ((0 : Int) ≤ x2.toInt) ∧ (x2.toInt ≤ 255)) : km 1 234 [.ref (mi_RO + 23), .int x2, .int 0, .int 2] (ks i a q r) (kPI (ks i a q r) (fun v => (((-1) : Int) ≤ v.toInt) ∧ (v.toInt ≤ 1) ∧ (((x2.toInt = 43) → (v.toInt = 0))) ∧ (((x2.toInt = 45) → (v.toInt = 1))) ∧ (((v.toInt = 0) → (x2.toInt = 43))) ∧ (((v.toInt = 1) → (x2.toInt = 45))) ∧ ((v.toInt = (-1)) ∨ (x2.toInt = 43) ∨ (x2.toInt = 45)))) := by
  have hG := kG_self kW0 hI hr
  refine km_ofPI (q := (mi_h234, mi_c234)) rfl (by decide) (Nat.le_of_ble_eq_true rfl) ?_
  intro P hP
  have s1 : ((x2.toInt ≤ 127 → x2.toInt8.toInt32.toInt = x2.toInt)) ∧ ((128 ≤ x2.toInt → x2.toInt8.toInt32.toInt = x2.toInt - 256)) := kd_i2b (op4 hp0.1) (op40 hp0.2)
  first | refine ft_goL mi_k234 12 19 [(5, .int 0), (4, .int x2.toInt8.toInt32), (0, .ref (mi_RO + 23)), (1, .int x2), (2, .int 0), (3, .int 2)] [.int x2.toInt8.toInt32, .int 43] (by rfl) ?_ | refine ft_go mi_k234 12 19 [(5, .int 0), (4, .int x2.toInt8.toInt32), (0, .ref (mi_RO + 23)), (1, .int x2), (2, .int 0), (3, .int 2)] [.int x2.toInt8.toInt32, .int 43] i a q r (by rfl) ?_ | refine ko_steps mi_in234 12 _ (19, [(5, .int 0), (4, .int x2.toInt8.toInt32), (0, .ref (mi_RO + 23)), (1, .int x2), (2, .int 0), (3, .int 2)], [.int x2.toInt8.toInt32, .int 43], (0, 0), ks i a q r) (by rfl) ?_
  refine ft_ifS mi_k234 (43 != x2.toInt8.toInt32) 25 22 [] (by rfl) (fun c => ?_) (fun c => ?_)
  ·
    have c2 : (43 : Int32).toInt ≠ x2.toInt8.toInt32.toInt := kd_ne c; clear c
    first | refine fo_goL mi_k234 fz234_25_1_28 [(5, .int (0 + 1)), (4, .int x2.toInt8.toInt32), (0, .ref (mi_RO + 23)), (1, .int x2), (2, .int 0), (3, .int 2)] [] (by rfl) ?_ | refine ft_go mi_k234 1 28 [(5, .int (0 + 1)), (4, .int x2.toInt8.toInt32), (0, .ref (mi_RO + 23)), (1, .int x2), (2, .int 0), (3, .int 2)] [] i a q r (by rfl) ?_ | refine ko_steps mi_in234 1 _ (28, [(5, .int (0 + 1)), (4, .int x2.toInt8.toInt32), (0, .ref (mi_RO + 23)), (1, .int x2), (2, .int 0), (3, .int 2)], [], (0, 0), ks i a q r) (by rfl) ?_
    refine ko_loc (by decide : (0 + 1 : Int32) = 1) ?_
    first | refine ft_goL mi_k234 8 19 [(5, .int 1), (4, .int x2.toInt8.toInt32), (0, .ref (mi_RO + 23)), (1, .int x2), (2, .int 0), (3, .int 2)] [.int x2.toInt8.toInt32, .int 45] (by rfl) ?_ | refine ft_goS mi_k234 8 19 [.int x2.toInt8.toInt32, .int 45] (by rfl) ?_ | refine ft_go mi_k234 8 19 [(5, .int 1), (4, .int x2.toInt8.toInt32), (0, .ref (mi_RO + 23)), (1, .int x2), (2, .int 0), (3, .int 2)] [.int x2.toInt8.toInt32, .int 45] i a q r (by rfl) ?_ | refine ko_steps mi_in234 8 _ (19, [(5, .int 1), (4, .int x2.toInt8.toInt32), (0, .ref (mi_RO + 23)), (1, .int x2), (2, .int 0), (3, .int 2)], [.int x2.toInt8.toInt32, .int 45], (0, 0), ks i a q r) (by rfl) ?_
    refine ft_ifS mi_k234 (45 != x2.toInt8.toInt32) 25 22 [] (by rfl) (fun c => ?_) (fun c => ?_)
    ·
      have c3 : (45 : Int32).toInt ≠ x2.toInt8.toInt32.toInt := kd_ne c; clear c
      first | refine fo_goL mi_k234 fz234_25_1_28 [(5, .int (1 + 1)), (4, .int x2.toInt8.toInt32), (0, .ref (mi_RO + 23)), (1, .int x2), (2, .int 0), (3, .int 2)] [] (by rfl) ?_ | refine ft_go mi_k234 1 28 [(5, .int (1 + 1)), (4, .int x2.toInt8.toInt32), (0, .ref (mi_RO + 23)), (1, .int x2), (2, .int 0), (3, .int 2)] [] i a q r (by rfl) ?_ | refine ko_steps mi_in234 1 _ (28, [(5, .int (1 + 1)), (4, .int x2.toInt8.toInt32), (0, .ref (mi_RO + 23)), (1, .int x2), (2, .int 0), (3, .int 2)], [], (0, 0), ks i a q r) (by rfl) ?_
      refine ko_loc (by decide : (1 + 1 : Int32) = 2) ?_
      first | refine ft_goL mi_k234 5 32 [(5, .int 2), (4, .int x2.toInt8.toInt32), (0, .ref (mi_RO + 23)), (1, .int x2), (2, .int 0), (3, .int 2)] [.int (-1)] (by rfl) ?_ | refine ft_goS mi_k234 5 32 [.int (-1)] (by rfl) ?_ | refine ft_go mi_k234 5 32 [(5, .int 2), (4, .int x2.toInt8.toInt32), (0, .ref (mi_RO + 23)), (1, .int x2), (2, .int 0), (3, .int 2)] [.int (-1)] i a q r (by rfl) ?_ | refine ko_steps mi_in234 5 _ (32, [(5, .int 2), (4, .int x2.toInt8.toInt32), (0, .ref (mi_RO + 23)), (1, .int x2), (2, .int 0), (3, .int 2)], [.int (-1)], (0, 0), ks i a q r) (by rfl) ?_
      exact ft_ret mi_k234 (by rfl) (hP (-1) (op125 c2 c3 s1.1 kop43 kop45 kopm1))
    ·
      have c4 : (45 : Int32).toInt = x2.toInt8.toInt32.toInt := kd_neF c; clear c
      first | refine fo_goS mi_k234 fz234_22_1_24 [.int 1] (by rfl) ?_ | refine ft_go mi_k234 1 24 [(5, .int 1), (4, .int x2.toInt8.toInt32), (0, .ref (mi_RO + 23)), (1, .int x2), (2, .int 0), (3, .int 2)] [.int 1] i a q r (by rfl) ?_ | refine ko_steps mi_in234 1 _ (24, [(5, .int 1), (4, .int x2.toInt8.toInt32), (0, .ref (mi_RO + 23)), (1, .int x2), (2, .int 0), (3, .int 2)], [.int 1], (0, 0), ks i a q r) (by rfl) ?_
      exact ft_ret mi_k234 (by rfl) (hP 1 (op126 c4 hp0.2 s1.1 s1.2 kop45 kop1))
  ·
    have c5 : (43 : Int32).toInt = x2.toInt8.toInt32.toInt := kd_neF c; clear c
    first | refine fo_goS mi_k234 fz234_22_1_24 [.int 0] (by rfl) ?_ | refine ft_go mi_k234 1 24 [(5, .int 0), (4, .int x2.toInt8.toInt32), (0, .ref (mi_RO + 23)), (1, .int x2), (2, .int 0), (3, .int 2)] [.int 0] i a q r (by rfl) ?_ | refine ko_steps mi_in234 1 _ (24, [(5, .int 0), (4, .int x2.toInt8.toInt32), (0, .ref (mi_RO + 23)), (1, .int x2), (2, .int 0), (3, .int 2)], [.int 0], (0, 0), ks i a q r) (by rfl) ?_
    exact ft_ret mi_k234 (by rfl) (hP 0 (op127 c5 hp0.2 s1.1 s1.2 kop43 kop0))
set_option maxRecDepth 100000 in
theorem ke233_1000023_l10_l22 {i : Nat → Int32} {a : Nat → List Int32} {q : Nat → List Int64} {r : Nat → Nat} (hI : kI i a q) (hr : kr r) (x2 : Int32) (hp0 : ((0 : Int) ≤ x2.toInt) ∧ (x2.toInt ≤ 255)) : km 3 233 [.ref (mi_RO + 23), .int x2, .int 0, .int 2] (ks i a q r) (kPI (ks i a q r) (fun v => (((-1) : Int) ≤ v.toInt) ∧ (v.toInt ≤ 1) ∧ (((x2.toInt = 43) → (v.toInt = 0))) ∧ (((x2.toInt = 45) → (v.toInt = 1))) ∧ (((v.toInt = 0) → (x2.toInt = 43))) ∧ (((v.toInt = 1) → (x2.toInt = 45))) ∧ ((v.toInt = (-1)) ∨ (x2.toInt = 43) ∨ (x2.toInt = 45)))) := by
  have hG := kG_self kW0 hI hr
  refine km_ofPI (q := (mi_h233, mi_c233)) rfl (by decide) (Nat.le_of_ble_eq_true rfl) ?_
  intro P hP
  first | refine fo_goL mi_k233 fz233_0_1_1 [(0, .ref (mi_RO + 23)), (1, .int x2), (2, .int 0), (3, .int 2)] [.int x2] (by rfl) ?_ | refine ft_go mi_k233 1 1 [(0, .ref (mi_RO + 23)), (1, .int x2), (2, .int 0), (3, .int 2)] [.int x2] i a q r (by rfl) ?_ | refine ko_steps mi_in233 1 _ (1, [(0, .ref (mi_RO + 23)), (1, .int x2), (2, .int 0), (3, .int 2)], [.int x2], (0, 0), ks i a q r) (by rfl) ?_
  refine ko_callPI mi_k233.1 (pc := 1) (ls := [(0, .ref (mi_RO + 23)), (1, .int x2), (2, .int 0), (3, .int 2)]) (st := [.int x2]) (h := ks i a q r) (i := (.invokestatic 88, 3, 232, 0, 9, 0, 195)) (mi_k233.2 _ _ (by rfl)) (ft_invS mi_pq232 (by rfl)) (cy := mi_c232) mi_pq232 rfl (ke232 hG.I hG.R x2) (by decide) ?_
  intro vg1 hg1
  rcases hg1 with ⟨eg1, hg1⟩ | ⟨eg1, hg1⟩
  ·
    subst eg1
    first | refine ft_goS mi_k233 4 14 [.int (bif decide ((0 : Int32) < 0) then 0 else 0)] (by rfl) ?_ | refine ft_go mi_k233 4 14 [(0, .ref (mi_RO + 23)), (1, .int x2), (2, .int 0), (3, .int 2)] [.int (bif decide ((0 : Int32) < 0) then 0 else 0)] i a q r (by rfl) ?_ | refine ko_steps mi_in233 4 _ (14, [(0, .ref (mi_RO + 23)), (1, .int x2), (2, .int 0), (3, .int 2)], [.int (bif decide ((0 : Int32) < 0) then 0 else 0)], (0, 0), ks i a q r) (by rfl) ?_
    refine ko_top (by decide : (bif decide ((0 : Int32) < 0) then 0 else 0 : Int32) = 0) ?_
    first | refine ft_goL mi_k233 5 21 [(2, .int 0), (0, .ref (mi_RO + 23)), (1, .int x2), (3, .int 2)] [.int (bif decide ((2 : Int32) < 2) then 2 else 2)] (by rfl) ?_ | refine ft_go mi_k233 5 21 [(2, .int 0), (0, .ref (mi_RO + 23)), (1, .int x2), (3, .int 2)] [.int (bif decide ((2 : Int32) < 2) then 2 else 2)] i a q r (by rfl) ?_ | refine ko_steps mi_in233 5 _ (21, [(2, .int 0), (0, .ref (mi_RO + 23)), (1, .int x2), (3, .int 2)], [.int (bif decide ((2 : Int32) < 2) then 2 else 2)], (0, 0), ks i a q r) (by rfl) ?_
    refine ko_top (by decide : (bif decide ((2 : Int32) < 2) then 2 else 2 : Int32) = 2) ?_
    first | refine ft_goL mi_k233 8 33 [(3, .int 2), (2, .int 0), (0, .ref (mi_RO + 23)), (1, .int x2)] [.int 2, .int 0, .int x2, .ref (mi_RO + 23)] (by rfl) ?_ | refine ft_go mi_k233 8 33 [(3, .int 2), (2, .int 0), (0, .ref (mi_RO + 23)), (1, .int x2)] [.int 2, .int 0, .int x2, .ref (mi_RO + 23)] i a q r (by rfl) ?_ | refine ko_steps mi_in233 8 _ (33, [(3, .int 2), (2, .int 0), (0, .ref (mi_RO + 23)), (1, .int x2)], [.int 2, .int 0, .int x2, .ref (mi_RO + 23)], (0, 0), ks i a q r) (by rfl) ?_
    refine ko_callPI mi_k233.1 (pc := 33) (ls := [(3, .int 2), (2, .int 0), (0, .ref (mi_RO + 23)), (1, .int x2)]) (st := [.int 2, .int 0, .int x2, .ref (mi_RO + 23)]) (h := ks i a q r) (i := (.invokestatic 95, 3, 234, 0, 9, 0, 198)) (mi_k233.2 _ _ (by rfl)) (ft_invS mi_pq234 (by rfl)) (cy := mi_c234) mi_pq234 rfl (ke234_1000023_l10_l22 hG.I hG.R x2 (op53 hp0.1 hp0.2)) (by decide) ?_
    intro vg3 hg3
    have z4 : (((-1) : Int) ≤ vg3.toInt) ∧ (vg3.toInt ≤ 1) ∧ (((x2.toInt = 43) → (vg3.toInt = 0))) ∧ (((x2.toInt = 45) → (vg3.toInt = 1))) ∧ (((vg3.toInt = 0) → (x2.toInt = 43))) ∧ (((vg3.toInt = 1) → (x2.toInt = 45))) ∧ ((vg3.toInt = (-1)) ∨ (x2.toInt = 43) ∨ (x2.toInt = 45)) := hg3
    exact ft_ret mi_k233 (by rfl) (hP vg3 (op128 z4.1 z4.2.1 z4.2.2.1 z4.2.2.2.1 z4.2.2.2.2.1 z4.2.2.2.2.2.1))
  ·
    subst eg1
    have z5 : ¬ (((0 : Int) ≤ x2.toInt) ∧ (x2.toInt ≤ 255)) := hg1
    exact (op55 hp0.1 hp0.2 z5).elim
set_option maxRecDepth 100000 in
theorem ke229_1000013_l10 {i : Nat → Int32} {a : Nat → List Int32} {q : Nat → List Int64} {r : Nat → Nat} (hI : kI i a q) (hr : kr r) (x1 : Int32) (hp0 : ((0 : Int) ≤ x1.toInt) ∧ (x1.toInt ≤ 255)) : km 5 229 [.ref (mi_RO + 13), .int x1, .int 0] (ks i a q r) (kPI (ks i a q r) (fun v => (((-1) : Int) ≤ v.toInt) ∧ (v.toInt ≤ 1) ∧ (((x1.toInt = 43) → (v.toInt = 0))) ∧ (((x1.toInt = 45) → (v.toInt = 1))) ∧ (((v.toInt = 0) → (x1.toInt = 43))) ∧ (((v.toInt = 1) → (x1.toInt = 45))) ∧ ((v.toInt = (-1)) ∨ (x1.toInt = 43) ∨ (x1.toInt = 45)))) := by
  have hG := kG_self kW0 hI hr
  refine km_ofPI (q := (mi_h229, mi_c229)) rfl (by decide) (Nat.le_of_ble_eq_true rfl) ?_
  intro P hP
  first | refine fo_goL mi_k229 fz229_0_1_1 [(0, .ref (mi_RO + 13)), (1, .int x1), (2, .int 0)] [.ref (mi_RO + 13)] (by rfl) ?_ | refine ft_go mi_k229 1 1 [(0, .ref (mi_RO + 13)), (1, .int x1), (2, .int 0)] [.ref (mi_RO + 13)] i a q r (by rfl) ?_
  refine ko_callPI mi_k229.1 (pc := 1) (ls := [(0, .ref (mi_RO + 13)), (1, .int x1), (2, .int 0)]) (st := [.ref (mi_RO + 13)]) (h := ks i a q r) (i := (.invokevirtual 492, 3, 231, 0, 9, 0, 192)) (mi_k229.2 _ _ (by rfl)) (ft_invS mi_pq231 (by rfl)) (cy := mi_c231) mi_pq231 rfl (kc231_S13 hG.I hG.R ) (by decide) ?_
  intro vg1 hg1
  rcases hg1 with ⟨eg1, hg1⟩ | ⟨eg1, hg1⟩
  ·
    subst eg1
    first | refine ft_goS mi_k229 6 14 [.ref (mi_RO + 13), .int 0, .int x1, .ref (mi_RO + 23)] (by rfl) ?_ | refine ft_go mi_k229 6 14 [(0, .ref (mi_RO + 13)), (1, .int x1), (2, .int 0)] [.ref (mi_RO + 13), .int 0, .int x1, .ref (mi_RO + 23)] i a q r (by rfl) ?_
    refine ko_callPI mi_k229.1 (pc := 14) (ls := [(0, .ref (mi_RO + 13)), (1, .int x1), (2, .int 0)]) (st := [.ref (mi_RO + 13), .int 0, .int x1, .ref (mi_RO + 23)]) (h := ks i a q r) (i := (.invokevirtual 505, 3, 227, 0, 9, 0, 193)) (mi_k229.2 _ _ (by rfl)) (ft_invS mi_pq227 (by rfl)) (cy := mi_c227) mi_pq227 rfl (ke227_1000013 hG.I hG.R ) (by decide) ?_
    intro vg2 hg2
    have z3 : vg2.toInt = 2 := hg2
    refine ko_eq (x1 := (17, [(0, .ref (mi_RO + 13)), (1, .int x1), (2, .int 0)], [.int 2, .int 0, .int x1, .ref (mi_RO + 23)], (0, 0), ks i a q r)) (by rw [(kj_eq (op124 z3) (by decide) : vg2 = 2)]) ?_
    refine ko_callPI mi_k229.1 (pc := 17) (ls := [(0, .ref (mi_RO + 13)), (1, .int x1), (2, .int 0)]) (st := [.int 2, .int 0, .int x1, .ref (mi_RO + 23)]) (h := ks i a q r) (i := (.invokestatic 637, 3, 233, 0, 9, 0, 194)) (mi_k229.2 _ _ (by rfl)) (ft_invS mi_pq233 (by rfl)) (cy := mi_c233) mi_pq233 rfl (ke233_1000023_l10_l22 hG.I hG.R x1 (op53 hp0.1 hp0.2)) (by decide) ?_
    intro vg4 hg4
    have z5 : (((-1) : Int) ≤ vg4.toInt) ∧ (vg4.toInt ≤ 1) ∧ (((x1.toInt = 43) → (vg4.toInt = 0))) ∧ (((x1.toInt = 45) → (vg4.toInt = 1))) ∧ (((vg4.toInt = 0) → (x1.toInt = 43))) ∧ (((vg4.toInt = 1) → (x1.toInt = 45))) ∧ ((vg4.toInt = (-1)) ∨ (x1.toInt = 43) ∨ (x1.toInt = 45)) := hg4
    first | refine fo_goS mi_k229 fz229_20_1_36 [.int vg4] (by rfl) ?_ | refine ft_go mi_k229 1 36 [(0, .ref (mi_RO + 13)), (1, .int x1), (2, .int 0)] [.int vg4] i a q r (by rfl) ?_
    exact ft_ret mi_k229 (by rfl) (hP vg4 (op128 z5.1 z5.2.1 z5.2.2.1 z5.2.2.2.1 z5.2.2.2.2.1 z5.2.2.2.2.2.1))
  ·
    subst eg1
    have z6 : (2 : Int) ≤ 1 := hg1
    exact (op56 z6).elim
set_option maxRecDepth 100000 in
theorem ke228_1000013 {i : Nat → Int32} {a : Nat → List Int32} {q : Nat → List Int64} {r : Nat → Nat} (hI : kI i a q) (hr : kr r) (x1 : Int32) (hp0 : ((0 : Int) ≤ x1.toInt) ∧ (x1.toInt ≤ 255)) : km 7 228 [.ref (mi_RO + 13), .int x1] (ks i a q r) (kPI (ks i a q r) (fun v => (((-1) : Int) ≤ v.toInt) ∧ (v.toInt ≤ 1) ∧ (((x1.toInt = 43) → (v.toInt = 0))) ∧ (((x1.toInt = 45) → (v.toInt = 1))) ∧ (((v.toInt = 0) → (x1.toInt = 43))) ∧ (((v.toInt = 1) → (x1.toInt = 45))) ∧ ((v.toInt = (-1)) ∨ (x1.toInt = 43) ∨ (x1.toInt = 45)))) := by
  have hG := kG_self kW0 hI hr
  refine km_ofPI (q := (mi_h228, mi_c228)) rfl (by decide) (Nat.le_of_ble_eq_true rfl) ?_
  intro P hP
  first | refine fo_goL mi_k228 fz228_0_3_3 [(0, .ref (mi_RO + 13)), (1, .int x1)] [.int 0, .int x1, .ref (mi_RO + 13)] (by rfl) ?_ | refine ft_go mi_k228 3 3 [(0, .ref (mi_RO + 13)), (1, .int x1)] [.int 0, .int x1, .ref (mi_RO + 13)] i a q r (by rfl) ?_
  refine ko_callPI mi_k228.1 (pc := 3) (ls := [(0, .ref (mi_RO + 13)), (1, .int x1)]) (st := [.int 0, .int x1, .ref (mi_RO + 13)]) (h := ks i a q r) (i := (.invokevirtual 633, 3, 229, 0, 9, 0, 191)) (mi_k228.2 _ _ (by rfl)) (ft_invS mi_pq229 (by rfl)) (cy := mi_c229) mi_pq229 rfl (ke229_1000013_l10 hG.I hG.R x1 (op53 hp0.1 hp0.2)) (by decide) ?_
  intro vg1 hg1
  have z2 : (((-1) : Int) ≤ vg1.toInt) ∧ (vg1.toInt ≤ 1) ∧ (((x1.toInt = 43) → (vg1.toInt = 0))) ∧ (((x1.toInt = 45) → (vg1.toInt = 1))) ∧ (((vg1.toInt = 0) → (x1.toInt = 43))) ∧ (((vg1.toInt = 1) → (x1.toInt = 45))) ∧ ((vg1.toInt = (-1)) ∨ (x1.toInt = 43) ∨ (x1.toInt = 45)) := hg1
  exact ft_ret mi_k228 (by rfl) (hP vg1 (op128 z2.1 z2.2.1 z2.2.2.1 z2.2.2.2.1 z2.2.2.2.2.1 z2.2.2.2.2.2.1))
def yw47_98_1000013 : kW := ([6274], [], [], [])
set_option maxRecDepth 100000 in
theorem ke47_98_1000013 {i : Nat → Int32} {a : Nat → List Int32} {q : Nat → List Int64} {r : Nat → Nat} (hI : kI i a q) (hr : kr r) (t : List Int32) (nn : Int32) (hT : a 99 = t) (hN : i 6273 = nn) (hX : kBy t) : km 9 47 [.ref 98, .ref (mi_RO + 13)] (ks i a q r) (kVI yw47_98_1000013 i a q r (fun v i1 a1 q1 r1 => (((v.toInt = (-1)) ∧ ((i1 6274).toInt = (i 6274).toInt)) ∨ (((i1 6274).toInt = ((i 6274).toInt + 1)) ∧ ((i 6274).toInt < (i 6273).toInt) ∧ ((i 6275).toInt = 0) ∧ ((v.toInt = 43) ∨ (v.toInt = 45)))) ∧ (v, i1 6274) = cOfP t nn oSum (i 6274) (i 6275))) := by
  have hG := kG_self yw47_98_1000013 hI hr
  refine km_ofI (q := (mi_h47, mi_c47)) rfl (by decide) (Nat.le_of_ble_eq_true rfl) ?_
  intro P hP
  have hn1 : (i 6273).toInt = nn.toInt := congrArg Int32.toInt hN
  first | refine fo_goL mi_k47 fz47_0_1_1 [(0, .ref 98), (1, .ref (mi_RO + 13))] [.ref 98] (by rfl) ?_ | refine ft_go mi_k47 1 1 [(0, .ref 98), (1, .ref (mi_RO + 13))] [.ref 98] i a q r (by rfl) ?_
  refine ko_callPI mi_k47.1 (pc := 1) (ls := [(0, .ref 98), (1, .ref (mi_RO + 13))]) (st := [.ref 98]) (h := ks i a q r) (i := (.invokevirtual 46, 3, 45, 0, 9, 0, 184)) (mi_k47.2 _ _ (by rfl)) (ft_invS mi_pq45 (by rfl)) (cy := mi_c45) mi_pq45 rfl (ke45_98 hG.I hG.R t nn hT hN hX) (by decide) ?_
  intro vg2 hg2
  obtain ⟨hg2, og2⟩ := hg2
  have fi_6275 : ((0 : Int) ≤ (i 6275).toInt) ∧ ((i 6275).toInt ≤ 1) := hG.I.1 6275
  have fi_6274 : ((0 : Int) ≤ (i 6274).toInt) ∧ ((i 6274).toInt ≤ 120) := hG.I.1 6274
  have fi_6273 : ((0 : Int) ≤ (i 6273).toInt) ∧ ((i 6273).toInt ≤ 120) := hG.I.1 6273
  have z3 : (((-1) : Int) ≤ vg2.toInt) ∧ (vg2.toInt ≤ 255) ∧ ((vg2.toInt = (-1)) ∨ (((i 6275).toInt = 0) ∧ ((i 6274).toInt < (i 6273).toInt))) := hg2
  have q4 : vg2 = cHr t nn (i 6274) (i 6275) := og2
  have hv5 : vg2.toInt = (cHr t nn (i 6274) (i 6275)).toInt := congrArg Int32.toInt og2
  first | refine fo_goL mi_k47 fz47_4_3_7 [(2, .int vg2), (0, .ref 98), (1, .ref (mi_RO + 13))] [.int (-1), .int vg2] (by rfl) ?_ | refine ft_go mi_k47 3 7 [(2, .int vg2), (0, .ref 98), (1, .ref (mi_RO + 13))] [.int (-1), .int vg2] i a q r (by rfl) ?_
  refine ft_ifS mi_k47 (vg2 == (-1)) 19 10 [] (by rfl) (fun c => ?_) (fun c => ?_)
  ·
    have c6 : vg2.toInt = ((-1) : Int32).toInt := kd_eq c; clear c
    first | refine fo_goS mi_k47 fz47_19_1_20 [.int (-1)] (by rfl) ?_ | refine ft_go mi_k47 1 20 [(2, .int vg2), (0, .ref 98), (1, .ref (mi_RO + 13))] [.int (-1)] i a q r (by rfl) ?_
    exact ft_ret mi_k47 (by rfl) (hP (-1) _ _ _ _ hG ⟨(op122 kopm1), (ofP_n (o := oSum) (decide_eq_false (op123 c6 hv5 kopm1)))⟩)
  ·
    have c7 : vg2.toInt ≠ ((-1) : Int32).toInt := kd_eqF c; clear c
    have s8 : ((vg2.toUInt32 % 65536).toInt32).toInt = vg2.toInt := kd_i2c (op39 c7 z3.1 kopm1) (Int.le_trans (op40 z3.2.1) (by decide))
    first | refine ft_goS mi_k47 3 13 [.int ((vg2.toUInt32 % 65536).toInt32), .ref (mi_RO + 13)] (by rfl) ?_ | refine ft_go mi_k47 3 13 [(2, .int vg2), (0, .ref 98), (1, .ref (mi_RO + 13))] [.int ((vg2.toUInt32 % 65536).toInt32), .ref (mi_RO + 13)] i a q r (by rfl) ?_
    refine ko_callPI mi_k47.1 (pc := 13) (ls := [(2, .int vg2), (0, .ref 98), (1, .ref (mi_RO + 13))]) (st := [.int ((vg2.toUInt32 % 65536).toInt32), .ref (mi_RO + 13)]) (h := ks i a q r) (i := (.invokevirtual 50, 3, 228, 0, 9, 0, 190)) (mi_k47.2 _ _ (by rfl)) (ft_invS mi_pq228 (by rfl)) (cy := mi_c228) mi_pq228 rfl (ke228_1000013 hG.I hG.R ((vg2.toUInt32 % 65536).toInt32) (op57 c7 s8 z3.1 z3.2.1 kopm1)) (by decide) ?_
    intro vg9 hg9
    have z10 : (((-1) : Int) ≤ vg9.toInt) ∧ (vg9.toInt ≤ 1) ∧ (((((vg2.toUInt32 % 65536).toInt32).toInt = 43) → (vg9.toInt = 0))) ∧ (((((vg2.toUInt32 % 65536).toInt32).toInt = 45) → (vg9.toInt = 1))) ∧ (((vg9.toInt = 0) → (((vg2.toUInt32 % 65536).toInt32).toInt = 43))) ∧ (((vg9.toInt = 1) → (((vg2.toUInt32 % 65536).toInt32).toInt = 45))) ∧ ((vg9.toInt = (-1)) ∨ (((vg2.toUInt32 % 65536).toInt32).toInt = 43) ∨ (((vg2.toUInt32 % 65536).toInt32).toInt = 45)) := hg9
    refine ft_ifS mi_k47 (decide (0 ≤ vg9)) 21 19 [] (by rfl) (fun c => ?_) (fun c => ?_)
    ·
      have c11 : (0 : Int32).toInt ≤ vg9.toInt := kd_le c; clear c
      have s12 : ((i 6274) + 1).toInt = (i 6274).toInt + (1 : Int32).toInt := kd_add (op18 fi_6274.1 kop1) (op26 fi_6274.2 kop1)
      have hJ13 := kG_i hG 6274 rfl (v := ((i 6274) + 1)) ⟨(op20 fi_6274.1 s12 kop1), (op58 c7 fi_6273.2 s12 z3.1 z3.2.2 kopm1 kop1)⟩
      first | refine fo_goI mi_k47 fz47_21_7_32 [.int vg2] (ku i 6274 ((i 6274) + 1)) (by rfl) ?_ | refine ft_go mi_k47 7 32 [(2, .int vg2), (0, .ref 98), (1, .ref (mi_RO + 13))] [.int vg2] (ku i 6274 ((i 6274) + 1)) a q r (by rfl) ?_
      exact ft_ret mi_k47 (by rfl) (hP vg2 _ _ _ _ hJ13 ⟨(op129 c11 c7 fi_6275.1 s12 s8 z10.2.1 z10.2.2.1 z10.2.2.2.2.1 z10.2.2.2.2.2.1 z3.1 z3.2.2 kop0 kopm1 kop1), (ofP_y (o := oSum) (decide_eq_true (op130 c11 hv5 s8 z10.2.1 z10.2.2.1 z10.2.2.2.2.1 z10.2.2.2.2.2.1 kop0)) og2)⟩)
    ·
      have c14 : vg9.toInt < (0 : Int32).toInt := kd_leF c; clear c
      first | refine fo_goS mi_k47 fz47_19_1_20 [.int (-1)] (by rfl) ?_ | refine ft_go mi_k47 1 20 [(2, .int vg2), (0, .ref 98), (1, .ref (mi_RO + 13))] [.int (-1)] i a q r (by rfl) ?_
      exact ft_ret mi_k47 (by rfl) (hP (-1) _ _ _ _ hG ⟨(op122 kopm1), (ofP_n (o := oSum) (decide_eq_false (op131 c14 hv5 s8 z10.2.2.1 z10.2.2.2.1 kop0)))⟩)
set_option maxRecDepth 100000 in
theorem ke230_1000014 {i : Nat → Int32} {a : Nat → List Int32} {q : Nat → List Int64} {r : Nat → Nat} (hI : kI i a q) (hr : kr r)  : km 1 230 [.ref (mi_RO + 14)] (ks i a q r) (kPI (ks i a q r) (fun v => v.toInt = 0)) := by
  have hG := kG_self kW0 hI hr
  refine km_ofPI (q := (mi_h230, mi_c230)) rfl (by decide) (Nat.le_of_ble_eq_true rfl) ?_
  intro P hP
  first | refine ft_goL mi_k230 5 14 [(0, .ref (mi_RO + 14))] [.int 0] (by rfl) ?_ | refine ft_go mi_k230 5 14 [(0, .ref (mi_RO + 14))] [.int 0] i a q r (by rfl) ?_
  exact ft_ret mi_k230 (by rfl) (hP 0 (op41 kop0))
set_option maxRecDepth 100000 in
theorem ke227_1000014 {i : Nat → Int32} {a : Nat → List Int32} {q : Nat → List Int64} {r : Nat → Nat} (hI : kI i a q) (hr : kr r)  : km 3 227 [.ref (mi_RO + 14)] (ks i a q r) (kPI (ks i a q r) (fun v => v.toInt = 3)) := by
  have hG := kG_self kW0 hI hr
  refine km_ofPI (q := (mi_h227, mi_c227)) rfl (by decide) (Nat.le_of_ble_eq_true rfl) ?_
  intro P hP
  first | refine ft_goL mi_k227 4 6 [(0, .ref (mi_RO + 14))] [.ref (mi_RO + 14), .int 3] (by rfl) ?_ | refine ft_go mi_k227 4 6 [(0, .ref (mi_RO + 14))] [.ref (mi_RO + 14), .int 3] i a q r (by rfl) ?_ | refine ko_steps mi_in227 4 _ (6, [(0, .ref (mi_RO + 14))], [.ref (mi_RO + 14), .int 3], (0, 0), ks i a q r) (by rfl) ?_
  refine ko_callPI mi_k227.1 (pc := 6) (ls := [(0, .ref (mi_RO + 14))]) (st := [.ref (mi_RO + 14), .int 3]) (h := ks i a q r) (i := (.invokevirtual 335, 3, 230, 0, 9, 0, 32)) (mi_k227.2 _ _ (by rfl)) (ft_invS mi_pq230 (by rfl)) (cy := mi_c230) mi_pq230 rfl (ke230_1000014 hG.I hG.R ) (by decide) ?_
  intro vg1 hg1
  have z2 : vg1.toInt = 0 := hg1
  refine ko_eq (x1 := (9, [(0, .ref (mi_RO + 14))], [.int 0, .int 3], (0, 0), ks i a q r)) (by rw [(kj_eq (op41 z2) (by decide) : vg1 = 0)]) ?_
  first | refine ft_goS mi_k227 1 10 [.int ((3 : Int32) >>> ((0 : Int32) &&& 31))] (by rfl) ?_ | refine ft_go mi_k227 1 10 [(0, .ref (mi_RO + 14))] [.int ((3 : Int32) >>> ((0 : Int32) &&& 31))] i a q r (by rfl) ?_ | refine ko_steps mi_in227 1 _ (10, [(0, .ref (mi_RO + 14))], [.int ((3 : Int32) >>> ((0 : Int32) &&& 31))], (0, 0), ks i a q r) (by rfl) ?_
  refine ko_top (by decide : ((3 : Int32) >>> ((0 : Int32) &&& 31) : Int32) = 3) ?_
  exact ft_ret mi_k227 (by rfl) (hP 3 (op70 kop3))
set_option maxRecDepth 100000 in
theorem ke234_1000024_l10_l23 {i : Nat → Int32} {a : Nat → List Int32} {q : Nat → List Int64} {r : Nat → Nat} (hI : kI i a q) (hr : kr r) (x2 : Int32) (hp0 : ((0 : Int) ≤ x2.toInt) ∧ (x2.toInt ≤ 255)) : km 1 234 [.ref (mi_RO + 24), .int x2, .int 0, .int 3] (ks i a q r) (kPI (ks i a q r) (fun v => (((-1) : Int) ≤ v.toInt) ∧ (v.toInt ≤ 2) ∧ (((x2.toInt = 60) → (v.toInt = 0))) ∧ (((x2.toInt = 61) → (v.toInt = 1))) ∧ (((x2.toInt = 62) → (v.toInt = 2))) ∧ (((v.toInt = 0) → (x2.toInt = 60))) ∧ (((v.toInt = 1) → (x2.toInt = 61))) ∧ (((v.toInt = 2) → (x2.toInt = 62))) ∧ ((v.toInt = (-1)) ∨ (x2.toInt = 60) ∨ (x2.toInt = 61) ∨ (x2.toInt = 62)))) := by
  have hG := kG_self kW0 hI hr
  refine km_ofPI (q := (mi_h234, mi_c234)) rfl (by decide) (Nat.le_of_ble_eq_true rfl) ?_
  intro P hP
  have s1 : ((x2.toInt ≤ 127 → x2.toInt8.toInt32.toInt = x2.toInt)) ∧ ((128 ≤ x2.toInt → x2.toInt8.toInt32.toInt = x2.toInt - 256)) := kd_i2b (op4 hp0.1) (op40 hp0.2)
  first | refine ft_goL mi_k234 12 19 [(5, .int 0), (4, .int x2.toInt8.toInt32), (0, .ref (mi_RO + 24)), (1, .int x2), (2, .int 0), (3, .int 3)] [.int x2.toInt8.toInt32, .int 60] (by rfl) ?_ | refine ft_go mi_k234 12 19 [(5, .int 0), (4, .int x2.toInt8.toInt32), (0, .ref (mi_RO + 24)), (1, .int x2), (2, .int 0), (3, .int 3)] [.int x2.toInt8.toInt32, .int 60] i a q r (by rfl) ?_ | refine ko_steps mi_in234 12 _ (19, [(5, .int 0), (4, .int x2.toInt8.toInt32), (0, .ref (mi_RO + 24)), (1, .int x2), (2, .int 0), (3, .int 3)], [.int x2.toInt8.toInt32, .int 60], (0, 0), ks i a q r) (by rfl) ?_
  refine ft_ifS mi_k234 (60 != x2.toInt8.toInt32) 25 22 [] (by rfl) (fun c => ?_) (fun c => ?_)
  ·
    have c2 : (60 : Int32).toInt ≠ x2.toInt8.toInt32.toInt := kd_ne c; clear c
    first | refine fo_goL mi_k234 fz234_25_1_28 [(5, .int (0 + 1)), (4, .int x2.toInt8.toInt32), (0, .ref (mi_RO + 24)), (1, .int x2), (2, .int 0), (3, .int 3)] [] (by rfl) ?_ | refine ft_go mi_k234 1 28 [(5, .int (0 + 1)), (4, .int x2.toInt8.toInt32), (0, .ref (mi_RO + 24)), (1, .int x2), (2, .int 0), (3, .int 3)] [] i a q r (by rfl) ?_ | refine ko_steps mi_in234 1 _ (28, [(5, .int (0 + 1)), (4, .int x2.toInt8.toInt32), (0, .ref (mi_RO + 24)), (1, .int x2), (2, .int 0), (3, .int 3)], [], (0, 0), ks i a q r) (by rfl) ?_
    refine ko_loc (by decide : (0 + 1 : Int32) = 1) ?_
    first | refine ft_goL mi_k234 8 19 [(5, .int 1), (4, .int x2.toInt8.toInt32), (0, .ref (mi_RO + 24)), (1, .int x2), (2, .int 0), (3, .int 3)] [.int x2.toInt8.toInt32, .int 61] (by rfl) ?_ | refine ft_goS mi_k234 8 19 [.int x2.toInt8.toInt32, .int 61] (by rfl) ?_ | refine ft_go mi_k234 8 19 [(5, .int 1), (4, .int x2.toInt8.toInt32), (0, .ref (mi_RO + 24)), (1, .int x2), (2, .int 0), (3, .int 3)] [.int x2.toInt8.toInt32, .int 61] i a q r (by rfl) ?_ | refine ko_steps mi_in234 8 _ (19, [(5, .int 1), (4, .int x2.toInt8.toInt32), (0, .ref (mi_RO + 24)), (1, .int x2), (2, .int 0), (3, .int 3)], [.int x2.toInt8.toInt32, .int 61], (0, 0), ks i a q r) (by rfl) ?_
    refine ft_ifS mi_k234 (61 != x2.toInt8.toInt32) 25 22 [] (by rfl) (fun c => ?_) (fun c => ?_)
    ·
      have c3 : (61 : Int32).toInt ≠ x2.toInt8.toInt32.toInt := kd_ne c; clear c
      first | refine fo_goL mi_k234 fz234_25_1_28 [(5, .int (1 + 1)), (4, .int x2.toInt8.toInt32), (0, .ref (mi_RO + 24)), (1, .int x2), (2, .int 0), (3, .int 3)] [] (by rfl) ?_ | refine ft_go mi_k234 1 28 [(5, .int (1 + 1)), (4, .int x2.toInt8.toInt32), (0, .ref (mi_RO + 24)), (1, .int x2), (2, .int 0), (3, .int 3)] [] i a q r (by rfl) ?_ | refine ko_steps mi_in234 1 _ (28, [(5, .int (1 + 1)), (4, .int x2.toInt8.toInt32), (0, .ref (mi_RO + 24)), (1, .int x2), (2, .int 0), (3, .int 3)], [], (0, 0), ks i a q r) (by rfl) ?_
      refine ko_loc (by decide : (1 + 1 : Int32) = 2) ?_
      first | refine ft_goL mi_k234 8 19 [(5, .int 2), (4, .int x2.toInt8.toInt32), (0, .ref (mi_RO + 24)), (1, .int x2), (2, .int 0), (3, .int 3)] [.int x2.toInt8.toInt32, .int 62] (by rfl) ?_ | refine ft_goS mi_k234 8 19 [.int x2.toInt8.toInt32, .int 62] (by rfl) ?_ | refine ft_go mi_k234 8 19 [(5, .int 2), (4, .int x2.toInt8.toInt32), (0, .ref (mi_RO + 24)), (1, .int x2), (2, .int 0), (3, .int 3)] [.int x2.toInt8.toInt32, .int 62] i a q r (by rfl) ?_ | refine ko_steps mi_in234 8 _ (19, [(5, .int 2), (4, .int x2.toInt8.toInt32), (0, .ref (mi_RO + 24)), (1, .int x2), (2, .int 0), (3, .int 3)], [.int x2.toInt8.toInt32, .int 62], (0, 0), ks i a q r) (by rfl) ?_
      refine ft_ifS mi_k234 (62 != x2.toInt8.toInt32) 25 22 [] (by rfl) (fun c => ?_) (fun c => ?_)
      ·
        have c4 : (62 : Int32).toInt ≠ x2.toInt8.toInt32.toInt := kd_ne c; clear c
        first | refine fo_goL mi_k234 fz234_25_1_28 [(5, .int (2 + 1)), (4, .int x2.toInt8.toInt32), (0, .ref (mi_RO + 24)), (1, .int x2), (2, .int 0), (3, .int 3)] [] (by rfl) ?_ | refine ft_go mi_k234 1 28 [(5, .int (2 + 1)), (4, .int x2.toInt8.toInt32), (0, .ref (mi_RO + 24)), (1, .int x2), (2, .int 0), (3, .int 3)] [] i a q r (by rfl) ?_ | refine ko_steps mi_in234 1 _ (28, [(5, .int (2 + 1)), (4, .int x2.toInt8.toInt32), (0, .ref (mi_RO + 24)), (1, .int x2), (2, .int 0), (3, .int 3)], [], (0, 0), ks i a q r) (by rfl) ?_
        refine ko_loc (by decide : (2 + 1 : Int32) = 3) ?_
        first | refine ft_goL mi_k234 5 32 [(5, .int 3), (4, .int x2.toInt8.toInt32), (0, .ref (mi_RO + 24)), (1, .int x2), (2, .int 0), (3, .int 3)] [.int (-1)] (by rfl) ?_ | refine ft_goS mi_k234 5 32 [.int (-1)] (by rfl) ?_ | refine ft_go mi_k234 5 32 [(5, .int 3), (4, .int x2.toInt8.toInt32), (0, .ref (mi_RO + 24)), (1, .int x2), (2, .int 0), (3, .int 3)] [.int (-1)] i a q r (by rfl) ?_ | refine ko_steps mi_in234 5 _ (32, [(5, .int 3), (4, .int x2.toInt8.toInt32), (0, .ref (mi_RO + 24)), (1, .int x2), (2, .int 0), (3, .int 3)], [.int (-1)], (0, 0), ks i a q r) (by rfl) ?_
        exact ft_ret mi_k234 (by rfl) (hP (-1) (op134 c2 c3 c4 s1.1 kop60 kop61 kop62 kopm1))
      ·
        have c5 : (62 : Int32).toInt = x2.toInt8.toInt32.toInt := kd_neF c; clear c
        first | refine fo_goS mi_k234 fz234_22_1_24 [.int 2] (by rfl) ?_ | refine ft_go mi_k234 1 24 [(5, .int 2), (4, .int x2.toInt8.toInt32), (0, .ref (mi_RO + 24)), (1, .int x2), (2, .int 0), (3, .int 3)] [.int 2] i a q r (by rfl) ?_ | refine ko_steps mi_in234 1 _ (24, [(5, .int 2), (4, .int x2.toInt8.toInt32), (0, .ref (mi_RO + 24)), (1, .int x2), (2, .int 0), (3, .int 3)], [.int 2], (0, 0), ks i a q r) (by rfl) ?_
        exact ft_ret mi_k234 (by rfl) (hP 2 (op135 c5 hp0.2 s1.1 s1.2 kop62 kop2))
    ·
      have c6 : (61 : Int32).toInt = x2.toInt8.toInt32.toInt := kd_neF c; clear c
      first | refine fo_goS mi_k234 fz234_22_1_24 [.int 1] (by rfl) ?_ | refine ft_go mi_k234 1 24 [(5, .int 1), (4, .int x2.toInt8.toInt32), (0, .ref (mi_RO + 24)), (1, .int x2), (2, .int 0), (3, .int 3)] [.int 1] i a q r (by rfl) ?_ | refine ko_steps mi_in234 1 _ (24, [(5, .int 1), (4, .int x2.toInt8.toInt32), (0, .ref (mi_RO + 24)), (1, .int x2), (2, .int 0), (3, .int 3)], [.int 1], (0, 0), ks i a q r) (by rfl) ?_
      exact ft_ret mi_k234 (by rfl) (hP 1 (op136 c6 hp0.2 s1.1 s1.2 kop61 kop1))
  ·
    have c7 : (60 : Int32).toInt = x2.toInt8.toInt32.toInt := kd_neF c; clear c
    first | refine fo_goS mi_k234 fz234_22_1_24 [.int 0] (by rfl) ?_ | refine ft_go mi_k234 1 24 [(5, .int 0), (4, .int x2.toInt8.toInt32), (0, .ref (mi_RO + 24)), (1, .int x2), (2, .int 0), (3, .int 3)] [.int 0] i a q r (by rfl) ?_ | refine ko_steps mi_in234 1 _ (24, [(5, .int 0), (4, .int x2.toInt8.toInt32), (0, .ref (mi_RO + 24)), (1, .int x2), (2, .int 0), (3, .int 3)], [.int 0], (0, 0), ks i a q r) (by rfl) ?_
    exact ft_ret mi_k234 (by rfl) (hP 0 (op137 c7 hp0.2 s1.1 s1.2 kop60 kop0))
set_option maxRecDepth 100000 in
theorem ke233_1000024_l10_l23 {i : Nat → Int32} {a : Nat → List Int32} {q : Nat → List Int64} {r : Nat → Nat} (hI : kI i a q) (hr : kr r) (x2 : Int32) (hp0 : ((0 : Int) ≤ x2.toInt) ∧ (x2.toInt ≤ 255)) : km 3 233 [.ref (mi_RO + 24), .int x2, .int 0, .int 3] (ks i a q r) (kPI (ks i a q r) (fun v => (((-1) : Int) ≤ v.toInt) ∧ (v.toInt ≤ 2) ∧ (((x2.toInt = 60) → (v.toInt = 0))) ∧ (((x2.toInt = 61) → (v.toInt = 1))) ∧ (((x2.toInt = 62) → (v.toInt = 2))) ∧ (((v.toInt = 0) → (x2.toInt = 60))) ∧ (((v.toInt = 1) → (x2.toInt = 61))) ∧ (((v.toInt = 2) → (x2.toInt = 62))) ∧ ((v.toInt = (-1)) ∨ (x2.toInt = 60) ∨ (x2.toInt = 61) ∨ (x2.toInt = 62)))) := by
  have hG := kG_self kW0 hI hr
  refine km_ofPI (q := (mi_h233, mi_c233)) rfl (by decide) (Nat.le_of_ble_eq_true rfl) ?_
  intro P hP
  first | refine fo_goL mi_k233 fz233_0_1_1 [(0, .ref (mi_RO + 24)), (1, .int x2), (2, .int 0), (3, .int 3)] [.int x2] (by rfl) ?_ | refine ft_go mi_k233 1 1 [(0, .ref (mi_RO + 24)), (1, .int x2), (2, .int 0), (3, .int 3)] [.int x2] i a q r (by rfl) ?_ | refine ko_steps mi_in233 1 _ (1, [(0, .ref (mi_RO + 24)), (1, .int x2), (2, .int 0), (3, .int 3)], [.int x2], (0, 0), ks i a q r) (by rfl) ?_
  refine ko_callPI mi_k233.1 (pc := 1) (ls := [(0, .ref (mi_RO + 24)), (1, .int x2), (2, .int 0), (3, .int 3)]) (st := [.int x2]) (h := ks i a q r) (i := (.invokestatic 88, 3, 232, 0, 9, 0, 195)) (mi_k233.2 _ _ (by rfl)) (ft_invS mi_pq232 (by rfl)) (cy := mi_c232) mi_pq232 rfl (ke232 hG.I hG.R x2) (by decide) ?_
  intro vg1 hg1
  rcases hg1 with ⟨eg1, hg1⟩ | ⟨eg1, hg1⟩
  ·
    subst eg1
    first | refine ft_goS mi_k233 4 14 [.int (bif decide ((0 : Int32) < 0) then 0 else 0)] (by rfl) ?_ | refine ft_go mi_k233 4 14 [(0, .ref (mi_RO + 24)), (1, .int x2), (2, .int 0), (3, .int 3)] [.int (bif decide ((0 : Int32) < 0) then 0 else 0)] i a q r (by rfl) ?_ | refine ko_steps mi_in233 4 _ (14, [(0, .ref (mi_RO + 24)), (1, .int x2), (2, .int 0), (3, .int 3)], [.int (bif decide ((0 : Int32) < 0) then 0 else 0)], (0, 0), ks i a q r) (by rfl) ?_
    refine ko_top (by decide : (bif decide ((0 : Int32) < 0) then 0 else 0 : Int32) = 0) ?_
    first | refine ft_goL mi_k233 5 21 [(2, .int 0), (0, .ref (mi_RO + 24)), (1, .int x2), (3, .int 3)] [.int (bif decide ((3 : Int32) < 3) then 3 else 3)] (by rfl) ?_ | refine ft_go mi_k233 5 21 [(2, .int 0), (0, .ref (mi_RO + 24)), (1, .int x2), (3, .int 3)] [.int (bif decide ((3 : Int32) < 3) then 3 else 3)] i a q r (by rfl) ?_ | refine ko_steps mi_in233 5 _ (21, [(2, .int 0), (0, .ref (mi_RO + 24)), (1, .int x2), (3, .int 3)], [.int (bif decide ((3 : Int32) < 3) then 3 else 3)], (0, 0), ks i a q r) (by rfl) ?_
    refine ko_top (by decide : (bif decide ((3 : Int32) < 3) then 3 else 3 : Int32) = 3) ?_
    first | refine ft_goL mi_k233 8 33 [(3, .int 3), (2, .int 0), (0, .ref (mi_RO + 24)), (1, .int x2)] [.int 3, .int 0, .int x2, .ref (mi_RO + 24)] (by rfl) ?_ | refine ft_go mi_k233 8 33 [(3, .int 3), (2, .int 0), (0, .ref (mi_RO + 24)), (1, .int x2)] [.int 3, .int 0, .int x2, .ref (mi_RO + 24)] i a q r (by rfl) ?_ | refine ko_steps mi_in233 8 _ (33, [(3, .int 3), (2, .int 0), (0, .ref (mi_RO + 24)), (1, .int x2)], [.int 3, .int 0, .int x2, .ref (mi_RO + 24)], (0, 0), ks i a q r) (by rfl) ?_
    refine ko_callPI mi_k233.1 (pc := 33) (ls := [(3, .int 3), (2, .int 0), (0, .ref (mi_RO + 24)), (1, .int x2)]) (st := [.int 3, .int 0, .int x2, .ref (mi_RO + 24)]) (h := ks i a q r) (i := (.invokestatic 95, 3, 234, 0, 9, 0, 198)) (mi_k233.2 _ _ (by rfl)) (ft_invS mi_pq234 (by rfl)) (cy := mi_c234) mi_pq234 rfl (ke234_1000024_l10_l23 hG.I hG.R x2 (op53 hp0.1 hp0.2)) (by decide) ?_
    intro vg3 hg3
    have z4 : (((-1) : Int) ≤ vg3.toInt) ∧ (vg3.toInt ≤ 2) ∧ (((x2.toInt = 60) → (vg3.toInt = 0))) ∧ (((x2.toInt = 61) → (vg3.toInt = 1))) ∧ (((x2.toInt = 62) → (vg3.toInt = 2))) ∧ (((vg3.toInt = 0) → (x2.toInt = 60))) ∧ (((vg3.toInt = 1) → (x2.toInt = 61))) ∧ (((vg3.toInt = 2) → (x2.toInt = 62))) ∧ ((vg3.toInt = (-1)) ∨ (x2.toInt = 60) ∨ (x2.toInt = 61) ∨ (x2.toInt = 62)) := hg3
    exact ft_ret mi_k233 (by rfl) (hP vg3 (op138 z4.1 z4.2.1 z4.2.2.1 z4.2.2.2.1 z4.2.2.2.2.1 z4.2.2.2.2.2.1 z4.2.2.2.2.2.2.1 z4.2.2.2.2.2.2.2.1 z4.2.2.2.2.2.2.2.2))
  ·
    subst eg1
    have z5 : ¬ (((0 : Int) ≤ x2.toInt) ∧ (x2.toInt ≤ 255)) := hg1
    exact (op55 hp0.1 hp0.2 z5).elim
set_option maxRecDepth 100000 in
theorem ke229_1000014_l10 {i : Nat → Int32} {a : Nat → List Int32} {q : Nat → List Int64} {r : Nat → Nat} (hI : kI i a q) (hr : kr r) (x1 : Int32) (hp0 : ((0 : Int) ≤ x1.toInt) ∧ (x1.toInt ≤ 255)) : km 5 229 [.ref (mi_RO + 14), .int x1, .int 0] (ks i a q r) (kPI (ks i a q r) (fun v => (((-1) : Int) ≤ v.toInt) ∧ (v.toInt ≤ 2) ∧ (((x1.toInt = 60) → (v.toInt = 0))) ∧ (((x1.toInt = 61) → (v.toInt = 1))) ∧ (((x1.toInt = 62) → (v.toInt = 2))) ∧ (((v.toInt = 0) → (x1.toInt = 60))) ∧ (((v.toInt = 1) → (x1.toInt = 61))) ∧ (((v.toInt = 2) → (x1.toInt = 62))) ∧ ((v.toInt = (-1)) ∨ (x1.toInt = 60) ∨ (x1.toInt = 61) ∨ (x1.toInt = 62)))) := by
  have hG := kG_self kW0 hI hr
  refine km_ofPI (q := (mi_h229, mi_c229)) rfl (by decide) (Nat.le_of_ble_eq_true rfl) ?_
  intro P hP
  first | refine fo_goL mi_k229 fz229_0_1_1 [(0, .ref (mi_RO + 14)), (1, .int x1), (2, .int 0)] [.ref (mi_RO + 14)] (by rfl) ?_ | refine ft_go mi_k229 1 1 [(0, .ref (mi_RO + 14)), (1, .int x1), (2, .int 0)] [.ref (mi_RO + 14)] i a q r (by rfl) ?_
  refine ko_callPI mi_k229.1 (pc := 1) (ls := [(0, .ref (mi_RO + 14)), (1, .int x1), (2, .int 0)]) (st := [.ref (mi_RO + 14)]) (h := ks i a q r) (i := (.invokevirtual 492, 3, 231, 0, 9, 0, 192)) (mi_k229.2 _ _ (by rfl)) (ft_invS mi_pq231 (by rfl)) (cy := mi_c231) mi_pq231 rfl (kc231_S14 hG.I hG.R ) (by decide) ?_
  intro vg1 hg1
  rcases hg1 with ⟨eg1, hg1⟩ | ⟨eg1, hg1⟩
  ·
    subst eg1
    first | refine ft_goS mi_k229 6 14 [.ref (mi_RO + 14), .int 0, .int x1, .ref (mi_RO + 24)] (by rfl) ?_ | refine ft_go mi_k229 6 14 [(0, .ref (mi_RO + 14)), (1, .int x1), (2, .int 0)] [.ref (mi_RO + 14), .int 0, .int x1, .ref (mi_RO + 24)] i a q r (by rfl) ?_
    refine ko_callPI mi_k229.1 (pc := 14) (ls := [(0, .ref (mi_RO + 14)), (1, .int x1), (2, .int 0)]) (st := [.ref (mi_RO + 14), .int 0, .int x1, .ref (mi_RO + 24)]) (h := ks i a q r) (i := (.invokevirtual 505, 3, 227, 0, 9, 0, 193)) (mi_k229.2 _ _ (by rfl)) (ft_invS mi_pq227 (by rfl)) (cy := mi_c227) mi_pq227 rfl (ke227_1000014 hG.I hG.R ) (by decide) ?_
    intro vg2 hg2
    have z3 : vg2.toInt = 3 := hg2
    refine ko_eq (x1 := (17, [(0, .ref (mi_RO + 14)), (1, .int x1), (2, .int 0)], [.int 3, .int 0, .int x1, .ref (mi_RO + 24)], (0, 0), ks i a q r)) (by rw [(kj_eq (op70 z3) (by decide) : vg2 = 3)]) ?_
    refine ko_callPI mi_k229.1 (pc := 17) (ls := [(0, .ref (mi_RO + 14)), (1, .int x1), (2, .int 0)]) (st := [.int 3, .int 0, .int x1, .ref (mi_RO + 24)]) (h := ks i a q r) (i := (.invokestatic 637, 3, 233, 0, 9, 0, 194)) (mi_k229.2 _ _ (by rfl)) (ft_invS mi_pq233 (by rfl)) (cy := mi_c233) mi_pq233 rfl (ke233_1000024_l10_l23 hG.I hG.R x1 (op53 hp0.1 hp0.2)) (by decide) ?_
    intro vg4 hg4
    have z5 : (((-1) : Int) ≤ vg4.toInt) ∧ (vg4.toInt ≤ 2) ∧ (((x1.toInt = 60) → (vg4.toInt = 0))) ∧ (((x1.toInt = 61) → (vg4.toInt = 1))) ∧ (((x1.toInt = 62) → (vg4.toInt = 2))) ∧ (((vg4.toInt = 0) → (x1.toInt = 60))) ∧ (((vg4.toInt = 1) → (x1.toInt = 61))) ∧ (((vg4.toInt = 2) → (x1.toInt = 62))) ∧ ((vg4.toInt = (-1)) ∨ (x1.toInt = 60) ∨ (x1.toInt = 61) ∨ (x1.toInt = 62)) := hg4
    first | refine fo_goS mi_k229 fz229_20_1_36 [.int vg4] (by rfl) ?_ | refine ft_go mi_k229 1 36 [(0, .ref (mi_RO + 14)), (1, .int x1), (2, .int 0)] [.int vg4] i a q r (by rfl) ?_
    exact ft_ret mi_k229 (by rfl) (hP vg4 (op138 z5.1 z5.2.1 z5.2.2.1 z5.2.2.2.1 z5.2.2.2.2.1 z5.2.2.2.2.2.1 z5.2.2.2.2.2.2.1 z5.2.2.2.2.2.2.2.1 z5.2.2.2.2.2.2.2.2))
  ·
    subst eg1
    have z6 : (2 : Int) ≤ 1 := hg1
    exact (op56 z6).elim
set_option maxRecDepth 100000 in
theorem ke228_1000014 {i : Nat → Int32} {a : Nat → List Int32} {q : Nat → List Int64} {r : Nat → Nat} (hI : kI i a q) (hr : kr r) (x1 : Int32) (hp0 : ((0 : Int) ≤ x1.toInt) ∧ (x1.toInt ≤ 255)) : km 7 228 [.ref (mi_RO + 14), .int x1] (ks i a q r) (kPI (ks i a q r) (fun v => (((-1) : Int) ≤ v.toInt) ∧ (v.toInt ≤ 2) ∧ (((x1.toInt = 60) → (v.toInt = 0))) ∧ (((x1.toInt = 61) → (v.toInt = 1))) ∧ (((x1.toInt = 62) → (v.toInt = 2))) ∧ (((v.toInt = 0) → (x1.toInt = 60))) ∧ (((v.toInt = 1) → (x1.toInt = 61))) ∧ (((v.toInt = 2) → (x1.toInt = 62))) ∧ ((v.toInt = (-1)) ∨ (x1.toInt = 60) ∨ (x1.toInt = 61) ∨ (x1.toInt = 62)))) := by
  have hG := kG_self kW0 hI hr
  refine km_ofPI (q := (mi_h228, mi_c228)) rfl (by decide) (Nat.le_of_ble_eq_true rfl) ?_
  intro P hP
  first | refine fo_goL mi_k228 fz228_0_3_3 [(0, .ref (mi_RO + 14)), (1, .int x1)] [.int 0, .int x1, .ref (mi_RO + 14)] (by rfl) ?_ | refine ft_go mi_k228 3 3 [(0, .ref (mi_RO + 14)), (1, .int x1)] [.int 0, .int x1, .ref (mi_RO + 14)] i a q r (by rfl) ?_
  refine ko_callPI mi_k228.1 (pc := 3) (ls := [(0, .ref (mi_RO + 14)), (1, .int x1)]) (st := [.int 0, .int x1, .ref (mi_RO + 14)]) (h := ks i a q r) (i := (.invokevirtual 633, 3, 229, 0, 9, 0, 191)) (mi_k228.2 _ _ (by rfl)) (ft_invS mi_pq229 (by rfl)) (cy := mi_c229) mi_pq229 rfl (ke229_1000014_l10 hG.I hG.R x1 (op53 hp0.1 hp0.2)) (by decide) ?_
  intro vg1 hg1
  have z2 : (((-1) : Int) ≤ vg1.toInt) ∧ (vg1.toInt ≤ 2) ∧ (((x1.toInt = 60) → (vg1.toInt = 0))) ∧ (((x1.toInt = 61) → (vg1.toInt = 1))) ∧ (((x1.toInt = 62) → (vg1.toInt = 2))) ∧ (((vg1.toInt = 0) → (x1.toInt = 60))) ∧ (((vg1.toInt = 1) → (x1.toInt = 61))) ∧ (((vg1.toInt = 2) → (x1.toInt = 62))) ∧ ((vg1.toInt = (-1)) ∨ (x1.toInt = 60) ∨ (x1.toInt = 61) ∨ (x1.toInt = 62)) := hg1
  exact ft_ret mi_k228 (by rfl) (hP vg1 (op138 z2.1 z2.2.1 z2.2.2.1 z2.2.2.2.1 z2.2.2.2.2.1 z2.2.2.2.2.2.1 z2.2.2.2.2.2.2.1 z2.2.2.2.2.2.2.2.1 z2.2.2.2.2.2.2.2.2))
def yw47_98_1000014 : kW := ([6274], [], [], [])
set_option maxRecDepth 100000 in
theorem ke47_98_1000014 {i : Nat → Int32} {a : Nat → List Int32} {q : Nat → List Int64} {r : Nat → Nat} (hI : kI i a q) (hr : kr r) (t : List Int32) (nn : Int32) (hT : a 99 = t) (hN : i 6273 = nn) (hX : kBy t) : km 9 47 [.ref 98, .ref (mi_RO + 14)] (ks i a q r) (kVI yw47_98_1000014 i a q r (fun v i1 a1 q1 r1 => (((v.toInt = (-1)) ∧ ((i1 6274).toInt = (i 6274).toInt)) ∨ (((i1 6274).toInt = ((i 6274).toInt + 1)) ∧ ((i 6274).toInt < (i 6273).toInt) ∧ ((i 6275).toInt = 0) ∧ ((v.toInt = 60) ∨ (v.toInt = 61) ∨ (v.toInt = 62)))) ∧ (v, i1 6274) = cOfP t nn oCmp (i 6274) (i 6275))) := by
  have hG := kG_self yw47_98_1000014 hI hr
  refine km_ofI (q := (mi_h47, mi_c47)) rfl (by decide) (Nat.le_of_ble_eq_true rfl) ?_
  intro P hP
  have hn1 : (i 6273).toInt = nn.toInt := congrArg Int32.toInt hN
  first | refine fo_goL mi_k47 fz47_0_1_1 [(0, .ref 98), (1, .ref (mi_RO + 14))] [.ref 98] (by rfl) ?_ | refine ft_go mi_k47 1 1 [(0, .ref 98), (1, .ref (mi_RO + 14))] [.ref 98] i a q r (by rfl) ?_
  refine ko_callPI mi_k47.1 (pc := 1) (ls := [(0, .ref 98), (1, .ref (mi_RO + 14))]) (st := [.ref 98]) (h := ks i a q r) (i := (.invokevirtual 46, 3, 45, 0, 9, 0, 184)) (mi_k47.2 _ _ (by rfl)) (ft_invS mi_pq45 (by rfl)) (cy := mi_c45) mi_pq45 rfl (ke45_98 hG.I hG.R t nn hT hN hX) (by decide) ?_
  intro vg2 hg2
  obtain ⟨hg2, og2⟩ := hg2
  have fi_6275 : ((0 : Int) ≤ (i 6275).toInt) ∧ ((i 6275).toInt ≤ 1) := hG.I.1 6275
  have fi_6274 : ((0 : Int) ≤ (i 6274).toInt) ∧ ((i 6274).toInt ≤ 120) := hG.I.1 6274
  have fi_6273 : ((0 : Int) ≤ (i 6273).toInt) ∧ ((i 6273).toInt ≤ 120) := hG.I.1 6273
  have z3 : (((-1) : Int) ≤ vg2.toInt) ∧ (vg2.toInt ≤ 255) ∧ ((vg2.toInt = (-1)) ∨ (((i 6275).toInt = 0) ∧ ((i 6274).toInt < (i 6273).toInt))) := hg2
  have q4 : vg2 = cHr t nn (i 6274) (i 6275) := og2
  have hv5 : vg2.toInt = (cHr t nn (i 6274) (i 6275)).toInt := congrArg Int32.toInt og2
  first | refine fo_goL mi_k47 fz47_4_3_7 [(2, .int vg2), (0, .ref 98), (1, .ref (mi_RO + 14))] [.int (-1), .int vg2] (by rfl) ?_ | refine ft_go mi_k47 3 7 [(2, .int vg2), (0, .ref 98), (1, .ref (mi_RO + 14))] [.int (-1), .int vg2] i a q r (by rfl) ?_
  refine ft_ifS mi_k47 (vg2 == (-1)) 19 10 [] (by rfl) (fun c => ?_) (fun c => ?_)
  ·
    have c6 : vg2.toInt = ((-1) : Int32).toInt := kd_eq c; clear c
    first | refine fo_goS mi_k47 fz47_19_1_20 [.int (-1)] (by rfl) ?_ | refine ft_go mi_k47 1 20 [(2, .int vg2), (0, .ref 98), (1, .ref (mi_RO + 14))] [.int (-1)] i a q r (by rfl) ?_
    exact ft_ret mi_k47 (by rfl) (hP (-1) _ _ _ _ hG ⟨(op132 kopm1), (ofP_n (o := oCmp) (decide_eq_false (op133 c6 hv5 kopm1)))⟩)
  ·
    have c7 : vg2.toInt ≠ ((-1) : Int32).toInt := kd_eqF c; clear c
    have s8 : ((vg2.toUInt32 % 65536).toInt32).toInt = vg2.toInt := kd_i2c (op39 c7 z3.1 kopm1) (Int.le_trans (op40 z3.2.1) (by decide))
    first | refine ft_goS mi_k47 3 13 [.int ((vg2.toUInt32 % 65536).toInt32), .ref (mi_RO + 14)] (by rfl) ?_ | refine ft_go mi_k47 3 13 [(2, .int vg2), (0, .ref 98), (1, .ref (mi_RO + 14))] [.int ((vg2.toUInt32 % 65536).toInt32), .ref (mi_RO + 14)] i a q r (by rfl) ?_
    refine ko_callPI mi_k47.1 (pc := 13) (ls := [(2, .int vg2), (0, .ref 98), (1, .ref (mi_RO + 14))]) (st := [.int ((vg2.toUInt32 % 65536).toInt32), .ref (mi_RO + 14)]) (h := ks i a q r) (i := (.invokevirtual 50, 3, 228, 0, 9, 0, 190)) (mi_k47.2 _ _ (by rfl)) (ft_invS mi_pq228 (by rfl)) (cy := mi_c228) mi_pq228 rfl (ke228_1000014 hG.I hG.R ((vg2.toUInt32 % 65536).toInt32) (op57 c7 s8 z3.1 z3.2.1 kopm1)) (by decide) ?_
    intro vg9 hg9
    have z10 : (((-1) : Int) ≤ vg9.toInt) ∧ (vg9.toInt ≤ 2) ∧ (((((vg2.toUInt32 % 65536).toInt32).toInt = 60) → (vg9.toInt = 0))) ∧ (((((vg2.toUInt32 % 65536).toInt32).toInt = 61) → (vg9.toInt = 1))) ∧ (((((vg2.toUInt32 % 65536).toInt32).toInt = 62) → (vg9.toInt = 2))) ∧ (((vg9.toInt = 0) → (((vg2.toUInt32 % 65536).toInt32).toInt = 60))) ∧ (((vg9.toInt = 1) → (((vg2.toUInt32 % 65536).toInt32).toInt = 61))) ∧ (((vg9.toInt = 2) → (((vg2.toUInt32 % 65536).toInt32).toInt = 62))) ∧ ((vg9.toInt = (-1)) ∨ (((vg2.toUInt32 % 65536).toInt32).toInt = 60) ∨ (((vg2.toUInt32 % 65536).toInt32).toInt = 61) ∨ (((vg2.toUInt32 % 65536).toInt32).toInt = 62)) := hg9
    refine ft_ifS mi_k47 (decide (0 ≤ vg9)) 21 19 [] (by rfl) (fun c => ?_) (fun c => ?_)
    ·
      have c11 : (0 : Int32).toInt ≤ vg9.toInt := kd_le c; clear c
      have s12 : ((i 6274) + 1).toInt = (i 6274).toInt + (1 : Int32).toInt := kd_add (op18 fi_6274.1 kop1) (op26 fi_6274.2 kop1)
      have hJ13 := kG_i hG 6274 rfl (v := ((i 6274) + 1)) ⟨(op20 fi_6274.1 s12 kop1), (op58 c7 fi_6273.2 s12 z3.1 z3.2.2 kopm1 kop1)⟩
      first | refine fo_goI mi_k47 fz47_21_7_32 [.int vg2] (ku i 6274 ((i 6274) + 1)) (by rfl) ?_ | refine ft_go mi_k47 7 32 [(2, .int vg2), (0, .ref 98), (1, .ref (mi_RO + 14))] [.int vg2] (ku i 6274 ((i 6274) + 1)) a q r (by rfl) ?_
      exact ft_ret mi_k47 (by rfl) (hP vg2 _ _ _ _ hJ13 ⟨(op139 c11 c7 fi_6275.1 s12 s8 z10.2.1 z10.2.2.2.1 z10.2.2.2.2.1 z10.2.2.2.2.2.1 z10.2.2.2.2.2.2.1 z10.2.2.2.2.2.2.2.1 z3.1 z3.2.2 kop0 kopm1 kop1), (ofP_y (o := oCmp) (decide_eq_true (op140 c11 hv5 s8 z10.2.1 z10.2.2.2.1 z10.2.2.2.2.1 z10.2.2.2.2.2.1 z10.2.2.2.2.2.2.1 z10.2.2.2.2.2.2.2.1 kop0)) og2)⟩)
    ·
      have c14 : vg9.toInt < (0 : Int32).toInt := kd_leF c; clear c
      first | refine fo_goS mi_k47 fz47_19_1_20 [.int (-1)] (by rfl) ?_ | refine ft_go mi_k47 1 20 [(2, .int vg2), (0, .ref 98), (1, .ref (mi_RO + 14))] [.int (-1)] i a q r (by rfl) ?_
      exact ft_ret mi_k47 (by rfl) (hP (-1) _ _ _ _ hG ⟨(op132 kopm1), (ofP_n (o := oCmp) (decide_eq_false (op141 c14 hv5 s8 z10.2.2.1 z10.2.2.2.1 z10.2.2.2.2.1 kop0)))⟩)
def wP10 : kW := ([643, 6274, 6275], [11, 12], [], [])
def kMP10_54 (n : Nat) : Prop := ∀ (i : Nat → Int32) (a : Nat → List Int32) (q : Nat → List Int64) (r : Nat → Nat), kI i a q → kr r → ∀ (x1 : Int32), (((0 : Int) ≤ x1.toInt) ∧ ((x1.toInt + (n : Int)) = 6)) → ∀ (t : List Int32) (nn : Int32), a 99 = t → i 6273 = nn → r 2 = 10 → kBy t → km (6 * n + 10) 54 [.ref 98, .int x1] (ks i a q r) (kVN wP10 i a q r (fun i1 a1 q1 r1 => (True) ∧ (i1 6274, i1 6275, a1 11, a1 12, i1 643) = (cO t nn n) (i 6274, i 6275, a 11, a 12, i 643)))
def yw53_98_L10_L14 : kW := ([643, 6274, 6275], [11, 12], [], [])
def kMP10_53 (n : Nat) : Prop := ∀ (i : Nat → Int32) (a : Nat → List Int32) (q : Nat → List Int64) (r : Nat → Nat), kI i a q → kr r → ∀ (x1 : Int32), (((0 : Int) ≤ x1.toInt) ∧ ((x1.toInt + (n : Int)) = 6)) → ∀ (t : List Int32) (nn : Int32), a 99 = t → i 6273 = nn → r 2 = 10 → kBy t → km (6 * n + 11) 53 [.ref 98, .int x1] (ks i a q r) (kVN wP10 i a q r (fun i1 a1 q1 r1 => (True) ∧ (i1 6274, i1 6275, a1 11, a1 12, i1 643) = (cP3 t nn (cO t nn n)) (i 6274, i 6275, a 11, a 12, i 643)))
def yw52_98_L10_L14 : kW := ([643, 6274, 6275], [11, 12], [], [])
def kMP10_52 (n : Nat) : Prop := ∀ (i : Nat → Int32) (a : Nat → List Int32) (q : Nat → List Int64) (r : Nat → Nat), kI i a q → kr r → ∀ (x1 : Int32), (((0 : Int) ≤ x1.toInt) ∧ ((x1.toInt + (n : Int)) = 6)) → ∀ (t : List Int32) (nn : Int32), a 99 = t → i 6273 = nn → r 2 = 10 → kBy t → km (6 * n + 12) 52 [.ref 98, .int x1] (ks i a q r) (kVN wP10 i a q r (fun i1 a1 q1 r1 => (True) ∧ (i1 6274, i1 6275, a1 11, a1 12, i1 643) = (cP4 t nn (cO t nn n)) (i 6274, i 6275, a 11, a 12, i 643)))
def kMP10_51 (n : Nat) : Prop := ∀ (i : Nat → Int32) (a : Nat → List Int32) (q : Nat → List Int64) (r : Nat → Nat), kI i a q → kr r → ∀ (x1 : Int32), (((0 : Int) ≤ x1.toInt) ∧ ((x1.toInt + (n : Int)) = 6)) → ∀ (t : List Int32) (nn : Int32), a 99 = t → i 6273 = nn → r 2 = 10 → kBy t → km (6 * n + 13) 51 [.ref 98, .int x1] (ks i a q r) (kVN wP10 i a q r (fun i1 a1 q1 r1 => (True) ∧ (i1 6274, i1 6275, a1 11, a1 12, i1 643) = (cP5 t nn (cO t nn n)) (i 6274, i 6275, a 11, a 12, i 643)))
def yw50_98_L10_L7 : kW := ([643, 6274, 6275], [11, 12], [], [])
def kMP10_50 (n : Nat) : Prop := ∀ (i : Nat → Int32) (a : Nat → List Int32) (q : Nat → List Int64) (r : Nat → Nat), kI i a q → kr r → ∀ (x1 : Int32), (((0 : Int) ≤ x1.toInt) ∧ ((x1.toInt + (n : Int)) = 6)) → ∀ (t : List Int32) (nn : Int32), a 99 = t → i 6273 = nn → r 2 = 10 → kBy t → km (6 * n + 14) 50 [.ref 98, .int x1] (ks i a q r) (kVN wP10 i a q r (fun i1 a1 q1 r1 => (True) ∧ (i1 6274, i1 6275, a1 11, a1 12, i1 643) = (cP6 t nn (cO t nn n)) (i 6274, i 6275, a 11, a 12, i 643)))
def yw49_98_L10_L7 : kW := ([643, 6274, 6275], [11, 12], [], [])
def kMP10_49 (n : Nat) : Prop := ∀ (i : Nat → Int32) (a : Nat → List Int32) (q : Nat → List Int64) (r : Nat → Nat), kI i a q → kr r → ∀ (x1 : Int32), (((0 : Int) ≤ x1.toInt) ∧ ((x1.toInt + (n : Int)) = 6)) → ∀ (t : List Int32) (nn : Int32), a 99 = t → i 6273 = nn → r 2 = 10 → kBy t → km (6 * n + 15) 49 [.ref 98, .int x1] (ks i a q r) (kVN wP10 i a q r (fun i1 a1 q1 r1 => (True) ∧ (i1 6274, i1 6275, a1 11, a1 12, i1 643) = (cE t nn n) (i 6274, i 6275, a 11, a 12, i 643)))
set_option maxRecDepth 100000 in
theorem kMsP10_54 (n : Nat)  (ih : ∀ m, n = m + 1 → kMP10_49 m ∧ kMP10_54 m) : kMP10_54 n := by
  intro i a q r hI hr x1 hp0 t nn hT hN hL hX
  have hG := kG_self wP10 hI hr
  refine km_ofN (q := (mi_h54, mi_c54)) rfl (by decide) (Nat.le_of_ble_eq_true rfl) ?_
  intro P hP
  have hn0 : (0 : Int) ≤ (n : Int) := Int.natCast_nonneg n
  have hn1 : (i 6273).toInt = nn.toInt := congrArg Int32.toInt hN
  have eRr_2 : r 2 = 10 := hL
  first | refine ft_goL mi_k54 1 1 [(0, .ref 98), (1, .int x1)] [.ref 98] (by rfl) ?_ | refine ft_go mi_k54 1 1 [(0, .ref 98), (1, .int x1)] [.ref 98] i a q r (by rfl) ?_
  refine ko_callPI mi_k54.1 (pc := 1) (ls := [(0, .ref 98), (1, .int x1)]) (st := [.ref 98]) (h := ks i a q r) (i := (.invokevirtual 46, 3, 45, 0, 9, 0, 184)) (mi_k54.2 _ _ (by rfl)) (ft_invS mi_pq45 (by rfl)) (cy := mi_c45) mi_pq45 rfl (ke45_98 hG.I hG.R t nn hT hN hX) (kj_d3 (n := n) (c := 1) (o1 := 10) (by decide)) ?_
  intro vg2 hg2
  obtain ⟨hg2, og2⟩ := hg2
  have z3 : (((-1) : Int) ≤ vg2.toInt) ∧ (vg2.toInt ≤ 255) ∧ ((vg2.toInt = (-1)) ∨ (((i 6275).toInt = 0) ∧ ((i 6274).toInt < (i 6273).toInt))) := hg2
  have q4 : vg2 = cHr t nn (i 6274) (i 6275) := og2
  have hv5 : vg2.toInt = (cHr t nn (i 6274) (i 6275)).toInt := congrArg Int32.toInt og2
  first | refine ft_goL mi_k54 2 6 [(2, .int vg2), (0, .ref 98), (1, .int x1)] [.int vg2] (by rfl) ?_ | refine ft_go mi_k54 2 6 [(2, .int vg2), (0, .ref 98), (1, .int x1)] [.int vg2] i a q r (by rfl) ?_
  refine ko_callPI mi_k54.1 (pc := 6) (ls := [(2, .int vg2), (0, .ref 98), (1, .int x1)]) (st := [.int vg2]) (h := ks i a q r) (i := (.invokestatic 92, 3, 56, 0, 9, 0, 185)) (mi_k54.2 _ _ (by rfl)) (ft_invS mi_pq56 (by rfl)) (cy := mi_c56) mi_pq56 rfl (kc56 hG.I hG.R vg2) (kj_d3 (n := n) (c := 1) (o1 := 10) (by decide)) ?_
  intro vg6 hg6
  rcases hg6 with ⟨eg6, hg6⟩ | ⟨eg6, hg6⟩
  ·
    subst eg6
    have z7 : ((48 : Int) ≤ vg2.toInt) ∧ (vg2.toInt ≤ 57) := hg6
    first | refine ft_goS mi_k54 2 13 [.ref 98] (by rfl) ?_ | refine ft_go mi_k54 2 13 [(2, .int vg2), (0, .ref 98), (1, .int x1)] [.ref 98] i a q r (by rfl) ?_
    refine ko_callN mi_k54.1 (pc := 13) (ls := [(2, .int vg2), (0, .ref 98), (1, .int x1)]) (st := [.ref 98]) (h := ks i a q r) (i := (.invokevirtual 95, 3, 55, 0, 9, 0, 186)) (mi_k54.2 _ _ (by rfl)) (ft_invS mi_pq55 (by rfl)) (cy := mi_c55) mi_pq55 rfl (ke55_98_L10 hG.I hG.R t nn hT hN eRr_2 hX) (kj_d3 (n := n) (c := 3) (o1 := 10) (by decide)) ?_
    intro ig8 ag8 qg8 rg8 kg8 hg8
    have hGg8 := kG_call hG kg8 (by decide +kernel)
    have eRrg8_2 : rg8 2 = 10 := (kg8.fr 2 rfl).trans eRr_2
    obtain ⟨hg8, og8⟩ := hg8
    exact ft_ret mi_k54 (by rfl) (hP  _ _ _ _ hGg8 ⟨trivial, (cPt_lv (cO_any t nn n) (fun nx => cPt_num (nx := nx) (op31 hv5 z7.1) (op32 hv5 z7.2) og8))⟩)
  ·
    subst eg6
    have z9 : ¬ (((48 : Int) ≤ vg2.toInt) ∧ (vg2.toInt ≤ 57)) := hg6
    first | refine ft_goS mi_k54 3 20 [.ref (mi_RO + 10), .ref 98] (by rfl) ?_ | refine ft_go mi_k54 3 20 [(2, .int vg2), (0, .ref 98), (1, .int x1)] [.ref (mi_RO + 10), .ref 98] i a q r (by rfl) ?_
    refine ko_callI mi_k54.1 (pc := 20) (ls := [(2, .int vg2), (0, .ref 98), (1, .int x1)]) (st := [.ref (mi_RO + 10), .ref 98]) (h := ks i a q r) (i := (.invokevirtual 78, 3, 47, 0, 9, 0, 189)) (mi_k54.2 _ _ (by rfl)) (ft_invS mi_pq47 (by rfl)) (cy := mi_c47) mi_pq47 rfl (ke47_98_1000010 hG.I hG.R t nn hT hN hX) (kj_d3 (n := n) (c := 9) (o1 := 10) (by decide)) ?_
    intro vg10 ig10 ag10 qg10 rg10 kg10 hg10
    have hGg10 := kG_call hG kg10 (by decide +kernel)
    have eRrg10_2 : rg10 2 = 10 := (kg10.fr 2 rfl).trans eRr_2
    obtain ⟨hg10, og10⟩ := hg10
    have z11 : ((vg10.toInt = (-1)) ∧ ((ig10 6274).toInt = (i 6274).toInt)) ∨ (((ig10 6274).toInt = ((i 6274).toInt + 1)) ∧ ((i 6274).toInt < (i 6273).toInt) ∧ ((i 6275).toInt = 0) ∧ ((vg10.toInt = 119) ∨ (vg10.toInt = 112) ∨ (vg10.toInt = 104) ∨ (vg10.toInt = 110) ∨ (vg10.toInt = 111) ∨ (vg10.toInt = 100))) := hg10
    have ho12 : vg10.toInt = (-1) ∨ vg10.toInt = (cHr t nn (i 6274) (i 6275)).toInt := tOf_v og10
    first | refine fo_goL mi_k54 fz54_23_3_26 [(3, .int vg10), (2, .int vg2), (0, .ref 98), (1, .int x1)] [.int (-1), .int vg10] (by rfl) ?_ | refine ft_go mi_k54 3 26 [(3, .int vg10), (2, .int vg2), (0, .ref 98), (1, .int x1)] [.int (-1), .int vg10] ig10 ag10 qg10 rg10 (by rfl) ?_
    refine ft_ifS mi_k54 (vg10 == (-1)) 46 29 [] (by rfl) (fun c => ?_) (fun c => ?_)
    ·
      have c13 : vg10.toInt = ((-1) : Int32).toInt := kd_eq c; clear c
      first | refine ft_goS mi_k54 2 49 [.int 6, .int x1] (by rfl) ?_ | refine ft_go mi_k54 2 49 [(3, .int vg10), (2, .int vg2), (0, .ref 98), (1, .int x1)] [.int 6, .int x1] ig10 ag10 qg10 rg10 (by rfl) ?_
      refine ft_ifS mi_k54 (decide (6 ≤ x1)) 62 52 [] (by rfl) (fun c => ?_) (fun c => ?_)
      ·
        have c14 : (6 : Int32).toInt ≤ x1.toInt := kd_le c; clear c
        have hJ15 := kG_i hGg10 6275 rfl (v := 1) ⟨(op62 kop1), (op63 kop1)⟩
        first | refine fo_goI mi_k54 fz54_62_3_67 [] (ku ig10 6275 1) (by rfl) ?_ | refine ft_go mi_k54 3 67 [(3, .int vg10), (2, .int vg2), (0, .ref 98), (1, .int x1)] [] (ku ig10 6275 1) ag10 qg10 rg10 (by rfl) ?_
        have tb16 : (ig10 6274, (1 : Int32), ag10 11, ag10 12, ig10 643) = cBad (ig10 6274, ig10 6275, ag10 11, ag10 12, ig10 643) := (tBad rfl rfl (kT3 rfl rfl rfl))
        have to17 : (vg10, (ig10 6274, ig10 6275, ag10 11, ag10 12, ig10 643)) = cOf t nn oNam (i 6274, i 6275, a 11, a 12, i 643) := (tOf og10 (kg10.fi 6275 rfl) (kT3 (kg10.fa 11 rfl) (kg10.fa 12 rfl) (kg10.fi 643 rfl)))
        have te18 : (ig10 6274, ig10 6275, ag10 11, ag10 12, ig10 643) = (i 6274, i 6275, a 11, a 12, i 643) := cOf_no to17 (op64 c13 kopm1) oNam_ne
        have tp19 : (ig10 6274, (1 : Int32), ag10 11, ag10 12, ig10 643) = cPart t nn none (i 6274, i 6275, a 11, a 12, i 643) := cPt_non (op35 hv5 z9) to17 (op64 c13 kopm1) (tBad2 te18 tb16)
        exact ft_ret mi_k54 (by rfl) (hP  _ _ _ _ hJ15 ⟨trivial, (tp19.trans (congrFun (cO_z (kj_n0 (op65 c14 hp0.2 kop6))).symm _))⟩)
      ·
        have c20 : x1.toInt < (6 : Int32).toInt := kd_leF c; clear c
        obtain ⟨m, hm, hmI⟩ := kj_pred (op66 c20 hp0.2 kop6)
        have hh21 : (cHr t nn (ig10 6274) (ig10 6275)).toInt = (cHr t nn (i 6274) (i 6275)).toInt := congrArg Int32.toInt (kHr_c (t := t) (n := nn) (kj_v (op67 c13 z11 kopm1)) (kg10.fi 6275 rfl))
        first | refine ft_goS mi_k54 2 55 [.ref (mi_RO + 11), .ref 98] (by rfl) ?_ | refine ft_go mi_k54 2 55 [(3, .int vg10), (2, .int vg2), (0, .ref 98), (1, .int x1)] [.ref (mi_RO + 11), .ref 98] ig10 ag10 qg10 rg10 (by rfl) ?_
        refine ko_callI mi_k54.1 (pc := 55) (ls := [(3, .int vg10), (2, .int vg2), (0, .ref 98), (1, .int x1)]) (st := [.ref (mi_RO + 11), .ref 98]) (h := ks ig10 ag10 qg10 rg10) (i := (.invokevirtual 78, 3, 47, 0, 9, 0, 189)) (mi_k54.2 _ _ (by rfl)) (ft_invS mi_pq47 (by rfl)) (cy := mi_c47) mi_pq47 rfl (ke47_98_1000011 hGg10.I hGg10.R t nn ((kg10.fa 99 rfl).trans hT) ((kg10.fi 6273 rfl).trans hN) hX) (kj_d3 (n := n) (c := 9) (o1 := 10) (by decide)) ?_
        intro vg22 ig22 ag22 qg22 rg22 kg22 hg22
        have hGg22 := kG_call hGg10 kg22 (by decide +kernel)
        have eRrg22_2 : rg22 2 = 10 := (kg22.fr 2 rfl).trans eRrg10_2
        obtain ⟨hg22, og22⟩ := hg22
        have z23 : ((vg22.toInt = (-1)) ∧ ((ig22 6274).toInt = (ig10 6274).toInt)) ∨ (((ig22 6274).toInt = ((ig10 6274).toInt + 1)) ∧ ((ig10 6274).toInt < (ig10 6273).toInt) ∧ ((ig10 6275).toInt = 0) ∧ ((vg22.toInt = 40) ∨ (vg22.toInt = 33) ∨ (vg22.toInt = 45))) := hg22
        have ho24 : vg22.toInt = (-1) ∨ vg22.toInt = (cHr t nn (ig10 6274) (ig10 6275)).toInt := tOf_v og22
        first | refine ft_goS mi_k54 1 59 [.int (-1), .int vg22] (by rfl) ?_ | refine ft_go mi_k54 1 59 [(3, .int vg10), (2, .int vg2), (0, .ref 98), (1, .int x1)] [.int (-1), .int vg22] ig22 ag22 qg22 rg22 (by rfl) ?_
        refine ft_ifS mi_k54 (vg22 != (-1)) 68 62 [] (by rfl) (fun c => ?_) (fun c => ?_)
        ·
          have c25 : vg22.toInt ≠ ((-1) : Int32).toInt := kd_ne c; clear c
          first | refine ft_goS mi_k54 2 71 [.int 40, .int vg2] (by rfl) ?_ | refine ft_go mi_k54 2 71 [(3, .int vg10), (2, .int vg2), (0, .ref 98), (1, .int x1)] [.int 40, .int vg2] ig22 ag22 qg22 rg22 (by rfl) ?_
          refine ft_ifS mi_k54 (vg2 != 40) 96 74 [] (by rfl) (fun c => ?_) (fun c => ?_)
          ·
            have c26 : vg2.toInt ≠ (40 : Int32).toInt := kd_ne c; clear c
            have s27 : (x1 + 1).toInt = x1.toInt + (1 : Int32).toInt := kd_add (op18 hp0.1 kop1) (op79 hn0 hp0.2 kop1)
            first | refine fo_goS mi_k54 fz54_96_4_100 [.int (x1 + 1), .ref 98] (by rfl) ?_ | refine ft_go mi_k54 4 100 [(3, .int vg10), (2, .int vg2), (0, .ref 98), (1, .int x1)] [.int (x1 + 1), .ref 98] ig22 ag22 qg22 rg22 (by rfl) ?_
            refine ko_callN mi_k54.1 (pc := 100) (ls := [(3, .int vg10), (2, .int vg2), (0, .ref 98), (1, .int x1)]) (st := [.int (x1 + 1), .ref 98]) (h := ks ig22 ag22 qg22 rg22) (i := (.invokevirtual 87, 3, 54, 0, 9, 0, 183)) (mi_k54.2 _ _ (by rfl)) (ft_invS mi_pq54 (by rfl)) (cy := mi_c54) mi_pq54 rfl ((ih m hm).2 _ _ _ _ hGg22.I hGg22.R (x1 + 1) (op80 hmI hp0.1 hp0.2 s27 kop1) t nn (((kg22.fa 99 rfl).trans (kg10.fa 99 rfl)).trans hT) (((kg22.fi 6273 rfl).trans (kg10.fi 6273 rfl)).trans hN) eRrg22_2 hX) (kj_d2 (n := n) (m := m) (o := 10) (o1 := 10) hm (by decide)) ?_
            intro ig28 ag28 qg28 rg28 kg28 hg28
            have hGg28 := kG_call hGg22 kg28 (by decide +kernel)
            have eRrg28_2 : rg28 2 = 10 := (kg28.fr 2 rfl).trans eRrg22_2
            obtain ⟨hg28, og28⟩ := hg28
            first | refine ft_goS mi_k54 2 107 [.ref (rg28 2)] (by rfl) ?_ | refine ft_go mi_k54 2 107 [(3, .int vg10), (2, .int vg2), (0, .ref 98), (1, .int x1)] [.ref (rg28 2)] ig28 ag28 qg28 rg28 (by rfl) ?_
            refine ko_eq (x1 := (107, [(3, .int vg10), (2, .int vg2), (0, .ref 98), (1, .int x1)], [.ref 10], (0, 0), ks ig28 ag28 qg28 rg28)) (by rw [eRrg28_2]) ?_
            first | refine ft_goS mi_k54 2 110 [.int 45, .int vg2, .ref 10] (by rfl) ?_ | refine ft_go mi_k54 2 110 [(3, .int vg10), (2, .int vg2), (0, .ref 98), (1, .int x1)] [.int 45, .int vg2, .ref 10] ig28 ag28 qg28 rg28 (by rfl) ?_
            refine ft_ifS mi_k54 (vg2 != 45) 118 113 [.ref 10] (by rfl) (fun c => ?_) (fun c => ?_)
            ·
              have c29 : vg2.toInt ≠ (45 : Int32).toInt := kd_ne c; clear c
              first | refine ft_goS mi_k54 2 120 [.int 0, .int vg2, .ref 10] (by rfl) ?_ | refine ft_go mi_k54 2 120 [(3, .int vg10), (2, .int vg2), (0, .ref 98), (1, .int x1)] [.int 0, .int vg2, .ref 10] ig28 ag28 qg28 rg28 (by rfl) ?_
              refine ko_callI mi_k54.1 (pc := 120) (ls := [(3, .int vg10), (2, .int vg2), (0, .ref 98), (1, .int x1)]) (st := [.int 0, .int vg2, .ref 10]) (h := ks ig28 ag28 qg28 rg28) (i := (.invokevirtual 60, 3, 17, 0, 9, 0, 187)) (mi_k54.2 _ _ (by rfl)) (ft_invS mi_pq17 (by rfl)) (cy := mi_c17) mi_pq17 rfl (kf17_10 hGg28.I hGg28.R vg2 0) (kj_d3 (n := n) (c := 1) (o1 := 10) (by decide)) ?_
              intro vg30 ig30 ag30 qg30 rg30 kg30 hg30
              have hGg30 := kG_call hGg28 kg30 (by decide +kernel)
              have eRrg30_2 : rg30 2 = 10 := (kg30.fr 2 rfl).trans eRrg28_2
              obtain ⟨hg30, og30⟩ := hg30
              first | refine ft_goS mi_k54 1 124 [] (by rfl) ?_ | refine ft_go mi_k54 1 124 [(3, .int vg10), (2, .int vg2), (0, .ref 98), (1, .int x1)] [] ig30 ag30 qg30 rg30 (by rfl) ?_
              have to32 : (vg10, (ig10 6274, ig10 6275, ag10 11, ag10 12, ig10 643)) = cOf t nn oNam (i 6274, i 6275, a 11, a 12, i 643) := (tOf og10 (kg10.fi 6275 rfl) (kT3 (kg10.fa 11 rfl) (kg10.fa 12 rfl) (kg10.fi 643 rfl)))
              have te33 : (ig10 6274, ig10 6275, ag10 11, ag10 12, ig10 643) = (i 6274, i 6275, a 11, a 12, i 643) := cOf_no to32 (op64 c13 kopm1) oNam_ne
              have to34 : (vg22, (ig22 6274, ig22 6275, ag22 11, ag22 12, ig22 643)) = cOf t nn oOpn (ig10 6274, ig10 6275, ag10 11, ag10 12, ig10 643) := (tOf og22 (kg22.fi 6275 rfl) (kT3 (kg22.fa 11 rfl) (kg22.fa 12 rfl) (kg22.fi 643 rfl)))
              have tx35 : vg2 = (if vg22.toInt = 45 then (126 : Int32) else vg22) := ((kj_v (op82 c25 hh21 ho24 hv5 z3.1 kopm1)).trans (if_neg (op83 c29 hh21 ho24 hv5 z23 kop45)).symm)
              have to36 : (ig28 6274, ig28 6275, ag28 11, ag28 12, ig28 643) = cO t nn m (ig22 6274, ig22 6275, ag22 11, ag22 12, ig22 643) := og28
              have to37 : (ig30 6274, ig30 6275, ag30 11, ag30 12, ig30 643) = cAdd vg2 0 (ig28 6274, ig28 6275, ag28 11, ag28 12, ig28 643) := (tAdd og30.1 (kg30.fi 6274 rfl) (kg30.fi 6275 rfl))
              have tp38 : (ig30 6274, ig30 6275, ag30 11, ag30 12, ig30 643) = cPart t nn (some (cO t nn m)) (i 6274, i 6275, a 11, a 12, i 643) := cPt_un (sub := cO t nn m) (op81 c25 hh21 ho24 hv5 z23 z9 kopm1) to32 (op64 c13 kopm1) te33 to34 (op84 c25 z23 kopm1) (op85 c26 c29 hh21 ho24 hv5 z23 kop40 kop45) to36 tx35 to37
              exact ft_ret mi_k54 (by rfl) (hP  _ _ _ _ hGg30 ⟨trivial, (tp38.trans (congrFun (cO_s hm).symm _))⟩)
            ·
              have c39 : vg2.toInt = (45 : Int32).toInt := kd_neF c; clear c
              first | refine fo_goS mi_k54 fz54_113_3_120 [.int 0, .int 126, .ref 10] (by rfl) ?_ | refine ft_goS mi_k54 3 120 [.int 0, .int 126, .ref 10] (by rfl) ?_ | refine ft_go mi_k54 3 120 [(3, .int vg10), (2, .int vg2), (0, .ref 98), (1, .int x1)] [.int 0, .int 126, .ref 10] ig28 ag28 qg28 rg28 (by rfl) ?_
              refine ko_callI mi_k54.1 (pc := 120) (ls := [(3, .int vg10), (2, .int vg2), (0, .ref 98), (1, .int x1)]) (st := [.int 0, .int 126, .ref 10]) (h := ks ig28 ag28 qg28 rg28) (i := (.invokevirtual 60, 3, 17, 0, 9, 0, 187)) (mi_k54.2 _ _ (by rfl)) (ft_invS mi_pq17 (by rfl)) (cy := mi_c17) mi_pq17 rfl (kf17_10 hGg28.I hGg28.R 126 0) (kj_d3 (n := n) (c := 1) (o1 := 10) (by decide)) ?_
              intro vg40 ig40 ag40 qg40 rg40 kg40 hg40
              have hGg40 := kG_call hGg28 kg40 (by decide +kernel)
              have eRrg40_2 : rg40 2 = 10 := (kg40.fr 2 rfl).trans eRrg28_2
              obtain ⟨hg40, og40⟩ := hg40
              first | refine ft_goS mi_k54 1 124 [] (by rfl) ?_ | refine ft_go mi_k54 1 124 [(3, .int vg10), (2, .int vg2), (0, .ref 98), (1, .int x1)] [] ig40 ag40 qg40 rg40 (by rfl) ?_
              have to42 : (vg10, (ig10 6274, ig10 6275, ag10 11, ag10 12, ig10 643)) = cOf t nn oNam (i 6274, i 6275, a 11, a 12, i 643) := (tOf og10 (kg10.fi 6275 rfl) (kT3 (kg10.fa 11 rfl) (kg10.fa 12 rfl) (kg10.fi 643 rfl)))
              have te43 : (ig10 6274, ig10 6275, ag10 11, ag10 12, ig10 643) = (i 6274, i 6275, a 11, a 12, i 643) := cOf_no to42 (op64 c13 kopm1) oNam_ne
              have to44 : (vg22, (ig22 6274, ig22 6275, ag22 11, ag22 12, ig22 643)) = cOf t nn oOpn (ig10 6274, ig10 6275, ag10 11, ag10 12, ig10 643) := (tOf og22 (kg22.fi 6275 rfl) (kT3 (kg22.fa 11 rfl) (kg22.fa 12 rfl) (kg22.fi 643 rfl)))
              have tx45 : (126 : Int32) = (if vg22.toInt = 45 then (126 : Int32) else vg22) := (if_pos (op87 c25 c39 hh21 ho24 hv5 z23 kopm1 kop45)).symm
              have to46 : (ig28 6274, ig28 6275, ag28 11, ag28 12, ig28 643) = cO t nn m (ig22 6274, ig22 6275, ag22 11, ag22 12, ig22 643) := og28
              have to47 : (ig40 6274, ig40 6275, ag40 11, ag40 12, ig40 643) = cAdd (126 : Int32) 0 (ig28 6274, ig28 6275, ag28 11, ag28 12, ig28 643) := (tAdd og40.1 (kg40.fi 6274 rfl) (kg40.fi 6275 rfl))
              have tp48 : (ig40 6274, ig40 6275, ag40 11, ag40 12, ig40 643) = cPart t nn (some (cO t nn m)) (i 6274, i 6275, a 11, a 12, i 643) := cPt_un (sub := cO t nn m) (op86 c39 hv5 kop45) to42 (op64 c13 kopm1) te43 to44 (op84 c25 z23 kopm1) (op88 c25 c39 hh21 ho24 hv5 kopm1 kop45) to46 tx45 to47
              exact ft_ret mi_k54 (by rfl) (hP  _ _ _ _ hGg40 ⟨trivial, (tp48.trans (congrFun (cO_s hm).symm _))⟩)
          ·
            have c49 : vg2.toInt = (40 : Int32).toInt := kd_neF c; clear c
            have s50 : (x1 + 1).toInt = x1.toInt + (1 : Int32).toInt := kd_add (op18 hp0.1 kop1) (op79 hn0 hp0.2 kop1)
            first | refine fo_goS mi_k54 fz54_74_4_78 [.int (x1 + 1), .ref 98] (by rfl) ?_ | refine ft_go mi_k54 4 78 [(3, .int vg10), (2, .int vg2), (0, .ref 98), (1, .int x1)] [.int (x1 + 1), .ref 98] ig22 ag22 qg22 rg22 (by rfl) ?_
            refine ko_callN mi_k54.1 (pc := 78) (ls := [(3, .int vg10), (2, .int vg2), (0, .ref 98), (1, .int x1)]) (st := [.int (x1 + 1), .ref 98]) (h := ks ig22 ag22 qg22 rg22) (i := (.invokevirtual 56, 3, 49, 0, 9, 0, 178)) (mi_k54.2 _ _ (by rfl)) (ft_invS mi_pq49 (by rfl)) (cy := mi_c49) mi_pq49 rfl ((ih m hm).1 _ _ _ _ hGg22.I hGg22.R (x1 + 1) (op80 hmI hp0.1 hp0.2 s50 kop1) t nn (((kg22.fa 99 rfl).trans (kg10.fa 99 rfl)).trans hT) (((kg22.fi 6273 rfl).trans (kg10.fi 6273 rfl)).trans hN) eRrg22_2 hX) (kj_d2 (n := n) (m := m) (o := 15) (o1 := 10) hm (by decide)) ?_
            intro ig51 ag51 qg51 rg51 kg51 hg51
            have hGg51 := kG_call hGg22 kg51 (by decide +kernel)
            have eRrg51_2 : rg51 2 = 10 := (kg51.fr 2 rfl).trans eRrg22_2
            obtain ⟨hg51, og51⟩ := hg51
            first | refine ft_goS mi_k54 2 84 [.int 41, .ref 98] (by rfl) ?_ | refine ft_go mi_k54 2 84 [(3, .int vg10), (2, .int vg2), (0, .ref 98), (1, .int x1)] [.int 41, .ref 98] ig51 ag51 qg51 rg51 (by rfl) ?_
            refine ko_callI mi_k54.1 (pc := 84) (ls := [(3, .int vg10), (2, .int vg2), (0, .ref 98), (1, .int x1)]) (st := [.int 41, .ref 98]) (h := ks ig51 ag51 qg51 rg51) (i := (.invokevirtual 39, 3, 46, 0, 9, 0, 200)) (mi_k54.2 _ _ (by rfl)) (ft_invS mi_pq46 (by rfl)) (cy := mi_c46) mi_pq46 rfl (ke46_98 hGg51.I hGg51.R 41 (op94 kop41) t nn ((((kg51.fa 99 rfl).trans (kg22.fa 99 rfl)).trans (kg10.fa 99 rfl)).trans hT) (((kg51.fi 6273 rfl).trans ((kg22.fi 6273 rfl).trans (kg10.fi 6273 rfl))).trans hN) hX) (kj_d3 (n := n) (c := 3) (o1 := 10) (by decide)) ?_
            intro vg52 ig52 ag52 qg52 rg52 kg52 hg52
            have hGg52 := kG_call hGg51 kg52 (by decide +kernel)
            have eRrg52_2 : rg52 2 = 10 := (kg52.fr 2 rfl).trans eRrg51_2
            obtain ⟨hg52, og52⟩ := hg52
            have z53 : ((vg52.toInt = 1) ∧ ((ig52 6274).toInt = ((ig51 6274).toInt + 1)) ∧ ((ig51 6274).toInt < (ig51 6273).toInt) ∧ ((ig51 6275).toInt = 0)) ∨ ((vg52.toInt = 0) ∧ ((ig52 6274).toInt = (ig51 6274).toInt)) := hg52
            refine ft_ifS mi_k54 (vg52 != 0) 95 90 [] (by rfl) (fun c => ?_) (fun c => ?_)
            ·
              have c54 : vg52.toInt ≠ (0 : Int32).toInt := kd_ne c; clear c
              have to55 : (vg10, (ig10 6274, ig10 6275, ag10 11, ag10 12, ig10 643)) = cOf t nn oNam (i 6274, i 6275, a 11, a 12, i 643) := (tOf og10 (kg10.fi 6275 rfl) (kT3 (kg10.fa 11 rfl) (kg10.fa 12 rfl) (kg10.fi 643 rfl)))
              have te56 : (ig10 6274, ig10 6275, ag10 11, ag10 12, ig10 643) = (i 6274, i 6275, a 11, a 12, i 643) := cOf_no to55 (op64 c13 kopm1) oNam_ne
              have to57 : (vg22, (ig22 6274, ig22 6275, ag22 11, ag22 12, ig22 643)) = cOf t nn oOpn (ig10 6274, ig10 6275, ag10 11, ag10 12, ig10 643) := (tOf og22 (kg22.fi 6275 rfl) (kT3 (kg22.fa 11 rfl) (kg22.fa 12 rfl) (kg22.fi 643 rfl)))
              have tt58 : (vg52, (ig52 6274, ig52 6275, ag52 11, ag52 12, ig52 643)) = cTk t nn 41 (ig51 6274, ig51 6275, ag51 11, ag51 12, ig51 643) := (tTk og52 (kg52.fi 6275 rfl) (kT3 (kg52.fa 11 rfl) (kg52.fa 12 rfl) (kg52.fi 643 rfl)))
              have tn59 : (ig52 6274, ig52 6275, ag52 11, ag52 12, ig52 643) = cEnd (cTk t nn 41 (ig51 6274, ig51 6275, ag51 11, ag51 12, ig51 643)) := cEn_y tt58 (op96 c54 z53 kop0)
              have to60 : (ig51 6274, ig51 6275, ag51 11, ag51 12, ig51 643) = cEit t nn (cO t nn m) (ig22 6274, ig22 6275, ag22 11, ag22 12, ig22 643) := og51
              have tp61 : (ig52 6274, ig52 6275, ag52 11, ag52 12, ig52 643) = cPart t nn (some (cO t nn m)) (i 6274, i 6275, a 11, a 12, i 643) := cPt_par (sub := cO t nn m) (op95 c49 hv5 kop40) to55 (op64 c13 kopm1) te56 to57 (op97 c25 c49 hh21 ho24 hv5 z23 kopm1 kop40) to60 tn59
              exact ft_ret mi_k54 (by rfl) (hP  _ _ _ _ hGg52 ⟨trivial, (tp61.trans (congrFun (cO_s hm).symm _))⟩)
            ·
              have c62 : vg52.toInt = (0 : Int32).toInt := kd_neF c; clear c
              have hJ63 := kG_i hGg52 6275 rfl (v := 1) ⟨(op62 kop1), (op63 kop1)⟩
              first | refine fo_goI mi_k54 fz54_90_3_95 [] (ku ig52 6275 1) (by rfl) ?_ | refine ft_goS mi_k54 3 95 [] (by rfl) ?_ | refine ft_go mi_k54 3 95 [(3, .int vg10), (2, .int vg2), (0, .ref 98), (1, .int x1)] [] (ku ig52 6275 1) ag52 qg52 rg52 (by rfl) ?_
              have to64 : (vg10, (ig10 6274, ig10 6275, ag10 11, ag10 12, ig10 643)) = cOf t nn oNam (i 6274, i 6275, a 11, a 12, i 643) := (tOf og10 (kg10.fi 6275 rfl) (kT3 (kg10.fa 11 rfl) (kg10.fa 12 rfl) (kg10.fi 643 rfl)))
              have te65 : (ig10 6274, ig10 6275, ag10 11, ag10 12, ig10 643) = (i 6274, i 6275, a 11, a 12, i 643) := cOf_no to64 (op64 c13 kopm1) oNam_ne
              have to66 : (vg22, (ig22 6274, ig22 6275, ag22 11, ag22 12, ig22 643)) = cOf t nn oOpn (ig10 6274, ig10 6275, ag10 11, ag10 12, ig10 643) := (tOf og22 (kg22.fi 6275 rfl) (kT3 (kg22.fa 11 rfl) (kg22.fa 12 rfl) (kg22.fi 643 rfl)))
              have tt67 : (vg52, (ig52 6274, ig52 6275, ag52 11, ag52 12, ig52 643)) = cTk t nn 41 (ig51 6274, ig51 6275, ag51 11, ag51 12, ig51 643) := (tTk og52 (kg52.fi 6275 rfl) (kT3 (kg52.fa 11 rfl) (kg52.fa 12 rfl) (kg52.fi 643 rfl)))
              have tb68 : (ig52 6274, (1 : Int32), ag52 11, ag52 12, ig52 643) = cBad (ig52 6274, ig52 6275, ag52 11, ag52 12, ig52 643) := (tBad rfl rfl (kT3 rfl rfl rfl))
              have tn69 : (ig52 6274, (1 : Int32), ag52 11, ag52 12, ig52 643) = cEnd (cTk t nn 41 (ig51 6274, ig51 6275, ag51 11, ag51 12, ig51 643)) := cEn_n tt67 (op98 c62 kop0) tb68
              have to70 : (ig51 6274, ig51 6275, ag51 11, ag51 12, ig51 643) = cEit t nn (cO t nn m) (ig22 6274, ig22 6275, ag22 11, ag22 12, ig22 643) := og51
              have tp71 : (ig52 6274, (1 : Int32), ag52 11, ag52 12, ig52 643) = cPart t nn (some (cO t nn m)) (i 6274, i 6275, a 11, a 12, i 643) := cPt_par (sub := cO t nn m) (op95 c49 hv5 kop40) to64 (op64 c13 kopm1) te65 to66 (op97 c25 c49 hh21 ho24 hv5 z23 kopm1 kop40) to70 tn69
              exact ft_ret mi_k54 (by rfl) (hP  _ _ _ _ hJ63 ⟨trivial, (tp71.trans (congrFun (cO_s hm).symm _))⟩)
        ·
          have c72 : vg22.toInt = ((-1) : Int32).toInt := kd_neF c; clear c
          have hJ73 := kG_i hGg22 6275 rfl (v := 1) ⟨(op62 kop1), (op63 kop1)⟩
          first | refine fo_goI mi_k54 fz54_62_3_67 [] (ku ig22 6275 1) (by rfl) ?_ | refine ft_go mi_k54 3 67 [(3, .int vg10), (2, .int vg2), (0, .ref 98), (1, .int x1)] [] (ku ig22 6275 1) ag22 qg22 rg22 (by rfl) ?_
          have to74 : (vg10, (ig10 6274, ig10 6275, ag10 11, ag10 12, ig10 643)) = cOf t nn oNam (i 6274, i 6275, a 11, a 12, i 643) := (tOf og10 (kg10.fi 6275 rfl) (kT3 (kg10.fa 11 rfl) (kg10.fa 12 rfl) (kg10.fi 643 rfl)))
          have te75 : (ig10 6274, ig10 6275, ag10 11, ag10 12, ig10 643) = (i 6274, i 6275, a 11, a 12, i 643) := cOf_no to74 (op64 c13 kopm1) oNam_ne
          have to76 : (vg22, (ig22 6274, ig22 6275, ag22 11, ag22 12, ig22 643)) = cOf t nn oOpn (ig10 6274, ig10 6275, ag10 11, ag10 12, ig10 643) := (tOf og22 (kg22.fi 6275 rfl) (kT3 (kg22.fa 11 rfl) (kg22.fa 12 rfl) (kg22.fi 643 rfl)))
          have te77 : (ig22 6274, ig22 6275, ag22 11, ag22 12, ig22 643) = (ig10 6274, ig10 6275, ag10 11, ag10 12, ig10 643) := cOf_no to76 (op64 c72 kopm1) oOpn_ne
          have tb78 : (ig22 6274, (1 : Int32), ag22 11, ag22 12, ig22 643) = cBad (ig22 6274, ig22 6275, ag22 11, ag22 12, ig22 643) := (tBad rfl rfl (kT3 rfl rfl rfl))
          have tb79 : (ig22 6274, (1 : Int32), ag22 11, ag22 12, ig22 643) = cBad (i 6274, i 6275, a 11, a 12, i 643) := tBad2 (te77.trans te75) tb78
          have tp80 : (ig22 6274, (1 : Int32), ag22 11, ag22 12, ig22 643) = cPart t nn (some (cO t nn m)) (i 6274, i 6275, a 11, a 12, i 643) := cPt_bad (sub := cO t nn m) (op35 hv5 z9) to74 (op64 c13 kopm1) te75 to76 (op64 c72 kopm1) tb79
          exact ft_ret mi_k54 (by rfl) (hP  _ _ _ _ hJ73 ⟨trivial, (tp80.trans (congrFun (cO_s hm).symm _))⟩)
    ·
      have c81 : vg10.toInt ≠ ((-1) : Int32).toInt := kd_eqF c; clear c
      first | refine ft_goS mi_k54 2 33 [.ref (rg10 2)] (by rfl) ?_ | refine ft_go mi_k54 2 33 [(3, .int vg10), (2, .int vg2), (0, .ref 98), (1, .int x1)] [.ref (rg10 2)] ig10 ag10 qg10 rg10 (by rfl) ?_
      refine ko_eq (x1 := (33, [(3, .int vg10), (2, .int vg2), (0, .ref 98), (1, .int x1)], [.ref 10], (0, 0), ks ig10 ag10 qg10 rg10)) (by rw [eRrg10_2]) ?_
      have s82 : ((vg10.toUInt32 % 65536).toInt32).toInt = vg10.toInt := kd_i2c (op99 c81 z11 kopm1) (Int.le_trans (op100 z11) (by decide))
      first | refine ft_goS mi_k54 4 38 [.int ((vg10.toUInt32 % 65536).toInt32), .ref (mi_RO + 10), .int 1, .ref 10] (by rfl) ?_ | refine ft_go mi_k54 4 38 [(3, .int vg10), (2, .int vg2), (0, .ref 98), (1, .int x1)] [.int ((vg10.toUInt32 % 65536).toInt32), .ref (mi_RO + 10), .int 1, .ref 10] ig10 ag10 qg10 rg10 (by rfl) ?_
      refine ko_callPI mi_k54.1 (pc := 38) (ls := [(3, .int vg10), (2, .int vg2), (0, .ref 98), (1, .int x1)]) (st := [.int ((vg10.toUInt32 % 65536).toInt32), .ref (mi_RO + 10), .int 1, .ref 10]) (h := ks ig10 ag10 qg10 rg10) (i := (.invokevirtual 50, 3, 228, 0, 9, 0, 190)) (mi_k54.2 _ _ (by rfl)) (ft_invS mi_pq228 (by rfl)) (cy := mi_c228) mi_pq228 rfl (ke228_1000010 hGg10.I hGg10.R ((vg10.toUInt32 % 65536).toInt32) (op101 c81 s82 z11 kopm1)) (kj_d3 (n := n) (c := 7) (o1 := 10) (by decide)) ?_
      intro vg83 hg83
      have z84 : (((-1) : Int) ≤ vg83.toInt) ∧ (vg83.toInt ≤ 5) ∧ (((((vg10.toUInt32 % 65536).toInt32).toInt = 119) → (vg83.toInt = 0))) ∧ (((((vg10.toUInt32 % 65536).toInt32).toInt = 112) → (vg83.toInt = 1))) ∧ (((((vg10.toUInt32 % 65536).toInt32).toInt = 104) → (vg83.toInt = 2))) ∧ (((((vg10.toUInt32 % 65536).toInt32).toInt = 110) → (vg83.toInt = 3))) ∧ (((((vg10.toUInt32 % 65536).toInt32).toInt = 111) → (vg83.toInt = 4))) ∧ (((((vg10.toUInt32 % 65536).toInt32).toInt = 100) → (vg83.toInt = 5))) ∧ (((vg83.toInt = 0) → (((vg10.toUInt32 % 65536).toInt32).toInt = 119))) ∧ (((vg83.toInt = 1) → (((vg10.toUInt32 % 65536).toInt32).toInt = 112))) ∧ (((vg83.toInt = 2) → (((vg10.toUInt32 % 65536).toInt32).toInt = 104))) ∧ (((vg83.toInt = 3) → (((vg10.toUInt32 % 65536).toInt32).toInt = 110))) ∧ (((vg83.toInt = 4) → (((vg10.toUInt32 % 65536).toInt32).toInt = 111))) ∧ (((vg83.toInt = 5) → (((vg10.toUInt32 % 65536).toInt32).toInt = 100))) ∧ ((vg83.toInt = (-1)) ∨ (((vg10.toUInt32 % 65536).toInt32).toInt = 119) ∨ (((vg10.toUInt32 % 65536).toInt32).toInt = 112) ∨ (((vg10.toUInt32 % 65536).toInt32).toInt = 104) ∨ (((vg10.toUInt32 % 65536).toInt32).toInt = 110) ∨ (((vg10.toUInt32 % 65536).toInt32).toInt = 111) ∨ (((vg10.toUInt32 % 65536).toInt32).toInt = 100)) := hg83
      refine ko_callI mi_k54.1 (pc := 41) (ls := [(3, .int vg10), (2, .int vg2), (0, .ref 98), (1, .int x1)]) (st := [.int vg83, .int 1, .ref 10]) (h := ks ig10 ag10 qg10 rg10) (i := (.invokevirtual 60, 3, 17, 0, 9, 0, 187)) (mi_k54.2 _ _ (by rfl)) (ft_invS mi_pq17 (by rfl)) (cy := mi_c17) mi_pq17 rfl (kf17_10 hGg10.I hGg10.R 1 vg83) (kj_d3 (n := n) (c := 1) (o1 := 10) (by decide)) ?_
      intro vg85 ig85 ag85 qg85 rg85 kg85 hg85
      have hGg85 := kG_call hGg10 kg85 (by decide +kernel)
      have eRrg85_2 : rg85 2 = 10 := (kg85.fr 2 rfl).trans eRrg10_2
      obtain ⟨hg85, og85⟩ := hg85
      first | refine ft_goS mi_k54 1 45 [] (by rfl) ?_ | refine ft_go mi_k54 1 45 [(3, .int vg10), (2, .int vg2), (0, .ref 98), (1, .int x1)] [] ig85 ag85 qg85 rg85 (by rfl) ?_
      exact ft_ret mi_k54 (by rfl) (hP  _ _ _ _ hGg85 ⟨trivial, (cPt_lv (cO_any t nn n) (fun nx => cPt_nam (nx := nx) (op102 c81 ho12 hv5 z11 z3.1 kopm1) (tOf og10 (kg10.fi 6275 rfl) (kT3 (kg10.fa 11 rfl) (kg10.fa 12 rfl) (kg10.fi 643 rfl))) (op104 c81 z11 kopm1) (nIdx_of (op103 c81 s82 z11 z84.2.1 z84.2.2.1 z84.2.2.2.1 z84.2.2.2.2.1 z84.2.2.2.2.2.1 z84.2.2.2.2.2.2.1 z84.2.2.2.2.2.2.2.1 kopm1)) (tAdd og85.1 (kg85.fi 6274 rfl) (kg85.fi 6275 rfl))))⟩)
set_option maxRecDepth 100000 in
theorem kMsP10_53 (n : Nat) (h54 : kMP10_54 n) : kMP10_53 n := by
  intro i a q r hI hr x1 hp0 t nn hT hN hL hX
  have hG := kG_self wP10 hI hr
  refine km_ofN (q := (mi_h53, mi_c53)) rfl (by decide) (Nat.le_of_ble_eq_true rfl) ?_
  intro P hP
  have hn0 : (0 : Int) ≤ (n : Int) := Int.natCast_nonneg n
  have hn1 : (i 6273).toInt = nn.toInt := congrArg Int32.toInt hN
  have eRr_2 : r 2 = 10 := hL
  first | refine ft_goL mi_k53 2 2 [(0, .ref 98), (1, .int x1)] [.int x1, .ref 98] (by rfl) ?_ | refine ft_go mi_k53 2 2 [(0, .ref 98), (1, .int x1)] [.int x1, .ref 98] i a q r (by rfl) ?_
  refine ko_callN mi_k53.1 (pc := 2) (ls := [(0, .ref 98), (1, .int x1)]) (st := [.int x1, .ref 98]) (h := ks i a q r) (i := (.invokevirtual 87, 3, 54, 0, 9, 0, 183)) (mi_k53.2 _ _ (by rfl)) (ft_invS mi_pq54 (by rfl)) (cy := mi_c54) mi_pq54 rfl (h54 _ _ _ _ hG.I hG.R x1 (op105 hp0.1 hp0.2) t nn hT hN eRr_2 hX) (kj_d1 (n := n) (o := 10) (o1 := 11) (by decide)) ?_
  intro ig2 ag2 qg2 rg2 kg2 hg2
  have hGg2 := kG_call hG kg2 (by decide +kernel)
  have eRrg2_2 : rg2 2 = 10 := (kg2.fr 2 rfl).trans eRr_2
  obtain ⟨hg2, og2⟩ := hg2
  first | refine ft_goS mi_k53 2 8 [.ref (mi_RO + 12), .ref 98] (by rfl) ?_ | refine ft_go mi_k53 2 8 [(0, .ref 98), (1, .int x1)] [.ref (mi_RO + 12), .ref 98] ig2 ag2 qg2 rg2 (by rfl) ?_
  refine ko_callI mi_k53.1 (pc := 8) (ls := [(0, .ref 98), (1, .int x1)]) (st := [.ref (mi_RO + 12), .ref 98]) (h := ks ig2 ag2 qg2 rg2) (i := (.invokevirtual 78, 3, 47, 0, 9, 0, 189)) (mi_k53.2 _ _ (by rfl)) (ft_invS mi_pq47 (by rfl)) (cy := mi_c47) mi_pq47 rfl (ke47_98_1000012 hGg2.I hGg2.R t nn ((kg2.fa 99 rfl).trans hT) ((kg2.fi 6273 rfl).trans hN) hX) (kj_d3 (n := n) (c := 9) (o1 := 11) (by decide)) ?_
  intro vg3 ig3 ag3 qg3 rg3 kg3 hg3
  have hGg3 := kG_call hGg2 kg3 (by decide +kernel)
  have eRrg3_2 : rg3 2 = 10 := (kg3.fr 2 rfl).trans eRrg2_2
  obtain ⟨hg3, og3⟩ := hg3
  have efig2_6273 : (ig2 6273).toInt = (i 6273).toInt := kg2.ti 6273 rfl
  have ho5 : vg3.toInt = (-1) ∨ vg3.toInt = (cHr t nn (ig2 6274) (ig2 6275)).toInt := tOf_v og3
  first | refine fo_goL mi_k53 fz53_11_3_14 [(3, .int 0), (2, .int vg3), (0, .ref 98), (1, .int x1)] [] (by rfl) ?_ | refine fo_goL mi_k53 fz53_48_3_14 [(3, .int 0), (2, .int vg3), (0, .ref 98), (1, .int x1)] [] (by rfl) ?_ | refine ft_go mi_k53 3 14 [(3, .int 0), (2, .int vg3), (0, .ref 98), (1, .int x1)] [] ig3 ag3 qg3 rg3 (by rfl) ?_
  have lp6 : ∀ (nz : Nat) (i6 : Nat → Int32) (a6 : Nat → List Int32) (q6 : Nat → List Int64) (r6 : Nat → Nat) (l3_6 : Int32) (l2_6 : Int32), kG yw53_98_L10_L14 ig3 ag3 qg3 rg3 i6 a6 q6 r6 → (0 : Int) ≤ l3_6.toInt → cLpS t nn (cO t nn n) oMul (nn.toInt - l3_6.toInt).toNat (l2_6, (i6 6274, i6 6275, a6 11, a6 12, i6 643)) = cMul t nn (cO t nn n) oMul (i 6274, i 6275, a 11, a 12, i 643) → (((i6 6273).toInt - l3_6.toInt)).toNat < nz → ko (6 * n + 11) (mi_h53, mi_c53) P (14, [(3, .int l3_6), (2, .int l2_6), (0, .ref 98), (1, .int x1)], [], (0, 0), ks i6 a6 q6 r6) := by
    intro nz
    induction nz with
    | zero =>
      intro _ _ _ _ _ _ _ _ _ hm
      exact absurd hm (Nat.not_lt_zero _)
    | succ nz ih6 =>
      intro i6 a6 q6 r6 l3_6 l2_6 hL6 p6_0 O6_0 hm6
      have fi6_6273 : ((0 : Int) ≤ (i6 6273).toInt) ∧ ((i6 6273).toInt ≤ 120) := hL6.I.1 6273
      have efig3_6273 : (ig3 6273).toInt = (ig2 6273).toInt := kg3.ti 6273 rfl
      have efi6_6273 : (i6 6273).toInt = (ig3 6273).toInt := hL6.ti 6273 rfl
      have eRr6_2 : r6 2 = 10 := (hL6.fr 2 rfl).trans eRrg3_2
      first | refine fo_goL mi_k53 fz53_14_3_19 [(3, .int l3_6), (2, .int l2_6), (0, .ref 98), (1, .int x1)] [.int (i6 6273), .int l3_6] (by rfl) ?_ | refine ft_go mi_k53 3 19 [(3, .int l3_6), (2, .int l2_6), (0, .ref 98), (1, .int x1)] [.int (i6 6273), .int l3_6] i6 a6 q6 r6 (by rfl) ?_
      refine ft_ifS mi_k53 (decide ((i6 6273) ≤ l3_6)) 55 22 [] (by rfl) (fun c => ?_) (fun c => ?_)
      ·
        have c7 : (i6 6273).toInt ≤ l3_6.toInt := kd_le c; clear c
        have hG8 := kG_call hGg3 hL6 (by decide +kernel)
        exact ft_ret mi_k53 (by rfl) (hP  _ _ _ _ hG8 ⟨trivial, (cLS_end O6_0 (kj_sub0 (n := nn.toInt) (op116 c7 efi6_6273 efig2_6273 efig3_6273 hn1)))⟩)
      ·
        have c9 : l3_6.toInt < (i6 6273).toInt := kd_leF c; clear c
        first | refine ft_goS mi_k53 2 24 [.int (-1), .int l2_6] (by rfl) ?_ | refine ft_go mi_k53 2 24 [(3, .int l3_6), (2, .int l2_6), (0, .ref 98), (1, .int x1)] [.int (-1), .int l2_6] i6 a6 q6 r6 (by rfl) ?_
        refine ft_ifS mi_k53 (l2_6 == (-1)) 55 27 [] (by rfl) (fun c => ?_) (fun c => ?_)
        ·
          have c10 : l2_6.toInt = ((-1) : Int32).toInt := kd_eq c; clear c
          have hG11 := kG_call hGg3 hL6 (by decide +kernel)
          exact ft_ret mi_k53 (by rfl) (hP  _ _ _ _ hG11 ⟨trivial, (cLS_out O6_0 (op64 c10 kopm1))⟩)
        ·
          have c12 : l2_6.toInt ≠ ((-1) : Int32).toInt := kd_eqF c; clear c
          first | refine ft_goS mi_k53 2 29 [.int x1, .ref 98] (by rfl) ?_ | refine ft_go mi_k53 2 29 [(3, .int l3_6), (2, .int l2_6), (0, .ref 98), (1, .int x1)] [.int x1, .ref 98] i6 a6 q6 r6 (by rfl) ?_
          refine ko_callN mi_k53.1 (pc := 29) (ls := [(3, .int l3_6), (2, .int l2_6), (0, .ref 98), (1, .int x1)]) (st := [.int x1, .ref 98]) (h := ks i6 a6 q6 r6) (i := (.invokevirtual 87, 3, 54, 0, 9, 0, 183)) (mi_k53.2 _ _ (by rfl)) (ft_invS mi_pq54 (by rfl)) (cy := mi_c54) mi_pq54 rfl (h54 _ _ _ _ hL6.I hL6.R x1 (op105 hp0.1 hp0.2) t nn ((((hL6.fa 99 rfl).trans (kg3.fa 99 rfl)).trans (kg2.fa 99 rfl)).trans hT) (((hL6.fi 6273 rfl).trans ((kg3.fi 6273 rfl).trans (kg2.fi 6273 rfl))).trans hN) eRr6_2 hX) (kj_d1 (n := n) (o := 10) (o1 := 11) (by decide)) ?_
          intro ig13 ag13 qg13 rg13 kg13 hg13
          have hGg13 := kG_call hL6 kg13 (by decide +kernel)
          have eRrg13_2 : rg13 2 = 10 := (kg13.fr 2 rfl).trans eRr6_2
          obtain ⟨hg13, og13⟩ := hg13
          first | refine ft_goS mi_k53 2 36 [.ref (rg13 2)] (by rfl) ?_ | refine ft_go mi_k53 2 36 [(3, .int l3_6), (2, .int l2_6), (0, .ref 98), (1, .int x1)] [.ref (rg13 2)] ig13 ag13 qg13 rg13 (by rfl) ?_
          refine ko_eq (x1 := (36, [(3, .int l3_6), (2, .int l2_6), (0, .ref 98), (1, .int x1)], [.ref 10], (0, 0), ks ig13 ag13 qg13 rg13)) (by rw [eRrg13_2]) ?_
          first | refine ft_goS mi_k53 2 38 [.int 0, .int l2_6, .ref 10] (by rfl) ?_ | refine ft_go mi_k53 2 38 [(3, .int l3_6), (2, .int l2_6), (0, .ref 98), (1, .int x1)] [.int 0, .int l2_6, .ref 10] ig13 ag13 qg13 rg13 (by rfl) ?_
          refine ko_callI mi_k53.1 (pc := 38) (ls := [(3, .int l3_6), (2, .int l2_6), (0, .ref 98), (1, .int x1)]) (st := [.int 0, .int l2_6, .ref 10]) (h := ks ig13 ag13 qg13 rg13) (i := (.invokevirtual 60, 3, 17, 0, 9, 0, 187)) (mi_k53.2 _ _ (by rfl)) (ft_invS mi_pq17 (by rfl)) (cy := mi_c17) mi_pq17 rfl (kf17_10 hGg13.I hGg13.R l2_6 0) (kj_d3 (n := n) (c := 1) (o1 := 11) (by decide)) ?_
          intro vg14 ig14 ag14 qg14 rg14 kg14 hg14
          have hGg14 := kG_call hGg13 kg14 (by decide +kernel)
          have eRrg14_2 : rg14 2 = 10 := (kg14.fr 2 rfl).trans eRrg13_2
          obtain ⟨hg14, og14⟩ := hg14
          first | refine ft_goS mi_k53 3 45 [.ref (mi_RO + 12), .ref 98] (by rfl) ?_ | refine ft_go mi_k53 3 45 [(3, .int l3_6), (2, .int l2_6), (0, .ref 98), (1, .int x1)] [.ref (mi_RO + 12), .ref 98] ig14 ag14 qg14 rg14 (by rfl) ?_
          refine ko_callI mi_k53.1 (pc := 45) (ls := [(3, .int l3_6), (2, .int l2_6), (0, .ref 98), (1, .int x1)]) (st := [.ref (mi_RO + 12), .ref 98]) (h := ks ig14 ag14 qg14 rg14) (i := (.invokevirtual 78, 3, 47, 0, 9, 0, 189)) (mi_k53.2 _ _ (by rfl)) (ft_invS mi_pq47 (by rfl)) (cy := mi_c47) mi_pq47 rfl (ke47_98_1000012 hGg14.I hGg14.R t nn ((((((kg14.fa 99 rfl).trans (kg13.fa 99 rfl)).trans (hL6.fa 99 rfl)).trans (kg3.fa 99 rfl)).trans (kg2.fa 99 rfl)).trans hT) (((kg14.fi 6273 rfl).trans ((kg13.fi 6273 rfl).trans ((hL6.fi 6273 rfl).trans ((kg3.fi 6273 rfl).trans (kg2.fi 6273 rfl))))).trans hN) hX) (kj_d3 (n := n) (c := 9) (o1 := 11) (by decide)) ?_
          intro vg16 ig16 ag16 qg16 rg16 kg16 hg16
          have hGg16 := kG_call hGg14 kg16 (by decide +kernel)
          have eRrg16_2 : rg16 2 = 10 := (kg16.fr 2 rfl).trans eRrg14_2
          obtain ⟨hg16, og16⟩ := hg16
          have efig13_6273 : (ig13 6273).toInt = (i6 6273).toInt := kg13.ti 6273 rfl
          have efig14_6273 : (ig14 6273).toInt = (ig13 6273).toInt := kg14.ti 6273 rfl
          have ho18 : vg16.toInt = (-1) ∨ vg16.toInt = (cHr t nn (ig14 6274) (ig14 6275)).toInt := tOf_v og16
          have s19 : (l3_6 + 1).toInt = l3_6.toInt + (1 : Int32).toInt := kd_add (op18 p6_0 kop1) (op117 c9 fi6_6273.2 kop1)
          first | refine fo_goL mi_k53 fz53_11_3_14 [(3, .int (l3_6 + 1)), (2, .int vg16), (0, .ref 98), (1, .int x1)] [] (by rfl) ?_ | refine fo_goL mi_k53 fz53_48_3_14 [(3, .int (l3_6 + 1)), (2, .int vg16), (0, .ref 98), (1, .int x1)] [] (by rfl) ?_ | refine ft_go mi_k53 3 14 [(3, .int (l3_6 + 1)), (2, .int vg16), (0, .ref 98), (1, .int x1)] [] ig16 ag16 qg16 rg16 (by rfl) ?_
          have efig16_6273 : (ig16 6273).toInt = (ig14 6273).toInt := kg16.ti 6273 rfl
          exact ih6 _ _ _ _ _ _ hGg16 (op20 p6_0 s19 kop1) (cLS_again O6_0 (kj_sub2 (n := nn.toInt) (op118 c9 efi6_6273 efig2_6273 efig3_6273 hn1) (op4 p6_0) (op30 s19 kop1)) (op119 c12 kopm1) og13 (tAdd og14.1 (kg14.fi 6274 rfl) (kg14.fi 6275 rfl)) (tOf og16 (kg16.fi 6275 rfl) (kT3 (kg16.fa 11 rfl) (kg16.fa 12 rfl) (kg16.fi 643 rfl)))) (kj_meas (op120 efig13_6273 efig14_6273 efig16_6273 s19 kop1) (op121 c9) hm6)
  exact lp6 _ _ _ _ _ _ _ (kG_self _ hGg3.I hGg3.R) (op36 kop0) (cLS_begin og2 (tOf og3 (kg3.fi 6275 rfl) (kT3 (kg3.fa 11 rfl) (kg3.fa 12 rfl) (kg3.fi 643 rfl))) (kj_sub00 kop0)) (Nat.lt_succ_self _)
set_option maxRecDepth 100000 in
theorem kMsP10_52 (n : Nat) (h54 : kMP10_54 n) (h53 : kMP10_53 n) : kMP10_52 n := by
  intro i a q r hI hr x1 hp0 t nn hT hN hL hX
  have hG := kG_self wP10 hI hr
  refine km_ofN (q := (mi_h52, mi_c52)) rfl (by decide) (Nat.le_of_ble_eq_true rfl) ?_
  intro P hP
  have hn0 : (0 : Int) ≤ (n : Int) := Int.natCast_nonneg n
  have hn1 : (i 6273).toInt = nn.toInt := congrArg Int32.toInt hN
  have eRr_2 : r 2 = 10 := hL
  first | refine ft_goL mi_k52 2 2 [(0, .ref 98), (1, .int x1)] [.int x1, .ref 98] (by rfl) ?_ | refine ft_go mi_k52 2 2 [(0, .ref 98), (1, .int x1)] [.int x1, .ref 98] i a q r (by rfl) ?_
  refine ko_callN mi_k52.1 (pc := 2) (ls := [(0, .ref 98), (1, .int x1)]) (st := [.int x1, .ref 98]) (h := ks i a q r) (i := (.invokevirtual 82, 3, 53, 0, 9, 0, 182)) (mi_k52.2 _ _ (by rfl)) (ft_invS mi_pq53 (by rfl)) (cy := mi_c53) mi_pq53 rfl (h53 _ _ _ _ hG.I hG.R x1 (op105 hp0.1 hp0.2) t nn hT hN eRr_2 hX) (kj_d1 (n := n) (o := 11) (o1 := 12) (by decide)) ?_
  intro ig2 ag2 qg2 rg2 kg2 hg2
  have hGg2 := kG_call hG kg2 (by decide +kernel)
  have eRrg2_2 : rg2 2 = 10 := (kg2.fr 2 rfl).trans eRr_2
  obtain ⟨hg2, og2⟩ := hg2
  first | refine ft_goS mi_k52 2 8 [.ref (mi_RO + 13), .ref 98] (by rfl) ?_ | refine ft_go mi_k52 2 8 [(0, .ref 98), (1, .int x1)] [.ref (mi_RO + 13), .ref 98] ig2 ag2 qg2 rg2 (by rfl) ?_
  refine ko_callI mi_k52.1 (pc := 8) (ls := [(0, .ref 98), (1, .int x1)]) (st := [.ref (mi_RO + 13), .ref 98]) (h := ks ig2 ag2 qg2 rg2) (i := (.invokevirtual 78, 3, 47, 0, 9, 0, 189)) (mi_k52.2 _ _ (by rfl)) (ft_invS mi_pq47 (by rfl)) (cy := mi_c47) mi_pq47 rfl (ke47_98_1000013 hGg2.I hGg2.R t nn ((kg2.fa 99 rfl).trans hT) ((kg2.fi 6273 rfl).trans hN) hX) (kj_d3 (n := n) (c := 9) (o1 := 12) (by decide)) ?_
  intro vg3 ig3 ag3 qg3 rg3 kg3 hg3
  have hGg3 := kG_call hGg2 kg3 (by decide +kernel)
  have eRrg3_2 : rg3 2 = 10 := (kg3.fr 2 rfl).trans eRrg2_2
  obtain ⟨hg3, og3⟩ := hg3
  have efig2_6273 : (ig2 6273).toInt = (i 6273).toInt := kg2.ti 6273 rfl
  have ho5 : vg3.toInt = (-1) ∨ vg3.toInt = (cHr t nn (ig2 6274) (ig2 6275)).toInt := tOf_v og3
  first | refine fo_goL mi_k52 fz52_11_3_14 [(3, .int 0), (2, .int vg3), (0, .ref 98), (1, .int x1)] [] (by rfl) ?_ | refine fo_goL mi_k52 fz52_48_3_14 [(3, .int 0), (2, .int vg3), (0, .ref 98), (1, .int x1)] [] (by rfl) ?_ | refine ft_go mi_k52 3 14 [(3, .int 0), (2, .int vg3), (0, .ref 98), (1, .int x1)] [] ig3 ag3 qg3 rg3 (by rfl) ?_
  have lp6 : ∀ (nz : Nat) (i6 : Nat → Int32) (a6 : Nat → List Int32) (q6 : Nat → List Int64) (r6 : Nat → Nat) (l3_6 : Int32) (l2_6 : Int32), kG yw52_98_L10_L14 ig3 ag3 qg3 rg3 i6 a6 q6 r6 → (0 : Int) ≤ l3_6.toInt → cLpS t nn (cP3 t nn (cO t nn n)) oSum (nn.toInt - l3_6.toInt).toNat (l2_6, (i6 6274, i6 6275, a6 11, a6 12, i6 643)) = cMul t nn (cP3 t nn (cO t nn n)) oSum (i 6274, i 6275, a 11, a 12, i 643) → (((i6 6273).toInt - l3_6.toInt)).toNat < nz → ko (6 * n + 12) (mi_h52, mi_c52) P (14, [(3, .int l3_6), (2, .int l2_6), (0, .ref 98), (1, .int x1)], [], (0, 0), ks i6 a6 q6 r6) := by
    intro nz
    induction nz with
    | zero =>
      intro _ _ _ _ _ _ _ _ _ hm
      exact absurd hm (Nat.not_lt_zero _)
    | succ nz ih6 =>
      intro i6 a6 q6 r6 l3_6 l2_6 hL6 p6_0 O6_0 hm6
      have fi6_6273 : ((0 : Int) ≤ (i6 6273).toInt) ∧ ((i6 6273).toInt ≤ 120) := hL6.I.1 6273
      have efig3_6273 : (ig3 6273).toInt = (ig2 6273).toInt := kg3.ti 6273 rfl
      have efi6_6273 : (i6 6273).toInt = (ig3 6273).toInt := hL6.ti 6273 rfl
      have eRr6_2 : r6 2 = 10 := (hL6.fr 2 rfl).trans eRrg3_2
      first | refine fo_goL mi_k52 fz52_14_3_19 [(3, .int l3_6), (2, .int l2_6), (0, .ref 98), (1, .int x1)] [.int (i6 6273), .int l3_6] (by rfl) ?_ | refine ft_go mi_k52 3 19 [(3, .int l3_6), (2, .int l2_6), (0, .ref 98), (1, .int x1)] [.int (i6 6273), .int l3_6] i6 a6 q6 r6 (by rfl) ?_
      refine ft_ifS mi_k52 (decide ((i6 6273) ≤ l3_6)) 55 22 [] (by rfl) (fun c => ?_) (fun c => ?_)
      ·
        have c7 : (i6 6273).toInt ≤ l3_6.toInt := kd_le c; clear c
        have hG8 := kG_call hGg3 hL6 (by decide +kernel)
        exact ft_ret mi_k52 (by rfl) (hP  _ _ _ _ hG8 ⟨trivial, (cLS_end O6_0 (kj_sub0 (n := nn.toInt) (op116 c7 efi6_6273 efig2_6273 efig3_6273 hn1)))⟩)
      ·
        have c9 : l3_6.toInt < (i6 6273).toInt := kd_leF c; clear c
        first | refine ft_goS mi_k52 2 24 [.int (-1), .int l2_6] (by rfl) ?_ | refine ft_go mi_k52 2 24 [(3, .int l3_6), (2, .int l2_6), (0, .ref 98), (1, .int x1)] [.int (-1), .int l2_6] i6 a6 q6 r6 (by rfl) ?_
        refine ft_ifS mi_k52 (l2_6 == (-1)) 55 27 [] (by rfl) (fun c => ?_) (fun c => ?_)
        ·
          have c10 : l2_6.toInt = ((-1) : Int32).toInt := kd_eq c; clear c
          have hG11 := kG_call hGg3 hL6 (by decide +kernel)
          exact ft_ret mi_k52 (by rfl) (hP  _ _ _ _ hG11 ⟨trivial, (cLS_out O6_0 (op64 c10 kopm1))⟩)
        ·
          have c12 : l2_6.toInt ≠ ((-1) : Int32).toInt := kd_eqF c; clear c
          first | refine ft_goS mi_k52 2 29 [.int x1, .ref 98] (by rfl) ?_ | refine ft_go mi_k52 2 29 [(3, .int l3_6), (2, .int l2_6), (0, .ref 98), (1, .int x1)] [.int x1, .ref 98] i6 a6 q6 r6 (by rfl) ?_
          refine ko_callN mi_k52.1 (pc := 29) (ls := [(3, .int l3_6), (2, .int l2_6), (0, .ref 98), (1, .int x1)]) (st := [.int x1, .ref 98]) (h := ks i6 a6 q6 r6) (i := (.invokevirtual 82, 3, 53, 0, 9, 0, 182)) (mi_k52.2 _ _ (by rfl)) (ft_invS mi_pq53 (by rfl)) (cy := mi_c53) mi_pq53 rfl (h53 _ _ _ _ hL6.I hL6.R x1 (op105 hp0.1 hp0.2) t nn ((((hL6.fa 99 rfl).trans (kg3.fa 99 rfl)).trans (kg2.fa 99 rfl)).trans hT) (((hL6.fi 6273 rfl).trans ((kg3.fi 6273 rfl).trans (kg2.fi 6273 rfl))).trans hN) eRr6_2 hX) (kj_d1 (n := n) (o := 11) (o1 := 12) (by decide)) ?_
          intro ig13 ag13 qg13 rg13 kg13 hg13
          have hGg13 := kG_call hL6 kg13 (by decide +kernel)
          have eRrg13_2 : rg13 2 = 10 := (kg13.fr 2 rfl).trans eRr6_2
          obtain ⟨hg13, og13⟩ := hg13
          first | refine ft_goS mi_k52 2 36 [.ref (rg13 2)] (by rfl) ?_ | refine ft_go mi_k52 2 36 [(3, .int l3_6), (2, .int l2_6), (0, .ref 98), (1, .int x1)] [.ref (rg13 2)] ig13 ag13 qg13 rg13 (by rfl) ?_
          refine ko_eq (x1 := (36, [(3, .int l3_6), (2, .int l2_6), (0, .ref 98), (1, .int x1)], [.ref 10], (0, 0), ks ig13 ag13 qg13 rg13)) (by rw [eRrg13_2]) ?_
          first | refine ft_goS mi_k52 2 38 [.int 0, .int l2_6, .ref 10] (by rfl) ?_ | refine ft_go mi_k52 2 38 [(3, .int l3_6), (2, .int l2_6), (0, .ref 98), (1, .int x1)] [.int 0, .int l2_6, .ref 10] ig13 ag13 qg13 rg13 (by rfl) ?_
          refine ko_callI mi_k52.1 (pc := 38) (ls := [(3, .int l3_6), (2, .int l2_6), (0, .ref 98), (1, .int x1)]) (st := [.int 0, .int l2_6, .ref 10]) (h := ks ig13 ag13 qg13 rg13) (i := (.invokevirtual 60, 3, 17, 0, 9, 0, 187)) (mi_k52.2 _ _ (by rfl)) (ft_invS mi_pq17 (by rfl)) (cy := mi_c17) mi_pq17 rfl (kf17_10 hGg13.I hGg13.R l2_6 0) (kj_d3 (n := n) (c := 1) (o1 := 12) (by decide)) ?_
          intro vg14 ig14 ag14 qg14 rg14 kg14 hg14
          have hGg14 := kG_call hGg13 kg14 (by decide +kernel)
          have eRrg14_2 : rg14 2 = 10 := (kg14.fr 2 rfl).trans eRrg13_2
          obtain ⟨hg14, og14⟩ := hg14
          first | refine ft_goS mi_k52 3 45 [.ref (mi_RO + 13), .ref 98] (by rfl) ?_ | refine ft_go mi_k52 3 45 [(3, .int l3_6), (2, .int l2_6), (0, .ref 98), (1, .int x1)] [.ref (mi_RO + 13), .ref 98] ig14 ag14 qg14 rg14 (by rfl) ?_
          refine ko_callI mi_k52.1 (pc := 45) (ls := [(3, .int l3_6), (2, .int l2_6), (0, .ref 98), (1, .int x1)]) (st := [.ref (mi_RO + 13), .ref 98]) (h := ks ig14 ag14 qg14 rg14) (i := (.invokevirtual 78, 3, 47, 0, 9, 0, 189)) (mi_k52.2 _ _ (by rfl)) (ft_invS mi_pq47 (by rfl)) (cy := mi_c47) mi_pq47 rfl (ke47_98_1000013 hGg14.I hGg14.R t nn ((((((kg14.fa 99 rfl).trans (kg13.fa 99 rfl)).trans (hL6.fa 99 rfl)).trans (kg3.fa 99 rfl)).trans (kg2.fa 99 rfl)).trans hT) (((kg14.fi 6273 rfl).trans ((kg13.fi 6273 rfl).trans ((hL6.fi 6273 rfl).trans ((kg3.fi 6273 rfl).trans (kg2.fi 6273 rfl))))).trans hN) hX) (kj_d3 (n := n) (c := 9) (o1 := 12) (by decide)) ?_
          intro vg16 ig16 ag16 qg16 rg16 kg16 hg16
          have hGg16 := kG_call hGg14 kg16 (by decide +kernel)
          have eRrg16_2 : rg16 2 = 10 := (kg16.fr 2 rfl).trans eRrg14_2
          obtain ⟨hg16, og16⟩ := hg16
          have efig13_6273 : (ig13 6273).toInt = (i6 6273).toInt := kg13.ti 6273 rfl
          have efig14_6273 : (ig14 6273).toInt = (ig13 6273).toInt := kg14.ti 6273 rfl
          have ho18 : vg16.toInt = (-1) ∨ vg16.toInt = (cHr t nn (ig14 6274) (ig14 6275)).toInt := tOf_v og16
          have s19 : (l3_6 + 1).toInt = l3_6.toInt + (1 : Int32).toInt := kd_add (op18 p6_0 kop1) (op117 c9 fi6_6273.2 kop1)
          first | refine fo_goL mi_k52 fz52_11_3_14 [(3, .int (l3_6 + 1)), (2, .int vg16), (0, .ref 98), (1, .int x1)] [] (by rfl) ?_ | refine fo_goL mi_k52 fz52_48_3_14 [(3, .int (l3_6 + 1)), (2, .int vg16), (0, .ref 98), (1, .int x1)] [] (by rfl) ?_ | refine ft_go mi_k52 3 14 [(3, .int (l3_6 + 1)), (2, .int vg16), (0, .ref 98), (1, .int x1)] [] ig16 ag16 qg16 rg16 (by rfl) ?_
          have efig16_6273 : (ig16 6273).toInt = (ig14 6273).toInt := kg16.ti 6273 rfl
          exact ih6 _ _ _ _ _ _ hGg16 (op20 p6_0 s19 kop1) (cLS_again O6_0 (kj_sub2 (n := nn.toInt) (op118 c9 efi6_6273 efig2_6273 efig3_6273 hn1) (op4 p6_0) (op30 s19 kop1)) (op119 c12 kopm1) og13 (tAdd og14.1 (kg14.fi 6274 rfl) (kg14.fi 6275 rfl)) (tOf og16 (kg16.fi 6275 rfl) (kT3 (kg16.fa 11 rfl) (kg16.fa 12 rfl) (kg16.fi 643 rfl)))) (kj_meas (op120 efig13_6273 efig14_6273 efig16_6273 s19 kop1) (op121 c9) hm6)
  exact lp6 _ _ _ _ _ _ _ (kG_self _ hGg3.I hGg3.R) (op36 kop0) (cLS_begin og2 (tOf og3 (kg3.fi 6275 rfl) (kT3 (kg3.fa 11 rfl) (kg3.fa 12 rfl) (kg3.fi 643 rfl))) (kj_sub00 kop0)) (Nat.lt_succ_self _)
set_option maxRecDepth 100000 in
theorem kMsP10_51 (n : Nat) (h54 : kMP10_54 n) (h53 : kMP10_53 n) (h52 : kMP10_52 n) : kMP10_51 n := by
  intro i a q r hI hr x1 hp0 t nn hT hN hL hX
  have hG := kG_self wP10 hI hr
  refine km_ofN (q := (mi_h51, mi_c51)) rfl (by decide) (Nat.le_of_ble_eq_true rfl) ?_
  intro P hP
  have hn0 : (0 : Int) ≤ (n : Int) := Int.natCast_nonneg n
  have hn1 : (i 6273).toInt = nn.toInt := congrArg Int32.toInt hN
  have eRr_2 : r 2 = 10 := hL
  first | refine ft_goL mi_k51 2 2 [(0, .ref 98), (1, .int x1)] [.int x1, .ref 98] (by rfl) ?_ | refine ft_go mi_k51 2 2 [(0, .ref 98), (1, .int x1)] [.int x1, .ref 98] i a q r (by rfl) ?_
  refine ko_callN mi_k51.1 (pc := 2) (ls := [(0, .ref 98), (1, .int x1)]) (st := [.int x1, .ref 98]) (h := ks i a q r) (i := (.invokevirtual 73, 3, 52, 0, 9, 0, 181)) (mi_k51.2 _ _ (by rfl)) (ft_invS mi_pq52 (by rfl)) (cy := mi_c52) mi_pq52 rfl (h52 _ _ _ _ hG.I hG.R x1 (op105 hp0.1 hp0.2) t nn hT hN eRr_2 hX) (kj_d1 (n := n) (o := 12) (o1 := 13) (by decide)) ?_
  intro ig2 ag2 qg2 rg2 kg2 hg2
  have hGg2 := kG_call hG kg2 (by decide +kernel)
  have eRrg2_2 : rg2 2 = 10 := (kg2.fr 2 rfl).trans eRr_2
  obtain ⟨hg2, og2⟩ := hg2
  first | refine ft_goS mi_k51 2 8 [.ref (mi_RO + 14), .ref 98] (by rfl) ?_ | refine ft_go mi_k51 2 8 [(0, .ref 98), (1, .int x1)] [.ref (mi_RO + 14), .ref 98] ig2 ag2 qg2 rg2 (by rfl) ?_
  refine ko_callI mi_k51.1 (pc := 8) (ls := [(0, .ref 98), (1, .int x1)]) (st := [.ref (mi_RO + 14), .ref 98]) (h := ks ig2 ag2 qg2 rg2) (i := (.invokevirtual 78, 3, 47, 0, 9, 0, 189)) (mi_k51.2 _ _ (by rfl)) (ft_invS mi_pq47 (by rfl)) (cy := mi_c47) mi_pq47 rfl (ke47_98_1000014 hGg2.I hGg2.R t nn ((kg2.fa 99 rfl).trans hT) ((kg2.fi 6273 rfl).trans hN) hX) (kj_d3 (n := n) (c := 9) (o1 := 13) (by decide)) ?_
  intro vg3 ig3 ag3 qg3 rg3 kg3 hg3
  have hGg3 := kG_call hGg2 kg3 (by decide +kernel)
  have eRrg3_2 : rg3 2 = 10 := (kg3.fr 2 rfl).trans eRrg2_2
  obtain ⟨hg3, og3⟩ := hg3
  have z4 : ((vg3.toInt = (-1)) ∧ ((ig3 6274).toInt = (ig2 6274).toInt)) ∨ (((ig3 6274).toInt = ((ig2 6274).toInt + 1)) ∧ ((ig2 6274).toInt < (ig2 6273).toInt) ∧ ((ig2 6275).toInt = 0) ∧ ((vg3.toInt = 60) ∨ (vg3.toInt = 61) ∨ (vg3.toInt = 62))) := hg3
  have ho5 : vg3.toInt = (-1) ∨ vg3.toInt = (cHr t nn (ig2 6274) (ig2 6275)).toInt := tOf_v og3
  first | refine fo_goL mi_k51 fz51_11_3_14 [(2, .int vg3), (0, .ref 98), (1, .int x1)] [.int (-1), .int vg3] (by rfl) ?_ | refine ft_go mi_k51 3 14 [(2, .int vg3), (0, .ref 98), (1, .int x1)] [.int (-1), .int vg3] ig3 ag3 qg3 rg3 (by rfl) ?_
  refine ft_ifS mi_k51 (vg3 == (-1)) 32 17 [] (by rfl) (fun c => ?_) (fun c => ?_)
  ·
    have c6 : vg3.toInt = ((-1) : Int32).toInt := kd_eq c; clear c
    exact ft_ret mi_k51 (by rfl) (hP  _ _ _ _ hGg3 ⟨trivial, (cCm_out og2 (tOf og3 (kg3.fi 6275 rfl) (kT3 (kg3.fa 11 rfl) (kg3.fa 12 rfl) (kg3.fi 643 rfl))) (op64 c6 kopm1))⟩)
  ·
    have c7 : vg3.toInt ≠ ((-1) : Int32).toInt := kd_eqF c; clear c
    first | refine ft_goS mi_k51 2 19 [.int x1, .ref 98] (by rfl) ?_ | refine ft_go mi_k51 2 19 [(2, .int vg3), (0, .ref 98), (1, .int x1)] [.int x1, .ref 98] ig3 ag3 qg3 rg3 (by rfl) ?_
    refine ko_callN mi_k51.1 (pc := 19) (ls := [(2, .int vg3), (0, .ref 98), (1, .int x1)]) (st := [.int x1, .ref 98]) (h := ks ig3 ag3 qg3 rg3) (i := (.invokevirtual 73, 3, 52, 0, 9, 0, 181)) (mi_k51.2 _ _ (by rfl)) (ft_invS mi_pq52 (by rfl)) (cy := mi_c52) mi_pq52 rfl (h52 _ _ _ _ hGg3.I hGg3.R x1 (op105 hp0.1 hp0.2) t nn (((kg3.fa 99 rfl).trans (kg2.fa 99 rfl)).trans hT) (((kg3.fi 6273 rfl).trans (kg2.fi 6273 rfl)).trans hN) eRrg3_2 hX) (kj_d1 (n := n) (o := 12) (o1 := 13) (by decide)) ?_
    intro ig8 ag8 qg8 rg8 kg8 hg8
    have hGg8 := kG_call hGg3 kg8 (by decide +kernel)
    have eRrg8_2 : rg8 2 = 10 := (kg8.fr 2 rfl).trans eRrg3_2
    obtain ⟨hg8, og8⟩ := hg8
    first | refine ft_goS mi_k51 2 26 [.ref (rg8 2)] (by rfl) ?_ | refine ft_go mi_k51 2 26 [(2, .int vg3), (0, .ref 98), (1, .int x1)] [.ref (rg8 2)] ig8 ag8 qg8 rg8 (by rfl) ?_
    refine ko_eq (x1 := (26, [(2, .int vg3), (0, .ref 98), (1, .int x1)], [.ref 10], (0, 0), ks ig8 ag8 qg8 rg8)) (by rw [eRrg8_2]) ?_
    first | refine ft_goS mi_k51 2 28 [.int 0, .int vg3, .ref 10] (by rfl) ?_ | refine ft_go mi_k51 2 28 [(2, .int vg3), (0, .ref 98), (1, .int x1)] [.int 0, .int vg3, .ref 10] ig8 ag8 qg8 rg8 (by rfl) ?_
    refine ko_callI mi_k51.1 (pc := 28) (ls := [(2, .int vg3), (0, .ref 98), (1, .int x1)]) (st := [.int 0, .int vg3, .ref 10]) (h := ks ig8 ag8 qg8 rg8) (i := (.invokevirtual 60, 3, 17, 0, 9, 0, 187)) (mi_k51.2 _ _ (by rfl)) (ft_invS mi_pq17 (by rfl)) (cy := mi_c17) mi_pq17 rfl (kf17_10 hGg8.I hGg8.R vg3 0) (kj_d3 (n := n) (c := 1) (o1 := 13) (by decide)) ?_
    intro vg9 ig9 ag9 qg9 rg9 kg9 hg9
    have hGg9 := kG_call hGg8 kg9 (by decide +kernel)
    have eRrg9_2 : rg9 2 = 10 := (kg9.fr 2 rfl).trans eRrg8_2
    obtain ⟨hg9, og9⟩ := hg9
    first | refine ft_goS mi_k51 1 32 [] (by rfl) ?_ | refine ft_go mi_k51 1 32 [(2, .int vg3), (0, .ref 98), (1, .int x1)] [] ig9 ag9 qg9 rg9 (by rfl) ?_
    exact ft_ret mi_k51 (by rfl) (hP  _ _ _ _ hGg9 ⟨trivial, (cCm_in og2 (tOf og3 (kg3.fi 6275 rfl) (kT3 (kg3.fa 11 rfl) (kg3.fa 12 rfl) (kg3.fi 643 rfl))) (op142 c7 z4 kopm1) og8 (tAdd og9.1 (kg9.fi 6274 rfl) (kg9.fi 6275 rfl)))⟩)
set_option maxRecDepth 100000 in
theorem kMsP10_50 (n : Nat) (h54 : kMP10_54 n) (h53 : kMP10_53 n) (h52 : kMP10_52 n) (h51 : kMP10_51 n) : kMP10_50 n := by
  intro i a q r hI hr x1 hp0 t nn hT hN hL hX
  have hG := kG_self wP10 hI hr
  refine km_ofN (q := (mi_h50, mi_c50)) rfl (by decide) (Nat.le_of_ble_eq_true rfl) ?_
  intro P hP
  have hn0 : (0 : Int) ≤ (n : Int) := Int.natCast_nonneg n
  have hn1 : (i 6273).toInt = nn.toInt := congrArg Int32.toInt hN
  have eRr_2 : r 2 = 10 := hL
  first | refine ft_goL mi_k50 2 2 [(0, .ref 98), (1, .int x1)] [.int x1, .ref 98] (by rfl) ?_ | refine ft_go mi_k50 2 2 [(0, .ref 98), (1, .int x1)] [.int x1, .ref 98] i a q r (by rfl) ?_
  refine ko_callN mi_k50.1 (pc := 2) (ls := [(0, .ref 98), (1, .int x1)]) (st := [.int x1, .ref 98]) (h := ks i a q r) (i := (.invokevirtual 70, 3, 51, 0, 9, 0, 180)) (mi_k50.2 _ _ (by rfl)) (ft_invS mi_pq51 (by rfl)) (cy := mi_c51) mi_pq51 rfl (h51 _ _ _ _ hG.I hG.R x1 (op105 hp0.1 hp0.2) t nn hT hN eRr_2 hX) (kj_d1 (n := n) (o := 13) (o1 := 14) (by decide)) ?_
  intro ig2 ag2 qg2 rg2 kg2 hg2
  have hGg2 := kG_call hG kg2 (by decide +kernel)
  have eRrg2_2 : rg2 2 = 10 := (kg2.fr 2 rfl).trans eRr_2
  obtain ⟨hg2, og2⟩ := hg2
  first | refine ft_goL mi_k50 2 7 [(2, .int 0), (0, .ref 98), (1, .int x1)] [] (by rfl) ?_ | refine ft_go mi_k50 2 7 [(2, .int 0), (0, .ref 98), (1, .int x1)] [] ig2 ag2 qg2 rg2 (by rfl) ?_
  have lp3 : ∀ (nz : Nat) (i3 : Nat → Int32) (a3 : Nat → List Int32) (q3 : Nat → List Int64) (r3 : Nat → Nat) (l2_3 : Int32), kG yw50_98_L10_L7 ig2 ag2 qg2 rg2 i3 a3 q3 r3 → (0 : Int) ≤ l2_3.toInt → cLpB t nn (cP5 t nn (cO t nn n)) 38 (nn.toInt - l2_3.toInt).toNat (i3 6274, i3 6275, a3 11, a3 12, i3 643) = cBin t nn (cP5 t nn (cO t nn n)) 38 (i 6274, i 6275, a 11, a 12, i 643) → (((i3 6273).toInt - l2_3.toInt)).toNat < nz → ko (6 * n + 14) (mi_h50, mi_c50) P (7, [(2, .int l2_3), (0, .ref 98), (1, .int x1)], [], (0, 0), ks i3 a3 q3 r3) := by
    intro nz
    induction nz with
    | zero =>
      intro _ _ _ _ _ _ _ _ hm
      exact absurd hm (Nat.not_lt_zero _)
    | succ nz ih3 =>
      intro i3 a3 q3 r3 l2_3 hL3 p3_0 O3_0 hm3
      have fi3_6273 : ((0 : Int) ≤ (i3 6273).toInt) ∧ ((i3 6273).toInt ≤ 120) := hL3.I.1 6273
      have efig2_6273 : (ig2 6273).toInt = (i 6273).toInt := kg2.ti 6273 rfl
      have efi3_6273 : (i3 6273).toInt = (ig2 6273).toInt := hL3.ti 6273 rfl
      have eRr3_2 : r3 2 = 10 := (hL3.fr 2 rfl).trans eRrg2_2
      first | refine fo_goL mi_k50 fz50_7_3_12 [(2, .int l2_3), (0, .ref 98), (1, .int x1)] [.int (i3 6273), .int l2_3] (by rfl) ?_ | refine ft_go mi_k50 3 12 [(2, .int l2_3), (0, .ref 98), (1, .int x1)] [.int (i3 6273), .int l2_3] i3 a3 q3 r3 (by rfl) ?_
      refine ft_ifS mi_k50 (decide ((i3 6273) ≤ l2_3)) 46 15 [] (by rfl) (fun c => ?_) (fun c => ?_)
      ·
        have c4 : (i3 6273).toInt ≤ l2_3.toInt := kd_le c; clear c
        have hG5 := kG_call hGg2 hL3 (by decide +kernel)
        exact ft_ret mi_k50 (by rfl) (hP  _ _ _ _ hG5 ⟨trivial, (cLB_end O3_0 (kj_sub0 (n := nn.toInt) (op143 c4 efi3_6273 efig2_6273 hn1)))⟩)
      ·
        have c6 : l2_3.toInt < (i3 6273).toInt := kd_leF c; clear c
        first | refine ft_goS mi_k50 2 18 [.int 38, .ref 98] (by rfl) ?_ | refine ft_go mi_k50 2 18 [(2, .int l2_3), (0, .ref 98), (1, .int x1)] [.int 38, .ref 98] i3 a3 q3 r3 (by rfl) ?_
        refine ko_callI mi_k50.1 (pc := 18) (ls := [(2, .int l2_3), (0, .ref 98), (1, .int x1)]) (st := [.int 38, .ref 98]) (h := ks i3 a3 q3 r3) (i := (.invokevirtual 39, 3, 46, 0, 9, 0, 200)) (mi_k50.2 _ _ (by rfl)) (ft_invS mi_pq46 (by rfl)) (cy := mi_c46) mi_pq46 rfl (ke46_98 hL3.I hL3.R 38 (op144 kop38) t nn (((hL3.fa 99 rfl).trans (kg2.fa 99 rfl)).trans hT) (((hL3.fi 6273 rfl).trans (kg2.fi 6273 rfl)).trans hN) hX) (kj_d3 (n := n) (c := 3) (o1 := 14) (by decide)) ?_
        intro vg7 ig7 ag7 qg7 rg7 kg7 hg7
        have hGg7 := kG_call hL3 kg7 (by decide +kernel)
        have eRrg7_2 : rg7 2 = 10 := (kg7.fr 2 rfl).trans eRr3_2
        obtain ⟨hg7, og7⟩ := hg7
        have z8 : ((vg7.toInt = 1) ∧ ((ig7 6274).toInt = ((i3 6274).toInt + 1)) ∧ ((i3 6274).toInt < (i3 6273).toInt) ∧ ((i3 6275).toInt = 0)) ∨ ((vg7.toInt = 0) ∧ ((ig7 6274).toInt = (i3 6274).toInt)) := hg7
        refine ft_ifS mi_k50 (vg7 == 0) 46 24 [] (by rfl) (fun c => ?_) (fun c => ?_)
        ·
          have c9 : vg7.toInt = (0 : Int32).toInt := kd_eq c; clear c
          have hG10 := kG_call hGg2 hGg7 (by decide +kernel)
          exact ft_ret mi_k50 (by rfl) (hP  _ _ _ _ hG10 ⟨trivial, (cLB_out O3_0 (kj_sub1 (n := nn.toInt) (op145 c6 efi3_6273 efig2_6273 hn1) (op4 p3_0)) (tTk og7 (kg7.fi 6275 rfl) (kT3 (kg7.fa 11 rfl) (kg7.fa 12 rfl) (kg7.fi 643 rfl))) (op98 c9 kop0))⟩)
        ·
          have c11 : vg7.toInt ≠ (0 : Int32).toInt := kd_eqF c; clear c
          first | refine ft_goS mi_k50 2 26 [.int x1, .ref 98] (by rfl) ?_ | refine ft_go mi_k50 2 26 [(2, .int l2_3), (0, .ref 98), (1, .int x1)] [.int x1, .ref 98] ig7 ag7 qg7 rg7 (by rfl) ?_
          refine ko_callN mi_k50.1 (pc := 26) (ls := [(2, .int l2_3), (0, .ref 98), (1, .int x1)]) (st := [.int x1, .ref 98]) (h := ks ig7 ag7 qg7 rg7) (i := (.invokevirtual 70, 3, 51, 0, 9, 0, 180)) (mi_k50.2 _ _ (by rfl)) (ft_invS mi_pq51 (by rfl)) (cy := mi_c51) mi_pq51 rfl (h51 _ _ _ _ hGg7.I hGg7.R x1 (op105 hp0.1 hp0.2) t nn ((((kg7.fa 99 rfl).trans (hL3.fa 99 rfl)).trans (kg2.fa 99 rfl)).trans hT) (((kg7.fi 6273 rfl).trans ((hL3.fi 6273 rfl).trans (kg2.fi 6273 rfl))).trans hN) eRrg7_2 hX) (kj_d1 (n := n) (o := 13) (o1 := 14) (by decide)) ?_
          intro ig12 ag12 qg12 rg12 kg12 hg12
          have hGg12 := kG_call hGg7 kg12 (by decide +kernel)
          have eRrg12_2 : rg12 2 = 10 := (kg12.fr 2 rfl).trans eRrg7_2
          obtain ⟨hg12, og12⟩ := hg12
          first | refine ft_goS mi_k50 2 33 [.ref (rg12 2)] (by rfl) ?_ | refine ft_go mi_k50 2 33 [(2, .int l2_3), (0, .ref 98), (1, .int x1)] [.ref (rg12 2)] ig12 ag12 qg12 rg12 (by rfl) ?_
          refine ko_eq (x1 := (33, [(2, .int l2_3), (0, .ref 98), (1, .int x1)], [.ref 10], (0, 0), ks ig12 ag12 qg12 rg12)) (by rw [eRrg12_2]) ?_
          first | refine ft_goS mi_k50 2 36 [.int 0, .int 38, .ref 10] (by rfl) ?_ | refine ft_go mi_k50 2 36 [(2, .int l2_3), (0, .ref 98), (1, .int x1)] [.int 0, .int 38, .ref 10] ig12 ag12 qg12 rg12 (by rfl) ?_
          refine ko_callI mi_k50.1 (pc := 36) (ls := [(2, .int l2_3), (0, .ref 98), (1, .int x1)]) (st := [.int 0, .int 38, .ref 10]) (h := ks ig12 ag12 qg12 rg12) (i := (.invokevirtual 60, 3, 17, 0, 9, 0, 187)) (mi_k50.2 _ _ (by rfl)) (ft_invS mi_pq17 (by rfl)) (cy := mi_c17) mi_pq17 rfl (kf17_10 hGg12.I hGg12.R 38 0) (kj_d3 (n := n) (c := 1) (o1 := 14) (by decide)) ?_
          intro vg13 ig13 ag13 qg13 rg13 kg13 hg13
          have hGg13 := kG_call hGg12 kg13 (by decide +kernel)
          have eRrg13_2 : rg13 2 = 10 := (kg13.fr 2 rfl).trans eRrg12_2
          obtain ⟨hg13, og13⟩ := hg13
          have s15 : (l2_3 + 1).toInt = l2_3.toInt + (1 : Int32).toInt := kd_add (op18 p3_0 kop1) (op117 c6 fi3_6273.2 kop1)
          first | refine fo_goL mi_k50 fz50_39_3_7 [(2, .int (l2_3 + 1)), (0, .ref 98), (1, .int x1)] [] (by rfl) ?_ | refine ft_goL mi_k50 3 7 [(2, .int (l2_3 + 1)), (0, .ref 98), (1, .int x1)] [] (by rfl) ?_ | refine ft_go mi_k50 3 7 [(2, .int (l2_3 + 1)), (0, .ref 98), (1, .int x1)] [] ig13 ag13 qg13 rg13 (by rfl) ?_
          have efig7_6273 : (ig7 6273).toInt = (i3 6273).toInt := kg7.ti 6273 rfl
          have efig12_6273 : (ig12 6273).toInt = (ig7 6273).toInt := kg12.ti 6273 rfl
          have efig13_6273 : (ig13 6273).toInt = (ig12 6273).toInt := kg13.ti 6273 rfl
          exact ih3 _ _ _ _ _ hGg13 (op20 p3_0 s15 kop1) (cLB_again O3_0 (kj_sub2 (n := nn.toInt) (op145 c6 efi3_6273 efig2_6273 hn1) (op4 p3_0) (op30 s15 kop1)) (tTk og7 (kg7.fi 6275 rfl) (kT3 (kg7.fa 11 rfl) (kg7.fa 12 rfl) (kg7.fi 643 rfl))) (op146 c11 z8 kop0) og12 (tAdd og13.1 (kg13.fi 6274 rfl) (kg13.fi 6275 rfl))) (kj_meas (op147 efig12_6273 efig13_6273 efig7_6273 s15 kop1) (op121 c6) hm3)
  exact lp3 _ _ _ _ _ _ (kG_self _ hGg2.I hGg2.R) (op36 kop0) (cLB_begin og2 (kj_sub00 kop0)) (Nat.lt_succ_self _)
set_option maxRecDepth 100000 in
theorem kMsP10_49 (n : Nat) (h54 : kMP10_54 n) (h53 : kMP10_53 n) (h52 : kMP10_52 n) (h51 : kMP10_51 n) (h50 : kMP10_50 n) : kMP10_49 n := by
  intro i a q r hI hr x1 hp0 t nn hT hN hL hX
  have hG := kG_self wP10 hI hr
  refine km_ofN (q := (mi_h49, mi_c49)) rfl (by decide) (Nat.le_of_ble_eq_true rfl) ?_
  intro P hP
  have hn0 : (0 : Int) ≤ (n : Int) := Int.natCast_nonneg n
  have hn1 : (i 6273).toInt = nn.toInt := congrArg Int32.toInt hN
  have eRr_2 : r 2 = 10 := hL
  first | refine ft_goL mi_k49 2 2 [(0, .ref 98), (1, .int x1)] [.int x1, .ref 98] (by rfl) ?_ | refine ft_go mi_k49 2 2 [(0, .ref 98), (1, .int x1)] [.int x1, .ref 98] i a q r (by rfl) ?_
  refine ko_callN mi_k49.1 (pc := 2) (ls := [(0, .ref 98), (1, .int x1)]) (st := [.int x1, .ref 98]) (h := ks i a q r) (i := (.invokevirtual 67, 3, 50, 0, 9, 0, 179)) (mi_k49.2 _ _ (by rfl)) (ft_invS mi_pq50 (by rfl)) (cy := mi_c50) mi_pq50 rfl (h50 _ _ _ _ hG.I hG.R x1 (op105 hp0.1 hp0.2) t nn hT hN eRr_2 hX) (kj_d1 (n := n) (o := 14) (o1 := 15) (by decide)) ?_
  intro ig2 ag2 qg2 rg2 kg2 hg2
  have hGg2 := kG_call hG kg2 (by decide +kernel)
  have eRrg2_2 : rg2 2 = 10 := (kg2.fr 2 rfl).trans eRr_2
  obtain ⟨hg2, og2⟩ := hg2
  first | refine ft_goL mi_k49 2 7 [(2, .int 0), (0, .ref 98), (1, .int x1)] [] (by rfl) ?_ | refine ft_go mi_k49 2 7 [(2, .int 0), (0, .ref 98), (1, .int x1)] [] ig2 ag2 qg2 rg2 (by rfl) ?_
  have lp3 : ∀ (nz : Nat) (i3 : Nat → Int32) (a3 : Nat → List Int32) (q3 : Nat → List Int64) (r3 : Nat → Nat) (l2_3 : Int32), kG yw49_98_L10_L7 ig2 ag2 qg2 rg2 i3 a3 q3 r3 → (0 : Int) ≤ l2_3.toInt → cLpB t nn (cP6 t nn (cO t nn n)) 124 (nn.toInt - l2_3.toInt).toNat (i3 6274, i3 6275, a3 11, a3 12, i3 643) = cBin t nn (cP6 t nn (cO t nn n)) 124 (i 6274, i 6275, a 11, a 12, i 643) → (((i3 6273).toInt - l2_3.toInt)).toNat < nz → ko (6 * n + 15) (mi_h49, mi_c49) P (7, [(2, .int l2_3), (0, .ref 98), (1, .int x1)], [], (0, 0), ks i3 a3 q3 r3) := by
    intro nz
    induction nz with
    | zero =>
      intro _ _ _ _ _ _ _ _ hm
      exact absurd hm (Nat.not_lt_zero _)
    | succ nz ih3 =>
      intro i3 a3 q3 r3 l2_3 hL3 p3_0 O3_0 hm3
      have fi3_6273 : ((0 : Int) ≤ (i3 6273).toInt) ∧ ((i3 6273).toInt ≤ 120) := hL3.I.1 6273
      have efig2_6273 : (ig2 6273).toInt = (i 6273).toInt := kg2.ti 6273 rfl
      have efi3_6273 : (i3 6273).toInt = (ig2 6273).toInt := hL3.ti 6273 rfl
      have eRr3_2 : r3 2 = 10 := (hL3.fr 2 rfl).trans eRrg2_2
      first | refine fo_goL mi_k49 fz49_7_3_12 [(2, .int l2_3), (0, .ref 98), (1, .int x1)] [.int (i3 6273), .int l2_3] (by rfl) ?_ | refine ft_go mi_k49 3 12 [(2, .int l2_3), (0, .ref 98), (1, .int x1)] [.int (i3 6273), .int l2_3] i3 a3 q3 r3 (by rfl) ?_
      refine ft_ifS mi_k49 (decide ((i3 6273) ≤ l2_3)) 46 15 [] (by rfl) (fun c => ?_) (fun c => ?_)
      ·
        have c4 : (i3 6273).toInt ≤ l2_3.toInt := kd_le c; clear c
        have hG5 := kG_call hGg2 hL3 (by decide +kernel)
        exact ft_ret mi_k49 (by rfl) (hP  _ _ _ _ hG5 ⟨trivial, (cLB_end O3_0 (kj_sub0 (n := nn.toInt) (op143 c4 efi3_6273 efig2_6273 hn1)))⟩)
      ·
        have c6 : l2_3.toInt < (i3 6273).toInt := kd_leF c; clear c
        first | refine ft_goS mi_k49 2 18 [.int 124, .ref 98] (by rfl) ?_ | refine ft_go mi_k49 2 18 [(2, .int l2_3), (0, .ref 98), (1, .int x1)] [.int 124, .ref 98] i3 a3 q3 r3 (by rfl) ?_
        refine ko_callI mi_k49.1 (pc := 18) (ls := [(2, .int l2_3), (0, .ref 98), (1, .int x1)]) (st := [.int 124, .ref 98]) (h := ks i3 a3 q3 r3) (i := (.invokevirtual 39, 3, 46, 0, 9, 0, 200)) (mi_k49.2 _ _ (by rfl)) (ft_invS mi_pq46 (by rfl)) (cy := mi_c46) mi_pq46 rfl (ke46_98 hL3.I hL3.R 124 (op148 kop124) t nn (((hL3.fa 99 rfl).trans (kg2.fa 99 rfl)).trans hT) (((hL3.fi 6273 rfl).trans (kg2.fi 6273 rfl)).trans hN) hX) (kj_d3 (n := n) (c := 3) (o1 := 15) (by decide)) ?_
        intro vg7 ig7 ag7 qg7 rg7 kg7 hg7
        have hGg7 := kG_call hL3 kg7 (by decide +kernel)
        have eRrg7_2 : rg7 2 = 10 := (kg7.fr 2 rfl).trans eRr3_2
        obtain ⟨hg7, og7⟩ := hg7
        have z8 : ((vg7.toInt = 1) ∧ ((ig7 6274).toInt = ((i3 6274).toInt + 1)) ∧ ((i3 6274).toInt < (i3 6273).toInt) ∧ ((i3 6275).toInt = 0)) ∨ ((vg7.toInt = 0) ∧ ((ig7 6274).toInt = (i3 6274).toInt)) := hg7
        refine ft_ifS mi_k49 (vg7 == 0) 46 24 [] (by rfl) (fun c => ?_) (fun c => ?_)
        ·
          have c9 : vg7.toInt = (0 : Int32).toInt := kd_eq c; clear c
          have hG10 := kG_call hGg2 hGg7 (by decide +kernel)
          exact ft_ret mi_k49 (by rfl) (hP  _ _ _ _ hG10 ⟨trivial, (cLB_out O3_0 (kj_sub1 (n := nn.toInt) (op145 c6 efi3_6273 efig2_6273 hn1) (op4 p3_0)) (tTk og7 (kg7.fi 6275 rfl) (kT3 (kg7.fa 11 rfl) (kg7.fa 12 rfl) (kg7.fi 643 rfl))) (op98 c9 kop0))⟩)
        ·
          have c11 : vg7.toInt ≠ (0 : Int32).toInt := kd_eqF c; clear c
          first | refine ft_goS mi_k49 2 26 [.int x1, .ref 98] (by rfl) ?_ | refine ft_go mi_k49 2 26 [(2, .int l2_3), (0, .ref 98), (1, .int x1)] [.int x1, .ref 98] ig7 ag7 qg7 rg7 (by rfl) ?_
          refine ko_callN mi_k49.1 (pc := 26) (ls := [(2, .int l2_3), (0, .ref 98), (1, .int x1)]) (st := [.int x1, .ref 98]) (h := ks ig7 ag7 qg7 rg7) (i := (.invokevirtual 67, 3, 50, 0, 9, 0, 179)) (mi_k49.2 _ _ (by rfl)) (ft_invS mi_pq50 (by rfl)) (cy := mi_c50) mi_pq50 rfl (h50 _ _ _ _ hGg7.I hGg7.R x1 (op105 hp0.1 hp0.2) t nn ((((kg7.fa 99 rfl).trans (hL3.fa 99 rfl)).trans (kg2.fa 99 rfl)).trans hT) (((kg7.fi 6273 rfl).trans ((hL3.fi 6273 rfl).trans (kg2.fi 6273 rfl))).trans hN) eRrg7_2 hX) (kj_d1 (n := n) (o := 14) (o1 := 15) (by decide)) ?_
          intro ig12 ag12 qg12 rg12 kg12 hg12
          have hGg12 := kG_call hGg7 kg12 (by decide +kernel)
          have eRrg12_2 : rg12 2 = 10 := (kg12.fr 2 rfl).trans eRrg7_2
          obtain ⟨hg12, og12⟩ := hg12
          first | refine ft_goS mi_k49 2 33 [.ref (rg12 2)] (by rfl) ?_ | refine ft_go mi_k49 2 33 [(2, .int l2_3), (0, .ref 98), (1, .int x1)] [.ref (rg12 2)] ig12 ag12 qg12 rg12 (by rfl) ?_
          refine ko_eq (x1 := (33, [(2, .int l2_3), (0, .ref 98), (1, .int x1)], [.ref 10], (0, 0), ks ig12 ag12 qg12 rg12)) (by rw [eRrg12_2]) ?_
          first | refine ft_goS mi_k49 2 36 [.int 0, .int 124, .ref 10] (by rfl) ?_ | refine ft_go mi_k49 2 36 [(2, .int l2_3), (0, .ref 98), (1, .int x1)] [.int 0, .int 124, .ref 10] ig12 ag12 qg12 rg12 (by rfl) ?_
          refine ko_callI mi_k49.1 (pc := 36) (ls := [(2, .int l2_3), (0, .ref 98), (1, .int x1)]) (st := [.int 0, .int 124, .ref 10]) (h := ks ig12 ag12 qg12 rg12) (i := (.invokevirtual 60, 3, 17, 0, 9, 0, 187)) (mi_k49.2 _ _ (by rfl)) (ft_invS mi_pq17 (by rfl)) (cy := mi_c17) mi_pq17 rfl (kf17_10 hGg12.I hGg12.R 124 0) (kj_d3 (n := n) (c := 1) (o1 := 15) (by decide)) ?_
          intro vg13 ig13 ag13 qg13 rg13 kg13 hg13
          have hGg13 := kG_call hGg12 kg13 (by decide +kernel)
          have eRrg13_2 : rg13 2 = 10 := (kg13.fr 2 rfl).trans eRrg12_2
          obtain ⟨hg13, og13⟩ := hg13
          have s15 : (l2_3 + 1).toInt = l2_3.toInt + (1 : Int32).toInt := kd_add (op18 p3_0 kop1) (op117 c6 fi3_6273.2 kop1)
          first | refine fo_goL mi_k49 fz49_39_3_7 [(2, .int (l2_3 + 1)), (0, .ref 98), (1, .int x1)] [] (by rfl) ?_ | refine ft_goL mi_k49 3 7 [(2, .int (l2_3 + 1)), (0, .ref 98), (1, .int x1)] [] (by rfl) ?_ | refine ft_go mi_k49 3 7 [(2, .int (l2_3 + 1)), (0, .ref 98), (1, .int x1)] [] ig13 ag13 qg13 rg13 (by rfl) ?_
          have efig7_6273 : (ig7 6273).toInt = (i3 6273).toInt := kg7.ti 6273 rfl
          have efig12_6273 : (ig12 6273).toInt = (ig7 6273).toInt := kg12.ti 6273 rfl
          have efig13_6273 : (ig13 6273).toInt = (ig12 6273).toInt := kg13.ti 6273 rfl
          exact ih3 _ _ _ _ _ hGg13 (op20 p3_0 s15 kop1) (cLB_again O3_0 (kj_sub2 (n := nn.toInt) (op145 c6 efi3_6273 efig2_6273 hn1) (op4 p3_0) (op30 s15 kop1)) (tTk og7 (kg7.fi 6275 rfl) (kT3 (kg7.fa 11 rfl) (kg7.fa 12 rfl) (kg7.fi 643 rfl))) (op146 c11 z8 kop0) og12 (tAdd og13.1 (kg13.fi 6274 rfl) (kg13.fi 6275 rfl))) (kj_meas (op147 efig12_6273 efig13_6273 efig7_6273 s15 kop1) (op121 c6) hm3)
  exact lp3 _ _ _ _ _ _ (kG_self _ hGg2.I hGg2.R) (op36 kop0) (cLB_begin og2 (kj_sub00 kop0)) (Nat.lt_succ_self _)
theorem kMallP10 : ∀ n : Nat, kMP10_49 n ∧ kMP10_54 n
  | 0 => by
    have ih : ∀ m, 0 = m + 1 → kMP10_49 m ∧ kMP10_54 m := fun m h => by omega
    have h54 := kMsP10_54 0  ih
    have h53 := kMsP10_53 0 h54
    have h52 := kMsP10_52 0 h54 h53
    have h51 := kMsP10_51 0 h54 h53 h52
    have h50 := kMsP10_50 0 h54 h53 h52 h51
    have h49 := kMsP10_49 0 h54 h53 h52 h51 h50
    exact ⟨h49, h54⟩
  | n + 1 => by
    have ih : ∀ m, n + 1 = m + 1 → kMP10_49 m ∧ kMP10_54 m := fun m h => by
      have e : n = m := by omega
      subst e
      exact kMallP10 n
    have h54 := kMsP10_54 (n + 1)  ih
    have h53 := kMsP10_53 (n + 1) h54
    have h52 := kMsP10_52 (n + 1) h54 h53
    have h51 := kMsP10_51 (n + 1) h54 h53 h52
    have h50 := kMsP10_50 (n + 1) h54 h53 h52 h51
    have h49 := kMsP10_49 (n + 1) h54 h53 h52 h51 h50
    exact ⟨h49, h54⟩
def zw18_10 : kW := ([], [12], [], [])
set_option maxRecDepth 100000 in
theorem kf18_10 {i : Nat → Int32} {a : Nat → List Int32} {q : Nat → List Int64} {r : Nat → Nat} (hI : kI i a q) (hr : kr r) (x1 : Int32) : km 1 18 [.ref 10, .int x1] (ks i a q r) (kVN zw18_10 i a q r (fun i1 a1 q1 r1 => ((i1 643).toInt = (i 643).toInt) ∧ (a1 11, a1 12, i1 643) = lAim x1 (a 11, a 12, i 643))) := by
  have hG := kG_self zw18_10 hI hr
  refine km_ofN (q := (mi_h18, mi_c18)) rfl (by decide) (Nat.le_of_ble_eq_true rfl) ?_
  intro P hP
  first | refine ft_goL mi_k18 1 1 [(0, .ref 10), (1, .int x1)] [.int x1] (by rfl) ?_ | refine ft_go mi_k18 1 1 [(0, .ref 10), (1, .int x1)] [.int x1] i a q r (by rfl) ?_
  refine ft_ifS mi_k18 (decide (x1 < 0)) 22 4 [] (by rfl) (fun c => ?_) (fun c => ?_)
  ·
    have c1 : x1.toInt < (0 : Int32).toInt := kd_lt c; clear c
    exact ft_ret mi_k18 (by rfl) (hP  _ _ _ _ hG ⟨op150, ((show (a 11, a 12, i 643) = (a 11, a 12, i 643) from rfl).trans (if_neg (op151 c1 kop0)).symm)⟩)
  ·
    have c2 : (0 : Int32).toInt ≤ x1.toInt := kd_ltF c; clear c
    have fi_643 : ((0 : Int) ≤ (i 643).toInt) ∧ ((i 643).toInt ≤ 121) := hG.I.1 643
    first | refine fo_goS mi_k18 fz18_4_3_9 [.int (i 643), .int x1] (by rfl) ?_ | refine ft_go mi_k18 3 9 [(0, .ref 10), (1, .int x1)] [.int (i 643), .int x1] i a q r (by rfl) ?_
    refine ft_ifS mi_k18 (decide ((i 643) ≤ x1)) 22 12 [] (by rfl) (fun c => ?_) (fun c => ?_)
    ·
      have c3 : (i 643).toInt ≤ x1.toInt := kd_le c; clear c
      exact ft_ret mi_k18 (by rfl) (hP  _ _ _ _ hG ⟨op150, ((show (a 11, a 12, i 643) = (a 11, a 12, i 643) from rfl).trans (if_neg (op152 c3)).symm)⟩)
    ·
      have c4 : x1.toInt < (i 643).toInt := kd_leF c; clear c
      first | refine fo_goS mi_k18 fz18_12_5_21 [.int (i 643), .int x1, .ref 12] (by rfl) ?_ | refine ft_go mi_k18 5 21 [(0, .ref 10), (1, .int x1)] [.int (i 643), .int x1, .ref 12] i a q r (by rfl) ?_
      refine ko_iast3 mi_k18.1 (n := 121) (c := 121) (ax := (0, 0, 0, 0, 0)) (mi_k18.2 _ _ (by rfl)) (by rfl) (ksG12 _ _ _ _) (ksA12 _ _ _ _) (hG.I.2.1 12) rfl (op153 c2 kop0) (op154 c4 fi_643.2) ?_
      intro a5 ea5 fa5
      have hJ5 := kG_a3 hG 12 rfl ea5 fa5 (kd_bd _)
      exact ft_ret mi_k18 (by rfl) (hP  _ _ _ _ hJ5 ⟨op150, ((show (a5 11, a5 12, i 643) = (a 11, (a 12).set x1.toNatClampNeg (i 643), i 643) from by rw [fa5 11 (by decide), ea5]).trans (if_pos ⟨(op153 c2 kop0), (op155 c4)⟩).symm)⟩)
def yw48_98_L10 : kW := ([643, 6274, 6275], [11, 12], [], [])
set_option maxRecDepth 100000 in
theorem ke48_98_L10 {i : Nat → Int32} {a : Nat → List Int32} {q : Nat → List Int64} {r : Nat → Nat} (hI : kI i a q) (hr : kr r) (t : List Int32) (nn : Int32) (hT : a 99 = t) (hN : i 6273 = nn) (hL : r 2 = 10) (hX : kBy t) : km 53 48 [.ref 98] (ks i a q r) (kVN yw48_98_L10 i a q r (fun i1 a1 q1 r1 => (True) ∧ (i1 6274, i1 6275, a1 11, a1 12, i1 643) = cLin t nn (i 6274, i 6275, a 11, a 12, i 643))) := by
  have hG := kG_self yw48_98_L10 hI hr
  refine km_ofN (q := (mi_h48, mi_c48)) rfl (by decide) (Nat.le_of_ble_eq_true rfl) ?_
  intro P hP
  have hn1 : (i 6273).toInt = nn.toInt := congrArg Int32.toInt hN
  have eRr_2 : r 2 = 10 := hL
  first | refine ft_goL mi_k48 2 2 [(0, .ref 98)] [.int 0, .ref 98] (by rfl) ?_ | refine ft_go mi_k48 2 2 [(0, .ref 98)] [.int 0, .ref 98] i a q r (by rfl) ?_
  have nn0 := kop0
  refine ko_callN mi_k48.1 (pc := 2) (ls := [(0, .ref 98)]) (st := [.int 0, .ref 98]) (h := ks i a q r) (i := (.invokevirtual 56, 3, 49, 0, 9, 0, 178)) (mi_k48.2 _ _ (by rfl)) (ft_invS mi_pq49 (by rfl)) (cy := mi_c49) mi_pq49 rfl ((kMallP10 6).1 _ _ _ _ hG.I hG.R 0 (by have := kop0; omega) t nn hT hN eRr_2 hX) (by decide) ?_
  intro ig2 ag2 qg2 rg2 kg2 hg2
  have hGg2 := kG_call hG kg2 (by decide +kernel)
  have eRrg2_2 : rg2 2 = 10 := (kg2.fr 2 rfl).trans eRr_2
  obtain ⟨hg2, og2⟩ := hg2
  first | refine ft_goS mi_k48 2 8 [.int 63, .ref 98] (by rfl) ?_ | refine ft_go mi_k48 2 8 [(0, .ref 98)] [.int 63, .ref 98] ig2 ag2 qg2 rg2 (by rfl) ?_
  refine ko_callI mi_k48.1 (pc := 8) (ls := [(0, .ref 98)]) (st := [.int 63, .ref 98]) (h := ks ig2 ag2 qg2 rg2) (i := (.invokevirtual 39, 3, 46, 0, 9, 0, 200)) (mi_k48.2 _ _ (by rfl)) (ft_invS mi_pq46 (by rfl)) (cy := mi_c46) mi_pq46 rfl (ke46_98 hGg2.I hGg2.R 63 (op149 kop63) t nn ((kg2.fa 99 rfl).trans hT) ((kg2.fi 6273 rfl).trans hN) hX) (by decide) ?_
  intro vg3 ig3 ag3 qg3 rg3 kg3 hg3
  have hGg3 := kG_call hGg2 kg3 (by decide +kernel)
  have eRrg3_2 : rg3 2 = 10 := (kg3.fr 2 rfl).trans eRrg2_2
  obtain ⟨hg3, og3⟩ := hg3
  have fig3_6274 : ((0 : Int) ≤ (ig3 6274).toInt) ∧ ((ig3 6274).toInt ≤ 120) := hGg3.I.1 6274
  have fig2_6274 : ((0 : Int) ≤ (ig2 6274).toInt) ∧ ((ig2 6274).toInt ≤ 120) := hGg2.I.1 6274
  have fig2_6273 : ((0 : Int) ≤ (ig2 6273).toInt) ∧ ((ig2 6273).toInt ≤ 120) := hGg2.I.1 6273
  have fi_6273 : ((0 : Int) ≤ (i 6273).toInt) ∧ ((i 6273).toInt ≤ 120) := hG.I.1 6273
  have efig2_6273 : (ig2 6273).toInt = (i 6273).toInt := kg2.ti 6273 rfl
  have fig2_6275 : ((0 : Int) ≤ (ig2 6275).toInt) ∧ ((ig2 6275).toInt ≤ 1) := hGg2.I.1 6275
  have z4 : ((vg3.toInt = 1) ∧ ((ig3 6274).toInt = ((ig2 6274).toInt + 1)) ∧ ((ig2 6274).toInt < (ig2 6273).toInt) ∧ ((ig2 6275).toInt = 0)) ∨ ((vg3.toInt = 0) ∧ ((ig3 6274).toInt = (ig2 6274).toInt)) := hg3
  refine ft_ifS mi_k48 (vg3 == 0) 50 14 [] (by rfl) (fun c => ?_) (fun c => ?_)
  ·
    have c5 : vg3.toInt = (0 : Int32).toInt := kd_eq c; clear c
    first | refine ft_goS mi_k48 2 54 [.ref (rg3 2)] (by rfl) ?_ | refine ft_go mi_k48 2 54 [(0, .ref 98)] [.ref (rg3 2)] ig3 ag3 qg3 rg3 (by rfl) ?_
    refine ko_eq (x1 := (54, [(0, .ref 98)], [.ref 10], (0, 0), ks ig3 ag3 qg3 rg3)) (by rw [eRrg3_2]) ?_
    first | refine ft_goS mi_k48 2 56 [.int 0, .int 2, .ref 10] (by rfl) ?_ | refine ft_go mi_k48 2 56 [(0, .ref 98)] [.int 0, .int 2, .ref 10] ig3 ag3 qg3 rg3 (by rfl) ?_
    refine ko_callI mi_k48.1 (pc := 56) (ls := [(0, .ref 98)]) (st := [.int 0, .int 2, .ref 10]) (h := ks ig3 ag3 qg3 rg3) (i := (.invokevirtual 60, 3, 17, 0, 9, 0, 187)) (mi_k48.2 _ _ (by rfl)) (ft_invS mi_pq17 (by rfl)) (cy := mi_c17) mi_pq17 rfl (kf17_10 hGg3.I hGg3.R 2 0) (by decide) ?_
    intro vg6 ig6 ag6 qg6 rg6 kg6 hg6
    have hGg6 := kG_call hGg3 kg6 (by decide +kernel)
    have eRrg6_2 : rg6 2 = 10 := (kg6.fr 2 rfl).trans eRrg3_2
    obtain ⟨hg6, og6⟩ := hg6
    first | refine ft_goS mi_k48 1 60 [] (by rfl) ?_ | refine ft_go mi_k48 1 60 [(0, .ref 98)] [] ig6 ag6 qg6 rg6 (by rfl) ?_
    exact ft_ret mi_k48 (by rfl) (hP  _ _ _ _ hGg6 ⟨trivial, (cLi_one og2 (tTk og3 (kg3.fi 6275 rfl) (kT3 (kg3.fa 11 rfl) (kg3.fa 12 rfl) (kg3.fi 643 rfl))) (op98 c5 kop0) (tAdd og6.1 (kg6.fi 6274 rfl) (kg6.fi 6275 rfl)))⟩)
  ·
    have c8 : vg3.toInt ≠ (0 : Int32).toInt := kd_eqF c; clear c
    first | refine ft_goS mi_k48 2 18 [.ref (rg3 2)] (by rfl) ?_ | refine ft_go mi_k48 2 18 [(0, .ref 98)] [.ref (rg3 2)] ig3 ag3 qg3 rg3 (by rfl) ?_
    refine ko_eq (x1 := (18, [(0, .ref 98)], [.ref 10], (0, 0), ks ig3 ag3 qg3 rg3)) (by rw [eRrg3_2]) ?_
    first | refine ft_goS mi_k48 2 20 [.int 0, .int 3, .ref 10] (by rfl) ?_ | refine ft_go mi_k48 2 20 [(0, .ref 98)] [.int 0, .int 3, .ref 10] ig3 ag3 qg3 rg3 (by rfl) ?_
    refine ko_callI mi_k48.1 (pc := 20) (ls := [(0, .ref 98)]) (st := [.int 0, .int 3, .ref 10]) (h := ks ig3 ag3 qg3 rg3) (i := (.invokevirtual 60, 3, 17, 0, 9, 0, 187)) (mi_k48.2 _ _ (by rfl)) (ft_invS mi_pq17 (by rfl)) (cy := mi_c17) mi_pq17 rfl (kf17_10 hGg3.I hGg3.R 3 0) (by decide) ?_
    intro vg9 ig9 ag9 qg9 rg9 kg9 hg9
    have hGg9 := kG_call hGg3 kg9 (by decide +kernel)
    have eRrg9_2 : rg9 2 = 10 := (kg9.fr 2 rfl).trans eRrg3_2
    obtain ⟨hg9, og9⟩ := hg9
    have fig3_643 : ((0 : Int) ≤ (ig3 643).toInt) ∧ ((ig3 643).toInt ≤ 121) := hGg3.I.1 643
    have fig2_643 : ((0 : Int) ≤ (ig2 643).toInt) ∧ ((ig2 643).toInt ≤ 121) := hGg2.I.1 643
    have efig3_643 : (ig3 643).toInt = (ig2 643).toInt := kg3.ti 643 rfl
    have fig9_643 : ((0 : Int) ≤ (ig9 643).toInt) ∧ ((ig9 643).toInt ≤ 121) := hGg9.I.1 643
    have z10 : (((ig3 643).toInt ≤ 120) ∧ ((ig9 643).toInt = ((ig3 643).toInt + 1))) ∨ (((121 : Int) ≤ (ig3 643).toInt) ∧ ((ig9 643).toInt = (ig3 643).toInt)) := hg9
    first | refine fo_goL mi_k48 fz48_23_3_26 [(1, .int vg9), (0, .ref 98)] [.int 0, .ref 98] (by rfl) ?_ | refine ft_go mi_k48 3 26 [(1, .int vg9), (0, .ref 98)] [.int 0, .ref 98] ig9 ag9 qg9 rg9 (by rfl) ?_
    have nn0 := kop0
    refine ko_callN mi_k48.1 (pc := 26) (ls := [(1, .int vg9), (0, .ref 98)]) (st := [.int 0, .ref 98]) (h := ks ig9 ag9 qg9 rg9) (i := (.invokevirtual 56, 3, 49, 0, 9, 0, 178)) (mi_k48.2 _ _ (by rfl)) (ft_invS mi_pq49 (by rfl)) (cy := mi_c49) mi_pq49 rfl ((kMallP10 6).1 _ _ _ _ hGg9.I hGg9.R 0 (by have := kop0; omega) t nn ((((kg9.fa 99 rfl).trans (kg3.fa 99 rfl)).trans (kg2.fa 99 rfl)).trans hT) (((kg9.fi 6273 rfl).trans ((kg3.fi 6273 rfl).trans (kg2.fi 6273 rfl))).trans hN) eRrg9_2 hX) (by decide) ?_
    intro ig11 ag11 qg11 rg11 kg11 hg11
    have hGg11 := kG_call hGg9 kg11 (by decide +kernel)
    have eRrg11_2 : rg11 2 = 10 := (kg11.fr 2 rfl).trans eRrg9_2
    obtain ⟨hg11, og11⟩ := hg11
    first | refine ft_goS mi_k48 2 33 [.ref (rg11 2)] (by rfl) ?_ | refine ft_go mi_k48 2 33 [(1, .int vg9), (0, .ref 98)] [.ref (rg11 2)] ig11 ag11 qg11 rg11 (by rfl) ?_
    refine ko_eq (x1 := (33, [(1, .int vg9), (0, .ref 98)], [.ref 10], (0, 0), ks ig11 ag11 qg11 rg11)) (by rw [eRrg11_2]) ?_
    first | refine ft_goS mi_k48 2 35 [.int 0, .int 2, .ref 10] (by rfl) ?_ | refine ft_go mi_k48 2 35 [(1, .int vg9), (0, .ref 98)] [.int 0, .int 2, .ref 10] ig11 ag11 qg11 rg11 (by rfl) ?_
    refine ko_callI mi_k48.1 (pc := 35) (ls := [(1, .int vg9), (0, .ref 98)]) (st := [.int 0, .int 2, .ref 10]) (h := ks ig11 ag11 qg11 rg11) (i := (.invokevirtual 60, 3, 17, 0, 9, 0, 187)) (mi_k48.2 _ _ (by rfl)) (ft_invS mi_pq17 (by rfl)) (cy := mi_c17) mi_pq17 rfl (kf17_10 hGg11.I hGg11.R 2 0) (by decide) ?_
    intro vg12 ig12 ag12 qg12 rg12 kg12 hg12
    have hGg12 := kG_call hGg11 kg12 (by decide +kernel)
    have eRrg12_2 : rg12 2 = 10 := (kg12.fr 2 rfl).trans eRrg11_2
    obtain ⟨hg12, og12⟩ := hg12
    first | refine fo_goS mi_k48 fz48_38_3_43 [.ref (rg12 2)] (by rfl) ?_ | refine ft_go mi_k48 3 43 [(1, .int vg9), (0, .ref 98)] [.ref (rg12 2)] ig12 ag12 qg12 rg12 (by rfl) ?_
    refine ko_eq (x1 := (43, [(1, .int vg9), (0, .ref 98)], [.ref 10], (0, 0), ks ig12 ag12 qg12 rg12)) (by rw [eRrg12_2]) ?_
    first | refine ft_goS mi_k48 1 44 [.int vg9, .ref 10] (by rfl) ?_ | refine ft_go mi_k48 1 44 [(1, .int vg9), (0, .ref 98)] [.int vg9, .ref 10] ig12 ag12 qg12 rg12 (by rfl) ?_
    refine ko_callN mi_k48.1 (pc := 44) (ls := [(1, .int vg9), (0, .ref 98)]) (st := [.int vg9, .ref 10]) (h := ks ig12 ag12 qg12 rg12) (i := (.invokevirtual 64, 3, 18, 0, 9, 0, 204)) (mi_k48.2 _ _ (by rfl)) (ft_invS mi_pq18 (by rfl)) (cy := mi_c18) mi_pq18 rfl (kf18_10 hGg12.I hGg12.R vg9) (by decide) ?_
    intro ig14 ag14 qg14 rg14 kg14 hg14
    have hGg14 := kG_call hGg12 kg14 (by decide +kernel)
    have eRrg14_2 : rg14 2 = 10 := (kg14.fr 2 rfl).trans eRrg12_2
    obtain ⟨hg14, og14⟩ := hg14
    first | refine ft_goS mi_k48 1 60 [] (by rfl) ?_ | refine ft_go mi_k48 1 60 [(1, .int vg9), (0, .ref 98)] [] ig14 ag14 qg14 rg14 (by rfl) ?_
    exact ft_ret mi_k48 (by rfl) (hP  _ _ _ _ hGg14 ⟨trivial, (cLi_two og2 (tTk og3 (kg3.fi 6275 rfl) (kT3 (kg3.fa 11 rfl) (kg3.fa 12 rfl) (kg3.fi 643 rfl))) (op96 c8 z4 kop0) (tAdd og9.1 (kg9.fi 6274 rfl) (kg9.fi 6275 rfl)) (cLi_2 og9.2 og11 (tAdd og12.1 (kg12.fi 6274 rfl) (kg12.fi 6275 rfl)) (tAim og14 (kg14.fi 6274 rfl) (kg14.fi 6275 rfl))))⟩)
def zw16_10 : kW := ([640, 643], [], [], [])
set_option maxRecDepth 100000 in
theorem kf16_10 {i : Nat → Int32} {a : Nat → List Int32} {q : Nat → List Int64} {r : Nat → Nat} (hI : kI i a q) (hr : kr r)  : km 1 16 [.ref 10] (ks i a q r) (kVN zw16_10 i a q r (fun i1 a1 q1 r1 => (True) ∧ (i1 640 = 0 ∧ i1 643 = 0))) := by
  have hG := kG_self zw16_10 hI hr
  refine km_ofN (q := (mi_h16, mi_c16)) rfl (by decide) (Nat.le_of_ble_eq_true rfl) ?_
  intro P hP
  have hJ1 := kG_i hG 640 rfl (v := 0) ⟨(op36 kop0), (op157 kop0)⟩
  have hJ2 := kG_i hJ1 643 rfl (v := 0) ⟨(op36 kop0), (op158 kop0)⟩
  first | refine fo_go mi_k16 fz16_0_6_10 [(0, .ref 10)] [] (ku (ku i 640 0) 643 0) a q r (by rfl) ?_ | refine ft_go mi_k16 6 10 [(0, .ref 10)] [] (ku (ku i 640 0) 643 0) a q r (by rfl) ?_
  exact ft_ret mi_k16 (by rfl) (hP  _ _ _ _ hJ2 ⟨trivial, ⟨(show (0 : Int32) = 0 from (by first | rfl | (simp only [sMn, sMx]; done) | (simp only [sMn, sMx]; rfl))), (show (0 : Int32) = 0 from (by first | rfl | (simp only [sMn, sMx]; done) | (simp only [sMn, sMx]; rfl)))⟩⟩)
def yw44_98_L10 : kW := ([640, 643, 6274, 6275], [11, 12], [], [])
def yw44_98_L10_L23 : kW := ([643, 6274, 6275], [11, 12], [], [])
set_option maxRecDepth 100000 in
theorem ke44_98_L10 {i : Nat → Int32} {a : Nat → List Int32} {q : Nat → List Int64} {r : Nat → Nat} (hI : kI i a q) (hr : kr r) (t : List Int32) (nn : Int32) (hT : a 99 = t) (hN : i 6273 = nn) (hL : r 2 = 10) (hX : kBy t) : km 55 44 [.ref 98] (ks i a q r) (kVI yw44_98_L10 i a q r (fun v i1 a1 q1 r1 => ((v.toInt = (-1)) ∨ ((0 : Int) ≤ v.toInt)) ∧ ((cOk nn (cTxt t nn (a 11) (a 12)) ∧ v = -1 ∧ i1 640 = 1 ∧ (a1 11, a1 12, i1 643) = (cTxt t nn (a 11) (a 12)).2.2) ∨ (¬ cOk nn (cTxt t nn (a 11) (a 12)) ∧ v = (cTxt t nn (a 11) (a 12)).1 ∧ 0 ≤ v.toInt)))) := by
  have hG := kG_self yw44_98_L10 hI hr
  refine km_ofI (q := (mi_h44, mi_c44)) rfl (by decide) (Nat.le_of_ble_eq_true rfl) ?_
  intro P hP
  have hn1 : (i 6273).toInt = nn.toInt := congrArg Int32.toInt hN
  have eRr_2 : r 2 = 10 := hL
  have hJ2 := kG_i hG 6274 rfl (v := 0) ⟨(op36 kop0), (op156 kop0)⟩
  have hJ3 := kG_i hJ2 6275 rfl (v := 0) ⟨(op36 kop0), (op157 kop0)⟩
  first | refine fo_go mi_k44 fz44_0_8_14 [(0, .ref 98)] [.ref (r 2)] (ku (ku i 6274 0) 6275 0) a q r (by rfl) ?_ | refine ft_go mi_k44 8 14 [(0, .ref 98)] [.ref (r 2)] (ku (ku i 6274 0) 6275 0) a q r (by rfl) ?_
  refine ko_eq (x1 := (14, [(0, .ref 98)], [.ref 10], (0, 0), ks (ku (ku i 6274 0) 6275 0) a q r)) (by rw [eRr_2]) ?_
  refine ko_callN mi_k44.1 (pc := 14) (ls := [(0, .ref 98)]) (st := [.ref 10]) (h := ks (ku (ku i 6274 0) 6275 0) a q r) (i := (.invokevirtual 33, 3, 16, 0, 9, 0, 176)) (mi_k44.2 _ _ (by rfl)) (ft_invS mi_pq16 (by rfl)) (cy := mi_c16) mi_pq16 rfl (kf16_10 hJ3.I hJ3.R ) (by decide) ?_
  intro ig4 ag4 qg4 rg4 kg4 hg4
  have hGg4 := kG_call hJ3 kg4 (by decide +kernel)
  have eRrg4_2 : rg4 2 = 10 := (kg4.fr 2 rfl).trans eRr_2
  obtain ⟨hg4, og4⟩ := hg4
  have q5 : ig4 640 = 0 := og4.1
  have q6 : ig4 643 = 0 := og4.2
  first | refine ft_goS mi_k44 1 18 [.ref 98] (by rfl) ?_ | refine ft_go mi_k44 1 18 [(0, .ref 98)] [.ref 98] ig4 ag4 qg4 rg4 (by rfl) ?_
  refine ko_callN mi_k44.1 (pc := 18) (ls := [(0, .ref 98)]) (st := [.ref 98]) (h := ks ig4 ag4 qg4 rg4) (i := (.invokevirtual 36, 3, 48, 0, 9, 0, 177)) (mi_k44.2 _ _ (by rfl)) (ft_invS mi_pq48 (by rfl)) (cy := mi_c48) mi_pq48 rfl (ke48_98_L10 hGg4.I hGg4.R t nn ((kg4.fa 99 rfl).trans hT) ((kg4.fi 6273 rfl).trans hN) eRrg4_2 hX) (by decide) ?_
  intro ig7 ag7 qg7 rg7 kg7 hg7
  have hGg7 := kG_call hGg4 kg7 (by decide +kernel)
  have eRrg7_2 : rg7 2 = 10 := (kg7.fr 2 rfl).trans eRrg4_2
  obtain ⟨hg7, og7⟩ := hg7
  first | refine fo_goL mi_k44 fz44_21_2_23 [(1, .int 0), (0, .ref 98)] [] (by rfl) ?_ | refine fo_goL mi_k44 fz44_44_2_23 [(1, .int 0), (0, .ref 98)] [] (by rfl) ?_ | refine ft_go mi_k44 2 23 [(1, .int 0), (0, .ref 98)] [] ig7 ag7 qg7 rg7 (by rfl) ?_
  have lp8 : ∀ (nz : Nat) (i8 : Nat → Int32) (a8 : Nat → List Int32) (q8 : Nat → List Int64) (r8 : Nat → Nat) (l1_8 : Int32), kG yw44_98_L10_L23 ig7 ag7 qg7 rg7 i8 a8 q8 r8 → (0 : Int) ≤ l1_8.toInt → cLpL t nn (nn.toInt - l1_8.toInt).toNat (i8 6274, i8 6275, a8 11, a8 12, i8 643) = (cTxt t nn (a 11) (a 12)) → (((i8 6273).toInt - l1_8.toInt)).toNat < nz → ko 55 (mi_h44, mi_c44) P (23, [(1, .int l1_8), (0, .ref 98)], [], (0, 0), ks i8 a8 q8 r8) := by
    intro nz
    induction nz with
    | zero =>
      intro _ _ _ _ _ _ _ _ hm
      exact absurd hm (Nat.not_lt_zero _)
    | succ nz ih8 =>
      intro i8 a8 q8 r8 l1_8 hL8 p8_0 O8_0 hm8
      have fi8_6273 : ((0 : Int) ≤ (i8 6273).toInt) ∧ ((i8 6273).toInt ≤ 120) := hL8.I.1 6273
      have efig4_6273 : (ig4 6273).toInt = (i 6273).toInt := kg4.ti 6273 rfl
      have efig7_6273 : (ig7 6273).toInt = (ig4 6273).toInt := kg7.ti 6273 rfl
      have efi8_6273 : (i8 6273).toInt = (ig7 6273).toInt := hL8.ti 6273 rfl
      have eRr8_2 : r8 2 = 10 := (hL8.fr 2 rfl).trans eRrg7_2
      first | refine fo_goL mi_k44 fz44_23_3_28 [(1, .int l1_8), (0, .ref 98)] [.int (i8 6273), .int l1_8] (by rfl) ?_ | refine ft_go mi_k44 3 28 [(1, .int l1_8), (0, .ref 98)] [.int (i8 6273), .int l1_8] i8 a8 q8 r8 (by rfl) ?_
      refine ft_ifS mi_k44 (decide ((i8 6273) ≤ l1_8)) 50 31 [] (by rfl) (fun c => ?_) (fun c => ?_)
      ·
        have c9 : (i8 6273).toInt ≤ l1_8.toInt := kd_le c; clear c
        have hG10 := kG_call hGg7 hL8 (by decide +kernel)
        have hD11 : (i8 6274, i8 6275, a8 11, a8 12, i8 643) = (cTxt t nn (a 11) (a 12)) := cLL_end O8_0 (kj_sub0 (n := nn.toInt) (op116 c9 efi8_6273 efig4_6273 efig7_6273 hn1))
        have fi8_6275 : ((0 : Int) ≤ (i8 6275).toInt) ∧ ((i8 6275).toInt ≤ 1) := hG10.I.1 6275
        first | refine fo_goS mi_k44 fz44_50_2_54 [.int (i8 6275)] (by rfl) ?_ | refine ft_go mi_k44 2 54 [(1, .int l1_8), (0, .ref 98)] [.int (i8 6275)] i8 a8 q8 r8 (by rfl) ?_
        refine ft_ifS mi_k44 ((i8 6275) != 0) 68 57 [] (by rfl) (fun c => ?_) (fun c => ?_)
        ·
          have c12 : (i8 6275).toInt ≠ (0 : Int32).toInt := kd_ne c; clear c
          have fi8_6274 : ((0 : Int) ≤ (i8 6274).toInt) ∧ ((i8 6274).toInt ≤ 120) := hG10.I.1 6274
          first | refine fo_goS mi_k44 fz44_68_2_72 [.int (i8 6274)] (by rfl) ?_ | refine ft_go mi_k44 2 72 [(1, .int l1_8), (0, .ref 98)] [.int (i8 6274)] i8 a8 q8 r8 (by rfl) ?_
          exact ft_ret mi_k44 (by rfl) (hP (i8 6274) _ _ _ _ hG10 ⟨(op159 fi8_6274.1), (rd_bad hD11 (op160 c12 fi8_6275.1 kop0) rfl (op4 fi8_6274.1))⟩)
        ·
          have c13 : (i8 6275).toInt = (0 : Int32).toInt := kd_neF c; clear c
          have fi8_6274 : ((0 : Int) ≤ (i8 6274).toInt) ∧ ((i8 6274).toInt ≤ 120) := hG10.I.1 6274
          first | refine fo_goS mi_k44 fz44_57_4_65 [.int (i8 6273), .int (i8 6274)] (by rfl) ?_ | refine ft_go mi_k44 4 65 [(1, .int l1_8), (0, .ref 98)] [.int (i8 6273), .int (i8 6274)] i8 a8 q8 r8 (by rfl) ?_
          refine ft_ifS mi_k44 (decide ((i8 6273) ≤ (i8 6274))) 73 68 [] (by rfl) (fun c => ?_) (fun c => ?_)
          ·
            have c14 : (i8 6273).toInt ≤ (i8 6274).toInt := kd_le c; clear c
            first | refine fo_goS mi_k44 fz44_73_2_77 [.ref (r8 2)] (by rfl) ?_ | refine ft_go mi_k44 2 77 [(1, .int l1_8), (0, .ref 98)] [.ref (r8 2)] i8 a8 q8 r8 (by rfl) ?_
            refine ko_eq (x1 := (77, [(1, .int l1_8), (0, .ref 98)], [.ref 10], (0, 0), ks i8 a8 q8 r8)) (by rw [eRr8_2]) ?_
            have hJ15 := kG_i hG10 640 rfl (v := 1) ⟨(op62 kop1), (op63 kop1)⟩
            first | refine fo_goI mi_k44 fz44_77_3_82 [.int (-1)] (ku i8 640 1) (by rfl) ?_ | refine ft_go mi_k44 3 82 [(1, .int l1_8), (0, .ref 98)] [.int (-1)] (ku i8 640 1) a8 q8 r8 (by rfl) ?_
            exact ft_ret mi_k44 (by rfl) (hP (-1) _ _ _ _ hJ15 ⟨(op161 kopm1), (rd_ok hD11 (op7 c13 fi8_6275.1 kop0) (op116 c14 efi8_6273 efig4_6273 efig7_6273 hn1) rfl rfl rfl)⟩)
          ·
            have c16 : (i8 6274).toInt < (i8 6273).toInt := kd_leF c; clear c
            first | refine fo_goS mi_k44 fz44_68_2_72 [.int (i8 6274)] (by rfl) ?_ | refine ft_go mi_k44 2 72 [(1, .int l1_8), (0, .ref 98)] [.int (i8 6274)] i8 a8 q8 r8 (by rfl) ?_
            exact ft_ret mi_k44 (by rfl) (hP (i8 6274) _ _ _ _ hG10 ⟨(op159 fi8_6274.1), (rd_bad hD11 (op162 c16 efi8_6273 efig4_6273 efig7_6273 hn1) rfl (op4 fi8_6274.1))⟩)
      ·
        have c17 : l1_8.toInt < (i8 6273).toInt := kd_leF c; clear c
        first | refine ft_goS mi_k44 2 34 [.int 59, .ref 98] (by rfl) ?_ | refine ft_go mi_k44 2 34 [(1, .int l1_8), (0, .ref 98)] [.int 59, .ref 98] i8 a8 q8 r8 (by rfl) ?_
        refine ko_callI mi_k44.1 (pc := 34) (ls := [(1, .int l1_8), (0, .ref 98)]) (st := [.int 59, .ref 98]) (h := ks i8 a8 q8 r8) (i := (.invokevirtual 39, 3, 46, 0, 9, 0, 200)) (mi_k44.2 _ _ (by rfl)) (ft_invS mi_pq46 (by rfl)) (cy := mi_c46) mi_pq46 rfl (ke46_98 hL8.I hL8.R 59 (op163 kop59) t nn ((((hL8.fa 99 rfl).trans (kg7.fa 99 rfl)).trans (kg4.fa 99 rfl)).trans hT) (((hL8.fi 6273 rfl).trans ((kg7.fi 6273 rfl).trans (kg4.fi 6273 rfl))).trans hN) hX) (by decide) ?_
        intro vg18 ig18 ag18 qg18 rg18 kg18 hg18
        have hGg18 := kG_call hL8 kg18 (by decide +kernel)
        have eRrg18_2 : rg18 2 = 10 := (kg18.fr 2 rfl).trans eRr8_2
        obtain ⟨hg18, og18⟩ := hg18
        have fig18_6274 : ((0 : Int) ≤ (ig18 6274).toInt) ∧ ((ig18 6274).toInt ≤ 120) := hGg18.I.1 6274
        have z19 : ((vg18.toInt = 1) ∧ ((ig18 6274).toInt = ((i8 6274).toInt + 1)) ∧ ((i8 6274).toInt < (i8 6273).toInt) ∧ ((i8 6275).toInt = 0)) ∨ ((vg18.toInt = 0) ∧ ((ig18 6274).toInt = (i8 6274).toInt)) := hg18
        refine ft_ifS mi_k44 (vg18 == 0) 50 40 [] (by rfl) (fun c => ?_) (fun c => ?_)
        ·
          have c20 : vg18.toInt = (0 : Int32).toInt := kd_eq c; clear c
          have hG21 := kG_call hGg7 hGg18 (by decide +kernel)
          have hD22 : (ig18 6274, ig18 6275, ag18 11, ag18 12, ig18 643) = (cTxt t nn (a 11) (a 12)) := cLL_out O8_0 (kj_sub1 (n := nn.toInt) (op118 c17 efi8_6273 efig4_6273 efig7_6273 hn1) (op4 p8_0)) (tTk og18 (kg18.fi 6275 rfl) (kT3 (kg18.fa 11 rfl) (kg18.fa 12 rfl) (kg18.fi 643 rfl))) (op98 c20 kop0)
          have fig18_6275 : ((0 : Int) ≤ (ig18 6275).toInt) ∧ ((ig18 6275).toInt ≤ 1) := hG21.I.1 6275
          first | refine fo_goS mi_k44 fz44_50_2_54 [.int (ig18 6275)] (by rfl) ?_ | refine ft_go mi_k44 2 54 [(1, .int l1_8), (0, .ref 98)] [.int (ig18 6275)] ig18 ag18 qg18 rg18 (by rfl) ?_
          refine ft_ifS mi_k44 ((ig18 6275) != 0) 68 57 [] (by rfl) (fun c => ?_) (fun c => ?_)
          ·
            have c23 : (ig18 6275).toInt ≠ (0 : Int32).toInt := kd_ne c; clear c
            first | refine fo_goS mi_k44 fz44_68_2_72 [.int (ig18 6274)] (by rfl) ?_ | refine ft_go mi_k44 2 72 [(1, .int l1_8), (0, .ref 98)] [.int (ig18 6274)] ig18 ag18 qg18 rg18 (by rfl) ?_
            exact ft_ret mi_k44 (by rfl) (hP (ig18 6274) _ _ _ _ hG21 ⟨(op159 fig18_6274.1), (rd_bad hD22 (op160 c23 fig18_6275.1 kop0) rfl (op4 fig18_6274.1))⟩)
          ·
            have c24 : (ig18 6275).toInt = (0 : Int32).toInt := kd_neF c; clear c
            have efig18_6273 : (ig18 6273).toInt = (i8 6273).toInt := kg18.ti 6273 rfl
            first | refine fo_goS mi_k44 fz44_57_4_65 [.int (ig18 6273), .int (ig18 6274)] (by rfl) ?_ | refine ft_go mi_k44 4 65 [(1, .int l1_8), (0, .ref 98)] [.int (ig18 6273), .int (ig18 6274)] ig18 ag18 qg18 rg18 (by rfl) ?_
            refine ft_ifS mi_k44 (decide ((ig18 6273) ≤ (ig18 6274))) 73 68 [] (by rfl) (fun c => ?_) (fun c => ?_)
            ·
              have c25 : (ig18 6273).toInt ≤ (ig18 6274).toInt := kd_le c; clear c
              first | refine fo_goS mi_k44 fz44_73_2_77 [.ref (rg18 2)] (by rfl) ?_ | refine ft_go mi_k44 2 77 [(1, .int l1_8), (0, .ref 98)] [.ref (rg18 2)] ig18 ag18 qg18 rg18 (by rfl) ?_
              refine ko_eq (x1 := (77, [(1, .int l1_8), (0, .ref 98)], [.ref 10], (0, 0), ks ig18 ag18 qg18 rg18)) (by rw [eRrg18_2]) ?_
              have hJ26 := kG_i hG21 640 rfl (v := 1) ⟨(op62 kop1), (op63 kop1)⟩
              first | refine fo_goI mi_k44 fz44_77_3_82 [.int (-1)] (ku ig18 640 1) (by rfl) ?_ | refine ft_go mi_k44 3 82 [(1, .int l1_8), (0, .ref 98)] [.int (-1)] (ku ig18 640 1) ag18 qg18 rg18 (by rfl) ?_
              exact ft_ret mi_k44 (by rfl) (hP (-1) _ _ _ _ hJ26 ⟨(op161 kopm1), (rd_ok hD22 (op7 c24 fig18_6275.1 kop0) (op164 c25 efi8_6273 efig18_6273 efig4_6273 efig7_6273 hn1) rfl rfl rfl)⟩)
            ·
              have c27 : (ig18 6274).toInt < (ig18 6273).toInt := kd_leF c; clear c
              first | refine fo_goS mi_k44 fz44_68_2_72 [.int (ig18 6274)] (by rfl) ?_ | refine ft_go mi_k44 2 72 [(1, .int l1_8), (0, .ref 98)] [.int (ig18 6274)] ig18 ag18 qg18 rg18 (by rfl) ?_
              exact ft_ret mi_k44 (by rfl) (hP (ig18 6274) _ _ _ _ hG21 ⟨(op159 fig18_6274.1), (rd_bad hD22 (op165 c27 efi8_6273 efig18_6273 efig4_6273 efig7_6273 hn1) rfl (op4 fig18_6274.1))⟩)
        ·
          have c28 : vg18.toInt ≠ (0 : Int32).toInt := kd_eqF c; clear c
          first | refine ft_goS mi_k44 1 41 [.ref 98] (by rfl) ?_ | refine ft_go mi_k44 1 41 [(1, .int l1_8), (0, .ref 98)] [.ref 98] ig18 ag18 qg18 rg18 (by rfl) ?_
          refine ko_callN mi_k44.1 (pc := 41) (ls := [(1, .int l1_8), (0, .ref 98)]) (st := [.ref 98]) (h := ks ig18 ag18 qg18 rg18) (i := (.invokevirtual 36, 3, 48, 0, 9, 0, 177)) (mi_k44.2 _ _ (by rfl)) (ft_invS mi_pq48 (by rfl)) (cy := mi_c48) mi_pq48 rfl (ke48_98_L10 hGg18.I hGg18.R t nn (((((kg18.fa 99 rfl).trans (hL8.fa 99 rfl)).trans (kg7.fa 99 rfl)).trans (kg4.fa 99 rfl)).trans hT) (((kg18.fi 6273 rfl).trans ((hL8.fi 6273 rfl).trans ((kg7.fi 6273 rfl).trans (kg4.fi 6273 rfl)))).trans hN) eRrg18_2 hX) (by decide) ?_
          intro ig29 ag29 qg29 rg29 kg29 hg29
          have hGg29 := kG_call hGg18 kg29 (by decide +kernel)
          have eRrg29_2 : rg29 2 = 10 := (kg29.fr 2 rfl).trans eRrg18_2
          obtain ⟨hg29, og29⟩ := hg29
          have s30 : (l1_8 + 1).toInt = l1_8.toInt + (1 : Int32).toInt := kd_add (op18 p8_0 kop1) (op117 c17 fi8_6273.2 kop1)
          first | refine fo_goL mi_k44 fz44_21_2_23 [(1, .int (l1_8 + 1)), (0, .ref 98)] [] (by rfl) ?_ | refine fo_goL mi_k44 fz44_44_2_23 [(1, .int (l1_8 + 1)), (0, .ref 98)] [] (by rfl) ?_ | refine ft_go mi_k44 2 23 [(1, .int (l1_8 + 1)), (0, .ref 98)] [] ig29 ag29 qg29 rg29 (by rfl) ?_
          have efig18_6273 : (ig18 6273).toInt = (i8 6273).toInt := kg18.ti 6273 rfl
          have efig29_6273 : (ig29 6273).toInt = (ig18 6273).toInt := kg29.ti 6273 rfl
          exact ih8 _ _ _ _ _ hGg29 (op20 p8_0 s30 kop1) (cLL_again O8_0 (kj_sub2 (n := nn.toInt) (op118 c17 efi8_6273 efig4_6273 efig7_6273 hn1) (op4 p8_0) (op30 s30 kop1)) (tTk og18 (kg18.fi 6275 rfl) (kT3 (kg18.fa 11 rfl) (kg18.fa 12 rfl) (kg18.fi 643 rfl))) (op146 c28 z19 kop0) og29) (kj_meas (op166 efig18_6273 efig29_6273 s30 kop1) (op121 c17) hm8)
  exact lp8 _ _ _ _ _ _ (kG_self _ hGg7.I hGg7.R) (op36 kop0) (cLL_begin og7 (kS5 (show ig4 6274 = 0 from (by first | rfl | (simp only [(show ig4 6274 = (0 : Int32) from kg4.fi 6274 rfl), sMn, sMx]; done) | (simp only [(show ig4 6274 = (0 : Int32) from kg4.fi 6274 rfl), sMn, sMx]; rfl))) (show ig4 6275 = 0 from (by first | rfl | (simp only [(show ig4 6275 = (0 : Int32) from kg4.fi 6275 rfl), sMn, sMx]; done) | (simp only [(show ig4 6275 = (0 : Int32) from kg4.fi 6275 rfl), sMn, sMx]; rfl))) (show ag4 11 = a 11 from (by first | rfl | (simp only [kg4.fa 11 rfl, sMn, sMx]; done) | (simp only [kg4.fa 11 rfl, sMn, sMx]; rfl))) (show ag4 12 = a 12 from (by first | rfl | (simp only [kg4.fa 12 rfl, sMn, sMx]; done) | (simp only [kg4.fa 12 rfl, sMn, sMx]; rfl))) (show ig4 643 = 0 from (by first | rfl | (simp only [q6, sMn, sMx]; done) | (simp only [q6, sMn, sMx]; rfl)))) (kj_sub00 kop0)) (Nat.lt_succ_self _)
def yw86_0_L10 : kW := ([640, 643, 6273, 6274, 6275], [11, 12], [], [0, 2])
set_option maxRecDepth 100000 in
theorem ke86_0_L10 {i : Nat → Int32} {a : Nat → List Int32} {q : Nat → List Int64} {r : Nat → Nat} (hI : kI i a q) (hr : kr r) (t : List Int32) (nn : Int32) (hT : a 99 = t) (hN : i 6273 = nn) (hL : r 2 = 10) (hX : kBy t) : km 57 86 [.ref 0] (ks i a q r) (kVI yw86_0_L10 i a q r (fun v i1 a1 q1 r1 => ((i1 6273).toInt = 0) ∧ ((cOk nn (cTxt t nn (a 11) (a 12)) ∧ v = 1 ∧ r1 0 = 10 ∧ r1 2 = 100 ∧ i1 640 = 1 ∧ (a1 11, a1 12, i1 643) = (cTxt t nn (a 11) (a 12)).2.2) ∨ (¬ cOk nn (cTxt t nn (a 11) (a 12)) ∧ v = -100 - (cTxt t nn (a 11) (a 12)).1 ∧ r1 0 = 100 ∧ r1 2 = 10)))) := by
  have hG := kG_self yw86_0_L10 hI hr
  refine km_ofI (q := (mi_h86, mi_c86)) rfl (by decide) (Nat.le_of_ble_eq_true rfl) ?_
  intro P hP
  have hn1 : (i 6273).toInt = nn.toInt := congrArg Int32.toInt hN
  have eRr_2 : r 2 = 10 := hL
  have eRr_0 : r 0 = 100 := kr_0 hr hL (by decide)
  first | refine ft_goL mi_k86 2 4 [(0, .ref 0)] [.ref 98] (by rfl) ?_ | refine ft_go mi_k86 2 4 [(0, .ref 0)] [.ref 98] i a q r (by rfl) ?_
  refine ko_callI mi_k86.1 (pc := 4) (ls := [(0, .ref 0)]) (st := [.ref 98]) (h := ks i a q r) (i := (.invokevirtual 113, 3, 44, 0, 9, 0, 175)) (mi_k86.2 _ _ (by rfl)) (ft_invS mi_pq44 (by rfl)) (cy := mi_c44) mi_pq44 rfl (ke44_98_L10 hG.I hG.R t nn hT hN eRr_2 hX) (by decide) ?_
  intro vg2 ig2 ag2 qg2 rg2 kg2 hg2
  have hGg2 := kG_call hG kg2 (by decide +kernel)
  have eRrg2_0 : rg2 0 = 100 := (kg2.fr 0 rfl).trans eRr_0
  have eRrg2_2 : rg2 2 = 10 := (kg2.fr 2 rfl).trans eRr_2
  obtain ⟨hg2, og2⟩ := hg2
  have hJ4 := kG_i hGg2 6273 rfl (v := 0) ⟨(op36 kop0), (op156 kop0)⟩
  first | refine fo_go mi_k86 fz86_7_6_17 [(1, .int vg2), (0, .ref 0)] [.int vg2] (ku ig2 6273 0) ag2 qg2 rg2 (by rfl) ?_ | refine ft_go mi_k86 6 17 [(1, .int vg2), (0, .ref 0)] [.int vg2] (ku ig2 6273 0) ag2 qg2 rg2 (by rfl) ?_
  refine ft_ifS mi_k86 (decide (vg2 < 0)) 25 20 [] (by rfl) (fun c => ?_) (fun c => ?_)
  ·
    have c5 : vg2.toInt < (0 : Int32).toInt := kd_lt c; clear c
    first | refine fo_goS mi_k86 fz86_25_7_40 [.ref (rg2 0), .ref 98, .ref 1] (by rfl) ?_ | refine ft_go mi_k86 7 40 [(1, .int vg2), (0, .ref 0)] [.ref (rg2 0), .ref 98, .ref 1] (ku ig2 6273 0) ag2 qg2 rg2 (by rfl) ?_
    refine ko_eq (x1 := (40, [(1, .int vg2), (0, .ref 0)], [.ref 100, .ref 98, .ref 1], (0, 0), ks (ku ig2 6273 0) ag2 qg2 rg2)) (by rw [eRrg2_0]) ?_
    refine ko_callP mi_k86.1 (pc := 40) (ls := [(1, .int vg2), (0, .ref 0)]) (st := [.ref 100, .ref 98, .ref 1]) (h := ks (ku ig2 6273 0) ag2 qg2 rg2) (i := (.invokevirtual 121, 3, 43, 0, 9, 0, 205)) (mi_k86.2 _ _ (by rfl)) (ft_invS mi_pq43 (by rfl)) (cy := mi_c43) mi_pq43 rfl (kc43 (ku ig2 6273 0) ag2 qg2 rg2 100) (by decide) ?_
    rintro _ _ ⟨rfl, rfl⟩
    refine ko_eq (x1 := (43, [(1, .int vg2), (0, .ref 0)], [.ref 10, .ref 1], (0, 0), ks (ku ig2 6273 0) ag2 qg2 (ku rg2 2 100))) (by rw [eRrg2_2] <;> rfl) ?_
    have hJ6 := kG_r2 hJ4 2 rfl 0 rfl (v := 100) (v2 := 10) (by first | exact ⟨Or.inl ⟨rfl, rfl⟩, hJ4.R.2⟩ | exact ⟨Or.inr ⟨rfl, rfl⟩, hJ4.R.2⟩)
    refine ko_steps mi_in86 2 _ (47, [(1, .int vg2), (0, .ref 0)], [.int 1], (0, 0), ks (ku ig2 6273 0) ag2 qg2 (ku (ku rg2 2 100) 0 10)) (by rfl) ?_
    exact ft_ret mi_k86 (by rfl) (hP 1 _ _ _ _ hJ6 ⟨(op41 kop0), (lw_ok og2 (op167 c5 kop0) rfl rfl rfl rfl (kT3 rfl rfl rfl))⟩)
  ·
    have c7 : (0 : Int32).toInt ≤ vg2.toInt := kd_ltF c; clear c
    have b8 : ((-2147483648 : Int) ≤ vg2.toInt) ∧ (vg2.toInt ≤ 2147483647) := kd_bd vg2
    first | refine fo_goS mi_k86 fz86_20_3_24 [.int ((-100) - vg2)] (by rfl) ?_ | refine ft_go mi_k86 3 24 [(1, .int vg2), (0, .ref 0)] [.int ((-100) - vg2)] (ku ig2 6273 0) ag2 qg2 rg2 (by rfl) ?_
    exact ft_ret mi_k86 (by rfl) (hP ((-100) - vg2) _ _ _ _ hJ4 ⟨(op41 kop0), (lw_bad og2 (op153 c7 kop0) rfl eRrg2_0 eRrg2_2)⟩)
def zw17_100 : kW := ([6403], [101, 102], [], [])
set_option maxRecDepth 100000 in
theorem kf17_100 {i : Nat → Int32} {a : Nat → List Int32} {q : Nat → List Int64} {r : Nat → Nat} (hI : kI i a q) (hr : kr r) (x1 : Int32) (x2 : Int32) : km 1 17 [.ref 100, .int x1, .int x2] (ks i a q r) (kVI zw17_100 i a q r (fun v i1 a1 q1 r1 => ((((i 6403).toInt ≤ 120) ∧ ((i1 6403).toInt = ((i 6403).toInt + 1))) ∨ (((121 : Int) ≤ (i 6403).toInt) ∧ ((i1 6403).toInt = (i 6403).toInt))) ∧ ((a1 101, a1 102, i1 6403) = lAdd x1 x2 (a 101, a 102, i 6403) ∧ v = i1 6403 - 1))) := by
  have hG := kG_self zw17_100 hI hr
  refine km_ofI (q := (mi_h17, mi_c17)) rfl (by decide) (Nat.le_of_ble_eq_true rfl) ?_
  intro P hP
  have fi_6403 : ((0 : Int) ≤ (i 6403).toInt) ∧ ((i 6403).toInt ≤ 121) := hG.I.1 6403
  first | refine fo_goL mi_k17 fz17_0_3_6 [(0, .ref 100), (1, .int x1), (2, .int x2)] [.int 121, .int (i 6403)] (by rfl) ?_ | refine ft_go mi_k17 3 6 [(0, .ref 100), (1, .int x1), (2, .int x2)] [.int 121, .int (i 6403)] i a q r (by rfl) ?_
  refine ft_ifS mi_k17 (decide (121 ≤ (i 6403))) 39 9 [] (by rfl) (fun c => ?_) (fun c => ?_)
  ·
    have c1 : (121 : Int32).toInt ≤ (i 6403).toInt := kd_le c; clear c
    have s2 : ((i 6403) - 1).toInt = (i 6403).toInt - (1 : Int32).toInt := kd_sub (op13 c1 kop121 kop1) (op14 fi_6403.2 kop1)
    first | refine fo_goS mi_k17 fz17_39_4_45 [.int ((i 6403) - 1)] (by rfl) ?_ | refine ft_go mi_k17 4 45 [(0, .ref 100), (1, .int x1), (2, .int x2)] [.int ((i 6403) - 1)] i a q r (by rfl) ?_
    exact ft_ret mi_k17 (by rfl) (hP ((i 6403) - 1) _ _ _ _ hG ⟨(op15 c1 kop121), ⟨(show (a 101, a 102, i 6403) = (a 101, a 102, i 6403) from rfl).trans (if_neg (op16 c1 kop121)).symm, rfl⟩⟩)
  ·
    have c3 : (i 6403).toInt < (121 : Int32).toInt := kd_leF c; clear c
    first | refine fo_goS mi_k17 fz17_9_5_18 [.int x1, .int (i 6403), .ref 101] (by rfl) ?_ | refine ft_go mi_k17 5 18 [(0, .ref 100), (1, .int x1), (2, .int x2)] [.int x1, .int (i 6403), .ref 101] i a q r (by rfl) ?_
    refine ko_iast3 mi_k17.1 (n := 121) (c := 121) (ax := (0, 0, 0, 0, 0)) (mi_k17.2 _ _ (by rfl)) (by rfl) (ksG101 _ _ _ _) (ksA101 _ _ _ _) (hG.I.2.1 101) rfl (op4 fi_6403.1) (op17 c3 kop121) ?_
    intro a4 ea4 fa4
    have hJ4 := kG_a3 hG 101 rfl ea4 fa4 (kd_bd _)
    first | refine fo_goS mi_k17 fz17_19_5_28 [.int x2, .int (i 6403), .ref 102] (by rfl) ?_ | refine ft_go mi_k17 5 28 [(0, .ref 100), (1, .int x1), (2, .int x2)] [.int x2, .int (i 6403), .ref 102] i a4 q r (by rfl) ?_
    refine ko_iast3 mi_k17.1 (n := 121) (c := 121) (ax := (0, 0, 0, 0, 0)) (mi_k17.2 _ _ (by rfl)) (by rfl) (ksG102 _ _ _ _) (ksA102 _ _ _ _) (hJ4.I.2.1 102) rfl (op4 fi_6403.1) (op17 c3 kop121) ?_
    intro a5 ea5 fa5
    have hJ5 := kG_a3 hJ4 102 rfl ea5 fa5 (kd_bd _)
    have s6 : ((i 6403) + 1).toInt = (i 6403).toInt + (1 : Int32).toInt := kd_add (op18 fi_6403.1 kop1) (op19 fi_6403.2 kop1)
    have hJ7 := kG_i hJ5 6403 rfl (v := ((i 6403) + 1)) ⟨(op20 fi_6403.1 s6 kop1), (op21 c3 s6 kop121 kop1)⟩
    have s8 : (((i 6403) + 1) - 1).toInt = ((i 6403) + 1).toInt - (1 : Int32).toInt := kd_sub (op22 fi_6403.1 s6 kop1) (op23 fi_6403.2 s6 kop1)
    first | refine fo_goI mi_k17 fz17_29_10_45 [.int (((i 6403) + 1) - 1)] (ku i 6403 ((i 6403) + 1)) (by rfl) ?_ | refine ft_go mi_k17 10 45 [(0, .ref 100), (1, .int x1), (2, .int x2)] [.int (((i 6403) + 1) - 1)] (ku i 6403 ((i 6403) + 1)) a5 q r (by rfl) ?_
    exact ft_ret mi_k17 (by rfl) (hP (((i 6403) + 1) - 1) _ _ _ _ hJ7 ⟨(op24 c3 s6 kop121 kop1), ⟨(show (a5 101, a5 102, ((i 6403) + 1)) = ((a 101).set (i 6403).toNatClampNeg x1, (a 102).set (i 6403).toNatClampNeg x2, i 6403 + 1) from by rw [fa5 101 (by decide), ea4, ea5, fa4 102 (by decide)]).trans (if_pos (op25 c3 kop121)).symm, rfl⟩⟩)
def yw55_98_L100 : kW := ([6274, 6403], [101, 102], [], [])
def yw55_98_L100_L4 : kW := ([6274], [], [], [])
set_option maxRecDepth 100000 in
theorem ke55_98_L100 {i : Nat → Int32} {a : Nat → List Int32} {q : Nat → List Int64} {r : Nat → Nat} (hI : kI i a q) (hr : kr r) (t : List Int32) (nn : Int32) (hT : a 99 = t) (hN : i 6273 = nn) (hL : r 2 = 100) (hX : kBy t) : km 3 55 [.ref 98] (ks i a q r) (kVN yw55_98_L100 i a q r (fun i1 a1 q1 r1 => (True) ∧ (i1 6274, i1 6275, a1 101, a1 102, i1 6403) = cNum t nn (i 6274, i 6275, a 101, a 102, i 6403))) := by
  have hG := kG_self yw55_98_L100 hI hr
  refine km_ofN (q := (mi_h55, mi_c55)) rfl (by decide) (Nat.le_of_ble_eq_true rfl) ?_
  intro P hP
  have hn1 : (i 6273).toInt = nn.toInt := congrArg Int32.toInt hN
  have eRr_2 : r 2 = 100 := hL
  first | refine fo_goL mi_k55 fz55_0_4_4 [(2, .int 0), (1, .int 0), (0, .ref 98)] [] (by rfl) ?_ | refine fo_go mi_k55 fz55_38_4_4 [(2, .int 0), (1, .int 0), (0, .ref 98)] [] i a q r (by rfl) ?_ | refine ft_go mi_k55 4 4 [(2, .int 0), (1, .int 0), (0, .ref 98)] [] i a q r (by rfl) ?_
  have lp2 : ∀ (nz : Nat) (i2 : Nat → Int32) (a2 : Nat → List Int32) (q2 : Nat → List Int64) (r2 : Nat → Nat) (l2_2 : Int32) (l1_2 : Int32), kG yw55_98_L100_L4 i a q r i2 a2 q2 r2 → (0 : Int) ≤ l2_2.toInt → cDig t nn (4 - l2_2.toInt).toNat (l1_2, (i2 6274, i2 6275, a2 101, a2 102, i2 6403)) = cDig t nn 4 (0, (i 6274, i 6275, a 101, a 102, i 6403)) → ((4 - l2_2.toInt)).toNat < nz → ko 3 (mi_h55, mi_c55) P (4, [(2, .int l2_2), (1, .int l1_2), (0, .ref 98)], [], (0, 0), ks i2 a2 q2 r2) := by
    intro nz
    induction nz with
    | zero =>
      intro _ _ _ _ _ _ _ _ _ hm
      exact absurd hm (Nat.not_lt_zero _)
    | succ nz ih2 =>
      intro i2 a2 q2 r2 l2_2 l1_2 hL2 p2_0 O2_0 hm2
      have eRr2_2 : r2 2 = 100 := (hL2.fr 2 rfl).trans eRr_2
      first | refine ft_goL mi_k55 2 6 [(2, .int l2_2), (1, .int l1_2), (0, .ref 98)] [.int 4, .int l2_2] (by rfl) ?_ | refine ft_go mi_k55 2 6 [(2, .int l2_2), (1, .int l1_2), (0, .ref 98)] [.int 4, .int l2_2] i2 a2 q2 r2 (by rfl) ?_
      refine ft_ifS mi_k55 (decide (4 ≤ l2_2)) 48 9 [] (by rfl) (fun c => ?_) (fun c => ?_)
      ·
        have c3 : (4 : Int32).toInt ≤ l2_2.toInt := kd_le c; clear c
        have hG4 := kG_call hG hL2 (by decide +kernel)
        have hD5 : (l1_2, (i2 6274, i2 6275, a2 101, a2 102, i2 6403)) = cDig t nn 4 (0, (i 6274, i 6275, a 101, a 102, i 6403)) := cDg_end O2_0 (kj_sub0 (n := 4) (op12 c3 kop4))
        first | refine fo_goS mi_k55 fz55_48_2_52 [.ref (r2 2)] (by rfl) ?_ | refine ft_go mi_k55 2 52 [(2, .int l2_2), (1, .int l1_2), (0, .ref 98)] [.ref (r2 2)] i2 a2 q2 r2 (by rfl) ?_
        refine ko_eq (x1 := (52, [(2, .int l2_2), (1, .int l1_2), (0, .ref 98)], [.ref 100], (0, 0), ks i2 a2 q2 r2)) (by rw [eRr2_2]) ?_
        first | refine fo_goS mi_k55 fz55_52_2_54 [.int l1_2, .int 0, .ref 100] (by rfl) ?_ | refine ft_go mi_k55 2 54 [(2, .int l2_2), (1, .int l1_2), (0, .ref 98)] [.int l1_2, .int 0, .ref 100] i2 a2 q2 r2 (by rfl) ?_
        refine ko_callI mi_k55.1 (pc := 54) (ls := [(2, .int l2_2), (1, .int l1_2), (0, .ref 98)]) (st := [.int l1_2, .int 0, .ref 100]) (h := ks i2 a2 q2 r2) (i := (.invokevirtual 60, 3, 17, 0, 9, 0, 187)) (mi_k55.2 _ _ (by rfl)) (ft_invS mi_pq17 (by rfl)) (cy := mi_c17) mi_pq17 rfl (kf17_100 hG4.I hG4.R 0 l1_2) (by decide) ?_
        intro vg6 ig6 ag6 qg6 rg6 kg6 hg6
        have hGg6 := kG_call hG4 kg6 (by decide +kernel)
        have eRrg6_2 : rg6 2 = 100 := (kg6.fr 2 rfl).trans eRr2_2
        obtain ⟨hg6, og6⟩ := hg6
        first | refine ft_goS mi_k55 1 58 [] (by rfl) ?_ | refine ft_go mi_k55 1 58 [(2, .int l2_2), (1, .int l1_2), (0, .ref 98)] [] ig6 ag6 qg6 rg6 (by rfl) ?_
        exact ft_ret mi_k55 (by rfl) (hP  _ _ _ _ hGg6 ⟨trivial, (cNu_of hD5 (tAdd og6.1 (kg6.fi 6274 rfl) (kg6.fi 6275 rfl)))⟩)
      ·
        have c8 : l2_2.toInt < (4 : Int32).toInt := kd_leF c; clear c
        first | refine ft_goS mi_k55 1 10 [.ref 98] (by rfl) ?_ | refine ft_go mi_k55 1 10 [(2, .int l2_2), (1, .int l1_2), (0, .ref 98)] [.ref 98] i2 a2 q2 r2 (by rfl) ?_
        refine ko_callPI mi_k55.1 (pc := 10) (ls := [(2, .int l2_2), (1, .int l1_2), (0, .ref 98)]) (st := [.ref 98]) (h := ks i2 a2 q2 r2) (i := (.invokevirtual 46, 3, 45, 0, 9, 0, 184)) (mi_k55.2 _ _ (by rfl)) (ft_invS mi_pq45 (by rfl)) (cy := mi_c45) mi_pq45 rfl (ke45_98 hL2.I hL2.R t nn ((hL2.fa 99 rfl).trans hT) ((hL2.fi 6273 rfl).trans hN) hX) (by decide) ?_
        intro vg9 hg9
        obtain ⟨hg9, og9⟩ := hg9
        have fi2_6274 : ((0 : Int) ≤ (i2 6274).toInt) ∧ ((i2 6274).toInt ≤ 120) := hL2.I.1 6274
        have fi2_6273 : ((0 : Int) ≤ (i2 6273).toInt) ∧ ((i2 6273).toInt ≤ 120) := hL2.I.1 6273
        have z10 : (((-1) : Int) ≤ vg9.toInt) ∧ (vg9.toInt ≤ 255) ∧ ((vg9.toInt = (-1)) ∨ (((i2 6275).toInt = 0) ∧ ((i2 6274).toInt < (i2 6273).toInt))) := hg9
        have q11 : vg9 = cHr t nn (i2 6274) (i2 6275) := og9
        have hv12 : vg9.toInt = (cHr t nn (i2 6274) (i2 6275)).toInt := congrArg Int32.toInt og9
        refine ko_callPI mi_k55.1 (pc := 13) (ls := [(2, .int l2_2), (1, .int l1_2), (0, .ref 98)]) (st := [.int vg9]) (h := ks i2 a2 q2 r2) (i := (.invokestatic 92, 3, 56, 0, 9, 0, 185)) (mi_k55.2 _ _ (by rfl)) (ft_invS mi_pq56 (by rfl)) (cy := mi_c56) mi_pq56 rfl (kc56 hL2.I hL2.R vg9) (by decide) ?_
        intro vg13 hg13
        rcases hg13 with ⟨eg13, hg13⟩ | ⟨eg13, hg13⟩
        ·
          subst eg13
          have z14 : ((48 : Int) ≤ vg9.toInt) ∧ (vg9.toInt ≤ 57) := hg13
          have b15 : ((-2147483648 : Int) ≤ l1_2.toInt) ∧ (l1_2.toInt ≤ 2147483647) := kd_bd l1_2
          first | refine fo_goS mi_k55 fz55_16_5_24 [.ref 98, .int (l1_2 * 10)] (by rfl) ?_ | refine ft_go mi_k55 5 24 [(2, .int l2_2), (1, .int l1_2), (0, .ref 98)] [.ref 98, .int (l1_2 * 10)] i2 a2 q2 r2 (by rfl) ?_
          refine ko_callPI mi_k55.1 (pc := 24) (ls := [(2, .int l2_2), (1, .int l1_2), (0, .ref 98)]) (st := [.ref 98, .int (l1_2 * 10)]) (h := ks i2 a2 q2 r2) (i := (.invokevirtual 46, 3, 45, 0, 9, 0, 184)) (mi_k55.2 _ _ (by rfl)) (ft_invS mi_pq45 (by rfl)) (cy := mi_c45) mi_pq45 rfl (ke45_98 hL2.I hL2.R t nn ((hL2.fa 99 rfl).trans hT) ((hL2.fi 6273 rfl).trans hN) hX) (by decide) ?_
          intro vg16 hg16
          obtain ⟨hg16, og16⟩ := hg16
          have q18 : vg16 = cHr t nn (i2 6274) (i2 6275) := og16
          have hv19 : vg16.toInt = (cHr t nn (i2 6274) (i2 6275)).toInt := congrArg Int32.toInt og16
          have b20 : ((-2147483648 : Int) ≤ (l1_2 * 10).toInt) ∧ ((l1_2 * 10).toInt ≤ 2147483647) := kd_bd (l1_2 * 10)
          have b21 : ((-2147483648 : Int) ≤ vg16.toInt) ∧ (vg16.toInt ≤ 2147483647) := kd_bd vg16
          have b22 : ((-2147483648 : Int) ≤ ((l1_2 * 10) + vg16).toInt) ∧ (((l1_2 * 10) + vg16).toInt ≤ 2147483647) := kd_bd ((l1_2 * 10) + vg16)
          have s23 : ((i2 6274) + 1).toInt = (i2 6274).toInt + (1 : Int32).toInt := kd_add (op18 fi2_6274.1 kop1) (op26 fi2_6274.2 kop1)
          have hJ24 := kG_i hL2 6274 rfl (v := ((i2 6274) + 1)) ⟨(op20 fi2_6274.1 s23 kop1), (op27 fi2_6273.2 s23 z10.2.2 z14.1 kop1)⟩
          have s25 : (l2_2 + 1).toInt = l2_2.toInt + (1 : Int32).toInt := kd_add (op18 p2_0 kop1) (op28 c8 kop4 kop1)
          first | refine fo_go mi_k55 fz55_27_12_4 [(2, .int (l2_2 + 1)), (1, .int (((l1_2 * 10) + vg16) - 48)), (0, .ref 98)] [] (ku i2 6274 ((i2 6274) + 1)) a2 q2 r2 (by rfl) ?_ | refine ft_go mi_k55 12 4 [(2, .int (l2_2 + 1)), (1, .int (((l1_2 * 10) + vg16) - 48)), (0, .ref 98)] [] (ku i2 6274 ((i2 6274) + 1)) a2 q2 r2 (by rfl) ?_
          exact ih2 _ _ _ _ _ _ hJ24 (op20 p2_0 s25 kop1) (cDg_again O2_0 (kj_sub2 (n := 4) (op29 c8 kop4) (op4 p2_0) (op30 s25 kop1)) (op31 hv12 z14.1) (op32 hv12 z14.2) (congrArg (fun z : Int32 => ((l1_2 * 10) + z) - 48) og16) rfl) (kj_meas (op33 s25 kop1) (op34 c8 kop4) hm2)
        ·
          subst eg13
          have z26 : ¬ (((48 : Int) ≤ vg9.toInt) ∧ (vg9.toInt ≤ 57)) := hg13
          first | refine ft_goS mi_k55 1 48 [] (by rfl) ?_ | refine ft_go mi_k55 1 48 [(2, .int l2_2), (1, .int l1_2), (0, .ref 98)] [] i2 a2 q2 r2 (by rfl) ?_
          have hG27 := kG_call hG hL2 (by decide +kernel)
          have hD28 : (l1_2, (i2 6274, i2 6275, a2 101, a2 102, i2 6403)) = cDig t nn 4 (0, (i 6274, i 6275, a 101, a 102, i 6403)) := cDg_out O2_0 (op35 hv12 z26)
          first | refine fo_goS mi_k55 fz55_48_2_52 [.ref (r2 2)] (by rfl) ?_ | refine ft_go mi_k55 2 52 [(2, .int l2_2), (1, .int l1_2), (0, .ref 98)] [.ref (r2 2)] i2 a2 q2 r2 (by rfl) ?_
          refine ko_eq (x1 := (52, [(2, .int l2_2), (1, .int l1_2), (0, .ref 98)], [.ref 100], (0, 0), ks i2 a2 q2 r2)) (by rw [eRr2_2]) ?_
          first | refine fo_goS mi_k55 fz55_52_2_54 [.int l1_2, .int 0, .ref 100] (by rfl) ?_ | refine ft_go mi_k55 2 54 [(2, .int l2_2), (1, .int l1_2), (0, .ref 98)] [.int l1_2, .int 0, .ref 100] i2 a2 q2 r2 (by rfl) ?_
          refine ko_callI mi_k55.1 (pc := 54) (ls := [(2, .int l2_2), (1, .int l1_2), (0, .ref 98)]) (st := [.int l1_2, .int 0, .ref 100]) (h := ks i2 a2 q2 r2) (i := (.invokevirtual 60, 3, 17, 0, 9, 0, 187)) (mi_k55.2 _ _ (by rfl)) (ft_invS mi_pq17 (by rfl)) (cy := mi_c17) mi_pq17 rfl (kf17_100 hG27.I hG27.R 0 l1_2) (by decide) ?_
          intro vg29 ig29 ag29 qg29 rg29 kg29 hg29
          have hGg29 := kG_call hG27 kg29 (by decide +kernel)
          have eRrg29_2 : rg29 2 = 100 := (kg29.fr 2 rfl).trans eRr2_2
          obtain ⟨hg29, og29⟩ := hg29
          first | refine ft_goS mi_k55 1 58 [] (by rfl) ?_ | refine ft_go mi_k55 1 58 [(2, .int l2_2), (1, .int l1_2), (0, .ref 98)] [] ig29 ag29 qg29 rg29 (by rfl) ?_
          exact ft_ret mi_k55 (by rfl) (hP  _ _ _ _ hGg29 ⟨trivial, (cNu_of hD28 (tAdd og29.1 (kg29.fi 6274 rfl) (kg29.fi 6275 rfl)))⟩)
  exact lp2 _ _ _ _ _ _ _ (kG_self _ hG.I hG.R) (op36 kop0) (by rw [kop0]; rfl) (Nat.lt_succ_self _)
def wP100 : kW := ([6274, 6275, 6403], [101, 102], [], [])
def kMP100_54 (n : Nat) : Prop := ∀ (i : Nat → Int32) (a : Nat → List Int32) (q : Nat → List Int64) (r : Nat → Nat), kI i a q → kr r → ∀ (x1 : Int32), (((0 : Int) ≤ x1.toInt) ∧ ((x1.toInt + (n : Int)) = 6)) → ∀ (t : List Int32) (nn : Int32), a 99 = t → i 6273 = nn → r 2 = 100 → kBy t → km (6 * n + 10) 54 [.ref 98, .int x1] (ks i a q r) (kVN wP100 i a q r (fun i1 a1 q1 r1 => (True) ∧ (i1 6274, i1 6275, a1 101, a1 102, i1 6403) = (cO t nn n) (i 6274, i 6275, a 101, a 102, i 6403)))
def yw53_98_L100_L14 : kW := ([6274, 6275, 6403], [101, 102], [], [])
def kMP100_53 (n : Nat) : Prop := ∀ (i : Nat → Int32) (a : Nat → List Int32) (q : Nat → List Int64) (r : Nat → Nat), kI i a q → kr r → ∀ (x1 : Int32), (((0 : Int) ≤ x1.toInt) ∧ ((x1.toInt + (n : Int)) = 6)) → ∀ (t : List Int32) (nn : Int32), a 99 = t → i 6273 = nn → r 2 = 100 → kBy t → km (6 * n + 11) 53 [.ref 98, .int x1] (ks i a q r) (kVN wP100 i a q r (fun i1 a1 q1 r1 => (True) ∧ (i1 6274, i1 6275, a1 101, a1 102, i1 6403) = (cP3 t nn (cO t nn n)) (i 6274, i 6275, a 101, a 102, i 6403)))
def yw52_98_L100_L14 : kW := ([6274, 6275, 6403], [101, 102], [], [])
def kMP100_52 (n : Nat) : Prop := ∀ (i : Nat → Int32) (a : Nat → List Int32) (q : Nat → List Int64) (r : Nat → Nat), kI i a q → kr r → ∀ (x1 : Int32), (((0 : Int) ≤ x1.toInt) ∧ ((x1.toInt + (n : Int)) = 6)) → ∀ (t : List Int32) (nn : Int32), a 99 = t → i 6273 = nn → r 2 = 100 → kBy t → km (6 * n + 12) 52 [.ref 98, .int x1] (ks i a q r) (kVN wP100 i a q r (fun i1 a1 q1 r1 => (True) ∧ (i1 6274, i1 6275, a1 101, a1 102, i1 6403) = (cP4 t nn (cO t nn n)) (i 6274, i 6275, a 101, a 102, i 6403)))
def kMP100_51 (n : Nat) : Prop := ∀ (i : Nat → Int32) (a : Nat → List Int32) (q : Nat → List Int64) (r : Nat → Nat), kI i a q → kr r → ∀ (x1 : Int32), (((0 : Int) ≤ x1.toInt) ∧ ((x1.toInt + (n : Int)) = 6)) → ∀ (t : List Int32) (nn : Int32), a 99 = t → i 6273 = nn → r 2 = 100 → kBy t → km (6 * n + 13) 51 [.ref 98, .int x1] (ks i a q r) (kVN wP100 i a q r (fun i1 a1 q1 r1 => (True) ∧ (i1 6274, i1 6275, a1 101, a1 102, i1 6403) = (cP5 t nn (cO t nn n)) (i 6274, i 6275, a 101, a 102, i 6403)))
def yw50_98_L100_L7 : kW := ([6274, 6275, 6403], [101, 102], [], [])
def kMP100_50 (n : Nat) : Prop := ∀ (i : Nat → Int32) (a : Nat → List Int32) (q : Nat → List Int64) (r : Nat → Nat), kI i a q → kr r → ∀ (x1 : Int32), (((0 : Int) ≤ x1.toInt) ∧ ((x1.toInt + (n : Int)) = 6)) → ∀ (t : List Int32) (nn : Int32), a 99 = t → i 6273 = nn → r 2 = 100 → kBy t → km (6 * n + 14) 50 [.ref 98, .int x1] (ks i a q r) (kVN wP100 i a q r (fun i1 a1 q1 r1 => (True) ∧ (i1 6274, i1 6275, a1 101, a1 102, i1 6403) = (cP6 t nn (cO t nn n)) (i 6274, i 6275, a 101, a 102, i 6403)))
def yw49_98_L100_L7 : kW := ([6274, 6275, 6403], [101, 102], [], [])
def kMP100_49 (n : Nat) : Prop := ∀ (i : Nat → Int32) (a : Nat → List Int32) (q : Nat → List Int64) (r : Nat → Nat), kI i a q → kr r → ∀ (x1 : Int32), (((0 : Int) ≤ x1.toInt) ∧ ((x1.toInt + (n : Int)) = 6)) → ∀ (t : List Int32) (nn : Int32), a 99 = t → i 6273 = nn → r 2 = 100 → kBy t → km (6 * n + 15) 49 [.ref 98, .int x1] (ks i a q r) (kVN wP100 i a q r (fun i1 a1 q1 r1 => (True) ∧ (i1 6274, i1 6275, a1 101, a1 102, i1 6403) = (cE t nn n) (i 6274, i 6275, a 101, a 102, i 6403)))
set_option maxRecDepth 100000 in
theorem kMsP100_54 (n : Nat)  (ih : ∀ m, n = m + 1 → kMP100_49 m ∧ kMP100_54 m) : kMP100_54 n := by
  intro i a q r hI hr x1 hp0 t nn hT hN hL hX
  have hG := kG_self wP100 hI hr
  refine km_ofN (q := (mi_h54, mi_c54)) rfl (by decide) (Nat.le_of_ble_eq_true rfl) ?_
  intro P hP
  have hn0 : (0 : Int) ≤ (n : Int) := Int.natCast_nonneg n
  have hn1 : (i 6273).toInt = nn.toInt := congrArg Int32.toInt hN
  have eRr_2 : r 2 = 100 := hL
  first | refine ft_goL mi_k54 1 1 [(0, .ref 98), (1, .int x1)] [.ref 98] (by rfl) ?_ | refine ft_go mi_k54 1 1 [(0, .ref 98), (1, .int x1)] [.ref 98] i a q r (by rfl) ?_
  refine ko_callPI mi_k54.1 (pc := 1) (ls := [(0, .ref 98), (1, .int x1)]) (st := [.ref 98]) (h := ks i a q r) (i := (.invokevirtual 46, 3, 45, 0, 9, 0, 184)) (mi_k54.2 _ _ (by rfl)) (ft_invS mi_pq45 (by rfl)) (cy := mi_c45) mi_pq45 rfl (ke45_98 hG.I hG.R t nn hT hN hX) (kj_d3 (n := n) (c := 1) (o1 := 10) (by decide)) ?_
  intro vg2 hg2
  obtain ⟨hg2, og2⟩ := hg2
  have z3 : (((-1) : Int) ≤ vg2.toInt) ∧ (vg2.toInt ≤ 255) ∧ ((vg2.toInt = (-1)) ∨ (((i 6275).toInt = 0) ∧ ((i 6274).toInt < (i 6273).toInt))) := hg2
  have q4 : vg2 = cHr t nn (i 6274) (i 6275) := og2
  have hv5 : vg2.toInt = (cHr t nn (i 6274) (i 6275)).toInt := congrArg Int32.toInt og2
  first | refine ft_goL mi_k54 2 6 [(2, .int vg2), (0, .ref 98), (1, .int x1)] [.int vg2] (by rfl) ?_ | refine ft_go mi_k54 2 6 [(2, .int vg2), (0, .ref 98), (1, .int x1)] [.int vg2] i a q r (by rfl) ?_
  refine ko_callPI mi_k54.1 (pc := 6) (ls := [(2, .int vg2), (0, .ref 98), (1, .int x1)]) (st := [.int vg2]) (h := ks i a q r) (i := (.invokestatic 92, 3, 56, 0, 9, 0, 185)) (mi_k54.2 _ _ (by rfl)) (ft_invS mi_pq56 (by rfl)) (cy := mi_c56) mi_pq56 rfl (kc56 hG.I hG.R vg2) (kj_d3 (n := n) (c := 1) (o1 := 10) (by decide)) ?_
  intro vg6 hg6
  rcases hg6 with ⟨eg6, hg6⟩ | ⟨eg6, hg6⟩
  ·
    subst eg6
    have z7 : ((48 : Int) ≤ vg2.toInt) ∧ (vg2.toInt ≤ 57) := hg6
    first | refine ft_goS mi_k54 2 13 [.ref 98] (by rfl) ?_ | refine ft_go mi_k54 2 13 [(2, .int vg2), (0, .ref 98), (1, .int x1)] [.ref 98] i a q r (by rfl) ?_
    refine ko_callN mi_k54.1 (pc := 13) (ls := [(2, .int vg2), (0, .ref 98), (1, .int x1)]) (st := [.ref 98]) (h := ks i a q r) (i := (.invokevirtual 95, 3, 55, 0, 9, 0, 186)) (mi_k54.2 _ _ (by rfl)) (ft_invS mi_pq55 (by rfl)) (cy := mi_c55) mi_pq55 rfl (ke55_98_L100 hG.I hG.R t nn hT hN eRr_2 hX) (kj_d3 (n := n) (c := 3) (o1 := 10) (by decide)) ?_
    intro ig8 ag8 qg8 rg8 kg8 hg8
    have hGg8 := kG_call hG kg8 (by decide +kernel)
    have eRrg8_2 : rg8 2 = 100 := (kg8.fr 2 rfl).trans eRr_2
    obtain ⟨hg8, og8⟩ := hg8
    exact ft_ret mi_k54 (by rfl) (hP  _ _ _ _ hGg8 ⟨trivial, (cPt_lv (cO_any t nn n) (fun nx => cPt_num (nx := nx) (op31 hv5 z7.1) (op32 hv5 z7.2) og8))⟩)
  ·
    subst eg6
    have z9 : ¬ (((48 : Int) ≤ vg2.toInt) ∧ (vg2.toInt ≤ 57)) := hg6
    first | refine ft_goS mi_k54 3 20 [.ref (mi_RO + 10), .ref 98] (by rfl) ?_ | refine ft_go mi_k54 3 20 [(2, .int vg2), (0, .ref 98), (1, .int x1)] [.ref (mi_RO + 10), .ref 98] i a q r (by rfl) ?_
    refine ko_callI mi_k54.1 (pc := 20) (ls := [(2, .int vg2), (0, .ref 98), (1, .int x1)]) (st := [.ref (mi_RO + 10), .ref 98]) (h := ks i a q r) (i := (.invokevirtual 78, 3, 47, 0, 9, 0, 189)) (mi_k54.2 _ _ (by rfl)) (ft_invS mi_pq47 (by rfl)) (cy := mi_c47) mi_pq47 rfl (ke47_98_1000010 hG.I hG.R t nn hT hN hX) (kj_d3 (n := n) (c := 9) (o1 := 10) (by decide)) ?_
    intro vg10 ig10 ag10 qg10 rg10 kg10 hg10
    have hGg10 := kG_call hG kg10 (by decide +kernel)
    have eRrg10_2 : rg10 2 = 100 := (kg10.fr 2 rfl).trans eRr_2
    obtain ⟨hg10, og10⟩ := hg10
    have z11 : ((vg10.toInt = (-1)) ∧ ((ig10 6274).toInt = (i 6274).toInt)) ∨ (((ig10 6274).toInt = ((i 6274).toInt + 1)) ∧ ((i 6274).toInt < (i 6273).toInt) ∧ ((i 6275).toInt = 0) ∧ ((vg10.toInt = 119) ∨ (vg10.toInt = 112) ∨ (vg10.toInt = 104) ∨ (vg10.toInt = 110) ∨ (vg10.toInt = 111) ∨ (vg10.toInt = 100))) := hg10
    have ho12 : vg10.toInt = (-1) ∨ vg10.toInt = (cHr t nn (i 6274) (i 6275)).toInt := tOf_v og10
    first | refine fo_goL mi_k54 fz54_23_3_26 [(3, .int vg10), (2, .int vg2), (0, .ref 98), (1, .int x1)] [.int (-1), .int vg10] (by rfl) ?_ | refine ft_go mi_k54 3 26 [(3, .int vg10), (2, .int vg2), (0, .ref 98), (1, .int x1)] [.int (-1), .int vg10] ig10 ag10 qg10 rg10 (by rfl) ?_
    refine ft_ifS mi_k54 (vg10 == (-1)) 46 29 [] (by rfl) (fun c => ?_) (fun c => ?_)
    ·
      have c13 : vg10.toInt = ((-1) : Int32).toInt := kd_eq c; clear c
      first | refine ft_goS mi_k54 2 49 [.int 6, .int x1] (by rfl) ?_ | refine ft_go mi_k54 2 49 [(3, .int vg10), (2, .int vg2), (0, .ref 98), (1, .int x1)] [.int 6, .int x1] ig10 ag10 qg10 rg10 (by rfl) ?_
      refine ft_ifS mi_k54 (decide (6 ≤ x1)) 62 52 [] (by rfl) (fun c => ?_) (fun c => ?_)
      ·
        have c14 : (6 : Int32).toInt ≤ x1.toInt := kd_le c; clear c
        have hJ15 := kG_i hGg10 6275 rfl (v := 1) ⟨(op62 kop1), (op63 kop1)⟩
        first | refine fo_goI mi_k54 fz54_62_3_67 [] (ku ig10 6275 1) (by rfl) ?_ | refine ft_go mi_k54 3 67 [(3, .int vg10), (2, .int vg2), (0, .ref 98), (1, .int x1)] [] (ku ig10 6275 1) ag10 qg10 rg10 (by rfl) ?_
        have tb16 : (ig10 6274, (1 : Int32), ag10 101, ag10 102, ig10 6403) = cBad (ig10 6274, ig10 6275, ag10 101, ag10 102, ig10 6403) := (tBad rfl rfl (kT3 rfl rfl rfl))
        have to17 : (vg10, (ig10 6274, ig10 6275, ag10 101, ag10 102, ig10 6403)) = cOf t nn oNam (i 6274, i 6275, a 101, a 102, i 6403) := (tOf og10 (kg10.fi 6275 rfl) (kT3 (kg10.fa 101 rfl) (kg10.fa 102 rfl) (kg10.fi 6403 rfl)))
        have te18 : (ig10 6274, ig10 6275, ag10 101, ag10 102, ig10 6403) = (i 6274, i 6275, a 101, a 102, i 6403) := cOf_no to17 (op64 c13 kopm1) oNam_ne
        have tp19 : (ig10 6274, (1 : Int32), ag10 101, ag10 102, ig10 6403) = cPart t nn none (i 6274, i 6275, a 101, a 102, i 6403) := cPt_non (op35 hv5 z9) to17 (op64 c13 kopm1) (tBad2 te18 tb16)
        exact ft_ret mi_k54 (by rfl) (hP  _ _ _ _ hJ15 ⟨trivial, (tp19.trans (congrFun (cO_z (kj_n0 (op65 c14 hp0.2 kop6))).symm _))⟩)
      ·
        have c20 : x1.toInt < (6 : Int32).toInt := kd_leF c; clear c
        obtain ⟨m, hm, hmI⟩ := kj_pred (op66 c20 hp0.2 kop6)
        have hh21 : (cHr t nn (ig10 6274) (ig10 6275)).toInt = (cHr t nn (i 6274) (i 6275)).toInt := congrArg Int32.toInt (kHr_c (t := t) (n := nn) (kj_v (op67 c13 z11 kopm1)) (kg10.fi 6275 rfl))
        first | refine ft_goS mi_k54 2 55 [.ref (mi_RO + 11), .ref 98] (by rfl) ?_ | refine ft_go mi_k54 2 55 [(3, .int vg10), (2, .int vg2), (0, .ref 98), (1, .int x1)] [.ref (mi_RO + 11), .ref 98] ig10 ag10 qg10 rg10 (by rfl) ?_
        refine ko_callI mi_k54.1 (pc := 55) (ls := [(3, .int vg10), (2, .int vg2), (0, .ref 98), (1, .int x1)]) (st := [.ref (mi_RO + 11), .ref 98]) (h := ks ig10 ag10 qg10 rg10) (i := (.invokevirtual 78, 3, 47, 0, 9, 0, 189)) (mi_k54.2 _ _ (by rfl)) (ft_invS mi_pq47 (by rfl)) (cy := mi_c47) mi_pq47 rfl (ke47_98_1000011 hGg10.I hGg10.R t nn ((kg10.fa 99 rfl).trans hT) ((kg10.fi 6273 rfl).trans hN) hX) (kj_d3 (n := n) (c := 9) (o1 := 10) (by decide)) ?_
        intro vg22 ig22 ag22 qg22 rg22 kg22 hg22
        have hGg22 := kG_call hGg10 kg22 (by decide +kernel)
        have eRrg22_2 : rg22 2 = 100 := (kg22.fr 2 rfl).trans eRrg10_2
        obtain ⟨hg22, og22⟩ := hg22
        have z23 : ((vg22.toInt = (-1)) ∧ ((ig22 6274).toInt = (ig10 6274).toInt)) ∨ (((ig22 6274).toInt = ((ig10 6274).toInt + 1)) ∧ ((ig10 6274).toInt < (ig10 6273).toInt) ∧ ((ig10 6275).toInt = 0) ∧ ((vg22.toInt = 40) ∨ (vg22.toInt = 33) ∨ (vg22.toInt = 45))) := hg22
        have ho24 : vg22.toInt = (-1) ∨ vg22.toInt = (cHr t nn (ig10 6274) (ig10 6275)).toInt := tOf_v og22
        first | refine ft_goS mi_k54 1 59 [.int (-1), .int vg22] (by rfl) ?_ | refine ft_go mi_k54 1 59 [(3, .int vg10), (2, .int vg2), (0, .ref 98), (1, .int x1)] [.int (-1), .int vg22] ig22 ag22 qg22 rg22 (by rfl) ?_
        refine ft_ifS mi_k54 (vg22 != (-1)) 68 62 [] (by rfl) (fun c => ?_) (fun c => ?_)
        ·
          have c25 : vg22.toInt ≠ ((-1) : Int32).toInt := kd_ne c; clear c
          first | refine ft_goS mi_k54 2 71 [.int 40, .int vg2] (by rfl) ?_ | refine ft_go mi_k54 2 71 [(3, .int vg10), (2, .int vg2), (0, .ref 98), (1, .int x1)] [.int 40, .int vg2] ig22 ag22 qg22 rg22 (by rfl) ?_
          refine ft_ifS mi_k54 (vg2 != 40) 96 74 [] (by rfl) (fun c => ?_) (fun c => ?_)
          ·
            have c26 : vg2.toInt ≠ (40 : Int32).toInt := kd_ne c; clear c
            have s27 : (x1 + 1).toInt = x1.toInt + (1 : Int32).toInt := kd_add (op18 hp0.1 kop1) (op79 hn0 hp0.2 kop1)
            first | refine fo_goS mi_k54 fz54_96_4_100 [.int (x1 + 1), .ref 98] (by rfl) ?_ | refine ft_go mi_k54 4 100 [(3, .int vg10), (2, .int vg2), (0, .ref 98), (1, .int x1)] [.int (x1 + 1), .ref 98] ig22 ag22 qg22 rg22 (by rfl) ?_
            refine ko_callN mi_k54.1 (pc := 100) (ls := [(3, .int vg10), (2, .int vg2), (0, .ref 98), (1, .int x1)]) (st := [.int (x1 + 1), .ref 98]) (h := ks ig22 ag22 qg22 rg22) (i := (.invokevirtual 87, 3, 54, 0, 9, 0, 183)) (mi_k54.2 _ _ (by rfl)) (ft_invS mi_pq54 (by rfl)) (cy := mi_c54) mi_pq54 rfl ((ih m hm).2 _ _ _ _ hGg22.I hGg22.R (x1 + 1) (op80 hmI hp0.1 hp0.2 s27 kop1) t nn (((kg22.fa 99 rfl).trans (kg10.fa 99 rfl)).trans hT) (((kg22.fi 6273 rfl).trans (kg10.fi 6273 rfl)).trans hN) eRrg22_2 hX) (kj_d2 (n := n) (m := m) (o := 10) (o1 := 10) hm (by decide)) ?_
            intro ig28 ag28 qg28 rg28 kg28 hg28
            have hGg28 := kG_call hGg22 kg28 (by decide +kernel)
            have eRrg28_2 : rg28 2 = 100 := (kg28.fr 2 rfl).trans eRrg22_2
            obtain ⟨hg28, og28⟩ := hg28
            first | refine ft_goS mi_k54 2 107 [.ref (rg28 2)] (by rfl) ?_ | refine ft_go mi_k54 2 107 [(3, .int vg10), (2, .int vg2), (0, .ref 98), (1, .int x1)] [.ref (rg28 2)] ig28 ag28 qg28 rg28 (by rfl) ?_
            refine ko_eq (x1 := (107, [(3, .int vg10), (2, .int vg2), (0, .ref 98), (1, .int x1)], [.ref 100], (0, 0), ks ig28 ag28 qg28 rg28)) (by rw [eRrg28_2]) ?_
            first | refine ft_goS mi_k54 2 110 [.int 45, .int vg2, .ref 100] (by rfl) ?_ | refine ft_go mi_k54 2 110 [(3, .int vg10), (2, .int vg2), (0, .ref 98), (1, .int x1)] [.int 45, .int vg2, .ref 100] ig28 ag28 qg28 rg28 (by rfl) ?_
            refine ft_ifS mi_k54 (vg2 != 45) 118 113 [.ref 100] (by rfl) (fun c => ?_) (fun c => ?_)
            ·
              have c29 : vg2.toInt ≠ (45 : Int32).toInt := kd_ne c; clear c
              first | refine ft_goS mi_k54 2 120 [.int 0, .int vg2, .ref 100] (by rfl) ?_ | refine ft_go mi_k54 2 120 [(3, .int vg10), (2, .int vg2), (0, .ref 98), (1, .int x1)] [.int 0, .int vg2, .ref 100] ig28 ag28 qg28 rg28 (by rfl) ?_
              refine ko_callI mi_k54.1 (pc := 120) (ls := [(3, .int vg10), (2, .int vg2), (0, .ref 98), (1, .int x1)]) (st := [.int 0, .int vg2, .ref 100]) (h := ks ig28 ag28 qg28 rg28) (i := (.invokevirtual 60, 3, 17, 0, 9, 0, 187)) (mi_k54.2 _ _ (by rfl)) (ft_invS mi_pq17 (by rfl)) (cy := mi_c17) mi_pq17 rfl (kf17_100 hGg28.I hGg28.R vg2 0) (kj_d3 (n := n) (c := 1) (o1 := 10) (by decide)) ?_
              intro vg30 ig30 ag30 qg30 rg30 kg30 hg30
              have hGg30 := kG_call hGg28 kg30 (by decide +kernel)
              have eRrg30_2 : rg30 2 = 100 := (kg30.fr 2 rfl).trans eRrg28_2
              obtain ⟨hg30, og30⟩ := hg30
              first | refine ft_goS mi_k54 1 124 [] (by rfl) ?_ | refine ft_go mi_k54 1 124 [(3, .int vg10), (2, .int vg2), (0, .ref 98), (1, .int x1)] [] ig30 ag30 qg30 rg30 (by rfl) ?_
              have to32 : (vg10, (ig10 6274, ig10 6275, ag10 101, ag10 102, ig10 6403)) = cOf t nn oNam (i 6274, i 6275, a 101, a 102, i 6403) := (tOf og10 (kg10.fi 6275 rfl) (kT3 (kg10.fa 101 rfl) (kg10.fa 102 rfl) (kg10.fi 6403 rfl)))
              have te33 : (ig10 6274, ig10 6275, ag10 101, ag10 102, ig10 6403) = (i 6274, i 6275, a 101, a 102, i 6403) := cOf_no to32 (op64 c13 kopm1) oNam_ne
              have to34 : (vg22, (ig22 6274, ig22 6275, ag22 101, ag22 102, ig22 6403)) = cOf t nn oOpn (ig10 6274, ig10 6275, ag10 101, ag10 102, ig10 6403) := (tOf og22 (kg22.fi 6275 rfl) (kT3 (kg22.fa 101 rfl) (kg22.fa 102 rfl) (kg22.fi 6403 rfl)))
              have tx35 : vg2 = (if vg22.toInt = 45 then (126 : Int32) else vg22) := ((kj_v (op82 c25 hh21 ho24 hv5 z3.1 kopm1)).trans (if_neg (op83 c29 hh21 ho24 hv5 z23 kop45)).symm)
              have to36 : (ig28 6274, ig28 6275, ag28 101, ag28 102, ig28 6403) = cO t nn m (ig22 6274, ig22 6275, ag22 101, ag22 102, ig22 6403) := og28
              have to37 : (ig30 6274, ig30 6275, ag30 101, ag30 102, ig30 6403) = cAdd vg2 0 (ig28 6274, ig28 6275, ag28 101, ag28 102, ig28 6403) := (tAdd og30.1 (kg30.fi 6274 rfl) (kg30.fi 6275 rfl))
              have tp38 : (ig30 6274, ig30 6275, ag30 101, ag30 102, ig30 6403) = cPart t nn (some (cO t nn m)) (i 6274, i 6275, a 101, a 102, i 6403) := cPt_un (sub := cO t nn m) (op81 c25 hh21 ho24 hv5 z23 z9 kopm1) to32 (op64 c13 kopm1) te33 to34 (op84 c25 z23 kopm1) (op85 c26 c29 hh21 ho24 hv5 z23 kop40 kop45) to36 tx35 to37
              exact ft_ret mi_k54 (by rfl) (hP  _ _ _ _ hGg30 ⟨trivial, (tp38.trans (congrFun (cO_s hm).symm _))⟩)
            ·
              have c39 : vg2.toInt = (45 : Int32).toInt := kd_neF c; clear c
              first | refine fo_goS mi_k54 fz54_113_3_120 [.int 0, .int 126, .ref 100] (by rfl) ?_ | refine ft_goS mi_k54 3 120 [.int 0, .int 126, .ref 100] (by rfl) ?_ | refine ft_go mi_k54 3 120 [(3, .int vg10), (2, .int vg2), (0, .ref 98), (1, .int x1)] [.int 0, .int 126, .ref 100] ig28 ag28 qg28 rg28 (by rfl) ?_
              refine ko_callI mi_k54.1 (pc := 120) (ls := [(3, .int vg10), (2, .int vg2), (0, .ref 98), (1, .int x1)]) (st := [.int 0, .int 126, .ref 100]) (h := ks ig28 ag28 qg28 rg28) (i := (.invokevirtual 60, 3, 17, 0, 9, 0, 187)) (mi_k54.2 _ _ (by rfl)) (ft_invS mi_pq17 (by rfl)) (cy := mi_c17) mi_pq17 rfl (kf17_100 hGg28.I hGg28.R 126 0) (kj_d3 (n := n) (c := 1) (o1 := 10) (by decide)) ?_
              intro vg40 ig40 ag40 qg40 rg40 kg40 hg40
              have hGg40 := kG_call hGg28 kg40 (by decide +kernel)
              have eRrg40_2 : rg40 2 = 100 := (kg40.fr 2 rfl).trans eRrg28_2
              obtain ⟨hg40, og40⟩ := hg40
              first | refine ft_goS mi_k54 1 124 [] (by rfl) ?_ | refine ft_go mi_k54 1 124 [(3, .int vg10), (2, .int vg2), (0, .ref 98), (1, .int x1)] [] ig40 ag40 qg40 rg40 (by rfl) ?_
              have to42 : (vg10, (ig10 6274, ig10 6275, ag10 101, ag10 102, ig10 6403)) = cOf t nn oNam (i 6274, i 6275, a 101, a 102, i 6403) := (tOf og10 (kg10.fi 6275 rfl) (kT3 (kg10.fa 101 rfl) (kg10.fa 102 rfl) (kg10.fi 6403 rfl)))
              have te43 : (ig10 6274, ig10 6275, ag10 101, ag10 102, ig10 6403) = (i 6274, i 6275, a 101, a 102, i 6403) := cOf_no to42 (op64 c13 kopm1) oNam_ne
              have to44 : (vg22, (ig22 6274, ig22 6275, ag22 101, ag22 102, ig22 6403)) = cOf t nn oOpn (ig10 6274, ig10 6275, ag10 101, ag10 102, ig10 6403) := (tOf og22 (kg22.fi 6275 rfl) (kT3 (kg22.fa 101 rfl) (kg22.fa 102 rfl) (kg22.fi 6403 rfl)))
              have tx45 : (126 : Int32) = (if vg22.toInt = 45 then (126 : Int32) else vg22) := (if_pos (op87 c25 c39 hh21 ho24 hv5 z23 kopm1 kop45)).symm
              have to46 : (ig28 6274, ig28 6275, ag28 101, ag28 102, ig28 6403) = cO t nn m (ig22 6274, ig22 6275, ag22 101, ag22 102, ig22 6403) := og28
              have to47 : (ig40 6274, ig40 6275, ag40 101, ag40 102, ig40 6403) = cAdd (126 : Int32) 0 (ig28 6274, ig28 6275, ag28 101, ag28 102, ig28 6403) := (tAdd og40.1 (kg40.fi 6274 rfl) (kg40.fi 6275 rfl))
              have tp48 : (ig40 6274, ig40 6275, ag40 101, ag40 102, ig40 6403) = cPart t nn (some (cO t nn m)) (i 6274, i 6275, a 101, a 102, i 6403) := cPt_un (sub := cO t nn m) (op86 c39 hv5 kop45) to42 (op64 c13 kopm1) te43 to44 (op84 c25 z23 kopm1) (op88 c25 c39 hh21 ho24 hv5 kopm1 kop45) to46 tx45 to47
              exact ft_ret mi_k54 (by rfl) (hP  _ _ _ _ hGg40 ⟨trivial, (tp48.trans (congrFun (cO_s hm).symm _))⟩)
          ·
            have c49 : vg2.toInt = (40 : Int32).toInt := kd_neF c; clear c
            have s50 : (x1 + 1).toInt = x1.toInt + (1 : Int32).toInt := kd_add (op18 hp0.1 kop1) (op79 hn0 hp0.2 kop1)
            first | refine fo_goS mi_k54 fz54_74_4_78 [.int (x1 + 1), .ref 98] (by rfl) ?_ | refine ft_go mi_k54 4 78 [(3, .int vg10), (2, .int vg2), (0, .ref 98), (1, .int x1)] [.int (x1 + 1), .ref 98] ig22 ag22 qg22 rg22 (by rfl) ?_
            refine ko_callN mi_k54.1 (pc := 78) (ls := [(3, .int vg10), (2, .int vg2), (0, .ref 98), (1, .int x1)]) (st := [.int (x1 + 1), .ref 98]) (h := ks ig22 ag22 qg22 rg22) (i := (.invokevirtual 56, 3, 49, 0, 9, 0, 178)) (mi_k54.2 _ _ (by rfl)) (ft_invS mi_pq49 (by rfl)) (cy := mi_c49) mi_pq49 rfl ((ih m hm).1 _ _ _ _ hGg22.I hGg22.R (x1 + 1) (op80 hmI hp0.1 hp0.2 s50 kop1) t nn (((kg22.fa 99 rfl).trans (kg10.fa 99 rfl)).trans hT) (((kg22.fi 6273 rfl).trans (kg10.fi 6273 rfl)).trans hN) eRrg22_2 hX) (kj_d2 (n := n) (m := m) (o := 15) (o1 := 10) hm (by decide)) ?_
            intro ig51 ag51 qg51 rg51 kg51 hg51
            have hGg51 := kG_call hGg22 kg51 (by decide +kernel)
            have eRrg51_2 : rg51 2 = 100 := (kg51.fr 2 rfl).trans eRrg22_2
            obtain ⟨hg51, og51⟩ := hg51
            first | refine ft_goS mi_k54 2 84 [.int 41, .ref 98] (by rfl) ?_ | refine ft_go mi_k54 2 84 [(3, .int vg10), (2, .int vg2), (0, .ref 98), (1, .int x1)] [.int 41, .ref 98] ig51 ag51 qg51 rg51 (by rfl) ?_
            refine ko_callI mi_k54.1 (pc := 84) (ls := [(3, .int vg10), (2, .int vg2), (0, .ref 98), (1, .int x1)]) (st := [.int 41, .ref 98]) (h := ks ig51 ag51 qg51 rg51) (i := (.invokevirtual 39, 3, 46, 0, 9, 0, 200)) (mi_k54.2 _ _ (by rfl)) (ft_invS mi_pq46 (by rfl)) (cy := mi_c46) mi_pq46 rfl (ke46_98 hGg51.I hGg51.R 41 (op94 kop41) t nn ((((kg51.fa 99 rfl).trans (kg22.fa 99 rfl)).trans (kg10.fa 99 rfl)).trans hT) (((kg51.fi 6273 rfl).trans ((kg22.fi 6273 rfl).trans (kg10.fi 6273 rfl))).trans hN) hX) (kj_d3 (n := n) (c := 3) (o1 := 10) (by decide)) ?_
            intro vg52 ig52 ag52 qg52 rg52 kg52 hg52
            have hGg52 := kG_call hGg51 kg52 (by decide +kernel)
            have eRrg52_2 : rg52 2 = 100 := (kg52.fr 2 rfl).trans eRrg51_2
            obtain ⟨hg52, og52⟩ := hg52
            have z53 : ((vg52.toInt = 1) ∧ ((ig52 6274).toInt = ((ig51 6274).toInt + 1)) ∧ ((ig51 6274).toInt < (ig51 6273).toInt) ∧ ((ig51 6275).toInt = 0)) ∨ ((vg52.toInt = 0) ∧ ((ig52 6274).toInt = (ig51 6274).toInt)) := hg52
            refine ft_ifS mi_k54 (vg52 != 0) 95 90 [] (by rfl) (fun c => ?_) (fun c => ?_)
            ·
              have c54 : vg52.toInt ≠ (0 : Int32).toInt := kd_ne c; clear c
              have to55 : (vg10, (ig10 6274, ig10 6275, ag10 101, ag10 102, ig10 6403)) = cOf t nn oNam (i 6274, i 6275, a 101, a 102, i 6403) := (tOf og10 (kg10.fi 6275 rfl) (kT3 (kg10.fa 101 rfl) (kg10.fa 102 rfl) (kg10.fi 6403 rfl)))
              have te56 : (ig10 6274, ig10 6275, ag10 101, ag10 102, ig10 6403) = (i 6274, i 6275, a 101, a 102, i 6403) := cOf_no to55 (op64 c13 kopm1) oNam_ne
              have to57 : (vg22, (ig22 6274, ig22 6275, ag22 101, ag22 102, ig22 6403)) = cOf t nn oOpn (ig10 6274, ig10 6275, ag10 101, ag10 102, ig10 6403) := (tOf og22 (kg22.fi 6275 rfl) (kT3 (kg22.fa 101 rfl) (kg22.fa 102 rfl) (kg22.fi 6403 rfl)))
              have tt58 : (vg52, (ig52 6274, ig52 6275, ag52 101, ag52 102, ig52 6403)) = cTk t nn 41 (ig51 6274, ig51 6275, ag51 101, ag51 102, ig51 6403) := (tTk og52 (kg52.fi 6275 rfl) (kT3 (kg52.fa 101 rfl) (kg52.fa 102 rfl) (kg52.fi 6403 rfl)))
              have tn59 : (ig52 6274, ig52 6275, ag52 101, ag52 102, ig52 6403) = cEnd (cTk t nn 41 (ig51 6274, ig51 6275, ag51 101, ag51 102, ig51 6403)) := cEn_y tt58 (op96 c54 z53 kop0)
              have to60 : (ig51 6274, ig51 6275, ag51 101, ag51 102, ig51 6403) = cEit t nn (cO t nn m) (ig22 6274, ig22 6275, ag22 101, ag22 102, ig22 6403) := og51
              have tp61 : (ig52 6274, ig52 6275, ag52 101, ag52 102, ig52 6403) = cPart t nn (some (cO t nn m)) (i 6274, i 6275, a 101, a 102, i 6403) := cPt_par (sub := cO t nn m) (op95 c49 hv5 kop40) to55 (op64 c13 kopm1) te56 to57 (op97 c25 c49 hh21 ho24 hv5 z23 kopm1 kop40) to60 tn59
              exact ft_ret mi_k54 (by rfl) (hP  _ _ _ _ hGg52 ⟨trivial, (tp61.trans (congrFun (cO_s hm).symm _))⟩)
            ·
              have c62 : vg52.toInt = (0 : Int32).toInt := kd_neF c; clear c
              have hJ63 := kG_i hGg52 6275 rfl (v := 1) ⟨(op62 kop1), (op63 kop1)⟩
              first | refine fo_goI mi_k54 fz54_90_3_95 [] (ku ig52 6275 1) (by rfl) ?_ | refine ft_goS mi_k54 3 95 [] (by rfl) ?_ | refine ft_go mi_k54 3 95 [(3, .int vg10), (2, .int vg2), (0, .ref 98), (1, .int x1)] [] (ku ig52 6275 1) ag52 qg52 rg52 (by rfl) ?_
              have to64 : (vg10, (ig10 6274, ig10 6275, ag10 101, ag10 102, ig10 6403)) = cOf t nn oNam (i 6274, i 6275, a 101, a 102, i 6403) := (tOf og10 (kg10.fi 6275 rfl) (kT3 (kg10.fa 101 rfl) (kg10.fa 102 rfl) (kg10.fi 6403 rfl)))
              have te65 : (ig10 6274, ig10 6275, ag10 101, ag10 102, ig10 6403) = (i 6274, i 6275, a 101, a 102, i 6403) := cOf_no to64 (op64 c13 kopm1) oNam_ne
              have to66 : (vg22, (ig22 6274, ig22 6275, ag22 101, ag22 102, ig22 6403)) = cOf t nn oOpn (ig10 6274, ig10 6275, ag10 101, ag10 102, ig10 6403) := (tOf og22 (kg22.fi 6275 rfl) (kT3 (kg22.fa 101 rfl) (kg22.fa 102 rfl) (kg22.fi 6403 rfl)))
              have tt67 : (vg52, (ig52 6274, ig52 6275, ag52 101, ag52 102, ig52 6403)) = cTk t nn 41 (ig51 6274, ig51 6275, ag51 101, ag51 102, ig51 6403) := (tTk og52 (kg52.fi 6275 rfl) (kT3 (kg52.fa 101 rfl) (kg52.fa 102 rfl) (kg52.fi 6403 rfl)))
              have tb68 : (ig52 6274, (1 : Int32), ag52 101, ag52 102, ig52 6403) = cBad (ig52 6274, ig52 6275, ag52 101, ag52 102, ig52 6403) := (tBad rfl rfl (kT3 rfl rfl rfl))
              have tn69 : (ig52 6274, (1 : Int32), ag52 101, ag52 102, ig52 6403) = cEnd (cTk t nn 41 (ig51 6274, ig51 6275, ag51 101, ag51 102, ig51 6403)) := cEn_n tt67 (op98 c62 kop0) tb68
              have to70 : (ig51 6274, ig51 6275, ag51 101, ag51 102, ig51 6403) = cEit t nn (cO t nn m) (ig22 6274, ig22 6275, ag22 101, ag22 102, ig22 6403) := og51
              have tp71 : (ig52 6274, (1 : Int32), ag52 101, ag52 102, ig52 6403) = cPart t nn (some (cO t nn m)) (i 6274, i 6275, a 101, a 102, i 6403) := cPt_par (sub := cO t nn m) (op95 c49 hv5 kop40) to64 (op64 c13 kopm1) te65 to66 (op97 c25 c49 hh21 ho24 hv5 z23 kopm1 kop40) to70 tn69
              exact ft_ret mi_k54 (by rfl) (hP  _ _ _ _ hJ63 ⟨trivial, (tp71.trans (congrFun (cO_s hm).symm _))⟩)
        ·
          have c72 : vg22.toInt = ((-1) : Int32).toInt := kd_neF c; clear c
          have hJ73 := kG_i hGg22 6275 rfl (v := 1) ⟨(op62 kop1), (op63 kop1)⟩
          first | refine fo_goI mi_k54 fz54_62_3_67 [] (ku ig22 6275 1) (by rfl) ?_ | refine ft_go mi_k54 3 67 [(3, .int vg10), (2, .int vg2), (0, .ref 98), (1, .int x1)] [] (ku ig22 6275 1) ag22 qg22 rg22 (by rfl) ?_
          have to74 : (vg10, (ig10 6274, ig10 6275, ag10 101, ag10 102, ig10 6403)) = cOf t nn oNam (i 6274, i 6275, a 101, a 102, i 6403) := (tOf og10 (kg10.fi 6275 rfl) (kT3 (kg10.fa 101 rfl) (kg10.fa 102 rfl) (kg10.fi 6403 rfl)))
          have te75 : (ig10 6274, ig10 6275, ag10 101, ag10 102, ig10 6403) = (i 6274, i 6275, a 101, a 102, i 6403) := cOf_no to74 (op64 c13 kopm1) oNam_ne
          have to76 : (vg22, (ig22 6274, ig22 6275, ag22 101, ag22 102, ig22 6403)) = cOf t nn oOpn (ig10 6274, ig10 6275, ag10 101, ag10 102, ig10 6403) := (tOf og22 (kg22.fi 6275 rfl) (kT3 (kg22.fa 101 rfl) (kg22.fa 102 rfl) (kg22.fi 6403 rfl)))
          have te77 : (ig22 6274, ig22 6275, ag22 101, ag22 102, ig22 6403) = (ig10 6274, ig10 6275, ag10 101, ag10 102, ig10 6403) := cOf_no to76 (op64 c72 kopm1) oOpn_ne
          have tb78 : (ig22 6274, (1 : Int32), ag22 101, ag22 102, ig22 6403) = cBad (ig22 6274, ig22 6275, ag22 101, ag22 102, ig22 6403) := (tBad rfl rfl (kT3 rfl rfl rfl))
          have tb79 : (ig22 6274, (1 : Int32), ag22 101, ag22 102, ig22 6403) = cBad (i 6274, i 6275, a 101, a 102, i 6403) := tBad2 (te77.trans te75) tb78
          have tp80 : (ig22 6274, (1 : Int32), ag22 101, ag22 102, ig22 6403) = cPart t nn (some (cO t nn m)) (i 6274, i 6275, a 101, a 102, i 6403) := cPt_bad (sub := cO t nn m) (op35 hv5 z9) to74 (op64 c13 kopm1) te75 to76 (op64 c72 kopm1) tb79
          exact ft_ret mi_k54 (by rfl) (hP  _ _ _ _ hJ73 ⟨trivial, (tp80.trans (congrFun (cO_s hm).symm _))⟩)
    ·
      have c81 : vg10.toInt ≠ ((-1) : Int32).toInt := kd_eqF c; clear c
      first | refine ft_goS mi_k54 2 33 [.ref (rg10 2)] (by rfl) ?_ | refine ft_go mi_k54 2 33 [(3, .int vg10), (2, .int vg2), (0, .ref 98), (1, .int x1)] [.ref (rg10 2)] ig10 ag10 qg10 rg10 (by rfl) ?_
      refine ko_eq (x1 := (33, [(3, .int vg10), (2, .int vg2), (0, .ref 98), (1, .int x1)], [.ref 100], (0, 0), ks ig10 ag10 qg10 rg10)) (by rw [eRrg10_2]) ?_
      have s82 : ((vg10.toUInt32 % 65536).toInt32).toInt = vg10.toInt := kd_i2c (op99 c81 z11 kopm1) (Int.le_trans (op100 z11) (by decide))
      first | refine ft_goS mi_k54 4 38 [.int ((vg10.toUInt32 % 65536).toInt32), .ref (mi_RO + 10), .int 1, .ref 100] (by rfl) ?_ | refine ft_go mi_k54 4 38 [(3, .int vg10), (2, .int vg2), (0, .ref 98), (1, .int x1)] [.int ((vg10.toUInt32 % 65536).toInt32), .ref (mi_RO + 10), .int 1, .ref 100] ig10 ag10 qg10 rg10 (by rfl) ?_
      refine ko_callPI mi_k54.1 (pc := 38) (ls := [(3, .int vg10), (2, .int vg2), (0, .ref 98), (1, .int x1)]) (st := [.int ((vg10.toUInt32 % 65536).toInt32), .ref (mi_RO + 10), .int 1, .ref 100]) (h := ks ig10 ag10 qg10 rg10) (i := (.invokevirtual 50, 3, 228, 0, 9, 0, 190)) (mi_k54.2 _ _ (by rfl)) (ft_invS mi_pq228 (by rfl)) (cy := mi_c228) mi_pq228 rfl (ke228_1000010 hGg10.I hGg10.R ((vg10.toUInt32 % 65536).toInt32) (op101 c81 s82 z11 kopm1)) (kj_d3 (n := n) (c := 7) (o1 := 10) (by decide)) ?_
      intro vg83 hg83
      have z84 : (((-1) : Int) ≤ vg83.toInt) ∧ (vg83.toInt ≤ 5) ∧ (((((vg10.toUInt32 % 65536).toInt32).toInt = 119) → (vg83.toInt = 0))) ∧ (((((vg10.toUInt32 % 65536).toInt32).toInt = 112) → (vg83.toInt = 1))) ∧ (((((vg10.toUInt32 % 65536).toInt32).toInt = 104) → (vg83.toInt = 2))) ∧ (((((vg10.toUInt32 % 65536).toInt32).toInt = 110) → (vg83.toInt = 3))) ∧ (((((vg10.toUInt32 % 65536).toInt32).toInt = 111) → (vg83.toInt = 4))) ∧ (((((vg10.toUInt32 % 65536).toInt32).toInt = 100) → (vg83.toInt = 5))) ∧ (((vg83.toInt = 0) → (((vg10.toUInt32 % 65536).toInt32).toInt = 119))) ∧ (((vg83.toInt = 1) → (((vg10.toUInt32 % 65536).toInt32).toInt = 112))) ∧ (((vg83.toInt = 2) → (((vg10.toUInt32 % 65536).toInt32).toInt = 104))) ∧ (((vg83.toInt = 3) → (((vg10.toUInt32 % 65536).toInt32).toInt = 110))) ∧ (((vg83.toInt = 4) → (((vg10.toUInt32 % 65536).toInt32).toInt = 111))) ∧ (((vg83.toInt = 5) → (((vg10.toUInt32 % 65536).toInt32).toInt = 100))) ∧ ((vg83.toInt = (-1)) ∨ (((vg10.toUInt32 % 65536).toInt32).toInt = 119) ∨ (((vg10.toUInt32 % 65536).toInt32).toInt = 112) ∨ (((vg10.toUInt32 % 65536).toInt32).toInt = 104) ∨ (((vg10.toUInt32 % 65536).toInt32).toInt = 110) ∨ (((vg10.toUInt32 % 65536).toInt32).toInt = 111) ∨ (((vg10.toUInt32 % 65536).toInt32).toInt = 100)) := hg83
      refine ko_callI mi_k54.1 (pc := 41) (ls := [(3, .int vg10), (2, .int vg2), (0, .ref 98), (1, .int x1)]) (st := [.int vg83, .int 1, .ref 100]) (h := ks ig10 ag10 qg10 rg10) (i := (.invokevirtual 60, 3, 17, 0, 9, 0, 187)) (mi_k54.2 _ _ (by rfl)) (ft_invS mi_pq17 (by rfl)) (cy := mi_c17) mi_pq17 rfl (kf17_100 hGg10.I hGg10.R 1 vg83) (kj_d3 (n := n) (c := 1) (o1 := 10) (by decide)) ?_
      intro vg85 ig85 ag85 qg85 rg85 kg85 hg85
      have hGg85 := kG_call hGg10 kg85 (by decide +kernel)
      have eRrg85_2 : rg85 2 = 100 := (kg85.fr 2 rfl).trans eRrg10_2
      obtain ⟨hg85, og85⟩ := hg85
      first | refine ft_goS mi_k54 1 45 [] (by rfl) ?_ | refine ft_go mi_k54 1 45 [(3, .int vg10), (2, .int vg2), (0, .ref 98), (1, .int x1)] [] ig85 ag85 qg85 rg85 (by rfl) ?_
      exact ft_ret mi_k54 (by rfl) (hP  _ _ _ _ hGg85 ⟨trivial, (cPt_lv (cO_any t nn n) (fun nx => cPt_nam (nx := nx) (op102 c81 ho12 hv5 z11 z3.1 kopm1) (tOf og10 (kg10.fi 6275 rfl) (kT3 (kg10.fa 101 rfl) (kg10.fa 102 rfl) (kg10.fi 6403 rfl))) (op104 c81 z11 kopm1) (nIdx_of (op103 c81 s82 z11 z84.2.1 z84.2.2.1 z84.2.2.2.1 z84.2.2.2.2.1 z84.2.2.2.2.2.1 z84.2.2.2.2.2.2.1 z84.2.2.2.2.2.2.2.1 kopm1)) (tAdd og85.1 (kg85.fi 6274 rfl) (kg85.fi 6275 rfl))))⟩)
set_option maxRecDepth 100000 in
theorem kMsP100_53 (n : Nat) (h54 : kMP100_54 n) : kMP100_53 n := by
  intro i a q r hI hr x1 hp0 t nn hT hN hL hX
  have hG := kG_self wP100 hI hr
  refine km_ofN (q := (mi_h53, mi_c53)) rfl (by decide) (Nat.le_of_ble_eq_true rfl) ?_
  intro P hP
  have hn0 : (0 : Int) ≤ (n : Int) := Int.natCast_nonneg n
  have hn1 : (i 6273).toInt = nn.toInt := congrArg Int32.toInt hN
  have eRr_2 : r 2 = 100 := hL
  first | refine ft_goL mi_k53 2 2 [(0, .ref 98), (1, .int x1)] [.int x1, .ref 98] (by rfl) ?_ | refine ft_go mi_k53 2 2 [(0, .ref 98), (1, .int x1)] [.int x1, .ref 98] i a q r (by rfl) ?_
  refine ko_callN mi_k53.1 (pc := 2) (ls := [(0, .ref 98), (1, .int x1)]) (st := [.int x1, .ref 98]) (h := ks i a q r) (i := (.invokevirtual 87, 3, 54, 0, 9, 0, 183)) (mi_k53.2 _ _ (by rfl)) (ft_invS mi_pq54 (by rfl)) (cy := mi_c54) mi_pq54 rfl (h54 _ _ _ _ hG.I hG.R x1 (op105 hp0.1 hp0.2) t nn hT hN eRr_2 hX) (kj_d1 (n := n) (o := 10) (o1 := 11) (by decide)) ?_
  intro ig2 ag2 qg2 rg2 kg2 hg2
  have hGg2 := kG_call hG kg2 (by decide +kernel)
  have eRrg2_2 : rg2 2 = 100 := (kg2.fr 2 rfl).trans eRr_2
  obtain ⟨hg2, og2⟩ := hg2
  first | refine ft_goS mi_k53 2 8 [.ref (mi_RO + 12), .ref 98] (by rfl) ?_ | refine ft_go mi_k53 2 8 [(0, .ref 98), (1, .int x1)] [.ref (mi_RO + 12), .ref 98] ig2 ag2 qg2 rg2 (by rfl) ?_
  refine ko_callI mi_k53.1 (pc := 8) (ls := [(0, .ref 98), (1, .int x1)]) (st := [.ref (mi_RO + 12), .ref 98]) (h := ks ig2 ag2 qg2 rg2) (i := (.invokevirtual 78, 3, 47, 0, 9, 0, 189)) (mi_k53.2 _ _ (by rfl)) (ft_invS mi_pq47 (by rfl)) (cy := mi_c47) mi_pq47 rfl (ke47_98_1000012 hGg2.I hGg2.R t nn ((kg2.fa 99 rfl).trans hT) ((kg2.fi 6273 rfl).trans hN) hX) (kj_d3 (n := n) (c := 9) (o1 := 11) (by decide)) ?_
  intro vg3 ig3 ag3 qg3 rg3 kg3 hg3
  have hGg3 := kG_call hGg2 kg3 (by decide +kernel)
  have eRrg3_2 : rg3 2 = 100 := (kg3.fr 2 rfl).trans eRrg2_2
  obtain ⟨hg3, og3⟩ := hg3
  have efig2_6273 : (ig2 6273).toInt = (i 6273).toInt := kg2.ti 6273 rfl
  have ho5 : vg3.toInt = (-1) ∨ vg3.toInt = (cHr t nn (ig2 6274) (ig2 6275)).toInt := tOf_v og3
  first | refine fo_goL mi_k53 fz53_11_3_14 [(3, .int 0), (2, .int vg3), (0, .ref 98), (1, .int x1)] [] (by rfl) ?_ | refine fo_goL mi_k53 fz53_48_3_14 [(3, .int 0), (2, .int vg3), (0, .ref 98), (1, .int x1)] [] (by rfl) ?_ | refine ft_go mi_k53 3 14 [(3, .int 0), (2, .int vg3), (0, .ref 98), (1, .int x1)] [] ig3 ag3 qg3 rg3 (by rfl) ?_
  have lp6 : ∀ (nz : Nat) (i6 : Nat → Int32) (a6 : Nat → List Int32) (q6 : Nat → List Int64) (r6 : Nat → Nat) (l3_6 : Int32) (l2_6 : Int32), kG yw53_98_L100_L14 ig3 ag3 qg3 rg3 i6 a6 q6 r6 → (0 : Int) ≤ l3_6.toInt → cLpS t nn (cO t nn n) oMul (nn.toInt - l3_6.toInt).toNat (l2_6, (i6 6274, i6 6275, a6 101, a6 102, i6 6403)) = cMul t nn (cO t nn n) oMul (i 6274, i 6275, a 101, a 102, i 6403) → (((i6 6273).toInt - l3_6.toInt)).toNat < nz → ko (6 * n + 11) (mi_h53, mi_c53) P (14, [(3, .int l3_6), (2, .int l2_6), (0, .ref 98), (1, .int x1)], [], (0, 0), ks i6 a6 q6 r6) := by
    intro nz
    induction nz with
    | zero =>
      intro _ _ _ _ _ _ _ _ _ hm
      exact absurd hm (Nat.not_lt_zero _)
    | succ nz ih6 =>
      intro i6 a6 q6 r6 l3_6 l2_6 hL6 p6_0 O6_0 hm6
      have fi6_6273 : ((0 : Int) ≤ (i6 6273).toInt) ∧ ((i6 6273).toInt ≤ 120) := hL6.I.1 6273
      have efig3_6273 : (ig3 6273).toInt = (ig2 6273).toInt := kg3.ti 6273 rfl
      have efi6_6273 : (i6 6273).toInt = (ig3 6273).toInt := hL6.ti 6273 rfl
      have eRr6_2 : r6 2 = 100 := (hL6.fr 2 rfl).trans eRrg3_2
      first | refine fo_goL mi_k53 fz53_14_3_19 [(3, .int l3_6), (2, .int l2_6), (0, .ref 98), (1, .int x1)] [.int (i6 6273), .int l3_6] (by rfl) ?_ | refine ft_go mi_k53 3 19 [(3, .int l3_6), (2, .int l2_6), (0, .ref 98), (1, .int x1)] [.int (i6 6273), .int l3_6] i6 a6 q6 r6 (by rfl) ?_
      refine ft_ifS mi_k53 (decide ((i6 6273) ≤ l3_6)) 55 22 [] (by rfl) (fun c => ?_) (fun c => ?_)
      ·
        have c7 : (i6 6273).toInt ≤ l3_6.toInt := kd_le c; clear c
        have hG8 := kG_call hGg3 hL6 (by decide +kernel)
        exact ft_ret mi_k53 (by rfl) (hP  _ _ _ _ hG8 ⟨trivial, (cLS_end O6_0 (kj_sub0 (n := nn.toInt) (op116 c7 efi6_6273 efig2_6273 efig3_6273 hn1)))⟩)
      ·
        have c9 : l3_6.toInt < (i6 6273).toInt := kd_leF c; clear c
        first | refine ft_goS mi_k53 2 24 [.int (-1), .int l2_6] (by rfl) ?_ | refine ft_go mi_k53 2 24 [(3, .int l3_6), (2, .int l2_6), (0, .ref 98), (1, .int x1)] [.int (-1), .int l2_6] i6 a6 q6 r6 (by rfl) ?_
        refine ft_ifS mi_k53 (l2_6 == (-1)) 55 27 [] (by rfl) (fun c => ?_) (fun c => ?_)
        ·
          have c10 : l2_6.toInt = ((-1) : Int32).toInt := kd_eq c; clear c
          have hG11 := kG_call hGg3 hL6 (by decide +kernel)
          exact ft_ret mi_k53 (by rfl) (hP  _ _ _ _ hG11 ⟨trivial, (cLS_out O6_0 (op64 c10 kopm1))⟩)
        ·
          have c12 : l2_6.toInt ≠ ((-1) : Int32).toInt := kd_eqF c; clear c
          first | refine ft_goS mi_k53 2 29 [.int x1, .ref 98] (by rfl) ?_ | refine ft_go mi_k53 2 29 [(3, .int l3_6), (2, .int l2_6), (0, .ref 98), (1, .int x1)] [.int x1, .ref 98] i6 a6 q6 r6 (by rfl) ?_
          refine ko_callN mi_k53.1 (pc := 29) (ls := [(3, .int l3_6), (2, .int l2_6), (0, .ref 98), (1, .int x1)]) (st := [.int x1, .ref 98]) (h := ks i6 a6 q6 r6) (i := (.invokevirtual 87, 3, 54, 0, 9, 0, 183)) (mi_k53.2 _ _ (by rfl)) (ft_invS mi_pq54 (by rfl)) (cy := mi_c54) mi_pq54 rfl (h54 _ _ _ _ hL6.I hL6.R x1 (op105 hp0.1 hp0.2) t nn ((((hL6.fa 99 rfl).trans (kg3.fa 99 rfl)).trans (kg2.fa 99 rfl)).trans hT) (((hL6.fi 6273 rfl).trans ((kg3.fi 6273 rfl).trans (kg2.fi 6273 rfl))).trans hN) eRr6_2 hX) (kj_d1 (n := n) (o := 10) (o1 := 11) (by decide)) ?_
          intro ig13 ag13 qg13 rg13 kg13 hg13
          have hGg13 := kG_call hL6 kg13 (by decide +kernel)
          have eRrg13_2 : rg13 2 = 100 := (kg13.fr 2 rfl).trans eRr6_2
          obtain ⟨hg13, og13⟩ := hg13
          first | refine ft_goS mi_k53 2 36 [.ref (rg13 2)] (by rfl) ?_ | refine ft_go mi_k53 2 36 [(3, .int l3_6), (2, .int l2_6), (0, .ref 98), (1, .int x1)] [.ref (rg13 2)] ig13 ag13 qg13 rg13 (by rfl) ?_
          refine ko_eq (x1 := (36, [(3, .int l3_6), (2, .int l2_6), (0, .ref 98), (1, .int x1)], [.ref 100], (0, 0), ks ig13 ag13 qg13 rg13)) (by rw [eRrg13_2]) ?_
          first | refine ft_goS mi_k53 2 38 [.int 0, .int l2_6, .ref 100] (by rfl) ?_ | refine ft_go mi_k53 2 38 [(3, .int l3_6), (2, .int l2_6), (0, .ref 98), (1, .int x1)] [.int 0, .int l2_6, .ref 100] ig13 ag13 qg13 rg13 (by rfl) ?_
          refine ko_callI mi_k53.1 (pc := 38) (ls := [(3, .int l3_6), (2, .int l2_6), (0, .ref 98), (1, .int x1)]) (st := [.int 0, .int l2_6, .ref 100]) (h := ks ig13 ag13 qg13 rg13) (i := (.invokevirtual 60, 3, 17, 0, 9, 0, 187)) (mi_k53.2 _ _ (by rfl)) (ft_invS mi_pq17 (by rfl)) (cy := mi_c17) mi_pq17 rfl (kf17_100 hGg13.I hGg13.R l2_6 0) (kj_d3 (n := n) (c := 1) (o1 := 11) (by decide)) ?_
          intro vg14 ig14 ag14 qg14 rg14 kg14 hg14
          have hGg14 := kG_call hGg13 kg14 (by decide +kernel)
          have eRrg14_2 : rg14 2 = 100 := (kg14.fr 2 rfl).trans eRrg13_2
          obtain ⟨hg14, og14⟩ := hg14
          first | refine ft_goS mi_k53 3 45 [.ref (mi_RO + 12), .ref 98] (by rfl) ?_ | refine ft_go mi_k53 3 45 [(3, .int l3_6), (2, .int l2_6), (0, .ref 98), (1, .int x1)] [.ref (mi_RO + 12), .ref 98] ig14 ag14 qg14 rg14 (by rfl) ?_
          refine ko_callI mi_k53.1 (pc := 45) (ls := [(3, .int l3_6), (2, .int l2_6), (0, .ref 98), (1, .int x1)]) (st := [.ref (mi_RO + 12), .ref 98]) (h := ks ig14 ag14 qg14 rg14) (i := (.invokevirtual 78, 3, 47, 0, 9, 0, 189)) (mi_k53.2 _ _ (by rfl)) (ft_invS mi_pq47 (by rfl)) (cy := mi_c47) mi_pq47 rfl (ke47_98_1000012 hGg14.I hGg14.R t nn ((((((kg14.fa 99 rfl).trans (kg13.fa 99 rfl)).trans (hL6.fa 99 rfl)).trans (kg3.fa 99 rfl)).trans (kg2.fa 99 rfl)).trans hT) (((kg14.fi 6273 rfl).trans ((kg13.fi 6273 rfl).trans ((hL6.fi 6273 rfl).trans ((kg3.fi 6273 rfl).trans (kg2.fi 6273 rfl))))).trans hN) hX) (kj_d3 (n := n) (c := 9) (o1 := 11) (by decide)) ?_
          intro vg16 ig16 ag16 qg16 rg16 kg16 hg16
          have hGg16 := kG_call hGg14 kg16 (by decide +kernel)
          have eRrg16_2 : rg16 2 = 100 := (kg16.fr 2 rfl).trans eRrg14_2
          obtain ⟨hg16, og16⟩ := hg16
          have efig13_6273 : (ig13 6273).toInt = (i6 6273).toInt := kg13.ti 6273 rfl
          have efig14_6273 : (ig14 6273).toInt = (ig13 6273).toInt := kg14.ti 6273 rfl
          have ho18 : vg16.toInt = (-1) ∨ vg16.toInt = (cHr t nn (ig14 6274) (ig14 6275)).toInt := tOf_v og16
          have s19 : (l3_6 + 1).toInt = l3_6.toInt + (1 : Int32).toInt := kd_add (op18 p6_0 kop1) (op117 c9 fi6_6273.2 kop1)
          first | refine fo_goL mi_k53 fz53_11_3_14 [(3, .int (l3_6 + 1)), (2, .int vg16), (0, .ref 98), (1, .int x1)] [] (by rfl) ?_ | refine fo_goL mi_k53 fz53_48_3_14 [(3, .int (l3_6 + 1)), (2, .int vg16), (0, .ref 98), (1, .int x1)] [] (by rfl) ?_ | refine ft_go mi_k53 3 14 [(3, .int (l3_6 + 1)), (2, .int vg16), (0, .ref 98), (1, .int x1)] [] ig16 ag16 qg16 rg16 (by rfl) ?_
          have efig16_6273 : (ig16 6273).toInt = (ig14 6273).toInt := kg16.ti 6273 rfl
          exact ih6 _ _ _ _ _ _ hGg16 (op20 p6_0 s19 kop1) (cLS_again O6_0 (kj_sub2 (n := nn.toInt) (op118 c9 efi6_6273 efig2_6273 efig3_6273 hn1) (op4 p6_0) (op30 s19 kop1)) (op119 c12 kopm1) og13 (tAdd og14.1 (kg14.fi 6274 rfl) (kg14.fi 6275 rfl)) (tOf og16 (kg16.fi 6275 rfl) (kT3 (kg16.fa 101 rfl) (kg16.fa 102 rfl) (kg16.fi 6403 rfl)))) (kj_meas (op120 efig13_6273 efig14_6273 efig16_6273 s19 kop1) (op121 c9) hm6)
  exact lp6 _ _ _ _ _ _ _ (kG_self _ hGg3.I hGg3.R) (op36 kop0) (cLS_begin og2 (tOf og3 (kg3.fi 6275 rfl) (kT3 (kg3.fa 101 rfl) (kg3.fa 102 rfl) (kg3.fi 6403 rfl))) (kj_sub00 kop0)) (Nat.lt_succ_self _)
set_option maxRecDepth 100000 in
theorem kMsP100_52 (n : Nat) (h54 : kMP100_54 n) (h53 : kMP100_53 n) : kMP100_52 n := by
  intro i a q r hI hr x1 hp0 t nn hT hN hL hX
  have hG := kG_self wP100 hI hr
  refine km_ofN (q := (mi_h52, mi_c52)) rfl (by decide) (Nat.le_of_ble_eq_true rfl) ?_
  intro P hP
  have hn0 : (0 : Int) ≤ (n : Int) := Int.natCast_nonneg n
  have hn1 : (i 6273).toInt = nn.toInt := congrArg Int32.toInt hN
  have eRr_2 : r 2 = 100 := hL
  first | refine ft_goL mi_k52 2 2 [(0, .ref 98), (1, .int x1)] [.int x1, .ref 98] (by rfl) ?_ | refine ft_go mi_k52 2 2 [(0, .ref 98), (1, .int x1)] [.int x1, .ref 98] i a q r (by rfl) ?_
  refine ko_callN mi_k52.1 (pc := 2) (ls := [(0, .ref 98), (1, .int x1)]) (st := [.int x1, .ref 98]) (h := ks i a q r) (i := (.invokevirtual 82, 3, 53, 0, 9, 0, 182)) (mi_k52.2 _ _ (by rfl)) (ft_invS mi_pq53 (by rfl)) (cy := mi_c53) mi_pq53 rfl (h53 _ _ _ _ hG.I hG.R x1 (op105 hp0.1 hp0.2) t nn hT hN eRr_2 hX) (kj_d1 (n := n) (o := 11) (o1 := 12) (by decide)) ?_
  intro ig2 ag2 qg2 rg2 kg2 hg2
  have hGg2 := kG_call hG kg2 (by decide +kernel)
  have eRrg2_2 : rg2 2 = 100 := (kg2.fr 2 rfl).trans eRr_2
  obtain ⟨hg2, og2⟩ := hg2
  first | refine ft_goS mi_k52 2 8 [.ref (mi_RO + 13), .ref 98] (by rfl) ?_ | refine ft_go mi_k52 2 8 [(0, .ref 98), (1, .int x1)] [.ref (mi_RO + 13), .ref 98] ig2 ag2 qg2 rg2 (by rfl) ?_
  refine ko_callI mi_k52.1 (pc := 8) (ls := [(0, .ref 98), (1, .int x1)]) (st := [.ref (mi_RO + 13), .ref 98]) (h := ks ig2 ag2 qg2 rg2) (i := (.invokevirtual 78, 3, 47, 0, 9, 0, 189)) (mi_k52.2 _ _ (by rfl)) (ft_invS mi_pq47 (by rfl)) (cy := mi_c47) mi_pq47 rfl (ke47_98_1000013 hGg2.I hGg2.R t nn ((kg2.fa 99 rfl).trans hT) ((kg2.fi 6273 rfl).trans hN) hX) (kj_d3 (n := n) (c := 9) (o1 := 12) (by decide)) ?_
  intro vg3 ig3 ag3 qg3 rg3 kg3 hg3
  have hGg3 := kG_call hGg2 kg3 (by decide +kernel)
  have eRrg3_2 : rg3 2 = 100 := (kg3.fr 2 rfl).trans eRrg2_2
  obtain ⟨hg3, og3⟩ := hg3
  have efig2_6273 : (ig2 6273).toInt = (i 6273).toInt := kg2.ti 6273 rfl
  have ho5 : vg3.toInt = (-1) ∨ vg3.toInt = (cHr t nn (ig2 6274) (ig2 6275)).toInt := tOf_v og3
  first | refine fo_goL mi_k52 fz52_11_3_14 [(3, .int 0), (2, .int vg3), (0, .ref 98), (1, .int x1)] [] (by rfl) ?_ | refine fo_goL mi_k52 fz52_48_3_14 [(3, .int 0), (2, .int vg3), (0, .ref 98), (1, .int x1)] [] (by rfl) ?_ | refine ft_go mi_k52 3 14 [(3, .int 0), (2, .int vg3), (0, .ref 98), (1, .int x1)] [] ig3 ag3 qg3 rg3 (by rfl) ?_
  have lp6 : ∀ (nz : Nat) (i6 : Nat → Int32) (a6 : Nat → List Int32) (q6 : Nat → List Int64) (r6 : Nat → Nat) (l3_6 : Int32) (l2_6 : Int32), kG yw52_98_L100_L14 ig3 ag3 qg3 rg3 i6 a6 q6 r6 → (0 : Int) ≤ l3_6.toInt → cLpS t nn (cP3 t nn (cO t nn n)) oSum (nn.toInt - l3_6.toInt).toNat (l2_6, (i6 6274, i6 6275, a6 101, a6 102, i6 6403)) = cMul t nn (cP3 t nn (cO t nn n)) oSum (i 6274, i 6275, a 101, a 102, i 6403) → (((i6 6273).toInt - l3_6.toInt)).toNat < nz → ko (6 * n + 12) (mi_h52, mi_c52) P (14, [(3, .int l3_6), (2, .int l2_6), (0, .ref 98), (1, .int x1)], [], (0, 0), ks i6 a6 q6 r6) := by
    intro nz
    induction nz with
    | zero =>
      intro _ _ _ _ _ _ _ _ _ hm
      exact absurd hm (Nat.not_lt_zero _)
    | succ nz ih6 =>
      intro i6 a6 q6 r6 l3_6 l2_6 hL6 p6_0 O6_0 hm6
      have fi6_6273 : ((0 : Int) ≤ (i6 6273).toInt) ∧ ((i6 6273).toInt ≤ 120) := hL6.I.1 6273
      have efig3_6273 : (ig3 6273).toInt = (ig2 6273).toInt := kg3.ti 6273 rfl
      have efi6_6273 : (i6 6273).toInt = (ig3 6273).toInt := hL6.ti 6273 rfl
      have eRr6_2 : r6 2 = 100 := (hL6.fr 2 rfl).trans eRrg3_2
      first | refine fo_goL mi_k52 fz52_14_3_19 [(3, .int l3_6), (2, .int l2_6), (0, .ref 98), (1, .int x1)] [.int (i6 6273), .int l3_6] (by rfl) ?_ | refine ft_go mi_k52 3 19 [(3, .int l3_6), (2, .int l2_6), (0, .ref 98), (1, .int x1)] [.int (i6 6273), .int l3_6] i6 a6 q6 r6 (by rfl) ?_
      refine ft_ifS mi_k52 (decide ((i6 6273) ≤ l3_6)) 55 22 [] (by rfl) (fun c => ?_) (fun c => ?_)
      ·
        have c7 : (i6 6273).toInt ≤ l3_6.toInt := kd_le c; clear c
        have hG8 := kG_call hGg3 hL6 (by decide +kernel)
        exact ft_ret mi_k52 (by rfl) (hP  _ _ _ _ hG8 ⟨trivial, (cLS_end O6_0 (kj_sub0 (n := nn.toInt) (op116 c7 efi6_6273 efig2_6273 efig3_6273 hn1)))⟩)
      ·
        have c9 : l3_6.toInt < (i6 6273).toInt := kd_leF c; clear c
        first | refine ft_goS mi_k52 2 24 [.int (-1), .int l2_6] (by rfl) ?_ | refine ft_go mi_k52 2 24 [(3, .int l3_6), (2, .int l2_6), (0, .ref 98), (1, .int x1)] [.int (-1), .int l2_6] i6 a6 q6 r6 (by rfl) ?_
        refine ft_ifS mi_k52 (l2_6 == (-1)) 55 27 [] (by rfl) (fun c => ?_) (fun c => ?_)
        ·
          have c10 : l2_6.toInt = ((-1) : Int32).toInt := kd_eq c; clear c
          have hG11 := kG_call hGg3 hL6 (by decide +kernel)
          exact ft_ret mi_k52 (by rfl) (hP  _ _ _ _ hG11 ⟨trivial, (cLS_out O6_0 (op64 c10 kopm1))⟩)
        ·
          have c12 : l2_6.toInt ≠ ((-1) : Int32).toInt := kd_eqF c; clear c
          first | refine ft_goS mi_k52 2 29 [.int x1, .ref 98] (by rfl) ?_ | refine ft_go mi_k52 2 29 [(3, .int l3_6), (2, .int l2_6), (0, .ref 98), (1, .int x1)] [.int x1, .ref 98] i6 a6 q6 r6 (by rfl) ?_
          refine ko_callN mi_k52.1 (pc := 29) (ls := [(3, .int l3_6), (2, .int l2_6), (0, .ref 98), (1, .int x1)]) (st := [.int x1, .ref 98]) (h := ks i6 a6 q6 r6) (i := (.invokevirtual 82, 3, 53, 0, 9, 0, 182)) (mi_k52.2 _ _ (by rfl)) (ft_invS mi_pq53 (by rfl)) (cy := mi_c53) mi_pq53 rfl (h53 _ _ _ _ hL6.I hL6.R x1 (op105 hp0.1 hp0.2) t nn ((((hL6.fa 99 rfl).trans (kg3.fa 99 rfl)).trans (kg2.fa 99 rfl)).trans hT) (((hL6.fi 6273 rfl).trans ((kg3.fi 6273 rfl).trans (kg2.fi 6273 rfl))).trans hN) eRr6_2 hX) (kj_d1 (n := n) (o := 11) (o1 := 12) (by decide)) ?_
          intro ig13 ag13 qg13 rg13 kg13 hg13
          have hGg13 := kG_call hL6 kg13 (by decide +kernel)
          have eRrg13_2 : rg13 2 = 100 := (kg13.fr 2 rfl).trans eRr6_2
          obtain ⟨hg13, og13⟩ := hg13
          first | refine ft_goS mi_k52 2 36 [.ref (rg13 2)] (by rfl) ?_ | refine ft_go mi_k52 2 36 [(3, .int l3_6), (2, .int l2_6), (0, .ref 98), (1, .int x1)] [.ref (rg13 2)] ig13 ag13 qg13 rg13 (by rfl) ?_
          refine ko_eq (x1 := (36, [(3, .int l3_6), (2, .int l2_6), (0, .ref 98), (1, .int x1)], [.ref 100], (0, 0), ks ig13 ag13 qg13 rg13)) (by rw [eRrg13_2]) ?_
          first | refine ft_goS mi_k52 2 38 [.int 0, .int l2_6, .ref 100] (by rfl) ?_ | refine ft_go mi_k52 2 38 [(3, .int l3_6), (2, .int l2_6), (0, .ref 98), (1, .int x1)] [.int 0, .int l2_6, .ref 100] ig13 ag13 qg13 rg13 (by rfl) ?_
          refine ko_callI mi_k52.1 (pc := 38) (ls := [(3, .int l3_6), (2, .int l2_6), (0, .ref 98), (1, .int x1)]) (st := [.int 0, .int l2_6, .ref 100]) (h := ks ig13 ag13 qg13 rg13) (i := (.invokevirtual 60, 3, 17, 0, 9, 0, 187)) (mi_k52.2 _ _ (by rfl)) (ft_invS mi_pq17 (by rfl)) (cy := mi_c17) mi_pq17 rfl (kf17_100 hGg13.I hGg13.R l2_6 0) (kj_d3 (n := n) (c := 1) (o1 := 12) (by decide)) ?_
          intro vg14 ig14 ag14 qg14 rg14 kg14 hg14
          have hGg14 := kG_call hGg13 kg14 (by decide +kernel)
          have eRrg14_2 : rg14 2 = 100 := (kg14.fr 2 rfl).trans eRrg13_2
          obtain ⟨hg14, og14⟩ := hg14
          first | refine ft_goS mi_k52 3 45 [.ref (mi_RO + 13), .ref 98] (by rfl) ?_ | refine ft_go mi_k52 3 45 [(3, .int l3_6), (2, .int l2_6), (0, .ref 98), (1, .int x1)] [.ref (mi_RO + 13), .ref 98] ig14 ag14 qg14 rg14 (by rfl) ?_
          refine ko_callI mi_k52.1 (pc := 45) (ls := [(3, .int l3_6), (2, .int l2_6), (0, .ref 98), (1, .int x1)]) (st := [.ref (mi_RO + 13), .ref 98]) (h := ks ig14 ag14 qg14 rg14) (i := (.invokevirtual 78, 3, 47, 0, 9, 0, 189)) (mi_k52.2 _ _ (by rfl)) (ft_invS mi_pq47 (by rfl)) (cy := mi_c47) mi_pq47 rfl (ke47_98_1000013 hGg14.I hGg14.R t nn ((((((kg14.fa 99 rfl).trans (kg13.fa 99 rfl)).trans (hL6.fa 99 rfl)).trans (kg3.fa 99 rfl)).trans (kg2.fa 99 rfl)).trans hT) (((kg14.fi 6273 rfl).trans ((kg13.fi 6273 rfl).trans ((hL6.fi 6273 rfl).trans ((kg3.fi 6273 rfl).trans (kg2.fi 6273 rfl))))).trans hN) hX) (kj_d3 (n := n) (c := 9) (o1 := 12) (by decide)) ?_
          intro vg16 ig16 ag16 qg16 rg16 kg16 hg16
          have hGg16 := kG_call hGg14 kg16 (by decide +kernel)
          have eRrg16_2 : rg16 2 = 100 := (kg16.fr 2 rfl).trans eRrg14_2
          obtain ⟨hg16, og16⟩ := hg16
          have efig13_6273 : (ig13 6273).toInt = (i6 6273).toInt := kg13.ti 6273 rfl
          have efig14_6273 : (ig14 6273).toInt = (ig13 6273).toInt := kg14.ti 6273 rfl
          have ho18 : vg16.toInt = (-1) ∨ vg16.toInt = (cHr t nn (ig14 6274) (ig14 6275)).toInt := tOf_v og16
          have s19 : (l3_6 + 1).toInt = l3_6.toInt + (1 : Int32).toInt := kd_add (op18 p6_0 kop1) (op117 c9 fi6_6273.2 kop1)
          first | refine fo_goL mi_k52 fz52_11_3_14 [(3, .int (l3_6 + 1)), (2, .int vg16), (0, .ref 98), (1, .int x1)] [] (by rfl) ?_ | refine fo_goL mi_k52 fz52_48_3_14 [(3, .int (l3_6 + 1)), (2, .int vg16), (0, .ref 98), (1, .int x1)] [] (by rfl) ?_ | refine ft_go mi_k52 3 14 [(3, .int (l3_6 + 1)), (2, .int vg16), (0, .ref 98), (1, .int x1)] [] ig16 ag16 qg16 rg16 (by rfl) ?_
          have efig16_6273 : (ig16 6273).toInt = (ig14 6273).toInt := kg16.ti 6273 rfl
          exact ih6 _ _ _ _ _ _ hGg16 (op20 p6_0 s19 kop1) (cLS_again O6_0 (kj_sub2 (n := nn.toInt) (op118 c9 efi6_6273 efig2_6273 efig3_6273 hn1) (op4 p6_0) (op30 s19 kop1)) (op119 c12 kopm1) og13 (tAdd og14.1 (kg14.fi 6274 rfl) (kg14.fi 6275 rfl)) (tOf og16 (kg16.fi 6275 rfl) (kT3 (kg16.fa 101 rfl) (kg16.fa 102 rfl) (kg16.fi 6403 rfl)))) (kj_meas (op120 efig13_6273 efig14_6273 efig16_6273 s19 kop1) (op121 c9) hm6)
  exact lp6 _ _ _ _ _ _ _ (kG_self _ hGg3.I hGg3.R) (op36 kop0) (cLS_begin og2 (tOf og3 (kg3.fi 6275 rfl) (kT3 (kg3.fa 101 rfl) (kg3.fa 102 rfl) (kg3.fi 6403 rfl))) (kj_sub00 kop0)) (Nat.lt_succ_self _)
set_option maxRecDepth 100000 in
theorem kMsP100_51 (n : Nat) (h54 : kMP100_54 n) (h53 : kMP100_53 n) (h52 : kMP100_52 n) : kMP100_51 n := by
  intro i a q r hI hr x1 hp0 t nn hT hN hL hX
  have hG := kG_self wP100 hI hr
  refine km_ofN (q := (mi_h51, mi_c51)) rfl (by decide) (Nat.le_of_ble_eq_true rfl) ?_
  intro P hP
  have hn0 : (0 : Int) ≤ (n : Int) := Int.natCast_nonneg n
  have hn1 : (i 6273).toInt = nn.toInt := congrArg Int32.toInt hN
  have eRr_2 : r 2 = 100 := hL
  first | refine ft_goL mi_k51 2 2 [(0, .ref 98), (1, .int x1)] [.int x1, .ref 98] (by rfl) ?_ | refine ft_go mi_k51 2 2 [(0, .ref 98), (1, .int x1)] [.int x1, .ref 98] i a q r (by rfl) ?_
  refine ko_callN mi_k51.1 (pc := 2) (ls := [(0, .ref 98), (1, .int x1)]) (st := [.int x1, .ref 98]) (h := ks i a q r) (i := (.invokevirtual 73, 3, 52, 0, 9, 0, 181)) (mi_k51.2 _ _ (by rfl)) (ft_invS mi_pq52 (by rfl)) (cy := mi_c52) mi_pq52 rfl (h52 _ _ _ _ hG.I hG.R x1 (op105 hp0.1 hp0.2) t nn hT hN eRr_2 hX) (kj_d1 (n := n) (o := 12) (o1 := 13) (by decide)) ?_
  intro ig2 ag2 qg2 rg2 kg2 hg2
  have hGg2 := kG_call hG kg2 (by decide +kernel)
  have eRrg2_2 : rg2 2 = 100 := (kg2.fr 2 rfl).trans eRr_2
  obtain ⟨hg2, og2⟩ := hg2
  first | refine ft_goS mi_k51 2 8 [.ref (mi_RO + 14), .ref 98] (by rfl) ?_ | refine ft_go mi_k51 2 8 [(0, .ref 98), (1, .int x1)] [.ref (mi_RO + 14), .ref 98] ig2 ag2 qg2 rg2 (by rfl) ?_
  refine ko_callI mi_k51.1 (pc := 8) (ls := [(0, .ref 98), (1, .int x1)]) (st := [.ref (mi_RO + 14), .ref 98]) (h := ks ig2 ag2 qg2 rg2) (i := (.invokevirtual 78, 3, 47, 0, 9, 0, 189)) (mi_k51.2 _ _ (by rfl)) (ft_invS mi_pq47 (by rfl)) (cy := mi_c47) mi_pq47 rfl (ke47_98_1000014 hGg2.I hGg2.R t nn ((kg2.fa 99 rfl).trans hT) ((kg2.fi 6273 rfl).trans hN) hX) (kj_d3 (n := n) (c := 9) (o1 := 13) (by decide)) ?_
  intro vg3 ig3 ag3 qg3 rg3 kg3 hg3
  have hGg3 := kG_call hGg2 kg3 (by decide +kernel)
  have eRrg3_2 : rg3 2 = 100 := (kg3.fr 2 rfl).trans eRrg2_2
  obtain ⟨hg3, og3⟩ := hg3
  have z4 : ((vg3.toInt = (-1)) ∧ ((ig3 6274).toInt = (ig2 6274).toInt)) ∨ (((ig3 6274).toInt = ((ig2 6274).toInt + 1)) ∧ ((ig2 6274).toInt < (ig2 6273).toInt) ∧ ((ig2 6275).toInt = 0) ∧ ((vg3.toInt = 60) ∨ (vg3.toInt = 61) ∨ (vg3.toInt = 62))) := hg3
  have ho5 : vg3.toInt = (-1) ∨ vg3.toInt = (cHr t nn (ig2 6274) (ig2 6275)).toInt := tOf_v og3
  first | refine fo_goL mi_k51 fz51_11_3_14 [(2, .int vg3), (0, .ref 98), (1, .int x1)] [.int (-1), .int vg3] (by rfl) ?_ | refine ft_go mi_k51 3 14 [(2, .int vg3), (0, .ref 98), (1, .int x1)] [.int (-1), .int vg3] ig3 ag3 qg3 rg3 (by rfl) ?_
  refine ft_ifS mi_k51 (vg3 == (-1)) 32 17 [] (by rfl) (fun c => ?_) (fun c => ?_)
  ·
    have c6 : vg3.toInt = ((-1) : Int32).toInt := kd_eq c; clear c
    exact ft_ret mi_k51 (by rfl) (hP  _ _ _ _ hGg3 ⟨trivial, (cCm_out og2 (tOf og3 (kg3.fi 6275 rfl) (kT3 (kg3.fa 101 rfl) (kg3.fa 102 rfl) (kg3.fi 6403 rfl))) (op64 c6 kopm1))⟩)
  ·
    have c7 : vg3.toInt ≠ ((-1) : Int32).toInt := kd_eqF c; clear c
    first | refine ft_goS mi_k51 2 19 [.int x1, .ref 98] (by rfl) ?_ | refine ft_go mi_k51 2 19 [(2, .int vg3), (0, .ref 98), (1, .int x1)] [.int x1, .ref 98] ig3 ag3 qg3 rg3 (by rfl) ?_
    refine ko_callN mi_k51.1 (pc := 19) (ls := [(2, .int vg3), (0, .ref 98), (1, .int x1)]) (st := [.int x1, .ref 98]) (h := ks ig3 ag3 qg3 rg3) (i := (.invokevirtual 73, 3, 52, 0, 9, 0, 181)) (mi_k51.2 _ _ (by rfl)) (ft_invS mi_pq52 (by rfl)) (cy := mi_c52) mi_pq52 rfl (h52 _ _ _ _ hGg3.I hGg3.R x1 (op105 hp0.1 hp0.2) t nn (((kg3.fa 99 rfl).trans (kg2.fa 99 rfl)).trans hT) (((kg3.fi 6273 rfl).trans (kg2.fi 6273 rfl)).trans hN) eRrg3_2 hX) (kj_d1 (n := n) (o := 12) (o1 := 13) (by decide)) ?_
    intro ig8 ag8 qg8 rg8 kg8 hg8
    have hGg8 := kG_call hGg3 kg8 (by decide +kernel)
    have eRrg8_2 : rg8 2 = 100 := (kg8.fr 2 rfl).trans eRrg3_2
    obtain ⟨hg8, og8⟩ := hg8
    first | refine ft_goS mi_k51 2 26 [.ref (rg8 2)] (by rfl) ?_ | refine ft_go mi_k51 2 26 [(2, .int vg3), (0, .ref 98), (1, .int x1)] [.ref (rg8 2)] ig8 ag8 qg8 rg8 (by rfl) ?_
    refine ko_eq (x1 := (26, [(2, .int vg3), (0, .ref 98), (1, .int x1)], [.ref 100], (0, 0), ks ig8 ag8 qg8 rg8)) (by rw [eRrg8_2]) ?_
    first | refine ft_goS mi_k51 2 28 [.int 0, .int vg3, .ref 100] (by rfl) ?_ | refine ft_go mi_k51 2 28 [(2, .int vg3), (0, .ref 98), (1, .int x1)] [.int 0, .int vg3, .ref 100] ig8 ag8 qg8 rg8 (by rfl) ?_
    refine ko_callI mi_k51.1 (pc := 28) (ls := [(2, .int vg3), (0, .ref 98), (1, .int x1)]) (st := [.int 0, .int vg3, .ref 100]) (h := ks ig8 ag8 qg8 rg8) (i := (.invokevirtual 60, 3, 17, 0, 9, 0, 187)) (mi_k51.2 _ _ (by rfl)) (ft_invS mi_pq17 (by rfl)) (cy := mi_c17) mi_pq17 rfl (kf17_100 hGg8.I hGg8.R vg3 0) (kj_d3 (n := n) (c := 1) (o1 := 13) (by decide)) ?_
    intro vg9 ig9 ag9 qg9 rg9 kg9 hg9
    have hGg9 := kG_call hGg8 kg9 (by decide +kernel)
    have eRrg9_2 : rg9 2 = 100 := (kg9.fr 2 rfl).trans eRrg8_2
    obtain ⟨hg9, og9⟩ := hg9
    first | refine ft_goS mi_k51 1 32 [] (by rfl) ?_ | refine ft_go mi_k51 1 32 [(2, .int vg3), (0, .ref 98), (1, .int x1)] [] ig9 ag9 qg9 rg9 (by rfl) ?_
    exact ft_ret mi_k51 (by rfl) (hP  _ _ _ _ hGg9 ⟨trivial, (cCm_in og2 (tOf og3 (kg3.fi 6275 rfl) (kT3 (kg3.fa 101 rfl) (kg3.fa 102 rfl) (kg3.fi 6403 rfl))) (op142 c7 z4 kopm1) og8 (tAdd og9.1 (kg9.fi 6274 rfl) (kg9.fi 6275 rfl)))⟩)
set_option maxRecDepth 100000 in
theorem kMsP100_50 (n : Nat) (h54 : kMP100_54 n) (h53 : kMP100_53 n) (h52 : kMP100_52 n) (h51 : kMP100_51 n) : kMP100_50 n := by
  intro i a q r hI hr x1 hp0 t nn hT hN hL hX
  have hG := kG_self wP100 hI hr
  refine km_ofN (q := (mi_h50, mi_c50)) rfl (by decide) (Nat.le_of_ble_eq_true rfl) ?_
  intro P hP
  have hn0 : (0 : Int) ≤ (n : Int) := Int.natCast_nonneg n
  have hn1 : (i 6273).toInt = nn.toInt := congrArg Int32.toInt hN
  have eRr_2 : r 2 = 100 := hL
  first | refine ft_goL mi_k50 2 2 [(0, .ref 98), (1, .int x1)] [.int x1, .ref 98] (by rfl) ?_ | refine ft_go mi_k50 2 2 [(0, .ref 98), (1, .int x1)] [.int x1, .ref 98] i a q r (by rfl) ?_
  refine ko_callN mi_k50.1 (pc := 2) (ls := [(0, .ref 98), (1, .int x1)]) (st := [.int x1, .ref 98]) (h := ks i a q r) (i := (.invokevirtual 70, 3, 51, 0, 9, 0, 180)) (mi_k50.2 _ _ (by rfl)) (ft_invS mi_pq51 (by rfl)) (cy := mi_c51) mi_pq51 rfl (h51 _ _ _ _ hG.I hG.R x1 (op105 hp0.1 hp0.2) t nn hT hN eRr_2 hX) (kj_d1 (n := n) (o := 13) (o1 := 14) (by decide)) ?_
  intro ig2 ag2 qg2 rg2 kg2 hg2
  have hGg2 := kG_call hG kg2 (by decide +kernel)
  have eRrg2_2 : rg2 2 = 100 := (kg2.fr 2 rfl).trans eRr_2
  obtain ⟨hg2, og2⟩ := hg2
  first | refine ft_goL mi_k50 2 7 [(2, .int 0), (0, .ref 98), (1, .int x1)] [] (by rfl) ?_ | refine ft_go mi_k50 2 7 [(2, .int 0), (0, .ref 98), (1, .int x1)] [] ig2 ag2 qg2 rg2 (by rfl) ?_
  have lp3 : ∀ (nz : Nat) (i3 : Nat → Int32) (a3 : Nat → List Int32) (q3 : Nat → List Int64) (r3 : Nat → Nat) (l2_3 : Int32), kG yw50_98_L100_L7 ig2 ag2 qg2 rg2 i3 a3 q3 r3 → (0 : Int) ≤ l2_3.toInt → cLpB t nn (cP5 t nn (cO t nn n)) 38 (nn.toInt - l2_3.toInt).toNat (i3 6274, i3 6275, a3 101, a3 102, i3 6403) = cBin t nn (cP5 t nn (cO t nn n)) 38 (i 6274, i 6275, a 101, a 102, i 6403) → (((i3 6273).toInt - l2_3.toInt)).toNat < nz → ko (6 * n + 14) (mi_h50, mi_c50) P (7, [(2, .int l2_3), (0, .ref 98), (1, .int x1)], [], (0, 0), ks i3 a3 q3 r3) := by
    intro nz
    induction nz with
    | zero =>
      intro _ _ _ _ _ _ _ _ hm
      exact absurd hm (Nat.not_lt_zero _)
    | succ nz ih3 =>
      intro i3 a3 q3 r3 l2_3 hL3 p3_0 O3_0 hm3
      have fi3_6273 : ((0 : Int) ≤ (i3 6273).toInt) ∧ ((i3 6273).toInt ≤ 120) := hL3.I.1 6273
      have efig2_6273 : (ig2 6273).toInt = (i 6273).toInt := kg2.ti 6273 rfl
      have efi3_6273 : (i3 6273).toInt = (ig2 6273).toInt := hL3.ti 6273 rfl
      have eRr3_2 : r3 2 = 100 := (hL3.fr 2 rfl).trans eRrg2_2
      first | refine fo_goL mi_k50 fz50_7_3_12 [(2, .int l2_3), (0, .ref 98), (1, .int x1)] [.int (i3 6273), .int l2_3] (by rfl) ?_ | refine ft_go mi_k50 3 12 [(2, .int l2_3), (0, .ref 98), (1, .int x1)] [.int (i3 6273), .int l2_3] i3 a3 q3 r3 (by rfl) ?_
      refine ft_ifS mi_k50 (decide ((i3 6273) ≤ l2_3)) 46 15 [] (by rfl) (fun c => ?_) (fun c => ?_)
      ·
        have c4 : (i3 6273).toInt ≤ l2_3.toInt := kd_le c; clear c
        have hG5 := kG_call hGg2 hL3 (by decide +kernel)
        exact ft_ret mi_k50 (by rfl) (hP  _ _ _ _ hG5 ⟨trivial, (cLB_end O3_0 (kj_sub0 (n := nn.toInt) (op143 c4 efi3_6273 efig2_6273 hn1)))⟩)
      ·
        have c6 : l2_3.toInt < (i3 6273).toInt := kd_leF c; clear c
        first | refine ft_goS mi_k50 2 18 [.int 38, .ref 98] (by rfl) ?_ | refine ft_go mi_k50 2 18 [(2, .int l2_3), (0, .ref 98), (1, .int x1)] [.int 38, .ref 98] i3 a3 q3 r3 (by rfl) ?_
        refine ko_callI mi_k50.1 (pc := 18) (ls := [(2, .int l2_3), (0, .ref 98), (1, .int x1)]) (st := [.int 38, .ref 98]) (h := ks i3 a3 q3 r3) (i := (.invokevirtual 39, 3, 46, 0, 9, 0, 200)) (mi_k50.2 _ _ (by rfl)) (ft_invS mi_pq46 (by rfl)) (cy := mi_c46) mi_pq46 rfl (ke46_98 hL3.I hL3.R 38 (op144 kop38) t nn (((hL3.fa 99 rfl).trans (kg2.fa 99 rfl)).trans hT) (((hL3.fi 6273 rfl).trans (kg2.fi 6273 rfl)).trans hN) hX) (kj_d3 (n := n) (c := 3) (o1 := 14) (by decide)) ?_
        intro vg7 ig7 ag7 qg7 rg7 kg7 hg7
        have hGg7 := kG_call hL3 kg7 (by decide +kernel)
        have eRrg7_2 : rg7 2 = 100 := (kg7.fr 2 rfl).trans eRr3_2
        obtain ⟨hg7, og7⟩ := hg7
        have z8 : ((vg7.toInt = 1) ∧ ((ig7 6274).toInt = ((i3 6274).toInt + 1)) ∧ ((i3 6274).toInt < (i3 6273).toInt) ∧ ((i3 6275).toInt = 0)) ∨ ((vg7.toInt = 0) ∧ ((ig7 6274).toInt = (i3 6274).toInt)) := hg7
        refine ft_ifS mi_k50 (vg7 == 0) 46 24 [] (by rfl) (fun c => ?_) (fun c => ?_)
        ·
          have c9 : vg7.toInt = (0 : Int32).toInt := kd_eq c; clear c
          have hG10 := kG_call hGg2 hGg7 (by decide +kernel)
          exact ft_ret mi_k50 (by rfl) (hP  _ _ _ _ hG10 ⟨trivial, (cLB_out O3_0 (kj_sub1 (n := nn.toInt) (op145 c6 efi3_6273 efig2_6273 hn1) (op4 p3_0)) (tTk og7 (kg7.fi 6275 rfl) (kT3 (kg7.fa 101 rfl) (kg7.fa 102 rfl) (kg7.fi 6403 rfl))) (op98 c9 kop0))⟩)
        ·
          have c11 : vg7.toInt ≠ (0 : Int32).toInt := kd_eqF c; clear c
          first | refine ft_goS mi_k50 2 26 [.int x1, .ref 98] (by rfl) ?_ | refine ft_go mi_k50 2 26 [(2, .int l2_3), (0, .ref 98), (1, .int x1)] [.int x1, .ref 98] ig7 ag7 qg7 rg7 (by rfl) ?_
          refine ko_callN mi_k50.1 (pc := 26) (ls := [(2, .int l2_3), (0, .ref 98), (1, .int x1)]) (st := [.int x1, .ref 98]) (h := ks ig7 ag7 qg7 rg7) (i := (.invokevirtual 70, 3, 51, 0, 9, 0, 180)) (mi_k50.2 _ _ (by rfl)) (ft_invS mi_pq51 (by rfl)) (cy := mi_c51) mi_pq51 rfl (h51 _ _ _ _ hGg7.I hGg7.R x1 (op105 hp0.1 hp0.2) t nn ((((kg7.fa 99 rfl).trans (hL3.fa 99 rfl)).trans (kg2.fa 99 rfl)).trans hT) (((kg7.fi 6273 rfl).trans ((hL3.fi 6273 rfl).trans (kg2.fi 6273 rfl))).trans hN) eRrg7_2 hX) (kj_d1 (n := n) (o := 13) (o1 := 14) (by decide)) ?_
          intro ig12 ag12 qg12 rg12 kg12 hg12
          have hGg12 := kG_call hGg7 kg12 (by decide +kernel)
          have eRrg12_2 : rg12 2 = 100 := (kg12.fr 2 rfl).trans eRrg7_2
          obtain ⟨hg12, og12⟩ := hg12
          first | refine ft_goS mi_k50 2 33 [.ref (rg12 2)] (by rfl) ?_ | refine ft_go mi_k50 2 33 [(2, .int l2_3), (0, .ref 98), (1, .int x1)] [.ref (rg12 2)] ig12 ag12 qg12 rg12 (by rfl) ?_
          refine ko_eq (x1 := (33, [(2, .int l2_3), (0, .ref 98), (1, .int x1)], [.ref 100], (0, 0), ks ig12 ag12 qg12 rg12)) (by rw [eRrg12_2]) ?_
          first | refine ft_goS mi_k50 2 36 [.int 0, .int 38, .ref 100] (by rfl) ?_ | refine ft_go mi_k50 2 36 [(2, .int l2_3), (0, .ref 98), (1, .int x1)] [.int 0, .int 38, .ref 100] ig12 ag12 qg12 rg12 (by rfl) ?_
          refine ko_callI mi_k50.1 (pc := 36) (ls := [(2, .int l2_3), (0, .ref 98), (1, .int x1)]) (st := [.int 0, .int 38, .ref 100]) (h := ks ig12 ag12 qg12 rg12) (i := (.invokevirtual 60, 3, 17, 0, 9, 0, 187)) (mi_k50.2 _ _ (by rfl)) (ft_invS mi_pq17 (by rfl)) (cy := mi_c17) mi_pq17 rfl (kf17_100 hGg12.I hGg12.R 38 0) (kj_d3 (n := n) (c := 1) (o1 := 14) (by decide)) ?_
          intro vg13 ig13 ag13 qg13 rg13 kg13 hg13
          have hGg13 := kG_call hGg12 kg13 (by decide +kernel)
          have eRrg13_2 : rg13 2 = 100 := (kg13.fr 2 rfl).trans eRrg12_2
          obtain ⟨hg13, og13⟩ := hg13
          have s15 : (l2_3 + 1).toInt = l2_3.toInt + (1 : Int32).toInt := kd_add (op18 p3_0 kop1) (op117 c6 fi3_6273.2 kop1)
          first | refine fo_goL mi_k50 fz50_39_3_7 [(2, .int (l2_3 + 1)), (0, .ref 98), (1, .int x1)] [] (by rfl) ?_ | refine ft_goL mi_k50 3 7 [(2, .int (l2_3 + 1)), (0, .ref 98), (1, .int x1)] [] (by rfl) ?_ | refine ft_go mi_k50 3 7 [(2, .int (l2_3 + 1)), (0, .ref 98), (1, .int x1)] [] ig13 ag13 qg13 rg13 (by rfl) ?_
          have efig7_6273 : (ig7 6273).toInt = (i3 6273).toInt := kg7.ti 6273 rfl
          have efig12_6273 : (ig12 6273).toInt = (ig7 6273).toInt := kg12.ti 6273 rfl
          have efig13_6273 : (ig13 6273).toInt = (ig12 6273).toInt := kg13.ti 6273 rfl
          exact ih3 _ _ _ _ _ hGg13 (op20 p3_0 s15 kop1) (cLB_again O3_0 (kj_sub2 (n := nn.toInt) (op145 c6 efi3_6273 efig2_6273 hn1) (op4 p3_0) (op30 s15 kop1)) (tTk og7 (kg7.fi 6275 rfl) (kT3 (kg7.fa 101 rfl) (kg7.fa 102 rfl) (kg7.fi 6403 rfl))) (op146 c11 z8 kop0) og12 (tAdd og13.1 (kg13.fi 6274 rfl) (kg13.fi 6275 rfl))) (kj_meas (op147 efig12_6273 efig13_6273 efig7_6273 s15 kop1) (op121 c6) hm3)
  exact lp3 _ _ _ _ _ _ (kG_self _ hGg2.I hGg2.R) (op36 kop0) (cLB_begin og2 (kj_sub00 kop0)) (Nat.lt_succ_self _)
set_option maxRecDepth 100000 in
theorem kMsP100_49 (n : Nat) (h54 : kMP100_54 n) (h53 : kMP100_53 n) (h52 : kMP100_52 n) (h51 : kMP100_51 n) (h50 : kMP100_50 n) : kMP100_49 n := by
  intro i a q r hI hr x1 hp0 t nn hT hN hL hX
  have hG := kG_self wP100 hI hr
  refine km_ofN (q := (mi_h49, mi_c49)) rfl (by decide) (Nat.le_of_ble_eq_true rfl) ?_
  intro P hP
  have hn0 : (0 : Int) ≤ (n : Int) := Int.natCast_nonneg n
  have hn1 : (i 6273).toInt = nn.toInt := congrArg Int32.toInt hN
  have eRr_2 : r 2 = 100 := hL
  first | refine ft_goL mi_k49 2 2 [(0, .ref 98), (1, .int x1)] [.int x1, .ref 98] (by rfl) ?_ | refine ft_go mi_k49 2 2 [(0, .ref 98), (1, .int x1)] [.int x1, .ref 98] i a q r (by rfl) ?_
  refine ko_callN mi_k49.1 (pc := 2) (ls := [(0, .ref 98), (1, .int x1)]) (st := [.int x1, .ref 98]) (h := ks i a q r) (i := (.invokevirtual 67, 3, 50, 0, 9, 0, 179)) (mi_k49.2 _ _ (by rfl)) (ft_invS mi_pq50 (by rfl)) (cy := mi_c50) mi_pq50 rfl (h50 _ _ _ _ hG.I hG.R x1 (op105 hp0.1 hp0.2) t nn hT hN eRr_2 hX) (kj_d1 (n := n) (o := 14) (o1 := 15) (by decide)) ?_
  intro ig2 ag2 qg2 rg2 kg2 hg2
  have hGg2 := kG_call hG kg2 (by decide +kernel)
  have eRrg2_2 : rg2 2 = 100 := (kg2.fr 2 rfl).trans eRr_2
  obtain ⟨hg2, og2⟩ := hg2
  first | refine ft_goL mi_k49 2 7 [(2, .int 0), (0, .ref 98), (1, .int x1)] [] (by rfl) ?_ | refine ft_go mi_k49 2 7 [(2, .int 0), (0, .ref 98), (1, .int x1)] [] ig2 ag2 qg2 rg2 (by rfl) ?_
  have lp3 : ∀ (nz : Nat) (i3 : Nat → Int32) (a3 : Nat → List Int32) (q3 : Nat → List Int64) (r3 : Nat → Nat) (l2_3 : Int32), kG yw49_98_L100_L7 ig2 ag2 qg2 rg2 i3 a3 q3 r3 → (0 : Int) ≤ l2_3.toInt → cLpB t nn (cP6 t nn (cO t nn n)) 124 (nn.toInt - l2_3.toInt).toNat (i3 6274, i3 6275, a3 101, a3 102, i3 6403) = cBin t nn (cP6 t nn (cO t nn n)) 124 (i 6274, i 6275, a 101, a 102, i 6403) → (((i3 6273).toInt - l2_3.toInt)).toNat < nz → ko (6 * n + 15) (mi_h49, mi_c49) P (7, [(2, .int l2_3), (0, .ref 98), (1, .int x1)], [], (0, 0), ks i3 a3 q3 r3) := by
    intro nz
    induction nz with
    | zero =>
      intro _ _ _ _ _ _ _ _ hm
      exact absurd hm (Nat.not_lt_zero _)
    | succ nz ih3 =>
      intro i3 a3 q3 r3 l2_3 hL3 p3_0 O3_0 hm3
      have fi3_6273 : ((0 : Int) ≤ (i3 6273).toInt) ∧ ((i3 6273).toInt ≤ 120) := hL3.I.1 6273
      have efig2_6273 : (ig2 6273).toInt = (i 6273).toInt := kg2.ti 6273 rfl
      have efi3_6273 : (i3 6273).toInt = (ig2 6273).toInt := hL3.ti 6273 rfl
      have eRr3_2 : r3 2 = 100 := (hL3.fr 2 rfl).trans eRrg2_2
      first | refine fo_goL mi_k49 fz49_7_3_12 [(2, .int l2_3), (0, .ref 98), (1, .int x1)] [.int (i3 6273), .int l2_3] (by rfl) ?_ | refine ft_go mi_k49 3 12 [(2, .int l2_3), (0, .ref 98), (1, .int x1)] [.int (i3 6273), .int l2_3] i3 a3 q3 r3 (by rfl) ?_
      refine ft_ifS mi_k49 (decide ((i3 6273) ≤ l2_3)) 46 15 [] (by rfl) (fun c => ?_) (fun c => ?_)
      ·
        have c4 : (i3 6273).toInt ≤ l2_3.toInt := kd_le c; clear c
        have hG5 := kG_call hGg2 hL3 (by decide +kernel)
        exact ft_ret mi_k49 (by rfl) (hP  _ _ _ _ hG5 ⟨trivial, (cLB_end O3_0 (kj_sub0 (n := nn.toInt) (op143 c4 efi3_6273 efig2_6273 hn1)))⟩)
      ·
        have c6 : l2_3.toInt < (i3 6273).toInt := kd_leF c; clear c
        first | refine ft_goS mi_k49 2 18 [.int 124, .ref 98] (by rfl) ?_ | refine ft_go mi_k49 2 18 [(2, .int l2_3), (0, .ref 98), (1, .int x1)] [.int 124, .ref 98] i3 a3 q3 r3 (by rfl) ?_
        refine ko_callI mi_k49.1 (pc := 18) (ls := [(2, .int l2_3), (0, .ref 98), (1, .int x1)]) (st := [.int 124, .ref 98]) (h := ks i3 a3 q3 r3) (i := (.invokevirtual 39, 3, 46, 0, 9, 0, 200)) (mi_k49.2 _ _ (by rfl)) (ft_invS mi_pq46 (by rfl)) (cy := mi_c46) mi_pq46 rfl (ke46_98 hL3.I hL3.R 124 (op148 kop124) t nn (((hL3.fa 99 rfl).trans (kg2.fa 99 rfl)).trans hT) (((hL3.fi 6273 rfl).trans (kg2.fi 6273 rfl)).trans hN) hX) (kj_d3 (n := n) (c := 3) (o1 := 15) (by decide)) ?_
        intro vg7 ig7 ag7 qg7 rg7 kg7 hg7
        have hGg7 := kG_call hL3 kg7 (by decide +kernel)
        have eRrg7_2 : rg7 2 = 100 := (kg7.fr 2 rfl).trans eRr3_2
        obtain ⟨hg7, og7⟩ := hg7
        have z8 : ((vg7.toInt = 1) ∧ ((ig7 6274).toInt = ((i3 6274).toInt + 1)) ∧ ((i3 6274).toInt < (i3 6273).toInt) ∧ ((i3 6275).toInt = 0)) ∨ ((vg7.toInt = 0) ∧ ((ig7 6274).toInt = (i3 6274).toInt)) := hg7
        refine ft_ifS mi_k49 (vg7 == 0) 46 24 [] (by rfl) (fun c => ?_) (fun c => ?_)
        ·
          have c9 : vg7.toInt = (0 : Int32).toInt := kd_eq c; clear c
          have hG10 := kG_call hGg2 hGg7 (by decide +kernel)
          exact ft_ret mi_k49 (by rfl) (hP  _ _ _ _ hG10 ⟨trivial, (cLB_out O3_0 (kj_sub1 (n := nn.toInt) (op145 c6 efi3_6273 efig2_6273 hn1) (op4 p3_0)) (tTk og7 (kg7.fi 6275 rfl) (kT3 (kg7.fa 101 rfl) (kg7.fa 102 rfl) (kg7.fi 6403 rfl))) (op98 c9 kop0))⟩)
        ·
          have c11 : vg7.toInt ≠ (0 : Int32).toInt := kd_eqF c; clear c
          first | refine ft_goS mi_k49 2 26 [.int x1, .ref 98] (by rfl) ?_ | refine ft_go mi_k49 2 26 [(2, .int l2_3), (0, .ref 98), (1, .int x1)] [.int x1, .ref 98] ig7 ag7 qg7 rg7 (by rfl) ?_
          refine ko_callN mi_k49.1 (pc := 26) (ls := [(2, .int l2_3), (0, .ref 98), (1, .int x1)]) (st := [.int x1, .ref 98]) (h := ks ig7 ag7 qg7 rg7) (i := (.invokevirtual 67, 3, 50, 0, 9, 0, 179)) (mi_k49.2 _ _ (by rfl)) (ft_invS mi_pq50 (by rfl)) (cy := mi_c50) mi_pq50 rfl (h50 _ _ _ _ hGg7.I hGg7.R x1 (op105 hp0.1 hp0.2) t nn ((((kg7.fa 99 rfl).trans (hL3.fa 99 rfl)).trans (kg2.fa 99 rfl)).trans hT) (((kg7.fi 6273 rfl).trans ((hL3.fi 6273 rfl).trans (kg2.fi 6273 rfl))).trans hN) eRrg7_2 hX) (kj_d1 (n := n) (o := 14) (o1 := 15) (by decide)) ?_
          intro ig12 ag12 qg12 rg12 kg12 hg12
          have hGg12 := kG_call hGg7 kg12 (by decide +kernel)
          have eRrg12_2 : rg12 2 = 100 := (kg12.fr 2 rfl).trans eRrg7_2
          obtain ⟨hg12, og12⟩ := hg12
          first | refine ft_goS mi_k49 2 33 [.ref (rg12 2)] (by rfl) ?_ | refine ft_go mi_k49 2 33 [(2, .int l2_3), (0, .ref 98), (1, .int x1)] [.ref (rg12 2)] ig12 ag12 qg12 rg12 (by rfl) ?_
          refine ko_eq (x1 := (33, [(2, .int l2_3), (0, .ref 98), (1, .int x1)], [.ref 100], (0, 0), ks ig12 ag12 qg12 rg12)) (by rw [eRrg12_2]) ?_
          first | refine ft_goS mi_k49 2 36 [.int 0, .int 124, .ref 100] (by rfl) ?_ | refine ft_go mi_k49 2 36 [(2, .int l2_3), (0, .ref 98), (1, .int x1)] [.int 0, .int 124, .ref 100] ig12 ag12 qg12 rg12 (by rfl) ?_
          refine ko_callI mi_k49.1 (pc := 36) (ls := [(2, .int l2_3), (0, .ref 98), (1, .int x1)]) (st := [.int 0, .int 124, .ref 100]) (h := ks ig12 ag12 qg12 rg12) (i := (.invokevirtual 60, 3, 17, 0, 9, 0, 187)) (mi_k49.2 _ _ (by rfl)) (ft_invS mi_pq17 (by rfl)) (cy := mi_c17) mi_pq17 rfl (kf17_100 hGg12.I hGg12.R 124 0) (kj_d3 (n := n) (c := 1) (o1 := 15) (by decide)) ?_
          intro vg13 ig13 ag13 qg13 rg13 kg13 hg13
          have hGg13 := kG_call hGg12 kg13 (by decide +kernel)
          have eRrg13_2 : rg13 2 = 100 := (kg13.fr 2 rfl).trans eRrg12_2
          obtain ⟨hg13, og13⟩ := hg13
          have s15 : (l2_3 + 1).toInt = l2_3.toInt + (1 : Int32).toInt := kd_add (op18 p3_0 kop1) (op117 c6 fi3_6273.2 kop1)
          first | refine fo_goL mi_k49 fz49_39_3_7 [(2, .int (l2_3 + 1)), (0, .ref 98), (1, .int x1)] [] (by rfl) ?_ | refine ft_goL mi_k49 3 7 [(2, .int (l2_3 + 1)), (0, .ref 98), (1, .int x1)] [] (by rfl) ?_ | refine ft_go mi_k49 3 7 [(2, .int (l2_3 + 1)), (0, .ref 98), (1, .int x1)] [] ig13 ag13 qg13 rg13 (by rfl) ?_
          have efig7_6273 : (ig7 6273).toInt = (i3 6273).toInt := kg7.ti 6273 rfl
          have efig12_6273 : (ig12 6273).toInt = (ig7 6273).toInt := kg12.ti 6273 rfl
          have efig13_6273 : (ig13 6273).toInt = (ig12 6273).toInt := kg13.ti 6273 rfl
          exact ih3 _ _ _ _ _ hGg13 (op20 p3_0 s15 kop1) (cLB_again O3_0 (kj_sub2 (n := nn.toInt) (op145 c6 efi3_6273 efig2_6273 hn1) (op4 p3_0) (op30 s15 kop1)) (tTk og7 (kg7.fi 6275 rfl) (kT3 (kg7.fa 101 rfl) (kg7.fa 102 rfl) (kg7.fi 6403 rfl))) (op146 c11 z8 kop0) og12 (tAdd og13.1 (kg13.fi 6274 rfl) (kg13.fi 6275 rfl))) (kj_meas (op147 efig12_6273 efig13_6273 efig7_6273 s15 kop1) (op121 c6) hm3)
  exact lp3 _ _ _ _ _ _ (kG_self _ hGg2.I hGg2.R) (op36 kop0) (cLB_begin og2 (kj_sub00 kop0)) (Nat.lt_succ_self _)
theorem kMallP100 : ∀ n : Nat, kMP100_49 n ∧ kMP100_54 n
  | 0 => by
    have ih : ∀ m, 0 = m + 1 → kMP100_49 m ∧ kMP100_54 m := fun m h => by omega
    have h54 := kMsP100_54 0  ih
    have h53 := kMsP100_53 0 h54
    have h52 := kMsP100_52 0 h54 h53
    have h51 := kMsP100_51 0 h54 h53 h52
    have h50 := kMsP100_50 0 h54 h53 h52 h51
    have h49 := kMsP100_49 0 h54 h53 h52 h51 h50
    exact ⟨h49, h54⟩
  | n + 1 => by
    have ih : ∀ m, n + 1 = m + 1 → kMP100_49 m ∧ kMP100_54 m := fun m h => by
      have e : n = m := by omega
      subst e
      exact kMallP100 n
    have h54 := kMsP100_54 (n + 1)  ih
    have h53 := kMsP100_53 (n + 1) h54
    have h52 := kMsP100_52 (n + 1) h54 h53
    have h51 := kMsP100_51 (n + 1) h54 h53 h52
    have h50 := kMsP100_50 (n + 1) h54 h53 h52 h51
    have h49 := kMsP100_49 (n + 1) h54 h53 h52 h51 h50
    exact ⟨h49, h54⟩
def zw18_100 : kW := ([], [102], [], [])
set_option maxRecDepth 100000 in
theorem kf18_100 {i : Nat → Int32} {a : Nat → List Int32} {q : Nat → List Int64} {r : Nat → Nat} (hI : kI i a q) (hr : kr r) (x1 : Int32) : km 1 18 [.ref 100, .int x1] (ks i a q r) (kVN zw18_100 i a q r (fun i1 a1 q1 r1 => ((i1 6403).toInt = (i 6403).toInt) ∧ (a1 101, a1 102, i1 6403) = lAim x1 (a 101, a 102, i 6403))) := by
  have hG := kG_self zw18_100 hI hr
  refine km_ofN (q := (mi_h18, mi_c18)) rfl (by decide) (Nat.le_of_ble_eq_true rfl) ?_
  intro P hP
  first | refine ft_goL mi_k18 1 1 [(0, .ref 100), (1, .int x1)] [.int x1] (by rfl) ?_ | refine ft_go mi_k18 1 1 [(0, .ref 100), (1, .int x1)] [.int x1] i a q r (by rfl) ?_
  refine ft_ifS mi_k18 (decide (x1 < 0)) 22 4 [] (by rfl) (fun c => ?_) (fun c => ?_)
  ·
    have c1 : x1.toInt < (0 : Int32).toInt := kd_lt c; clear c
    exact ft_ret mi_k18 (by rfl) (hP  _ _ _ _ hG ⟨op150, ((show (a 101, a 102, i 6403) = (a 101, a 102, i 6403) from rfl).trans (if_neg (op151 c1 kop0)).symm)⟩)
  ·
    have c2 : (0 : Int32).toInt ≤ x1.toInt := kd_ltF c; clear c
    have fi_6403 : ((0 : Int) ≤ (i 6403).toInt) ∧ ((i 6403).toInt ≤ 121) := hG.I.1 6403
    first | refine fo_goS mi_k18 fz18_4_3_9 [.int (i 6403), .int x1] (by rfl) ?_ | refine ft_go mi_k18 3 9 [(0, .ref 100), (1, .int x1)] [.int (i 6403), .int x1] i a q r (by rfl) ?_
    refine ft_ifS mi_k18 (decide ((i 6403) ≤ x1)) 22 12 [] (by rfl) (fun c => ?_) (fun c => ?_)
    ·
      have c3 : (i 6403).toInt ≤ x1.toInt := kd_le c; clear c
      exact ft_ret mi_k18 (by rfl) (hP  _ _ _ _ hG ⟨op150, ((show (a 101, a 102, i 6403) = (a 101, a 102, i 6403) from rfl).trans (if_neg (op152 c3)).symm)⟩)
    ·
      have c4 : x1.toInt < (i 6403).toInt := kd_leF c; clear c
      first | refine fo_goS mi_k18 fz18_12_5_21 [.int (i 6403), .int x1, .ref 102] (by rfl) ?_ | refine ft_go mi_k18 5 21 [(0, .ref 100), (1, .int x1)] [.int (i 6403), .int x1, .ref 102] i a q r (by rfl) ?_
      refine ko_iast3 mi_k18.1 (n := 121) (c := 121) (ax := (0, 0, 0, 0, 0)) (mi_k18.2 _ _ (by rfl)) (by rfl) (ksG102 _ _ _ _) (ksA102 _ _ _ _) (hG.I.2.1 102) rfl (op153 c2 kop0) (op154 c4 fi_6403.2) ?_
      intro a5 ea5 fa5
      have hJ5 := kG_a3 hG 102 rfl ea5 fa5 (kd_bd _)
      exact ft_ret mi_k18 (by rfl) (hP  _ _ _ _ hJ5 ⟨op150, ((show (a5 101, a5 102, i 6403) = (a 101, (a 102).set x1.toNatClampNeg (i 6403), i 6403) from by rw [fa5 101 (by decide), ea5]).trans (if_pos ⟨(op153 c2 kop0), (op155 c4)⟩).symm)⟩)
def yw48_98_L100 : kW := ([6274, 6275, 6403], [101, 102], [], [])
set_option maxRecDepth 100000 in
theorem ke48_98_L100 {i : Nat → Int32} {a : Nat → List Int32} {q : Nat → List Int64} {r : Nat → Nat} (hI : kI i a q) (hr : kr r) (t : List Int32) (nn : Int32) (hT : a 99 = t) (hN : i 6273 = nn) (hL : r 2 = 100) (hX : kBy t) : km 53 48 [.ref 98] (ks i a q r) (kVN yw48_98_L100 i a q r (fun i1 a1 q1 r1 => (True) ∧ (i1 6274, i1 6275, a1 101, a1 102, i1 6403) = cLin t nn (i 6274, i 6275, a 101, a 102, i 6403))) := by
  have hG := kG_self yw48_98_L100 hI hr
  refine km_ofN (q := (mi_h48, mi_c48)) rfl (by decide) (Nat.le_of_ble_eq_true rfl) ?_
  intro P hP
  have hn1 : (i 6273).toInt = nn.toInt := congrArg Int32.toInt hN
  have eRr_2 : r 2 = 100 := hL
  first | refine ft_goL mi_k48 2 2 [(0, .ref 98)] [.int 0, .ref 98] (by rfl) ?_ | refine ft_go mi_k48 2 2 [(0, .ref 98)] [.int 0, .ref 98] i a q r (by rfl) ?_
  have nn0 := kop0
  refine ko_callN mi_k48.1 (pc := 2) (ls := [(0, .ref 98)]) (st := [.int 0, .ref 98]) (h := ks i a q r) (i := (.invokevirtual 56, 3, 49, 0, 9, 0, 178)) (mi_k48.2 _ _ (by rfl)) (ft_invS mi_pq49 (by rfl)) (cy := mi_c49) mi_pq49 rfl ((kMallP100 6).1 _ _ _ _ hG.I hG.R 0 (by have := kop0; omega) t nn hT hN eRr_2 hX) (by decide) ?_
  intro ig2 ag2 qg2 rg2 kg2 hg2
  have hGg2 := kG_call hG kg2 (by decide +kernel)
  have eRrg2_2 : rg2 2 = 100 := (kg2.fr 2 rfl).trans eRr_2
  obtain ⟨hg2, og2⟩ := hg2
  first | refine ft_goS mi_k48 2 8 [.int 63, .ref 98] (by rfl) ?_ | refine ft_go mi_k48 2 8 [(0, .ref 98)] [.int 63, .ref 98] ig2 ag2 qg2 rg2 (by rfl) ?_
  refine ko_callI mi_k48.1 (pc := 8) (ls := [(0, .ref 98)]) (st := [.int 63, .ref 98]) (h := ks ig2 ag2 qg2 rg2) (i := (.invokevirtual 39, 3, 46, 0, 9, 0, 200)) (mi_k48.2 _ _ (by rfl)) (ft_invS mi_pq46 (by rfl)) (cy := mi_c46) mi_pq46 rfl (ke46_98 hGg2.I hGg2.R 63 (op149 kop63) t nn ((kg2.fa 99 rfl).trans hT) ((kg2.fi 6273 rfl).trans hN) hX) (by decide) ?_
  intro vg3 ig3 ag3 qg3 rg3 kg3 hg3
  have hGg3 := kG_call hGg2 kg3 (by decide +kernel)
  have eRrg3_2 : rg3 2 = 100 := (kg3.fr 2 rfl).trans eRrg2_2
  obtain ⟨hg3, og3⟩ := hg3
  have fig3_6274 : ((0 : Int) ≤ (ig3 6274).toInt) ∧ ((ig3 6274).toInt ≤ 120) := hGg3.I.1 6274
  have fig2_6274 : ((0 : Int) ≤ (ig2 6274).toInt) ∧ ((ig2 6274).toInt ≤ 120) := hGg2.I.1 6274
  have fig2_6273 : ((0 : Int) ≤ (ig2 6273).toInt) ∧ ((ig2 6273).toInt ≤ 120) := hGg2.I.1 6273
  have fi_6273 : ((0 : Int) ≤ (i 6273).toInt) ∧ ((i 6273).toInt ≤ 120) := hG.I.1 6273
  have efig2_6273 : (ig2 6273).toInt = (i 6273).toInt := kg2.ti 6273 rfl
  have fig2_6275 : ((0 : Int) ≤ (ig2 6275).toInt) ∧ ((ig2 6275).toInt ≤ 1) := hGg2.I.1 6275
  have z4 : ((vg3.toInt = 1) ∧ ((ig3 6274).toInt = ((ig2 6274).toInt + 1)) ∧ ((ig2 6274).toInt < (ig2 6273).toInt) ∧ ((ig2 6275).toInt = 0)) ∨ ((vg3.toInt = 0) ∧ ((ig3 6274).toInt = (ig2 6274).toInt)) := hg3
  refine ft_ifS mi_k48 (vg3 == 0) 50 14 [] (by rfl) (fun c => ?_) (fun c => ?_)
  ·
    have c5 : vg3.toInt = (0 : Int32).toInt := kd_eq c; clear c
    first | refine ft_goS mi_k48 2 54 [.ref (rg3 2)] (by rfl) ?_ | refine ft_go mi_k48 2 54 [(0, .ref 98)] [.ref (rg3 2)] ig3 ag3 qg3 rg3 (by rfl) ?_
    refine ko_eq (x1 := (54, [(0, .ref 98)], [.ref 100], (0, 0), ks ig3 ag3 qg3 rg3)) (by rw [eRrg3_2]) ?_
    first | refine ft_goS mi_k48 2 56 [.int 0, .int 2, .ref 100] (by rfl) ?_ | refine ft_go mi_k48 2 56 [(0, .ref 98)] [.int 0, .int 2, .ref 100] ig3 ag3 qg3 rg3 (by rfl) ?_
    refine ko_callI mi_k48.1 (pc := 56) (ls := [(0, .ref 98)]) (st := [.int 0, .int 2, .ref 100]) (h := ks ig3 ag3 qg3 rg3) (i := (.invokevirtual 60, 3, 17, 0, 9, 0, 187)) (mi_k48.2 _ _ (by rfl)) (ft_invS mi_pq17 (by rfl)) (cy := mi_c17) mi_pq17 rfl (kf17_100 hGg3.I hGg3.R 2 0) (by decide) ?_
    intro vg6 ig6 ag6 qg6 rg6 kg6 hg6
    have hGg6 := kG_call hGg3 kg6 (by decide +kernel)
    have eRrg6_2 : rg6 2 = 100 := (kg6.fr 2 rfl).trans eRrg3_2
    obtain ⟨hg6, og6⟩ := hg6
    first | refine ft_goS mi_k48 1 60 [] (by rfl) ?_ | refine ft_go mi_k48 1 60 [(0, .ref 98)] [] ig6 ag6 qg6 rg6 (by rfl) ?_
    exact ft_ret mi_k48 (by rfl) (hP  _ _ _ _ hGg6 ⟨trivial, (cLi_one og2 (tTk og3 (kg3.fi 6275 rfl) (kT3 (kg3.fa 101 rfl) (kg3.fa 102 rfl) (kg3.fi 6403 rfl))) (op98 c5 kop0) (tAdd og6.1 (kg6.fi 6274 rfl) (kg6.fi 6275 rfl)))⟩)
  ·
    have c8 : vg3.toInt ≠ (0 : Int32).toInt := kd_eqF c; clear c
    first | refine ft_goS mi_k48 2 18 [.ref (rg3 2)] (by rfl) ?_ | refine ft_go mi_k48 2 18 [(0, .ref 98)] [.ref (rg3 2)] ig3 ag3 qg3 rg3 (by rfl) ?_
    refine ko_eq (x1 := (18, [(0, .ref 98)], [.ref 100], (0, 0), ks ig3 ag3 qg3 rg3)) (by rw [eRrg3_2]) ?_
    first | refine ft_goS mi_k48 2 20 [.int 0, .int 3, .ref 100] (by rfl) ?_ | refine ft_go mi_k48 2 20 [(0, .ref 98)] [.int 0, .int 3, .ref 100] ig3 ag3 qg3 rg3 (by rfl) ?_
    refine ko_callI mi_k48.1 (pc := 20) (ls := [(0, .ref 98)]) (st := [.int 0, .int 3, .ref 100]) (h := ks ig3 ag3 qg3 rg3) (i := (.invokevirtual 60, 3, 17, 0, 9, 0, 187)) (mi_k48.2 _ _ (by rfl)) (ft_invS mi_pq17 (by rfl)) (cy := mi_c17) mi_pq17 rfl (kf17_100 hGg3.I hGg3.R 3 0) (by decide) ?_
    intro vg9 ig9 ag9 qg9 rg9 kg9 hg9
    have hGg9 := kG_call hGg3 kg9 (by decide +kernel)
    have eRrg9_2 : rg9 2 = 100 := (kg9.fr 2 rfl).trans eRrg3_2
    obtain ⟨hg9, og9⟩ := hg9
    have fig3_6403 : ((0 : Int) ≤ (ig3 6403).toInt) ∧ ((ig3 6403).toInt ≤ 121) := hGg3.I.1 6403
    have fig2_6403 : ((0 : Int) ≤ (ig2 6403).toInt) ∧ ((ig2 6403).toInt ≤ 121) := hGg2.I.1 6403
    have efig3_6403 : (ig3 6403).toInt = (ig2 6403).toInt := kg3.ti 6403 rfl
    have fig9_6403 : ((0 : Int) ≤ (ig9 6403).toInt) ∧ ((ig9 6403).toInt ≤ 121) := hGg9.I.1 6403
    have z10 : (((ig3 6403).toInt ≤ 120) ∧ ((ig9 6403).toInt = ((ig3 6403).toInt + 1))) ∨ (((121 : Int) ≤ (ig3 6403).toInt) ∧ ((ig9 6403).toInt = (ig3 6403).toInt)) := hg9
    first | refine fo_goL mi_k48 fz48_23_3_26 [(1, .int vg9), (0, .ref 98)] [.int 0, .ref 98] (by rfl) ?_ | refine ft_go mi_k48 3 26 [(1, .int vg9), (0, .ref 98)] [.int 0, .ref 98] ig9 ag9 qg9 rg9 (by rfl) ?_
    have nn0 := kop0
    refine ko_callN mi_k48.1 (pc := 26) (ls := [(1, .int vg9), (0, .ref 98)]) (st := [.int 0, .ref 98]) (h := ks ig9 ag9 qg9 rg9) (i := (.invokevirtual 56, 3, 49, 0, 9, 0, 178)) (mi_k48.2 _ _ (by rfl)) (ft_invS mi_pq49 (by rfl)) (cy := mi_c49) mi_pq49 rfl ((kMallP100 6).1 _ _ _ _ hGg9.I hGg9.R 0 (by have := kop0; omega) t nn ((((kg9.fa 99 rfl).trans (kg3.fa 99 rfl)).trans (kg2.fa 99 rfl)).trans hT) (((kg9.fi 6273 rfl).trans ((kg3.fi 6273 rfl).trans (kg2.fi 6273 rfl))).trans hN) eRrg9_2 hX) (by decide) ?_
    intro ig11 ag11 qg11 rg11 kg11 hg11
    have hGg11 := kG_call hGg9 kg11 (by decide +kernel)
    have eRrg11_2 : rg11 2 = 100 := (kg11.fr 2 rfl).trans eRrg9_2
    obtain ⟨hg11, og11⟩ := hg11
    first | refine ft_goS mi_k48 2 33 [.ref (rg11 2)] (by rfl) ?_ | refine ft_go mi_k48 2 33 [(1, .int vg9), (0, .ref 98)] [.ref (rg11 2)] ig11 ag11 qg11 rg11 (by rfl) ?_
    refine ko_eq (x1 := (33, [(1, .int vg9), (0, .ref 98)], [.ref 100], (0, 0), ks ig11 ag11 qg11 rg11)) (by rw [eRrg11_2]) ?_
    first | refine ft_goS mi_k48 2 35 [.int 0, .int 2, .ref 100] (by rfl) ?_ | refine ft_go mi_k48 2 35 [(1, .int vg9), (0, .ref 98)] [.int 0, .int 2, .ref 100] ig11 ag11 qg11 rg11 (by rfl) ?_
    refine ko_callI mi_k48.1 (pc := 35) (ls := [(1, .int vg9), (0, .ref 98)]) (st := [.int 0, .int 2, .ref 100]) (h := ks ig11 ag11 qg11 rg11) (i := (.invokevirtual 60, 3, 17, 0, 9, 0, 187)) (mi_k48.2 _ _ (by rfl)) (ft_invS mi_pq17 (by rfl)) (cy := mi_c17) mi_pq17 rfl (kf17_100 hGg11.I hGg11.R 2 0) (by decide) ?_
    intro vg12 ig12 ag12 qg12 rg12 kg12 hg12
    have hGg12 := kG_call hGg11 kg12 (by decide +kernel)
    have eRrg12_2 : rg12 2 = 100 := (kg12.fr 2 rfl).trans eRrg11_2
    obtain ⟨hg12, og12⟩ := hg12
    first | refine fo_goS mi_k48 fz48_38_3_43 [.ref (rg12 2)] (by rfl) ?_ | refine ft_go mi_k48 3 43 [(1, .int vg9), (0, .ref 98)] [.ref (rg12 2)] ig12 ag12 qg12 rg12 (by rfl) ?_
    refine ko_eq (x1 := (43, [(1, .int vg9), (0, .ref 98)], [.ref 100], (0, 0), ks ig12 ag12 qg12 rg12)) (by rw [eRrg12_2]) ?_
    first | refine ft_goS mi_k48 1 44 [.int vg9, .ref 100] (by rfl) ?_ | refine ft_go mi_k48 1 44 [(1, .int vg9), (0, .ref 98)] [.int vg9, .ref 100] ig12 ag12 qg12 rg12 (by rfl) ?_
    refine ko_callN mi_k48.1 (pc := 44) (ls := [(1, .int vg9), (0, .ref 98)]) (st := [.int vg9, .ref 100]) (h := ks ig12 ag12 qg12 rg12) (i := (.invokevirtual 64, 3, 18, 0, 9, 0, 204)) (mi_k48.2 _ _ (by rfl)) (ft_invS mi_pq18 (by rfl)) (cy := mi_c18) mi_pq18 rfl (kf18_100 hGg12.I hGg12.R vg9) (by decide) ?_
    intro ig14 ag14 qg14 rg14 kg14 hg14
    have hGg14 := kG_call hGg12 kg14 (by decide +kernel)
    have eRrg14_2 : rg14 2 = 100 := (kg14.fr 2 rfl).trans eRrg12_2
    obtain ⟨hg14, og14⟩ := hg14
    first | refine ft_goS mi_k48 1 60 [] (by rfl) ?_ | refine ft_go mi_k48 1 60 [(1, .int vg9), (0, .ref 98)] [] ig14 ag14 qg14 rg14 (by rfl) ?_
    exact ft_ret mi_k48 (by rfl) (hP  _ _ _ _ hGg14 ⟨trivial, (cLi_two og2 (tTk og3 (kg3.fi 6275 rfl) (kT3 (kg3.fa 101 rfl) (kg3.fa 102 rfl) (kg3.fi 6403 rfl))) (op96 c8 z4 kop0) (tAdd og9.1 (kg9.fi 6274 rfl) (kg9.fi 6275 rfl)) (cLi_2 og9.2 og11 (tAdd og12.1 (kg12.fi 6274 rfl) (kg12.fi 6275 rfl)) (tAim og14 (kg14.fi 6274 rfl) (kg14.fi 6275 rfl))))⟩)
def zw16_100 : kW := ([6400, 6403], [], [], [])
set_option maxRecDepth 100000 in
theorem kf16_100 {i : Nat → Int32} {a : Nat → List Int32} {q : Nat → List Int64} {r : Nat → Nat} (hI : kI i a q) (hr : kr r)  : km 1 16 [.ref 100] (ks i a q r) (kVN zw16_100 i a q r (fun i1 a1 q1 r1 => (True) ∧ (i1 6400 = 0 ∧ i1 6403 = 0))) := by
  have hG := kG_self zw16_100 hI hr
  refine km_ofN (q := (mi_h16, mi_c16)) rfl (by decide) (Nat.le_of_ble_eq_true rfl) ?_
  intro P hP
  have hJ1 := kG_i hG 6400 rfl (v := 0) ⟨(op36 kop0), (op157 kop0)⟩
  have hJ2 := kG_i hJ1 6403 rfl (v := 0) ⟨(op36 kop0), (op158 kop0)⟩
  first | refine fo_go mi_k16 fz16_0_6_10 [(0, .ref 100)] [] (ku (ku i 6400 0) 6403 0) a q r (by rfl) ?_ | refine ft_go mi_k16 6 10 [(0, .ref 100)] [] (ku (ku i 6400 0) 6403 0) a q r (by rfl) ?_
  exact ft_ret mi_k16 (by rfl) (hP  _ _ _ _ hJ2 ⟨trivial, ⟨(show (0 : Int32) = 0 from (by first | rfl | (simp only [sMn, sMx]; done) | (simp only [sMn, sMx]; rfl))), (show (0 : Int32) = 0 from (by first | rfl | (simp only [sMn, sMx]; done) | (simp only [sMn, sMx]; rfl)))⟩⟩)
def yw44_98_L100 : kW := ([6274, 6275, 6400, 6403], [101, 102], [], [])
def yw44_98_L100_L23 : kW := ([6274, 6275, 6403], [101, 102], [], [])
set_option maxRecDepth 100000 in
theorem ke44_98_L100 {i : Nat → Int32} {a : Nat → List Int32} {q : Nat → List Int64} {r : Nat → Nat} (hI : kI i a q) (hr : kr r) (t : List Int32) (nn : Int32) (hT : a 99 = t) (hN : i 6273 = nn) (hL : r 2 = 100) (hX : kBy t) : km 55 44 [.ref 98] (ks i a q r) (kVI yw44_98_L100 i a q r (fun v i1 a1 q1 r1 => ((v.toInt = (-1)) ∨ ((0 : Int) ≤ v.toInt)) ∧ ((cOk nn (cTxt t nn (a 101) (a 102)) ∧ v = -1 ∧ i1 6400 = 1 ∧ (a1 101, a1 102, i1 6403) = (cTxt t nn (a 101) (a 102)).2.2) ∨ (¬ cOk nn (cTxt t nn (a 101) (a 102)) ∧ v = (cTxt t nn (a 101) (a 102)).1 ∧ 0 ≤ v.toInt)))) := by
  have hG := kG_self yw44_98_L100 hI hr
  refine km_ofI (q := (mi_h44, mi_c44)) rfl (by decide) (Nat.le_of_ble_eq_true rfl) ?_
  intro P hP
  have hn1 : (i 6273).toInt = nn.toInt := congrArg Int32.toInt hN
  have eRr_2 : r 2 = 100 := hL
  have hJ2 := kG_i hG 6274 rfl (v := 0) ⟨(op36 kop0), (op156 kop0)⟩
  have hJ3 := kG_i hJ2 6275 rfl (v := 0) ⟨(op36 kop0), (op157 kop0)⟩
  first | refine fo_go mi_k44 fz44_0_8_14 [(0, .ref 98)] [.ref (r 2)] (ku (ku i 6274 0) 6275 0) a q r (by rfl) ?_ | refine ft_go mi_k44 8 14 [(0, .ref 98)] [.ref (r 2)] (ku (ku i 6274 0) 6275 0) a q r (by rfl) ?_
  refine ko_eq (x1 := (14, [(0, .ref 98)], [.ref 100], (0, 0), ks (ku (ku i 6274 0) 6275 0) a q r)) (by rw [eRr_2]) ?_
  refine ko_callN mi_k44.1 (pc := 14) (ls := [(0, .ref 98)]) (st := [.ref 100]) (h := ks (ku (ku i 6274 0) 6275 0) a q r) (i := (.invokevirtual 33, 3, 16, 0, 9, 0, 176)) (mi_k44.2 _ _ (by rfl)) (ft_invS mi_pq16 (by rfl)) (cy := mi_c16) mi_pq16 rfl (kf16_100 hJ3.I hJ3.R ) (by decide) ?_
  intro ig4 ag4 qg4 rg4 kg4 hg4
  have hGg4 := kG_call hJ3 kg4 (by decide +kernel)
  have eRrg4_2 : rg4 2 = 100 := (kg4.fr 2 rfl).trans eRr_2
  obtain ⟨hg4, og4⟩ := hg4
  have q5 : ig4 6400 = 0 := og4.1
  have q6 : ig4 6403 = 0 := og4.2
  first | refine ft_goS mi_k44 1 18 [.ref 98] (by rfl) ?_ | refine ft_go mi_k44 1 18 [(0, .ref 98)] [.ref 98] ig4 ag4 qg4 rg4 (by rfl) ?_
  refine ko_callN mi_k44.1 (pc := 18) (ls := [(0, .ref 98)]) (st := [.ref 98]) (h := ks ig4 ag4 qg4 rg4) (i := (.invokevirtual 36, 3, 48, 0, 9, 0, 177)) (mi_k44.2 _ _ (by rfl)) (ft_invS mi_pq48 (by rfl)) (cy := mi_c48) mi_pq48 rfl (ke48_98_L100 hGg4.I hGg4.R t nn ((kg4.fa 99 rfl).trans hT) ((kg4.fi 6273 rfl).trans hN) eRrg4_2 hX) (by decide) ?_
  intro ig7 ag7 qg7 rg7 kg7 hg7
  have hGg7 := kG_call hGg4 kg7 (by decide +kernel)
  have eRrg7_2 : rg7 2 = 100 := (kg7.fr 2 rfl).trans eRrg4_2
  obtain ⟨hg7, og7⟩ := hg7
  first | refine fo_goL mi_k44 fz44_21_2_23 [(1, .int 0), (0, .ref 98)] [] (by rfl) ?_ | refine fo_goL mi_k44 fz44_44_2_23 [(1, .int 0), (0, .ref 98)] [] (by rfl) ?_ | refine ft_go mi_k44 2 23 [(1, .int 0), (0, .ref 98)] [] ig7 ag7 qg7 rg7 (by rfl) ?_
  have lp8 : ∀ (nz : Nat) (i8 : Nat → Int32) (a8 : Nat → List Int32) (q8 : Nat → List Int64) (r8 : Nat → Nat) (l1_8 : Int32), kG yw44_98_L100_L23 ig7 ag7 qg7 rg7 i8 a8 q8 r8 → (0 : Int) ≤ l1_8.toInt → cLpL t nn (nn.toInt - l1_8.toInt).toNat (i8 6274, i8 6275, a8 101, a8 102, i8 6403) = (cTxt t nn (a 101) (a 102)) → (((i8 6273).toInt - l1_8.toInt)).toNat < nz → ko 55 (mi_h44, mi_c44) P (23, [(1, .int l1_8), (0, .ref 98)], [], (0, 0), ks i8 a8 q8 r8) := by
    intro nz
    induction nz with
    | zero =>
      intro _ _ _ _ _ _ _ _ hm
      exact absurd hm (Nat.not_lt_zero _)
    | succ nz ih8 =>
      intro i8 a8 q8 r8 l1_8 hL8 p8_0 O8_0 hm8
      have fi8_6273 : ((0 : Int) ≤ (i8 6273).toInt) ∧ ((i8 6273).toInt ≤ 120) := hL8.I.1 6273
      have efig4_6273 : (ig4 6273).toInt = (i 6273).toInt := kg4.ti 6273 rfl
      have efig7_6273 : (ig7 6273).toInt = (ig4 6273).toInt := kg7.ti 6273 rfl
      have efi8_6273 : (i8 6273).toInt = (ig7 6273).toInt := hL8.ti 6273 rfl
      have eRr8_2 : r8 2 = 100 := (hL8.fr 2 rfl).trans eRrg7_2
      first | refine fo_goL mi_k44 fz44_23_3_28 [(1, .int l1_8), (0, .ref 98)] [.int (i8 6273), .int l1_8] (by rfl) ?_ | refine ft_go mi_k44 3 28 [(1, .int l1_8), (0, .ref 98)] [.int (i8 6273), .int l1_8] i8 a8 q8 r8 (by rfl) ?_
      refine ft_ifS mi_k44 (decide ((i8 6273) ≤ l1_8)) 50 31 [] (by rfl) (fun c => ?_) (fun c => ?_)
      ·
        have c9 : (i8 6273).toInt ≤ l1_8.toInt := kd_le c; clear c
        have hG10 := kG_call hGg7 hL8 (by decide +kernel)
        have hD11 : (i8 6274, i8 6275, a8 101, a8 102, i8 6403) = (cTxt t nn (a 101) (a 102)) := cLL_end O8_0 (kj_sub0 (n := nn.toInt) (op116 c9 efi8_6273 efig4_6273 efig7_6273 hn1))
        have fi8_6275 : ((0 : Int) ≤ (i8 6275).toInt) ∧ ((i8 6275).toInt ≤ 1) := hG10.I.1 6275
        first | refine fo_goS mi_k44 fz44_50_2_54 [.int (i8 6275)] (by rfl) ?_ | refine ft_go mi_k44 2 54 [(1, .int l1_8), (0, .ref 98)] [.int (i8 6275)] i8 a8 q8 r8 (by rfl) ?_
        refine ft_ifS mi_k44 ((i8 6275) != 0) 68 57 [] (by rfl) (fun c => ?_) (fun c => ?_)
        ·
          have c12 : (i8 6275).toInt ≠ (0 : Int32).toInt := kd_ne c; clear c
          have fi8_6274 : ((0 : Int) ≤ (i8 6274).toInt) ∧ ((i8 6274).toInt ≤ 120) := hG10.I.1 6274
          first | refine fo_goS mi_k44 fz44_68_2_72 [.int (i8 6274)] (by rfl) ?_ | refine ft_go mi_k44 2 72 [(1, .int l1_8), (0, .ref 98)] [.int (i8 6274)] i8 a8 q8 r8 (by rfl) ?_
          exact ft_ret mi_k44 (by rfl) (hP (i8 6274) _ _ _ _ hG10 ⟨(op159 fi8_6274.1), (rd_bad hD11 (op160 c12 fi8_6275.1 kop0) rfl (op4 fi8_6274.1))⟩)
        ·
          have c13 : (i8 6275).toInt = (0 : Int32).toInt := kd_neF c; clear c
          have fi8_6274 : ((0 : Int) ≤ (i8 6274).toInt) ∧ ((i8 6274).toInt ≤ 120) := hG10.I.1 6274
          first | refine fo_goS mi_k44 fz44_57_4_65 [.int (i8 6273), .int (i8 6274)] (by rfl) ?_ | refine ft_go mi_k44 4 65 [(1, .int l1_8), (0, .ref 98)] [.int (i8 6273), .int (i8 6274)] i8 a8 q8 r8 (by rfl) ?_
          refine ft_ifS mi_k44 (decide ((i8 6273) ≤ (i8 6274))) 73 68 [] (by rfl) (fun c => ?_) (fun c => ?_)
          ·
            have c14 : (i8 6273).toInt ≤ (i8 6274).toInt := kd_le c; clear c
            first | refine fo_goS mi_k44 fz44_73_2_77 [.ref (r8 2)] (by rfl) ?_ | refine ft_go mi_k44 2 77 [(1, .int l1_8), (0, .ref 98)] [.ref (r8 2)] i8 a8 q8 r8 (by rfl) ?_
            refine ko_eq (x1 := (77, [(1, .int l1_8), (0, .ref 98)], [.ref 100], (0, 0), ks i8 a8 q8 r8)) (by rw [eRr8_2]) ?_
            have hJ15 := kG_i hG10 6400 rfl (v := 1) ⟨(op62 kop1), (op63 kop1)⟩
            first | refine fo_goI mi_k44 fz44_77_3_82 [.int (-1)] (ku i8 6400 1) (by rfl) ?_ | refine ft_go mi_k44 3 82 [(1, .int l1_8), (0, .ref 98)] [.int (-1)] (ku i8 6400 1) a8 q8 r8 (by rfl) ?_
            exact ft_ret mi_k44 (by rfl) (hP (-1) _ _ _ _ hJ15 ⟨(op161 kopm1), (rd_ok hD11 (op7 c13 fi8_6275.1 kop0) (op116 c14 efi8_6273 efig4_6273 efig7_6273 hn1) rfl rfl rfl)⟩)
          ·
            have c16 : (i8 6274).toInt < (i8 6273).toInt := kd_leF c; clear c
            first | refine fo_goS mi_k44 fz44_68_2_72 [.int (i8 6274)] (by rfl) ?_ | refine ft_go mi_k44 2 72 [(1, .int l1_8), (0, .ref 98)] [.int (i8 6274)] i8 a8 q8 r8 (by rfl) ?_
            exact ft_ret mi_k44 (by rfl) (hP (i8 6274) _ _ _ _ hG10 ⟨(op159 fi8_6274.1), (rd_bad hD11 (op162 c16 efi8_6273 efig4_6273 efig7_6273 hn1) rfl (op4 fi8_6274.1))⟩)
      ·
        have c17 : l1_8.toInt < (i8 6273).toInt := kd_leF c; clear c
        first | refine ft_goS mi_k44 2 34 [.int 59, .ref 98] (by rfl) ?_ | refine ft_go mi_k44 2 34 [(1, .int l1_8), (0, .ref 98)] [.int 59, .ref 98] i8 a8 q8 r8 (by rfl) ?_
        refine ko_callI mi_k44.1 (pc := 34) (ls := [(1, .int l1_8), (0, .ref 98)]) (st := [.int 59, .ref 98]) (h := ks i8 a8 q8 r8) (i := (.invokevirtual 39, 3, 46, 0, 9, 0, 200)) (mi_k44.2 _ _ (by rfl)) (ft_invS mi_pq46 (by rfl)) (cy := mi_c46) mi_pq46 rfl (ke46_98 hL8.I hL8.R 59 (op163 kop59) t nn ((((hL8.fa 99 rfl).trans (kg7.fa 99 rfl)).trans (kg4.fa 99 rfl)).trans hT) (((hL8.fi 6273 rfl).trans ((kg7.fi 6273 rfl).trans (kg4.fi 6273 rfl))).trans hN) hX) (by decide) ?_
        intro vg18 ig18 ag18 qg18 rg18 kg18 hg18
        have hGg18 := kG_call hL8 kg18 (by decide +kernel)
        have eRrg18_2 : rg18 2 = 100 := (kg18.fr 2 rfl).trans eRr8_2
        obtain ⟨hg18, og18⟩ := hg18
        have fig18_6274 : ((0 : Int) ≤ (ig18 6274).toInt) ∧ ((ig18 6274).toInt ≤ 120) := hGg18.I.1 6274
        have z19 : ((vg18.toInt = 1) ∧ ((ig18 6274).toInt = ((i8 6274).toInt + 1)) ∧ ((i8 6274).toInt < (i8 6273).toInt) ∧ ((i8 6275).toInt = 0)) ∨ ((vg18.toInt = 0) ∧ ((ig18 6274).toInt = (i8 6274).toInt)) := hg18
        refine ft_ifS mi_k44 (vg18 == 0) 50 40 [] (by rfl) (fun c => ?_) (fun c => ?_)
        ·
          have c20 : vg18.toInt = (0 : Int32).toInt := kd_eq c; clear c
          have hG21 := kG_call hGg7 hGg18 (by decide +kernel)
          have hD22 : (ig18 6274, ig18 6275, ag18 101, ag18 102, ig18 6403) = (cTxt t nn (a 101) (a 102)) := cLL_out O8_0 (kj_sub1 (n := nn.toInt) (op118 c17 efi8_6273 efig4_6273 efig7_6273 hn1) (op4 p8_0)) (tTk og18 (kg18.fi 6275 rfl) (kT3 (kg18.fa 101 rfl) (kg18.fa 102 rfl) (kg18.fi 6403 rfl))) (op98 c20 kop0)
          have fig18_6275 : ((0 : Int) ≤ (ig18 6275).toInt) ∧ ((ig18 6275).toInt ≤ 1) := hG21.I.1 6275
          first | refine fo_goS mi_k44 fz44_50_2_54 [.int (ig18 6275)] (by rfl) ?_ | refine ft_go mi_k44 2 54 [(1, .int l1_8), (0, .ref 98)] [.int (ig18 6275)] ig18 ag18 qg18 rg18 (by rfl) ?_
          refine ft_ifS mi_k44 ((ig18 6275) != 0) 68 57 [] (by rfl) (fun c => ?_) (fun c => ?_)
          ·
            have c23 : (ig18 6275).toInt ≠ (0 : Int32).toInt := kd_ne c; clear c
            first | refine fo_goS mi_k44 fz44_68_2_72 [.int (ig18 6274)] (by rfl) ?_ | refine ft_go mi_k44 2 72 [(1, .int l1_8), (0, .ref 98)] [.int (ig18 6274)] ig18 ag18 qg18 rg18 (by rfl) ?_
            exact ft_ret mi_k44 (by rfl) (hP (ig18 6274) _ _ _ _ hG21 ⟨(op159 fig18_6274.1), (rd_bad hD22 (op160 c23 fig18_6275.1 kop0) rfl (op4 fig18_6274.1))⟩)
          ·
            have c24 : (ig18 6275).toInt = (0 : Int32).toInt := kd_neF c; clear c
            have efig18_6273 : (ig18 6273).toInt = (i8 6273).toInt := kg18.ti 6273 rfl
            first | refine fo_goS mi_k44 fz44_57_4_65 [.int (ig18 6273), .int (ig18 6274)] (by rfl) ?_ | refine ft_go mi_k44 4 65 [(1, .int l1_8), (0, .ref 98)] [.int (ig18 6273), .int (ig18 6274)] ig18 ag18 qg18 rg18 (by rfl) ?_
            refine ft_ifS mi_k44 (decide ((ig18 6273) ≤ (ig18 6274))) 73 68 [] (by rfl) (fun c => ?_) (fun c => ?_)
            ·
              have c25 : (ig18 6273).toInt ≤ (ig18 6274).toInt := kd_le c; clear c
              first | refine fo_goS mi_k44 fz44_73_2_77 [.ref (rg18 2)] (by rfl) ?_ | refine ft_go mi_k44 2 77 [(1, .int l1_8), (0, .ref 98)] [.ref (rg18 2)] ig18 ag18 qg18 rg18 (by rfl) ?_
              refine ko_eq (x1 := (77, [(1, .int l1_8), (0, .ref 98)], [.ref 100], (0, 0), ks ig18 ag18 qg18 rg18)) (by rw [eRrg18_2]) ?_
              have hJ26 := kG_i hG21 6400 rfl (v := 1) ⟨(op62 kop1), (op63 kop1)⟩
              first | refine fo_goI mi_k44 fz44_77_3_82 [.int (-1)] (ku ig18 6400 1) (by rfl) ?_ | refine ft_go mi_k44 3 82 [(1, .int l1_8), (0, .ref 98)] [.int (-1)] (ku ig18 6400 1) ag18 qg18 rg18 (by rfl) ?_
              exact ft_ret mi_k44 (by rfl) (hP (-1) _ _ _ _ hJ26 ⟨(op161 kopm1), (rd_ok hD22 (op7 c24 fig18_6275.1 kop0) (op164 c25 efi8_6273 efig18_6273 efig4_6273 efig7_6273 hn1) rfl rfl rfl)⟩)
            ·
              have c27 : (ig18 6274).toInt < (ig18 6273).toInt := kd_leF c; clear c
              first | refine fo_goS mi_k44 fz44_68_2_72 [.int (ig18 6274)] (by rfl) ?_ | refine ft_go mi_k44 2 72 [(1, .int l1_8), (0, .ref 98)] [.int (ig18 6274)] ig18 ag18 qg18 rg18 (by rfl) ?_
              exact ft_ret mi_k44 (by rfl) (hP (ig18 6274) _ _ _ _ hG21 ⟨(op159 fig18_6274.1), (rd_bad hD22 (op165 c27 efi8_6273 efig18_6273 efig4_6273 efig7_6273 hn1) rfl (op4 fig18_6274.1))⟩)
        ·
          have c28 : vg18.toInt ≠ (0 : Int32).toInt := kd_eqF c; clear c
          first | refine ft_goS mi_k44 1 41 [.ref 98] (by rfl) ?_ | refine ft_go mi_k44 1 41 [(1, .int l1_8), (0, .ref 98)] [.ref 98] ig18 ag18 qg18 rg18 (by rfl) ?_
          refine ko_callN mi_k44.1 (pc := 41) (ls := [(1, .int l1_8), (0, .ref 98)]) (st := [.ref 98]) (h := ks ig18 ag18 qg18 rg18) (i := (.invokevirtual 36, 3, 48, 0, 9, 0, 177)) (mi_k44.2 _ _ (by rfl)) (ft_invS mi_pq48 (by rfl)) (cy := mi_c48) mi_pq48 rfl (ke48_98_L100 hGg18.I hGg18.R t nn (((((kg18.fa 99 rfl).trans (hL8.fa 99 rfl)).trans (kg7.fa 99 rfl)).trans (kg4.fa 99 rfl)).trans hT) (((kg18.fi 6273 rfl).trans ((hL8.fi 6273 rfl).trans ((kg7.fi 6273 rfl).trans (kg4.fi 6273 rfl)))).trans hN) eRrg18_2 hX) (by decide) ?_
          intro ig29 ag29 qg29 rg29 kg29 hg29
          have hGg29 := kG_call hGg18 kg29 (by decide +kernel)
          have eRrg29_2 : rg29 2 = 100 := (kg29.fr 2 rfl).trans eRrg18_2
          obtain ⟨hg29, og29⟩ := hg29
          have s30 : (l1_8 + 1).toInt = l1_8.toInt + (1 : Int32).toInt := kd_add (op18 p8_0 kop1) (op117 c17 fi8_6273.2 kop1)
          first | refine fo_goL mi_k44 fz44_21_2_23 [(1, .int (l1_8 + 1)), (0, .ref 98)] [] (by rfl) ?_ | refine fo_goL mi_k44 fz44_44_2_23 [(1, .int (l1_8 + 1)), (0, .ref 98)] [] (by rfl) ?_ | refine ft_go mi_k44 2 23 [(1, .int (l1_8 + 1)), (0, .ref 98)] [] ig29 ag29 qg29 rg29 (by rfl) ?_
          have efig18_6273 : (ig18 6273).toInt = (i8 6273).toInt := kg18.ti 6273 rfl
          have efig29_6273 : (ig29 6273).toInt = (ig18 6273).toInt := kg29.ti 6273 rfl
          exact ih8 _ _ _ _ _ hGg29 (op20 p8_0 s30 kop1) (cLL_again O8_0 (kj_sub2 (n := nn.toInt) (op118 c17 efi8_6273 efig4_6273 efig7_6273 hn1) (op4 p8_0) (op30 s30 kop1)) (tTk og18 (kg18.fi 6275 rfl) (kT3 (kg18.fa 101 rfl) (kg18.fa 102 rfl) (kg18.fi 6403 rfl))) (op146 c28 z19 kop0) og29) (kj_meas (op166 efig18_6273 efig29_6273 s30 kop1) (op121 c17) hm8)
  exact lp8 _ _ _ _ _ _ (kG_self _ hGg7.I hGg7.R) (op36 kop0) (cLL_begin og7 (kS5 (show ig4 6274 = 0 from (by first | rfl | (simp only [(show ig4 6274 = (0 : Int32) from kg4.fi 6274 rfl), sMn, sMx]; done) | (simp only [(show ig4 6274 = (0 : Int32) from kg4.fi 6274 rfl), sMn, sMx]; rfl))) (show ig4 6275 = 0 from (by first | rfl | (simp only [(show ig4 6275 = (0 : Int32) from kg4.fi 6275 rfl), sMn, sMx]; done) | (simp only [(show ig4 6275 = (0 : Int32) from kg4.fi 6275 rfl), sMn, sMx]; rfl))) (show ag4 101 = a 101 from (by first | rfl | (simp only [kg4.fa 101 rfl, sMn, sMx]; done) | (simp only [kg4.fa 101 rfl, sMn, sMx]; rfl))) (show ag4 102 = a 102 from (by first | rfl | (simp only [kg4.fa 102 rfl, sMn, sMx]; done) | (simp only [kg4.fa 102 rfl, sMn, sMx]; rfl))) (show ig4 6403 = 0 from (by first | rfl | (simp only [q6, sMn, sMx]; done) | (simp only [q6, sMn, sMx]; rfl)))) (kj_sub00 kop0)) (Nat.lt_succ_self _)
def yw86_0_L100 : kW := ([6273, 6274, 6275, 6400, 6403], [101, 102], [], [0, 2])
set_option maxRecDepth 100000 in
theorem ke86_0_L100 {i : Nat → Int32} {a : Nat → List Int32} {q : Nat → List Int64} {r : Nat → Nat} (hI : kI i a q) (hr : kr r) (t : List Int32) (nn : Int32) (hT : a 99 = t) (hN : i 6273 = nn) (hL : r 2 = 100) (hX : kBy t) : km 57 86 [.ref 0] (ks i a q r) (kVI yw86_0_L100 i a q r (fun v i1 a1 q1 r1 => ((i1 6273).toInt = 0) ∧ ((cOk nn (cTxt t nn (a 101) (a 102)) ∧ v = 1 ∧ r1 0 = 100 ∧ r1 2 = 10 ∧ i1 6400 = 1 ∧ (a1 101, a1 102, i1 6403) = (cTxt t nn (a 101) (a 102)).2.2) ∨ (¬ cOk nn (cTxt t nn (a 101) (a 102)) ∧ v = -100 - (cTxt t nn (a 101) (a 102)).1 ∧ r1 0 = 10 ∧ r1 2 = 100)))) := by
  have hG := kG_self yw86_0_L100 hI hr
  refine km_ofI (q := (mi_h86, mi_c86)) rfl (by decide) (Nat.le_of_ble_eq_true rfl) ?_
  intro P hP
  have hn1 : (i 6273).toInt = nn.toInt := congrArg Int32.toInt hN
  have eRr_2 : r 2 = 100 := hL
  have eRr_0 : r 0 = 10 := kr_0 hr hL (by decide)
  first | refine ft_goL mi_k86 2 4 [(0, .ref 0)] [.ref 98] (by rfl) ?_ | refine ft_go mi_k86 2 4 [(0, .ref 0)] [.ref 98] i a q r (by rfl) ?_
  refine ko_callI mi_k86.1 (pc := 4) (ls := [(0, .ref 0)]) (st := [.ref 98]) (h := ks i a q r) (i := (.invokevirtual 113, 3, 44, 0, 9, 0, 175)) (mi_k86.2 _ _ (by rfl)) (ft_invS mi_pq44 (by rfl)) (cy := mi_c44) mi_pq44 rfl (ke44_98_L100 hG.I hG.R t nn hT hN eRr_2 hX) (by decide) ?_
  intro vg2 ig2 ag2 qg2 rg2 kg2 hg2
  have hGg2 := kG_call hG kg2 (by decide +kernel)
  have eRrg2_0 : rg2 0 = 10 := (kg2.fr 0 rfl).trans eRr_0
  have eRrg2_2 : rg2 2 = 100 := (kg2.fr 2 rfl).trans eRr_2
  obtain ⟨hg2, og2⟩ := hg2
  have hJ4 := kG_i hGg2 6273 rfl (v := 0) ⟨(op36 kop0), (op156 kop0)⟩
  first | refine fo_go mi_k86 fz86_7_6_17 [(1, .int vg2), (0, .ref 0)] [.int vg2] (ku ig2 6273 0) ag2 qg2 rg2 (by rfl) ?_ | refine ft_go mi_k86 6 17 [(1, .int vg2), (0, .ref 0)] [.int vg2] (ku ig2 6273 0) ag2 qg2 rg2 (by rfl) ?_
  refine ft_ifS mi_k86 (decide (vg2 < 0)) 25 20 [] (by rfl) (fun c => ?_) (fun c => ?_)
  ·
    have c5 : vg2.toInt < (0 : Int32).toInt := kd_lt c; clear c
    first | refine fo_goS mi_k86 fz86_25_7_40 [.ref (rg2 0), .ref 98, .ref 1] (by rfl) ?_ | refine ft_go mi_k86 7 40 [(1, .int vg2), (0, .ref 0)] [.ref (rg2 0), .ref 98, .ref 1] (ku ig2 6273 0) ag2 qg2 rg2 (by rfl) ?_
    refine ko_eq (x1 := (40, [(1, .int vg2), (0, .ref 0)], [.ref 10, .ref 98, .ref 1], (0, 0), ks (ku ig2 6273 0) ag2 qg2 rg2)) (by rw [eRrg2_0]) ?_
    refine ko_callP mi_k86.1 (pc := 40) (ls := [(1, .int vg2), (0, .ref 0)]) (st := [.ref 10, .ref 98, .ref 1]) (h := ks (ku ig2 6273 0) ag2 qg2 rg2) (i := (.invokevirtual 121, 3, 43, 0, 9, 0, 205)) (mi_k86.2 _ _ (by rfl)) (ft_invS mi_pq43 (by rfl)) (cy := mi_c43) mi_pq43 rfl (kc43 (ku ig2 6273 0) ag2 qg2 rg2 10) (by decide) ?_
    rintro _ _ ⟨rfl, rfl⟩
    refine ko_eq (x1 := (43, [(1, .int vg2), (0, .ref 0)], [.ref 100, .ref 1], (0, 0), ks (ku ig2 6273 0) ag2 qg2 (ku rg2 2 10))) (by rw [eRrg2_2] <;> rfl) ?_
    have hJ6 := kG_r2 hJ4 2 rfl 0 rfl (v := 10) (v2 := 100) (by first | exact ⟨Or.inl ⟨rfl, rfl⟩, hJ4.R.2⟩ | exact ⟨Or.inr ⟨rfl, rfl⟩, hJ4.R.2⟩)
    refine ko_steps mi_in86 2 _ (47, [(1, .int vg2), (0, .ref 0)], [.int 1], (0, 0), ks (ku ig2 6273 0) ag2 qg2 (ku (ku rg2 2 10) 0 100)) (by rfl) ?_
    exact ft_ret mi_k86 (by rfl) (hP 1 _ _ _ _ hJ6 ⟨(op41 kop0), (lw_ok og2 (op167 c5 kop0) rfl rfl rfl rfl (kT3 rfl rfl rfl))⟩)
  ·
    have c7 : (0 : Int32).toInt ≤ vg2.toInt := kd_ltF c; clear c
    have b8 : ((-2147483648 : Int) ≤ vg2.toInt) ∧ (vg2.toInt ≤ 2147483647) := kd_bd vg2
    first | refine fo_goS mi_k86 fz86_20_3_24 [.int ((-100) - vg2)] (by rfl) ?_ | refine ft_go mi_k86 3 24 [(1, .int vg2), (0, .ref 0)] [.int ((-100) - vg2)] (ku ig2 6273 0) ag2 qg2 rg2 (by rfl) ?_
    exact ft_ret mi_k86 (by rfl) (hP ((-100) - vg2) _ _ _ _ hJ4 ⟨(op41 kop0), (lw_bad og2 (op153 c7 kop0) rfl eRrg2_0 eRrg2_2)⟩)
end
section
/-! THE TAPE READ, PURELY, AS THE REFERENCE READS IT: where it stands, how much is coded, the code -/
abbrev rS : Type := Int32 × Int32 × List Int32
def rHr (t : List Int32) (n : Int32) (S : rS) : Int32 := cHr t n S.1 0
def rCod (x : Int32) (S : rS) : rS := (S.1, S.2.1 + 1, S.2.2.set S.2.1.toNatClampNeg x)
def rAt1 (S : rS) : rS := (S.1 + 1, S.2)
def rTk (t : List Int32) (n c : Int32) (S : rS) : Int32 × rS := ((cTkP t n c S.1 0).1, (cTkP t n c S.1 0).2, S.2)
def opMul (x : Int32) : Int32 := if x.toInt = 42 then 13 else if x.toInt = 47 then 14 else if x.toInt = 37 then 15 else -1
def opSum (x : Int32) : Int32 := if x.toInt = 43 then 11 else if x.toInt = 45 then 12 else -1
def opCmp (x : Int32) : Int32 := if x.toInt = 60 then 8 else if x.toInt = 61 then 9 else if x.toInt = 62 then 10 else -1
def nmO (x : Int32) : Int32 := if x.toInt = 119 then 0 else if x.toInt = 112 then 1 else if x.toInt = 104 then 2 else if x.toInt = 110 then 3 else if x.toInt = 111 then 4 else if x.toInt = 100 then 5 else -1
def rLpS (t : List Int32) (n : Int32) (sub : rS → Int32 × rS) (o : Int32 → Int32) : Nat → rS → Int32 × rS
  | 0, S => (1, S)
  | k + 1, S => if (o (rHr t n S)).toInt < 0 then (1, S) else if (sub (rAt1 S)).1.toInt = 0 then (0, (sub (rAt1 S)).2) else rLpS t n sub o k (rCod (o (rHr t n S)) (sub (rAt1 S)).2)
def rMul (t : List Int32) (n : Int32) (sub : rS → Int32 × rS) (o : Int32 → Int32) (S : rS) : Int32 × rS := if (sub S).1.toInt = 0 then (0, (sub S).2) else rLpS t n sub o n.toInt.toNat (sub S).2
def rLpB (t : List Int32) (n : Int32) (sub : rS → Int32 × rS) (c x : Int32) : Nat → rS → Int32 × rS
  | 0, S => (1, S)
  | k + 1, S => if (rTk t n c S).1.toInt = 0 then (1, (rTk t n c S).2) else if (sub (rTk t n c S).2).1.toInt = 0 then (0, (sub (rTk t n c S).2).2) else rLpB t n sub c x k (rCod x (sub (rTk t n c S).2).2)
def rBin (t : List Int32) (n : Int32) (sub : rS → Int32 × rS) (c x : Int32) (S : rS) : Int32 × rS := if (sub S).1.toInt = 0 then (0, (sub S).2) else rLpB t n sub c x n.toInt.toNat (sub S).2
def rCm2 (g : Int32) (r : Int32 × rS) : Int32 × rS := if r.1.toInt = 0 then (0, r.2) else (1, rCod g r.2)
def rCmp (t : List Int32) (n : Int32) (sub : rS → Int32 × rS) (o : Int32 → Int32) (S : rS) : Int32 × rS :=
  if (sub S).1.toInt = 0 then (0, (sub S).2) else if (o (rHr t n (sub S).2)).toInt < 0 then (1, (sub S).2) else rCm2 (o (rHr t n (sub S).2)) (sub (rAt1 (sub S).2))
def rDig (t : List Int32) (n : Int32) : Nat → Int32 × Int32 → Int32 × Int32
  | 0, S => S
  | k + 1, S => if 48 ≤ (cHr t n S.2 0).toInt ∧ (cHr t n S.2 0).toInt ≤ 57 then rDig t n k (((10 * S.1) + cHr t n S.2 0) - 48, S.2 + 1) else S
def rP3 (t : List Int32) (n : Int32) (sub : rS → Int32 × rS) : rS → Int32 × rS := rMul t n sub opMul
def rP4 (t : List Int32) (n : Int32) (sub : rS → Int32 × rS) : rS → Int32 × rS := rMul t n (rP3 t n sub) opSum
def rP5 (t : List Int32) (n : Int32) (sub : rS → Int32 × rS) : rS → Int32 × rS := rCmp t n (rP4 t n sub) opCmp
def rP6 (t : List Int32) (n : Int32) (sub : rS → Int32 × rS) : rS → Int32 × rS := rBin t n (rP5 t n sub) 38 7
def rEit (t : List Int32) (n : Int32) (sub : rS → Int32 × rS) : rS → Int32 × rS := rBin t n (rP6 t n sub) 124 6
def rPar (t : List Int32) (n : Int32) (r : Int32 × rS) : Int32 × rS := if r.1.toInt = 0 then (0, r.2) else rTk t n 41 r.2
def rPart (t : List Int32) (n : Int32) (nx : Option (rS → Int32 × rS)) (S : rS) : Int32 × rS :=
  if 48 ≤ (rHr t n S).toInt ∧ (rHr t n S).toInt ≤ 57 then (1, rCod (18 + (rDig t n 4 (0, S.1)).1) ((rDig t n 4 (0, S.1)).2, S.2))
  else if 0 ≤ (nmO (rHr t n S)).toInt then (1, rCod (nmO (rHr t n S)) (rAt1 S))
  else match nx with
    | none => (0, S)
    | some sub =>
      if (rHr t n S).toInt = 33 then rCm2 16 (sub (rAt1 S))
      else if (rHr t n S).toInt = 45 then rCm2 17 (sub (rAt1 S))
      else if (rHr t n S).toInt = 40 then rPar t n (rEit t n sub (rAt1 S))
      else (0, S)
def rO (t : List Int32) (n : Int32) : Nat → rS → Int32 × rS
  | 0 => rPart t n none
  | m + 1 => rPart t n (some (rO t n m))
def rE (t : List Int32) (n : Int32) (m : Nat) : rS → Int32 × rS := rEit t n (rO t n m)
/-- lines: what was read, how many, where each asks, says, ends -/
abbrev rL : Type := rS × Int32 × List Int32 × List Int32 × List Int32
def rLn2 (Z : rL) (r : Int32 × rS) : Int32 × rL := if r.1.toInt = 0 then (0, (r.2, Z.2)) else (1, (r.2, Z.2.1 + 1, Z.2.2.1, Z.2.2.2.1, Z.2.2.2.2.set Z.2.1.toNatClampNeg r.2.2.1))
def rLn1 (t : List Int32) (n : Int32) (Z : rL) (r : Int32 × rS) : Int32 × rL :=
  if (rTk t n 63 r.2).1.toInt = 0 then rLn2 Z (1, (rTk t n 63 r.2).2)
  else rLn2 (Z.1, Z.2.1, Z.2.2.1, Z.2.2.2.1.set Z.2.1.toNatClampNeg (rTk t n 63 r.2).2.2.1, Z.2.2.2.2) (rE t n 6 (rTk t n 63 r.2).2)
def rLin (t : List Int32) (n : Int32) (Z : rL) : Int32 × rL :=
  if (rE t n 6 Z.1).1.toInt = 0 then (0, ((rE t n 6 Z.1).2, Z.2.1, Z.2.2.1.set Z.2.1.toNatClampNeg Z.1.2.1, Z.2.2.2))
  else rLn1 t n (Z.1, Z.2.1, Z.2.2.1.set Z.2.1.toNatClampNeg Z.1.2.1, Z.2.2.2.1.set Z.2.1.toNatClampNeg ((Z.2.2.1.set Z.2.1.toNatClampNeg Z.1.2.1).getD Z.2.1.toNatClampNeg 0), Z.2.2.2.2) (rE t n 6 Z.1)
def rLpL (t : List Int32) (n : Int32) : Nat → Int32 × rL → Int32 × rL
  | 0, X => X
  | k + 1, X => if X.1.toInt = 0 then X else if (rTk t n 59 X.2.1).1.toInt = 0 then (X.1, ((rTk t n 59 X.2.1).2, X.2.2)) else rLpL t n k (rLin t n ((rTk t n 59 X.2.1).2, X.2.2))
def rTxt (t : List Int32) (n : Int32) (L A Y E : List Int32) : Int32 × rL := rLpL t n n.toInt.toNat (rLin t n ((0, 0, L), 0, A, Y, E))
def rOk (n : Int32) (X : Int32 × rL) : Prop := X.1.toInt ≠ 0 ∧ X.2.1.1.toInt = n.toInt
/-! glue -/
section RG
variable {t : List Int32} {n : Int32} {sub : rS → Int32 × rS} {c v w g x y p p1 : Int32} {S S0 S1 S2 S3 S4 : rS} {R : Int32 × rS} {o : Int32 → Int32} {k m : Nat}
def rGo (t : List Int32) (n : Int32) (sub : rS → Int32 × rS) (o : Int32 → Int32) (S : rS) (R : Int32 × rS) : Prop := ∃ k : Nat, (n.toInt - S.1.toInt).toNat ≤ k ∧ rLpS t n sub o k S = R
def rGb (t : List Int32) (n : Int32) (sub : rS → Int32 × rS) (c x : Int32) (S : rS) (R : Int32 × rS) : Prop := ∃ k : Nat, (n.toInt - S.1.toInt).toNat ≤ k ∧ rLpB t n sub c x k S = R
theorem tTkR {A A1 : Int32 × List Int32} (h : (v, p1) = cTkP t n c p 0) (hA : A1 = A) : (v, (p1, A1)) = rTk t n c (p, A) := by
  subst hA
  unfold rTk
  rw [← h]
theorem tCod {L L1 : List Int32} {a a1 : Int32} (hL : L1 = L.set a.toNatClampNeg x) (ha : a1 = a + 1) (hp : p1 = p) : (p1, a1, L1) = rCod x (p, a, L) := by subst hL; subst ha; subst hp; rfl
theorem rGo_begin (o1 : (v, S1) = sub S0) (hv : ¬ (v.toInt = 0)) (h0 : 0 ≤ S1.1.toInt) : rGo t n sub o S1 (rMul t n sub o S0) := by
  refine ⟨n.toInt.toNat, by omega, ?_⟩
  unfold rMul
  rw [← o1]
  dsimp only
  rw [if_neg hv]
theorem rMu_no (o1 : (v, S1) = sub S0) (hv : v.toInt = 0) (hw : w = 0) : (w, S1) = rMul t n sub o S0 := by
  subst hw
  unfold rMul
  rw [← o1]
  dsimp only
  rw [if_pos hv]
theorem rGo_again (h : rGo t n sub o S R) (hg : g = o (rHr t n S)) (hg0 : 0 ≤ g.toInt) (hp : S.1.toInt < n.toInt) (o1 : (v, S2) = sub (rAt1 S)) (hv : ¬ (v.toInt = 0)) (o2 : S3 = rCod g S2) (hq : S.1.toInt < S3.1.toInt) : rGo t n sub o S3 R := by
  obtain ⟨k, hk, e⟩ := h
  cases k with
  | zero => omega
  | succ k =>
    refine ⟨k, by omega, ?_⟩
    unfold rLpS at e
    rw [← hg, if_neg (by omega), ← o1] at e
    dsimp only at e
    rw [if_neg hv] at e
    rw [o2]
    exact e
theorem rGo_out (h : rGo t n sub o S R) (hg : g = o (rHr t n S)) (hg0 : g.toInt < 0) (hw : w = 1) : (w, S) = R := by
  subst hw
  obtain ⟨k, hk, e⟩ := h
  cases k with
  | zero => exact e
  | succ k =>
    unfold rLpS at e
    rw [← hg, if_pos hg0] at e
    exact e
theorem rGo_no (h : rGo t n sub o S R) (hg : g = o (rHr t n S)) (hg0 : 0 ≤ g.toInt) (hp : S.1.toInt < n.toInt) (o1 : (v, S2) = sub (rAt1 S)) (hv : v.toInt = 0) (hw : w = 0) : (w, S2) = R := by
  subst hw
  obtain ⟨k, hk, e⟩ := h
  cases k with
  | zero => omega
  | succ k =>
    unfold rLpS at e
    rw [← hg, if_neg (by omega), ← o1] at e
    dsimp only at e
    rw [if_pos hv] at e
    exact e
theorem rGb_begin (o1 : (v, S1) = sub S0) (hv : ¬ (v.toInt = 0)) (h0 : 0 ≤ S1.1.toInt) : rGb t n sub c x S1 (rBin t n sub c x S0) := by
  refine ⟨n.toInt.toNat, by omega, ?_⟩
  unfold rBin
  rw [← o1]
  dsimp only
  rw [if_neg hv]
theorem rBi_no (o1 : (v, S1) = sub S0) (hv : v.toInt = 0) (hw : w = 0) : (w, S1) = rBin t n sub c x S0 := by
  subst hw
  unfold rBin
  rw [← o1]
  dsimp only
  rw [if_pos hv]
theorem rGb_again {u : Int32} (h : rGb t n sub c x S R) (o0 : (u, S1) = rTk t n c S) (hu : ¬ (u.toInt = 0)) (hp : S.1.toInt < n.toInt) (o1 : (v, S2) = sub S1) (hv : ¬ (v.toInt = 0)) (o2 : S3 = rCod x S2) (hq : S.1.toInt < S3.1.toInt) : rGb t n sub c x S3 R := by
  obtain ⟨k, hk, e⟩ := h
  cases k with
  | zero => omega
  | succ k =>
    refine ⟨k, by omega, ?_⟩
    unfold rLpB at e
    rw [← o0] at e
    dsimp only at e
    rw [if_neg hu, ← o1] at e
    dsimp only at e
    rw [if_neg hv] at e
    rw [o2]
    exact e
theorem rGb_out {u : Int32} (h : rGb t n sub c x S R) (o0 : (u, S1) = rTk t n c S) (hu : u.toInt = 0) (es : S1 = S) (hw : w = 1) : (w, S1) = R := by
  subst hw
  obtain ⟨k, hk, e⟩ := h
  cases k with
  | zero => rw [es]; exact e
  | succ k =>
    unfold rLpB at e
    rw [← o0] at e
    dsimp only at e
    rw [if_pos hu] at e
    exact e
theorem rGb_no {u : Int32} (h : rGb t n sub c x S R) (o0 : (u, S1) = rTk t n c S) (hu : ¬ (u.toInt = 0)) (hp : S.1.toInt < n.toInt) (o1 : (v, S2) = sub S1) (hv : v.toInt = 0) (hw : w = 0) : (w, S2) = R := by
  subst hw
  obtain ⟨k, hk, e⟩ := h
  cases k with
  | zero => omega
  | succ k =>
    unfold rLpB at e
    rw [← o0] at e
    dsimp only at e
    rw [if_neg hu, ← o1] at e
    dsimp only at e
    rw [if_pos hv] at e
    exact e
theorem rTk_no (o0 : (v, S1) = rTk t n c S) (hv : v.toInt = 0) : S1 = S := by
  unfold rTk cTkP at o0
  split at o0
  · have e := congrArg (fun z => z.1) o0
    dsimp only at e
    rw [e] at hv
    exact absurd hv (by decide)
  · exact congrArg (fun z => z.2) o0
theorem rTk_yes (o0 : (v, S1) = rTk t n c S) (hv : ¬ (v.toInt = 0)) : S1 = rAt1 S := by
  unfold rTk cTkP at o0
  split at o0
  · exact congrArg (fun z => z.2) o0
  · have e := congrArg (fun z => z.1) o0
    dsimp only at e
    rw [e] at hv
    exact absurd (by decide) hv
theorem rCm_no (o1 : (v, S1) = sub S0) (hv : v.toInt = 0) (hw : w = 0) : (w, S1) = rCmp t n sub o S0 := by
  subst hw
  unfold rCmp
  rw [← o1]
  dsimp only
  rw [if_pos hv]
theorem rCm_one (o1 : (v, S1) = sub S0) (hv : ¬ (v.toInt = 0)) (hg : g = o (rHr t n S1)) (hg0 : g.toInt < 0) (hw : w = 1) : (w, S1) = rCmp t n sub o S0 := by
  subst hw
  unfold rCmp
  rw [← o1]
  dsimp only
  rw [if_neg hv, ← hg, if_pos hg0]
theorem rCm_two {u : Int32} (o1 : (v, S1) = sub S0) (hv : ¬ (v.toInt = 0)) (hg : g = o (rHr t n S1)) (hg0 : 0 ≤ g.toInt) (o2 : (u, S2) = sub (rAt1 S1)) (h : (w, S3) = rCm2 g (u, S2)) : (w, S3) = rCmp t n sub o S0 := by
  unfold rCmp
  rw [← o1]
  dsimp only
  rw [if_neg hv, ← hg, if_neg (by omega), ← o2]
  exact h
theorem rC2_no (hv : v.toInt = 0) (hw : w = 0) : (w, S) = rCm2 g (v, S) := by subst hw; exact (if_pos hv).symm
theorem rC2_yes (hv : ¬ (v.toInt = 0)) (o2 : S1 = rCod g S) (hw : w = 1) : (w, S1) = rCm2 g (v, S) := by subst hw; subst o2; exact (if_neg hv).symm
theorem rDg_again {R : Int32 × Int32} (h : rDig t n m (x, p) = R) (hm : m = k + 1) (h0 : 48 ≤ (cHr t n p 0).toInt) (h1 : (cHr t n p 0).toInt ≤ 57) (hy : y = ((10 * x) + cHr t n p 0) - 48) (hs : p1 = p + 1) : rDig t n k (y, p1) = R := by
  subst hm
  unfold rDig at h
  rw [if_pos ⟨h0, h1⟩] at h
  rw [hy, hs]
  exact h
theorem rDg_out {R : Int32 × Int32} (h : rDig t n m (x, p) = R) (hn : ¬ (48 ≤ (cHr t n p 0).toInt ∧ (cHr t n p 0).toInt ≤ 57)) : (x, p) = R := by
  cases m with
  | zero => exact h
  | succ m =>
    unfold rDig at h
    rw [if_neg hn] at h
    exact h
theorem rDg_end {R : Int32 × Int32} (h : rDig t n m (x, p) = R) (hm : m = 0) : (x, p) = R := by subst hm; exact h
theorem rPt_num {nx : Option (rS → Int32 × rS)} {A : Int32 × List Int32} (h0 : 48 ≤ (rHr t n (p, A)).toInt) (h1 : (rHr t n (p, A)).toInt ≤ 57) (hD : (x, p1) = rDig t n 4 (0, p)) (hg : g = 18 + x) (o1 : S1 = rCod g (p1, A)) (hw : w = 1) : (w, S1) = rPart t n nx (p, A) := by
  subst hw
  subst hg
  unfold rPart
  rw [if_pos ⟨h0, h1⟩]
  dsimp only
  rw [← hD]
  dsimp only
  rw [← o1]
theorem rPt_nam {nx : Option (rS → Int32 × rS)} (hd : ¬ (48 ≤ (rHr t n S0).toInt ∧ (rHr t n S0).toInt ≤ 57)) (hg : g = nmO (rHr t n S0)) (hg0 : 0 ≤ g.toInt) (o1 : S1 = rCod g (rAt1 S0)) (hw : w = 1) : (w, S1) = rPart t n nx S0 := by
  subst hw
  unfold rPart
  rw [if_neg hd, ← hg, if_pos hg0, ← o1]
theorem rPt_non (hd : ¬ (48 ≤ (rHr t n S0).toInt ∧ (rHr t n S0).toInt ≤ 57)) (hg : g = nmO (rHr t n S0)) (hg0 : g.toInt < 0) (hs : S1 = S0) (hw : w = 0) : (w, S1) = rPart t n none S0 := by
  subst hw
  subst hs
  unfold rPart
  rw [if_neg hd, ← hg, if_neg (by omega)]
theorem rPt_bad (hd : ¬ (48 ≤ (rHr t n S0).toInt ∧ (rHr t n S0).toInt ≤ 57)) (hg : g = nmO (rHr t n S0)) (hg0 : g.toInt < 0) (h1 : ¬ ((rHr t n S0).toInt = 33)) (h2 : ¬ ((rHr t n S0).toInt = 45)) (h3 : ¬ ((rHr t n S0).toInt = 40)) (hs : S1 = S0) (hw : w = 0) : (w, S1) = rPart t n (some sub) S0 := by
  subst hw
  subst hs
  unfold rPart
  rw [if_neg hd, ← hg, if_neg (by omega)]
  dsimp only
  rw [if_neg h1, if_neg h2, if_neg h3]
theorem rPt_not (hd : ¬ (48 ≤ (rHr t n S0).toInt ∧ (rHr t n S0).toInt ≤ 57)) (hg : g = nmO (rHr t n S0)) (hg0 : g.toInt < 0) (h1 : (rHr t n S0).toInt = 33) (o1 : (v, S1) = sub (rAt1 S0)) (h : (w, S2) = rCm2 16 (v, S1)) : (w, S2) = rPart t n (some sub) S0 := by
  unfold rPart
  rw [if_neg hd, ← hg, if_neg (by omega)]
  dsimp only
  rw [if_pos h1, ← o1]
  exact h
theorem rPt_neg (hd : ¬ (48 ≤ (rHr t n S0).toInt ∧ (rHr t n S0).toInt ≤ 57)) (hg : g = nmO (rHr t n S0)) (hg0 : g.toInt < 0) (h1 : (rHr t n S0).toInt = 45) (o1 : (v, S1) = sub (rAt1 S0)) (h : (w, S2) = rCm2 17 (v, S1)) : (w, S2) = rPart t n (some sub) S0 := by
  unfold rPart
  rw [if_neg hd, ← hg, if_neg (by omega)]
  dsimp only
  rw [if_neg (by omega), if_pos h1, ← o1]
  exact h
theorem rPt_par (hd : ¬ (48 ≤ (rHr t n S0).toInt ∧ (rHr t n S0).toInt ≤ 57)) (hg : g = nmO (rHr t n S0)) (hg0 : g.toInt < 0) (h1 : (rHr t n S0).toInt = 40) (o1 : (v, S1) = rEit t n sub (rAt1 S0)) (h : (w, S2) = rPar t n (v, S1)) : (w, S2) = rPart t n (some sub) S0 := by
  unfold rPart
  rw [if_neg hd, ← hg, if_neg (by omega)]
  dsimp only
  rw [if_neg (by omega), if_neg (by omega), if_pos h1, ← o1]
  exact h
theorem rPa_no (hv : v.toInt = 0) (hw : w = 0) : (w, S) = rPar t n (v, S) := by subst hw; exact (if_pos hv).symm
theorem rPa_yes {u : Int32} (hv : ¬ (v.toInt = 0)) (o1 : (u, S1) = rTk t n 41 S) (hw : w = u) : (w, S1) = rPar t n (v, S) := by subst hw; rw [o1]; exact (if_neg hv).symm
end RG
theorem rO_z {t : List Int32} {nn : Int32} {n : Nat} (h : n = 0) : rO t nn n = rPart t nn none := by subst h; rfl
theorem rO_s {t : List Int32} {nn : Int32} {n m : Nat} (h : n = m + 1) : rO t nn n = rPart t nn (some (rO t nn m)) := by subst h; rfl
theorem rO_any (t : List Int32) (nn : Int32) (n : Nat) : ∃ nx, rO t nn n = rPart t nn nx := by
  cases n with
  | zero => exact ⟨_, rfl⟩
  | succ m => exact ⟨_, rfl⟩
theorem rPt_lv {t : List Int32} {nn : Int32} {n : Nat} {S0 : rS} {X : Int32 × rS} (h : ∃ nx, rO t nn n = rPart t nn nx) (g : ∀ nx, X = rPart t nn nx S0) : X = rO t nn n S0 := by
  obtain ⟨nx, e⟩ := h
  rw [e]
  exact g nx
theorem opMul_of {x g : Int32} (h : (x.toInt = 42 ∧ g.toInt = 13) ∨ (x.toInt = 47 ∧ g.toInt = 14) ∨ (x.toInt = 37 ∧ g.toInt = 15) ∨ (x.toInt ≠ 42 ∧ x.toInt ≠ 47 ∧ x.toInt ≠ 37 ∧ g.toInt = -1)) : g = opMul x := by
  apply kj_v
  have k1 : (13 : Int32).toInt = 13 := by decide
  have k2 : (14 : Int32).toInt = 14 := by decide
  have k3 : (15 : Int32).toInt = 15 := by decide
  have k4 : (-1 : Int32).toInt = -1 := by decide
  unfold opMul
  rcases h with h | h | h | h
  · rw [if_pos h.1]; omega
  · rw [if_neg (by omega), if_pos h.1]; omega
  · rw [if_neg (by omega), if_neg (by omega), if_pos h.1]; omega
  · rw [if_neg h.1, if_neg h.2.1, if_neg h.2.2.1]; omega
theorem opSum_of {x g : Int32} (h : (x.toInt = 43 ∧ g.toInt = 11) ∨ (x.toInt = 45 ∧ g.toInt = 12) ∨ (x.toInt ≠ 43 ∧ x.toInt ≠ 45 ∧ g.toInt = -1)) : g = opSum x := by
  apply kj_v
  have k1 : (11 : Int32).toInt = 11 := by decide
  have k2 : (12 : Int32).toInt = 12 := by decide
  have k4 : (-1 : Int32).toInt = -1 := by decide
  unfold opSum
  rcases h with h | h | h
  · rw [if_pos h.1]; omega
  · rw [if_neg (by omega), if_pos h.1]; omega
  · rw [if_neg h.1, if_neg h.2.1]; omega
theorem opCmp_of {x g : Int32} (h : (x.toInt = 60 ∧ g.toInt = 8) ∨ (x.toInt = 61 ∧ g.toInt = 9) ∨ (x.toInt = 62 ∧ g.toInt = 10) ∨ (x.toInt ≠ 60 ∧ x.toInt ≠ 61 ∧ x.toInt ≠ 62 ∧ g.toInt = -1)) : g = opCmp x := by
  apply kj_v
  have k1 : (8 : Int32).toInt = 8 := by decide
  have k2 : (9 : Int32).toInt = 9 := by decide
  have k3 : (10 : Int32).toInt = 10 := by decide
  have k4 : (-1 : Int32).toInt = -1 := by decide
  unfold opCmp
  rcases h with h | h | h | h
  · rw [if_pos h.1]; omega
  · rw [if_neg (by omega), if_pos h.1]; omega
  · rw [if_neg (by omega), if_neg (by omega), if_pos h.1]; omega
  · rw [if_neg h.1, if_neg h.2.1, if_neg h.2.2.1]; omega
theorem kT2 {A B : Type} {a a1 : A} {b b1 : B} (h1 : a = a1) (h2 : b = b1) : (a, b) = (a1, b1) := by subst h1; subst h2; rfl
theorem nmO_of {x g : Int32} (h : (x.toInt = 119 ∧ g.toInt = 0) ∨ (x.toInt = 112 ∧ g.toInt = 1) ∨ (x.toInt = 104 ∧ g.toInt = 2) ∨ (x.toInt = 110 ∧ g.toInt = 3) ∨ (x.toInt = 111 ∧ g.toInt = 4) ∨ (x.toInt = 100 ∧ g.toInt = 5) ∨ (x.toInt ≠ 119 ∧ x.toInt ≠ 112 ∧ x.toInt ≠ 104 ∧ x.toInt ≠ 110 ∧ x.toInt ≠ 111 ∧ x.toInt ≠ 100 ∧ g.toInt = -1)) : g = nmO x := by
  have k0 : (0 : Int32).toInt = 0 := by decide
  have k1 : (1 : Int32).toInt = 1 := by decide
  have k2 : (2 : Int32).toInt = 2 := by decide
  have k3 : (3 : Int32).toInt = 3 := by decide
  have k4 : (4 : Int32).toInt = 4 := by decide
  have k5 : (5 : Int32).toInt = 5 := by decide
  have k6 : (-1 : Int32).toInt = -1 := by decide
  apply kj_v
  unfold nmO
  rcases h with h | h | h | h | h | h | h
  · rw [if_pos h.1]; omega
  · rw [if_neg (by omega), if_pos h.1]; omega
  · rw [if_neg (by omega), if_neg (by omega), if_pos h.1]; omega
  · rw [if_neg (by omega), if_neg (by omega), if_neg (by omega), if_pos h.1]; omega
  · rw [if_neg (by omega), if_neg (by omega), if_neg (by omega), if_neg (by omega), if_pos h.1]; omega
  · rw [if_neg (by omega), if_neg (by omega), if_neg (by omega), if_neg (by omega), if_neg (by omega), if_pos h.1]; omega
  · rw [if_neg h.1, if_neg h.2.1, if_neg h.2.2.1, if_neg h.2.2.2.1, if_neg h.2.2.2.2.1, if_neg h.2.2.2.2.2.1]; omega
theorem nmO_no {x g : Int32} (h1 : x.toInt ≠ 119) (h2 : x.toInt ≠ 112) (h3 : x.toInt ≠ 104) (h4 : x.toInt ≠ 110) (h5 : x.toInt ≠ 111) (h6 : x.toInt ≠ 100) (hg : g = -1) : g = nmO x := by
  subst hg
  exact nmO_of (Or.inr (Or.inr (Or.inr (Or.inr (Or.inr (Or.inr ⟨h1, h2, h3, h4, h5, h6, by decide⟩))))))
section RLG
variable {t : List Int32} {n : Int32} {v w u nl nl1 v2 : Int32} {S0 S1 S2 S3 : rS} {A A1 Y Y1 E E1 : List Int32}
theorem rLi_no (o1 : (v, S1) = rE t n 6 S0) (hv : v.toInt = 0) (hw : w = 0) (hn : nl1 = nl) (hA : A1 = A.set nl.toNatClampNeg S0.2.1) (hY : Y1 = Y) (hE : E1 = E) : (w, (S1, nl1, A1, Y1, E1)) = rLin t n (S0, nl, A, Y, E) := by
  subst hw; subst hn; subst hA; subst hY; subst hE
  unfold rLin
  dsimp only
  rw [← o1]
  dsimp only
  rw [if_pos hv]
theorem rLi_one (o1 : (v, S1) = rE t n 6 S0) (hv : ¬ (v.toInt = 0)) (o2 : (u, S2) = rTk t n 63 S1) (hu : u.toInt = 0) (hA : A1 = A.set nl.toNatClampNeg S0.2.1) (hY : Y1 = Y.set nl.toNatClampNeg ((A.set nl.toNatClampNeg S0.2.1).getD nl.toNatClampNeg 0)) (hE : E1 = E.set nl.toNatClampNeg S2.2.1) (hn : nl1 = nl + 1) (hw : w = 1) : (w, (S2, nl1, A1, Y1, E1)) = rLin t n (S0, nl, A, Y, E) := by
  subst hw; subst hn; subst hA; subst hY; subst hE
  unfold rLin
  dsimp only
  rw [← o1]
  dsimp only
  rw [if_neg hv]
  unfold rLn1
  dsimp only
  rw [← o2]
  dsimp only
  rw [if_pos hu]
  rfl
theorem rLi_two0 (o1 : (v, S1) = rE t n 6 S0) (hv : ¬ (v.toInt = 0)) (o2 : (u, S2) = rTk t n 63 S1) (hu : ¬ (u.toInt = 0)) (o3 : (v2, S3) = rE t n 6 S2) (hA : A1 = A.set nl.toNatClampNeg S0.2.1) (hY : Y1 = (Y.set nl.toNatClampNeg ((A.set nl.toNatClampNeg S0.2.1).getD nl.toNatClampNeg 0)).set nl.toNatClampNeg S2.2.1) (hv2 : v2.toInt = 0) (hn : nl1 = nl) (hE : E1 = E) (hw : w = 0) : (w, (S3, nl1, A1, Y1, E1)) = rLin t n (S0, nl, A, Y, E) := by
  subst hw; subst hn; subst hA; subst hY; subst hE
  unfold rLin
  dsimp only
  rw [← o1]
  dsimp only
  rw [if_neg hv]
  unfold rLn1
  dsimp only
  rw [← o2]
  dsimp only
  rw [if_neg hu, ← o3]
  unfold rLn2
  dsimp only
  rw [if_pos hv2]
theorem rLi_two1 (o1 : (v, S1) = rE t n 6 S0) (hv : ¬ (v.toInt = 0)) (o2 : (u, S2) = rTk t n 63 S1) (hu : ¬ (u.toInt = 0)) (o3 : (v2, S3) = rE t n 6 S2) (hA : A1 = A.set nl.toNatClampNeg S0.2.1) (hY : Y1 = (Y.set nl.toNatClampNeg ((A.set nl.toNatClampNeg S0.2.1).getD nl.toNatClampNeg 0)).set nl.toNatClampNeg S2.2.1) (hv2 : ¬ (v2.toInt = 0)) (hE : E1 = E.set nl.toNatClampNeg S3.2.1) (hn : nl1 = nl + 1) (hw : w = 1) : (w, (S3, nl1, A1, Y1, E1)) = rLin t n (S0, nl, A, Y, E) := by
  subst hw; subst hn; subst hA; subst hY; subst hE
  unfold rLin
  dsimp only
  rw [← o1]
  dsimp only
  rw [if_neg hv]
  unfold rLn1
  dsimp only
  rw [← o2]
  dsimp only
  rw [if_neg hu, ← o3]
  unfold rLn2
  dsimp only
  rw [if_neg hv2]
def rGl (t : List Int32) (n : Int32) (X R : Int32 × rL) : Prop := ∃ k : Nat, (n.toInt - X.2.1.1.toInt).toNat ≤ k ∧ rLpL t n k X = R
theorem rGl_begin {X : Int32 × rL} {L : List Int32} (o1 : X = rLin t n ((0, 0, L), 0, A, Y, E)) (h0 : 0 ≤ X.2.1.1.toInt) : rGl t n X (rTxt t n L A Y E) := by
  refine ⟨n.toInt.toNat, by omega, ?_⟩
  unfold rTxt
  rw [o1]
theorem rGl_again {Z : rL} {X2 R : Int32 × rL} {g : Int32} (h : rGl t n (g, Z) R) (hg : ¬ (g.toInt = 0)) (o1 : (u, S1) = rTk t n 59 Z.1) (hu : ¬ (u.toInt = 0)) (hp : Z.1.1.toInt < n.toInt) (o2 : X2 = rLin t n (S1, Z.2)) (hq : Z.1.1.toInt < X2.2.1.1.toInt) : rGl t n X2 R := by
  obtain ⟨k, hk, e⟩ := h
  have hk : (n.toInt - Z.1.1.toInt).toNat ≤ k := hk
  cases k with
  | zero => omega
  | succ k =>
    refine ⟨k, by omega, ?_⟩
    unfold rLpL at e
    dsimp only at e
    rw [if_neg hg, ← o1] at e
    dsimp only at e
    rw [if_neg hu] at e
    rw [o2]
    exact e
theorem rGl_end {Z : rL} {R : Int32 × rL} {g : Int32} (h : rGl t n (g, Z) R) (hg : g.toInt = 0) : (g, Z) = R := by
  obtain ⟨k, hk, e⟩ := h
  cases k with
  | zero => exact e
  | succ k =>
    unfold rLpL at e
    dsimp only at e
    rw [if_pos hg] at e
    exact e
theorem rGl_out {Z : rL} {R : Int32 × rL} {g : Int32} (h : rGl t n (g, Z) R) (hg : ¬ (g.toInt = 0)) (o1 : (u, S1) = rTk t n 59 Z.1) (hu : u.toInt = 0) : (g, (S1, Z.2)) = R := by
  obtain ⟨k, hk, e⟩ := h
  cases k with
  | zero => rw [rTk_no o1 hu]; exact e
  | succ k =>
    unfold rLpL at e
    dsimp only at e
    rw [if_neg hg, ← o1] at e
    dsimp only at e
    rw [if_pos hu] at e
    exact e
theorem kCp_from {L0 L1 L : List Int32} {m : Nat} (e : L1 = L0) (h : kCp L1 L m) : kCp L0 L m := by subst e; exact h
end RLG
end
section
theorem koqm1 : ((-1) : Int32).toInt = (-1) := by decide
theorem koq0 : (0 : Int32).toInt = 0 := by decide
theorem koq48 : (48 : Int32).toInt = 48 := by decide
theorem koq57 : (57 : Int32).toInt = 57 := by decide
theorem koq1 : (1 : Int32).toInt = 1 := by decide
theorem koq5 : (5 : Int32).toInt = 5 := by decide
theorem koq2 : (2 : Int32).toInt = 2 := by decide
theorem koq3 : (3 : Int32).toInt = 3 := by decide
theorem koq4 : (4 : Int32).toInt = 4 := by decide
theorem koq6 : (6 : Int32).toInt = 6 := by decide
theorem koq33 : (33 : Int32).toInt = 33 := by decide
theorem koq45 : (45 : Int32).toInt = 45 := by decide
theorem koq40 : (40 : Int32).toInt = 40 := by decide
theorem koq41 : (41 : Int32).toInt = 41 := by decide
theorem koq10 : (10 : Int32).toInt = 10 := by decide
theorem koq18 : (18 : Int32).toInt = 18 := by decide
theorem koq42 : (42 : Int32).toInt = 42 := by decide
theorem koq47 : (47 : Int32).toInt = 47 := by decide
theorem koq37 : (37 : Int32).toInt = 37 := by decide
theorem koq15 : (15 : Int32).toInt = 15 := by decide
theorem koq14 : (14 : Int32).toInt = 14 := by decide
theorem koq13 : (13 : Int32).toInt = 13 := by decide
theorem koq43 : (43 : Int32).toInt = 43 := by decide
theorem koq12 : (12 : Int32).toInt = 12 := by decide
theorem koq11 : (11 : Int32).toInt = 11 := by decide
theorem koq60 : (60 : Int32).toInt = 60 := by decide
theorem koq61 : (61 : Int32).toInt = 61 := by decide
theorem koq62 : (62 : Int32).toInt = 62 := by decide
theorem koq9 : (9 : Int32).toInt = 9 := by decide
theorem koq8 : (8 : Int32).toInt = 8 := by decide
theorem koq38 : (38 : Int32).toInt = 38 := by decide
theorem koq124 : (124 : Int32).toInt = 124 := by decide
theorem koq63 : (63 : Int32).toInt = 63 := by decide
theorem koqm100 : ((-100) : Int32).toInt = (-100) := by decide
theorem koq59 : (59 : Int32).toInt = 59 := by decide
theorem oq0 {a0 a1 a2 : Int} (h0 : a0 = (-1)) : (((-1) : Int) ≤ a0) ∧ (a0 ≤ 255) ∧ ((a0 = (-1)) ∨ (a1 < a2)) := by omega
theorem oq1 {a0 a1 a2 : Int} (h0 : a0 ≤ a1) (h1 : a0 = a2) : ¬ (a1 < a2) := by omega
theorem oq2 {a0 : Int} (h0 : (0 : Int) ≤ a0) : (0 : Int) ≤ a0 := oz3 h0
theorem oq3 {a0 a1 : Int} (h0 : a0 < a1) (h1 : a1 ≤ 120) : a0 < 120 := oz702 h0 h1
theorem oq4 {a0 a1 a2 : Int} (h0 : a0 < a1) (h1 : (0 : Int) ≤ a2) (h2 : a2 ≤ 255) : (((-1) : Int) ≤ a2) ∧ (a2 ≤ 255) ∧ ((a2 = (-1)) ∨ (a0 < a1)) := by omega
theorem oq5 {a0 a1 a2 : Int} (h0 : a0 < a1) (h1 : a1 = a2) : a0 < a2 := od20 h0 h1
theorem oq6 {a0 a1 a2 a3 a4 a5 : Int} (h0 : a0 < a1) (h1 : a0 = a2) (h2 : a1 = 48) (h3 : a3 = 0) : (((a3 = 1) ∧ ((48 : Int) ≤ a2) ∧ (a2 ≤ 57) ∧ (a4 < a5)) ∨ (a3 = 0)) ∧ (((a3 = 0) → (¬ (((48 : Int) ≤ a2) ∧ (a2 ≤ 57))))) := by omega
theorem oq7 {a0 a1 a2 a3 a4 a5 : Int} (h0 : a0 < a1) (h1 : a1 = a2) (h2 : a0 = 57) (h3 : a3 = 0) : (((a3 = 1) ∧ ((48 : Int) ≤ a2) ∧ (a2 ≤ 57) ∧ (a4 < a5)) ∨ (a3 = 0)) ∧ (((a3 = 0) → (¬ (((48 : Int) ≤ a2) ∧ (a2 ≤ 57))))) := by omega
theorem oq8 {a0 a1 a2 a3 a4 a5 a6 a7 : Int} (h0 : a0 ≤ a1) (h1 : a2 ≤ a3) (h2 : a0 = a4) (h3 : a3 = a4) (h4 : (a3 = (-1)) ∨ (a5 < a6)) (h5 : a1 = 57) (h6 : a2 = 48) (h7 : a7 = 1) : (((a7 = 1) ∧ ((48 : Int) ≤ a4) ∧ (a4 ≤ 57) ∧ (a5 < a6)) ∨ (a7 = 0)) ∧ (((a7 = 0) → (¬ (((48 : Int) ≤ a4) ∧ (a4 ≤ 57))))) := by omega
theorem oq9 {a0 a1 : Int} (h0 : a0 = 100) (h1 : a1 = 5) : (((-1) : Int) ≤ a1) ∧ (a1 ≤ 5) ∧ ((a1 = (-1)) ∨ ((100 : Int) ≤ a0)) := oz730 h0 h1
theorem oq10 {a0 a1 : Int} (h0 : a0 = 100) (h1 : a1 = 5) : (a0 = 119 ∧ a1 = 0) ∨ (a0 = 112 ∧ a1 = 1) ∨ (a0 = 104 ∧ a1 = 2) ∨ (a0 = 110 ∧ a1 = 3) ∨ (a0 = 111 ∧ a1 = 4) ∨ (a0 = 100 ∧ a1 = 5) ∨ (a0 ≠ 119 ∧ a0 ≠ 112 ∧ a0 ≠ 104 ∧ a0 ≠ 110 ∧ a0 ≠ 111 ∧ a0 ≠ 100 ∧ a1 = -1) := by omega
theorem oq11 {a0 a1 : Int} (h0 : a0 = (-1)) : (((-1) : Int) ≤ a0) ∧ (a0 ≤ 5) ∧ ((a0 = (-1)) ∨ ((100 : Int) ≤ a1)) := oz731 h0
theorem oq12 {a0 : Int} (h0 : a0 = 101) : a0 ≠ 119 := by omega
theorem oq13 {a0 : Int} (h0 : a0 = 101) : a0 ≠ 112 := by omega
theorem oq14 {a0 : Int} (h0 : a0 = 101) : a0 ≠ 104 := by omega
theorem oq15 {a0 : Int} (h0 : a0 = 101) : a0 ≠ 110 := by omega
theorem oq16 {a0 : Int} (h0 : a0 = 101) : a0 ≠ 111 := by omega
theorem oq17 {a0 : Int} (h0 : a0 = 101) : a0 ≠ 100 := by omega
theorem oq18 {a0 : Int} (h0 : a0 = 102) : a0 ≠ 119 := by omega
theorem oq19 {a0 : Int} (h0 : a0 = 102) : a0 ≠ 112 := by omega
theorem oq20 {a0 : Int} (h0 : a0 = 102) : a0 ≠ 104 := by omega
theorem oq21 {a0 : Int} (h0 : a0 = 102) : a0 ≠ 110 := by omega
theorem oq22 {a0 : Int} (h0 : a0 = 102) : a0 ≠ 111 := by omega
theorem oq23 {a0 : Int} (h0 : a0 = 102) : a0 ≠ 100 := by omega
theorem oq24 {a0 : Int} (h0 : a0 = 103) : a0 ≠ 119 := by omega
theorem oq25 {a0 : Int} (h0 : a0 = 103) : a0 ≠ 112 := by omega
theorem oq26 {a0 : Int} (h0 : a0 = 103) : a0 ≠ 104 := by omega
theorem oq27 {a0 : Int} (h0 : a0 = 103) : a0 ≠ 110 := by omega
theorem oq28 {a0 : Int} (h0 : a0 = 103) : a0 ≠ 111 := by omega
theorem oq29 {a0 : Int} (h0 : a0 = 103) : a0 ≠ 100 := by omega
theorem oq30 {a0 a1 : Int} (h0 : a0 = 104) (h1 : a1 = 2) : (((-1) : Int) ≤ a1) ∧ (a1 ≤ 5) ∧ ((a1 = (-1)) ∨ ((100 : Int) ≤ a0)) := oz732 h0 h1
theorem oq31 {a0 a1 : Int} (h0 : a0 = 104) (h1 : a1 = 2) : (a0 = 119 ∧ a1 = 0) ∨ (a0 = 112 ∧ a1 = 1) ∨ (a0 = 104 ∧ a1 = 2) ∨ (a0 = 110 ∧ a1 = 3) ∨ (a0 = 111 ∧ a1 = 4) ∨ (a0 = 100 ∧ a1 = 5) ∨ (a0 ≠ 119 ∧ a0 ≠ 112 ∧ a0 ≠ 104 ∧ a0 ≠ 110 ∧ a0 ≠ 111 ∧ a0 ≠ 100 ∧ a1 = -1) := by omega
theorem oq32 {a0 : Int} (h0 : a0 = 105) : a0 ≠ 119 := by omega
theorem oq33 {a0 : Int} (h0 : a0 = 105) : a0 ≠ 112 := by omega
theorem oq34 {a0 : Int} (h0 : a0 = 105) : a0 ≠ 104 := by omega
theorem oq35 {a0 : Int} (h0 : a0 = 105) : a0 ≠ 110 := by omega
theorem oq36 {a0 : Int} (h0 : a0 = 105) : a0 ≠ 111 := by omega
theorem oq37 {a0 : Int} (h0 : a0 = 105) : a0 ≠ 100 := by omega
theorem oq38 {a0 : Int} (h0 : a0 = 106) : a0 ≠ 119 := by omega
theorem oq39 {a0 : Int} (h0 : a0 = 106) : a0 ≠ 112 := by omega
theorem oq40 {a0 : Int} (h0 : a0 = 106) : a0 ≠ 104 := by omega
theorem oq41 {a0 : Int} (h0 : a0 = 106) : a0 ≠ 110 := by omega
theorem oq42 {a0 : Int} (h0 : a0 = 106) : a0 ≠ 111 := by omega
theorem oq43 {a0 : Int} (h0 : a0 = 106) : a0 ≠ 100 := by omega
theorem oq44 {a0 : Int} (h0 : a0 = 107) : a0 ≠ 119 := by omega
theorem oq45 {a0 : Int} (h0 : a0 = 107) : a0 ≠ 112 := by omega
theorem oq46 {a0 : Int} (h0 : a0 = 107) : a0 ≠ 104 := by omega
theorem oq47 {a0 : Int} (h0 : a0 = 107) : a0 ≠ 110 := by omega
theorem oq48 {a0 : Int} (h0 : a0 = 107) : a0 ≠ 111 := by omega
theorem oq49 {a0 : Int} (h0 : a0 = 107) : a0 ≠ 100 := by omega
theorem oq50 {a0 : Int} (h0 : a0 = 108) : a0 ≠ 119 := by omega
theorem oq51 {a0 : Int} (h0 : a0 = 108) : a0 ≠ 112 := by omega
theorem oq52 {a0 : Int} (h0 : a0 = 108) : a0 ≠ 104 := by omega
theorem oq53 {a0 : Int} (h0 : a0 = 108) : a0 ≠ 110 := by omega
theorem oq54 {a0 : Int} (h0 : a0 = 108) : a0 ≠ 111 := by omega
theorem oq55 {a0 : Int} (h0 : a0 = 108) : a0 ≠ 100 := by omega
theorem oq56 {a0 : Int} (h0 : a0 = 109) : a0 ≠ 119 := by omega
theorem oq57 {a0 : Int} (h0 : a0 = 109) : a0 ≠ 112 := by omega
theorem oq58 {a0 : Int} (h0 : a0 = 109) : a0 ≠ 104 := by omega
theorem oq59 {a0 : Int} (h0 : a0 = 109) : a0 ≠ 110 := by omega
theorem oq60 {a0 : Int} (h0 : a0 = 109) : a0 ≠ 111 := by omega
theorem oq61 {a0 : Int} (h0 : a0 = 109) : a0 ≠ 100 := by omega
theorem oq62 {a0 a1 : Int} (h0 : a0 = 110) (h1 : a1 = 3) : (((-1) : Int) ≤ a1) ∧ (a1 ≤ 5) ∧ ((a1 = (-1)) ∨ ((100 : Int) ≤ a0)) := oz733 h0 h1
theorem oq63 {a0 a1 : Int} (h0 : a0 = 110) (h1 : a1 = 3) : (a0 = 119 ∧ a1 = 0) ∨ (a0 = 112 ∧ a1 = 1) ∨ (a0 = 104 ∧ a1 = 2) ∨ (a0 = 110 ∧ a1 = 3) ∨ (a0 = 111 ∧ a1 = 4) ∨ (a0 = 100 ∧ a1 = 5) ∨ (a0 ≠ 119 ∧ a0 ≠ 112 ∧ a0 ≠ 104 ∧ a0 ≠ 110 ∧ a0 ≠ 111 ∧ a0 ≠ 100 ∧ a1 = -1) := by omega
theorem oq64 {a0 a1 : Int} (h0 : a0 = 111) (h1 : a1 = 4) : (((-1) : Int) ≤ a1) ∧ (a1 ≤ 5) ∧ ((a1 = (-1)) ∨ ((100 : Int) ≤ a0)) := oz734 h0 h1
theorem oq65 {a0 a1 : Int} (h0 : a0 = 111) (h1 : a1 = 4) : (a0 = 119 ∧ a1 = 0) ∨ (a0 = 112 ∧ a1 = 1) ∨ (a0 = 104 ∧ a1 = 2) ∨ (a0 = 110 ∧ a1 = 3) ∨ (a0 = 111 ∧ a1 = 4) ∨ (a0 = 100 ∧ a1 = 5) ∨ (a0 ≠ 119 ∧ a0 ≠ 112 ∧ a0 ≠ 104 ∧ a0 ≠ 110 ∧ a0 ≠ 111 ∧ a0 ≠ 100 ∧ a1 = -1) := by omega
theorem oq66 {a0 a1 : Int} (h0 : a0 = 112) (h1 : a1 = 1) : (((-1) : Int) ≤ a1) ∧ (a1 ≤ 5) ∧ ((a1 = (-1)) ∨ ((100 : Int) ≤ a0)) := oz735 h0 h1
theorem oq67 {a0 a1 : Int} (h0 : a0 = 112) (h1 : a1 = 1) : (a0 = 119 ∧ a1 = 0) ∨ (a0 = 112 ∧ a1 = 1) ∨ (a0 = 104 ∧ a1 = 2) ∨ (a0 = 110 ∧ a1 = 3) ∨ (a0 = 111 ∧ a1 = 4) ∨ (a0 = 100 ∧ a1 = 5) ∨ (a0 ≠ 119 ∧ a0 ≠ 112 ∧ a0 ≠ 104 ∧ a0 ≠ 110 ∧ a0 ≠ 111 ∧ a0 ≠ 100 ∧ a1 = -1) := by omega
theorem oq68 {a0 : Int} (h0 : a0 = 113) : a0 ≠ 119 := by omega
theorem oq69 {a0 : Int} (h0 : a0 = 113) : a0 ≠ 112 := by omega
theorem oq70 {a0 : Int} (h0 : a0 = 113) : a0 ≠ 104 := by omega
theorem oq71 {a0 : Int} (h0 : a0 = 113) : a0 ≠ 110 := by omega
theorem oq72 {a0 : Int} (h0 : a0 = 113) : a0 ≠ 111 := by omega
theorem oq73 {a0 : Int} (h0 : a0 = 113) : a0 ≠ 100 := by omega
theorem oq74 {a0 : Int} (h0 : a0 = 114) : a0 ≠ 119 := by omega
theorem oq75 {a0 : Int} (h0 : a0 = 114) : a0 ≠ 112 := by omega
theorem oq76 {a0 : Int} (h0 : a0 = 114) : a0 ≠ 104 := by omega
theorem oq77 {a0 : Int} (h0 : a0 = 114) : a0 ≠ 110 := by omega
theorem oq78 {a0 : Int} (h0 : a0 = 114) : a0 ≠ 111 := by omega
theorem oq79 {a0 : Int} (h0 : a0 = 114) : a0 ≠ 100 := by omega
theorem oq80 {a0 : Int} (h0 : a0 = 115) : a0 ≠ 119 := by omega
theorem oq81 {a0 : Int} (h0 : a0 = 115) : a0 ≠ 112 := by omega
theorem oq82 {a0 : Int} (h0 : a0 = 115) : a0 ≠ 104 := by omega
theorem oq83 {a0 : Int} (h0 : a0 = 115) : a0 ≠ 110 := by omega
theorem oq84 {a0 : Int} (h0 : a0 = 115) : a0 ≠ 111 := by omega
theorem oq85 {a0 : Int} (h0 : a0 = 115) : a0 ≠ 100 := by omega
theorem oq86 {a0 : Int} (h0 : a0 = 116) : a0 ≠ 119 := by omega
theorem oq87 {a0 : Int} (h0 : a0 = 116) : a0 ≠ 112 := by omega
theorem oq88 {a0 : Int} (h0 : a0 = 116) : a0 ≠ 104 := by omega
theorem oq89 {a0 : Int} (h0 : a0 = 116) : a0 ≠ 110 := by omega
theorem oq90 {a0 : Int} (h0 : a0 = 116) : a0 ≠ 111 := by omega
theorem oq91 {a0 : Int} (h0 : a0 = 116) : a0 ≠ 100 := by omega
theorem oq92 {a0 : Int} (h0 : a0 = 117) : a0 ≠ 119 := by omega
theorem oq93 {a0 : Int} (h0 : a0 = 117) : a0 ≠ 112 := by omega
theorem oq94 {a0 : Int} (h0 : a0 = 117) : a0 ≠ 104 := by omega
theorem oq95 {a0 : Int} (h0 : a0 = 117) : a0 ≠ 110 := by omega
theorem oq96 {a0 : Int} (h0 : a0 = 117) : a0 ≠ 111 := by omega
theorem oq97 {a0 : Int} (h0 : a0 = 117) : a0 ≠ 100 := by omega
theorem oq98 {a0 : Int} (h0 : a0 = 118) : a0 ≠ 119 := by omega
theorem oq99 {a0 : Int} (h0 : a0 = 118) : a0 ≠ 112 := by omega
theorem oq100 {a0 : Int} (h0 : a0 = 118) : a0 ≠ 104 := by omega
theorem oq101 {a0 : Int} (h0 : a0 = 118) : a0 ≠ 110 := by omega
theorem oq102 {a0 : Int} (h0 : a0 = 118) : a0 ≠ 111 := by omega
theorem oq103 {a0 : Int} (h0 : a0 = 118) : a0 ≠ 100 := by omega
theorem oq104 {a0 a1 : Int} (h0 : a0 = 119) (h1 : a1 = 0) : (((-1) : Int) ≤ a1) ∧ (a1 ≤ 5) ∧ ((a1 = (-1)) ∨ ((100 : Int) ≤ a0)) := oz736 h0 h1
theorem oq105 {a0 a1 : Int} (h0 : a0 = 119) (h1 : a1 = 0) : (a0 = 119 ∧ a1 = 0) ∨ (a0 = 112 ∧ a1 = 1) ∨ (a0 = 104 ∧ a1 = 2) ∨ (a0 = 110 ∧ a1 = 3) ∨ (a0 = 111 ∧ a1 = 4) ∨ (a0 = 100 ∧ a1 = 5) ∨ (a0 ≠ 119 ∧ a0 ≠ 112 ∧ a0 ≠ 104 ∧ a0 ≠ 110 ∧ a0 ≠ 111 ∧ a0 ≠ 100 ∧ a1 = -1) := by omega
theorem oq106 {a0 : Int} (h0 : ¬ (a0 = 100)) (h1 : ¬ (a0 = 101)) (h2 : ¬ (a0 = 102)) (h3 : ¬ (a0 = 103)) (h4 : ¬ (a0 = 104)) (h5 : ¬ (a0 = 105)) (h6 : ¬ (a0 = 106)) (h7 : ¬ (a0 = 107)) (h8 : ¬ (a0 = 108)) (h9 : ¬ (a0 = 109)) (h10 : ¬ (a0 = 110)) (h11 : ¬ (a0 = 111)) (h12 : ¬ (a0 = 112)) (h13 : ¬ (a0 = 113)) (h14 : ¬ (a0 = 114)) (h15 : ¬ (a0 = 115)) (h16 : ¬ (a0 = 116)) (h17 : ¬ (a0 = 117)) (h18 : ¬ (a0 = 118)) (h19 : ¬ (a0 = 119)) : a0 < 100 ∨ 119 < a0 := oz737 h0 h1 h2 h3 h4 h5 h6 h7 h8 h9 h10 h11 h12 h13 h14 h15 h16 h17 h18 h19
theorem oq107 {a0 : Int} (h0 : ¬ (a0 = 100)) (h1 : ¬ (a0 = 109)) (h2 : ¬ (a0 = 110)) (h3 : ¬ (a0 = 111)) (h4 : ¬ (a0 = 112)) (h5 : ¬ (a0 = 113)) (h6 : ¬ (a0 = 114)) (h7 : ¬ (a0 = 115)) (h8 : ¬ (a0 = 116)) (h9 : ¬ (a0 = 117)) (h10 : ¬ (a0 = 118)) (h11 : ¬ (a0 = 101)) (h12 : ¬ (a0 = 119)) (h13 : ¬ (a0 = 102)) (h14 : ¬ (a0 = 103)) (h15 : ¬ (a0 = 104)) (h16 : ¬ (a0 = 105)) (h17 : ¬ (a0 = 106)) (h18 : ¬ (a0 = 107)) (h19 : ¬ (a0 = 108)) : a0 ≠ 119 := by omega
theorem oq108 {a0 : Int} (h0 : ¬ (a0 = 100)) (h1 : ¬ (a0 = 109)) (h2 : ¬ (a0 = 110)) (h3 : ¬ (a0 = 111)) (h4 : ¬ (a0 = 112)) (h5 : ¬ (a0 = 101)) (h6 : ¬ (a0 = 102)) (h7 : ¬ (a0 = 103)) (h8 : ¬ (a0 = 104)) (h9 : ¬ (a0 = 105)) (h10 : ¬ (a0 = 106)) (h11 : ¬ (a0 = 107)) (h12 : ¬ (a0 = 108)) : a0 ≠ 112 := by omega
theorem oq109 {a0 : Int} (h0 : ¬ (a0 = 100)) (h1 : ¬ (a0 = 101)) (h2 : ¬ (a0 = 102)) (h3 : ¬ (a0 = 103)) (h4 : ¬ (a0 = 104)) : a0 ≠ 104 := by omega
theorem oq110 {a0 : Int} (h0 : ¬ (a0 = 100)) (h1 : ¬ (a0 = 109)) (h2 : ¬ (a0 = 110)) (h3 : ¬ (a0 = 101)) (h4 : ¬ (a0 = 102)) (h5 : ¬ (a0 = 103)) (h6 : ¬ (a0 = 104)) (h7 : ¬ (a0 = 105)) (h8 : ¬ (a0 = 106)) (h9 : ¬ (a0 = 107)) (h10 : ¬ (a0 = 108)) : a0 ≠ 110 := by omega
theorem oq111 {a0 : Int} (h0 : ¬ (a0 = 100)) (h1 : ¬ (a0 = 109)) (h2 : ¬ (a0 = 110)) (h3 : ¬ (a0 = 111)) (h4 : ¬ (a0 = 101)) (h5 : ¬ (a0 = 102)) (h6 : ¬ (a0 = 103)) (h7 : ¬ (a0 = 104)) (h8 : ¬ (a0 = 105)) (h9 : ¬ (a0 = 106)) (h10 : ¬ (a0 = 107)) (h11 : ¬ (a0 = 108)) : a0 ≠ 111 := by omega
theorem oq112 {a0 : Int} (h0 : ¬ (a0 = 100)) : a0 ≠ 100 := by omega
theorem oq113 {a0 a1 : Int} (h0 : (-2147483648 : Int) ≤ a0) (h1 : a1 = 1) : (-2147483648 : Int) ≤ a0 + a1 := oz738 h0 h1
theorem oq114 {a0 a1 a2 : Int} (h0 : (0 : Int) ≤ a0) (h1 : (a1 + a0) = 6) (h2 : a2 = 1) : a1 + a2 ≤ 2147483647 := oz739 h0 h1 h2
theorem oq115 {a0 a1 : Int} (h0 : (0 : Int) ≤ a0) (h1 : a1 = 1) : (-2147483648 : Int) ≤ a0 + a1 := oz12 h0 h1
theorem oq116 {a0 a1 : Int} (h0 : a0 ≤ 120) (h1 : a1 = 1) : a0 + a1 ≤ 2147483647 := oz192 h0 h1
theorem oq117 {a0 a1 a2 : Int} (h0 : (0 : Int) ≤ a0) (h1 : a1 = a0 + a2) (h2 : a2 = 1) : (0 : Int) ≤ a1 := oz14 h0 h1 h2
theorem oq118 {a0 a1 a2 a3 a4 a5 : Int} (h0 : a0 = a1) (h1 : a2 ≤ 120) (h2 : (0 : Int) ≤ a1) (h3 : a3 = a4 + a5) (h4 : (a0 = (-1)) ∨ (a4 < a2)) (h5 : a5 = 1) : a3 ≤ 120 := oz927 h0 h1 h2 h3 h4 h5
theorem oq119 {a0 a1 a2 a3 a4 a5 a6 : Int} (h0 : a0 = a1) (h1 : (0 : Int) ≤ a1) (h2 : a0 = a2) (h3 : a3 = a4 + a5) (h4 : (a0 = (-1)) ∨ (a4 < a6)) (h5 : a5 = 1) : (((a5 = 1) ∧ (a3 = (a4 + 1)) ∧ (a4 < a6) ∧ (a2 = a1)) ∨ ((a5 = 0) ∧ (a3 = a4))) ∧ (((a5 = 0) → (a2 ≠ a1))) := by omega
theorem oq120 {a0 a1 a2 : Int} (h0 : a0 = a1) (h1 : a0 = a2) : a2 = a1 := ou85 h0 h1
theorem oq121 {a0 a1 a2 a3 a4 a5 : Int} (h0 : a0 ≠ a1) (h1 : a0 = a2) (h2 : a3 = 0) : (((a3 = 1) ∧ (a4 = (a4 + 1)) ∧ (a4 < a5) ∧ (a2 = a1)) ∨ ((a3 = 0) ∧ (a4 = a4))) ∧ (((a3 = 0) → (a2 ≠ a1))) := by omega
theorem oq122 {a0 a1 a2 : Int} (h0 : a0 ≠ a1) (h1 : a0 = a2) : ¬ (a2 = a1) := ou86 h0 h1
theorem oq123 {a0 : Int} (h0 : a0 = 33) : (0 : Int) ≤ a0 := oz742 h0
theorem oq124 {a0 : Int} (h0 : a0 = 45) : (0 : Int) ≤ a0 := oz759 h0
theorem oq125 {a0 : Int} (h0 : a0 = 40) : (0 : Int) ≤ a0 := oz770 h0
theorem oq126 {a0 a1 a2 a3 a4 a5 : Int} (h0 : (-2147483648 : Int) ≤ a0) (h1 : a1 = a2) (h2 : a3 = a1) (h3 : a4 = a3) (h4 : a2 = a0 + a5) (h5 : a5 = 1) : (-2147483648 : Int) ≤ a4 - a5 := oz782 h0 h1 h2 h3 h4 h5
theorem oq127 {a0 a1 a2 a3 a4 a5 a6 : Int} (h0 : a0 = a1) (h1 : a2 = a0) (h2 : a3 = a2) (h3 : (0 : Int) ≤ a4) (h4 : (a5 + a4) = 6) (h5 : a1 = a5 + a6) (h6 : a6 = 1) : a3 - a6 ≤ 2147483647 := oz783 h0 h1 h2 h3 h4 h5 h6
theorem oq128 {a0 a1 a2 a3 a4 a5 a6 a7 a8 a9 a10 a11 a12 a13 a14 a15 a16 a17 a18 a19 a20 a21 a22 a23 a24 a25 a26 a27 a28 : Int} (h0 : a0 = a1) (h1 : a2 = a1) (h2 : a3 = a1) (h3 : a4 = a5) (h4 : a6 = a7) (h5 : a8 = a9) (h6 : a10 = a4) (h7 : a11 = a6) (h8 : a12 = a8) (h9 : a13 = a10) (h10 : a14 = a11) (h11 : a15 = a12) (h12 : a16 ≤ a5) (h13 : a7 = a17 + a18) (h14 : a19 = a14 - a18) (h15 : ((a0 = 1) ∧ (a20 = (a16 + 1)) ∧ (a16 < a5) ∧ (a21 = a22)) ∨ ((a0 = 0) ∧ (a20 = a16))) (h16 : ((a2 = 1) ∧ (a23 = (a20 + 1)) ∧ (a20 < a4) ∧ (a24 = a25)) ∨ ((a2 = 0) ∧ (a23 = a20))) (h17 : ((a3 = 1) ∧ (a26 = (a23 + 1)) ∧ (a23 < a10) ∧ (a27 = a28)) ∨ ((a3 = 0) ∧ (a26 = a23))) (h18 : a1 = 0) (h19 : a18 = 1) (h20 : a22 = 33) (h21 : a25 = 45) (h22 : a28 = 40) : (a19 = a17) ∧ (a16 ≤ a26) ∧ (a26 ≤ a13) ∧ ((a15 - a26) ≤ (a9 - a16)) ∧ (a9 ≤ a15) ∧ ((0 : Int) ≤ a1) ∧ (a1 ≤ 1) ∧ (((a1 = 1) → ((a16 + 1) ≤ a26))) := ⟨by omega, by omega, by omega, by omega, by omega, by omega, by omega, by omega⟩
theorem oq129 {a0 a1 a2 : Int} (h0 : a0 = a1) (h1 : ((a0 = 0) → (¬ (((48 : Int) ≤ a2) ∧ (a2 ≤ 57))))) (h2 : a1 = 0) : ¬ (48 ≤ a2 ∧ a2 ≤ 57) := by omega
theorem oq130 {a0 a1 : Int} (h0 : a0 < a1) (h1 : a1 = 0) : a0 < 0 := oz1670 h0 h1
theorem oq131 {a0 a1 a2 : Int} (h0 : a0 ≠ a1) (h1 : (0 : Int) ≤ a2) (h2 : (a0 + a2) = 6) (h3 : a1 = 6) : (1 : Int) ≤ a2 := oz743 h0 h1 h2 h3
theorem oq132 {a0 a1 a2 a3 : Int} (h0 : a0 = a1) (h1 : ((a0 = 0) → (a2 ≠ a3))) (h2 : a1 = 0) (h3 : a3 = 33) : ¬ (a2 = 33) := by omega
theorem oq133 {a0 a1 a2 a3 a4 a5 a6 a7 a8 a9 : Int} (h0 : a0 = a1) (h1 : a2 = a1) (h2 : (a3 = a4 → a5 = a6)) (h3 : ((a0 = 1) ∧ (a3 = (a4 + 1)) ∧ (a4 < a7) ∧ (a6 = a8)) ∨ ((a0 = 0) ∧ (a3 = a4))) (h4 : ((a2 = 0) → (a5 ≠ a9))) (h5 : a1 = 0) (h6 : a8 = 33) (h7 : a9 = 45) : ¬ (a6 = 45) := by omega
theorem oq134 {a0 a1 a2 a3 a4 a5 a6 a7 a8 a9 a10 a11 a12 a13 a14 : Int} (h0 : a0 = a1) (h1 : a2 = a1) (h2 : a3 = a1) (h3 : (a4 = a5 → a6 = a7)) (h4 : (a8 = a4 → a9 = a6)) (h5 : ((a0 = 1) ∧ (a4 = (a5 + 1)) ∧ (a5 < a10) ∧ (a7 = a11)) ∨ ((a0 = 0) ∧ (a4 = a5))) (h6 : ((a2 = 1) ∧ (a8 = (a4 + 1)) ∧ (a4 < a12) ∧ (a6 = a13)) ∨ ((a2 = 0) ∧ (a8 = a4))) (h7 : ((a3 = 0) → (a9 ≠ a14))) (h8 : a1 = 0) (h9 : a11 = 33) (h10 : a13 = 45) (h11 : a14 = 40) : ¬ (a7 = 40) := by omega
theorem oq135 {a0 a1 a2 a3 a4 a5 a6 a7 a8 a9 a10 a11 a12 a13 a14 a15 a16 : Int} (h0 : a0 = a1) (h1 : a2 = a1) (h2 : a3 = a1) (h3 : ((a0 = 1) ∧ (a4 = (a5 + 1)) ∧ (a5 < a6) ∧ (a7 = a8)) ∨ ((a0 = 0) ∧ (a4 = a5))) (h4 : ((a2 = 1) ∧ (a9 = (a4 + 1)) ∧ (a4 < a10) ∧ (a11 = a12)) ∨ ((a2 = 0) ∧ (a9 = a4))) (h5 : ((a3 = 1) ∧ (a13 = (a9 + 1)) ∧ (a9 < a14) ∧ (a15 = a16)) ∨ ((a3 = 0) ∧ (a13 = a9))) (h6 : a1 = 0) (h7 : a8 = 33) (h8 : a12 = 45) (h9 : a16 = 40) : a13 = a5 := by omega
theorem oq136 {a0 a1 a2 a3 a4 a5 a6 a7 : Int} (h0 : a0 = a1) (h1 : a2 = a0) (h2 : a3 = a2) (h3 : a4 = a5 + 1) (h4 : (a6 + a4) = 6) (h5 : a1 = a6 + a7) (h6 : a7 = 1) : (a3 + a5) = 6 := oz771 h0 h1 h2 h3 h4 h5 h6
theorem oq137 {a0 a1 a2 a3 a4 a5 a6 a7 a8 a9 a10 a11 a12 a13 a14 a15 a16 a17 a18 a19 a20 : Int} (h0 : a0 = a1) (h1 : a2 = a1) (h2 : a3 = a4) (h3 : a5 = a3) (h4 : a6 = a5) (h5 : a4 ≤ a7) (h6 : ((a0 = 1) ∧ (a8 = (a7 + 1)) ∧ (a7 < a9) ∧ (a10 = a11)) ∨ ((a0 = 0) ∧ (a8 = a7))) (h7 : ((a2 = 1) ∧ (a12 = (a8 + 1)) ∧ (a8 < a13) ∧ (a14 = a15)) ∨ ((a2 = 0) ∧ (a12 = a8))) (h8 : ((a16 = 1) ∧ (a17 = (a12 + 1)) ∧ (a12 < a18) ∧ (a19 = a20)) ∨ ((a16 = 0) ∧ (a17 = a12))) (h9 : a1 = 0) (h10 : a11 = 33) (h11 : a15 = 45) (h12 : a20 = 40) : a6 ≤ a17 := by omega
theorem oq138 {a0 a1 a2 a3 a4 a5 a6 a7 : Int} (h0 : a0 ≠ a1) (h1 : a2 = a3) (h2 : ((a0 = 1) ∧ (a4 = (a5 + 1)) ∧ (a5 < a3) ∧ (a6 = a7)) ∨ ((a0 = 0) ∧ (a4 = a5))) (h3 : a1 = 0) (h4 : a7 = 40) : a4 ≤ a2 := by omega
theorem oq139 {a0 a1 a2 a3 a4 a5 a6 : Int} (h0 : (-2147483648 : Int) ≤ a0) (h1 : a1 = a2) (h2 : a3 = a1) (h3 : a4 = a3) (h4 : a2 = a0 + a5) (h5 : a6 = a4) (h6 : a5 = 1) : (-2147483648 : Int) ≤ a6 - a5 := oz779 h0 h1 h2 h3 h4 h5 h6
theorem oq140 {a0 a1 a2 a3 a4 a5 a6 a7 : Int} (h0 : a0 = a1) (h1 : a2 = a0) (h2 : a3 = a2) (h3 : (0 : Int) ≤ a4) (h4 : (a5 + a4) = 6) (h5 : a1 = a5 + a6) (h6 : a7 = a3) (h7 : a6 = 1) : a7 - a6 ≤ 2147483647 := oz780 h0 h1 h2 h3 h4 h5 h6 h7
theorem oq142 {a0 a1 a2 a3 a4 a5 a6 a7 a8 a9 a10 a11 a12 a13 a14 a15 a16 a17 : Int} (h0 : a0 = a1) (h1 : a2 = a1) (h2 : a3 ≠ a1) (h3 : a4 = a1) (h4 : (a5 = a6 → a7 = a8)) (h5 : (a9 = a5 → a10 = a7)) (h6 : ((a0 = 1) ∧ (a5 = (a6 + 1)) ∧ (a6 < a11) ∧ (a8 = a12)) ∨ ((a0 = 0) ∧ (a5 = a6))) (h7 : ((a2 = 1) ∧ (a9 = (a5 + 1)) ∧ (a5 < a13) ∧ (a7 = a14)) ∨ ((a2 = 0) ∧ (a9 = a5))) (h8 : ((a3 = 1) ∧ (a15 = (a9 + 1)) ∧ (a9 < a16) ∧ (a10 = a17)) ∨ ((a3 = 0) ∧ (a15 = a9))) (h9 : ((a4 = 0) → (¬ (((48 : Int) ≤ a8) ∧ (a8 ≤ 57))))) (h10 : a1 = 0) (h11 : a12 = 33) (h12 : a14 = 45) (h13 : a17 = 40) : ¬ (48 ≤ a8 ∧ a8 ≤ 57) := by omega
theorem oq143 {a0 a1 : Int} (h0 : a0 = a1) (h1 : (0 : Int) ≤ a0) (h2 : a1 = 0) : a0 = 0 := od48 h0 h1 h2
theorem oq144 {a0 a1 a2 a3 a4 a5 a6 a7 a8 a9 a10 a11 a12 a13 a14 a15 a16 : Int} (h0 : a0 = a1) (h1 : a2 = a1) (h2 : a3 ≠ a1) (h3 : (a4 = a5 → a6 = a7)) (h4 : (a8 = a4 → a9 = a6)) (h5 : ((a0 = 1) ∧ (a4 = (a5 + 1)) ∧ (a5 < a10) ∧ (a7 = a11)) ∨ ((a0 = 0) ∧ (a4 = a5))) (h6 : ((a2 = 1) ∧ (a8 = (a4 + 1)) ∧ (a4 < a12) ∧ (a6 = a13)) ∨ ((a2 = 0) ∧ (a8 = a4))) (h7 : ((a3 = 1) ∧ (a14 = (a8 + 1)) ∧ (a8 < a15) ∧ (a9 = a16)) ∨ ((a3 = 0) ∧ (a14 = a8))) (h8 : a1 = 0) (h9 : a11 = 33) (h10 : a13 = 45) (h11 : a16 = 40) : a7 = 40 := by omega
theorem oq145 {a0 a1 : Int} (h0 : a0 = a1) (h1 : a1 = 0) : a0 = 0 := og41 h0 h1
theorem oq146 {a0 a1 a2 a3 a4 a5 a6 : Int} (h0 : a0 ≠ a1) (h1 : ((a0 = 1) ∧ (a2 = (a3 + 1)) ∧ (a3 < a4) ∧ (a5 = a6)) ∨ ((a0 = 0) ∧ (a2 = a3))) (h2 : a1 = 0) (h3 : a6 = 40) : ¬ (a0 = 0) := by omega
theorem oq147 {a0 : Int} (h0 : a0 = 41) : (0 : Int) ≤ a0 := oz774 h0
theorem oq148 {a0 a1 a2 a3 a4 a5 a6 a7 : Int} (h0 : (-2147483648 : Int) ≤ a0) (h1 : a1 = a2) (h2 : a3 = a1) (h3 : a4 = a3) (h4 : a5 = a6) (h5 : a2 = a0 + a7) (h6 : a6 = a4) (h7 : a7 = 1) : (-2147483648 : Int) ≤ a5 - a7 := oz775 h0 h1 h2 h3 h4 h5 h6 h7
theorem oq149 {a0 a1 a2 a3 a4 a5 a6 a7 a8 : Int} (h0 : a0 = a1) (h1 : a2 = a0) (h2 : a3 = a2) (h3 : a4 = a5) (h4 : (0 : Int) ≤ a6) (h5 : (a7 + a6) = 6) (h6 : a1 = a7 + a8) (h7 : a5 = a3) (h8 : a8 = 1) : a4 - a8 ≤ 2147483647 := oz776 h0 h1 h2 h3 h4 h5 h6 h7 h8
theorem oq151 {a0 a1 : Int} (h0 : a0 ≠ a1) (h1 : (0 : Int) ≤ a0) (h2 : a1 = 0) : ¬ (a0 = 0) := od60 h0 h1 h2
theorem oq152 {a0 a1 : Int} (h0 : a0 = a1) (h1 : a1 = 0) : a1 = a0 := by omega
theorem oq154 {a0 a1 a2 a3 a4 a5 a6 a7 : Int} (h0 : a0 ≠ a1) (h1 : ((a0 = 1) ∧ (a2 = (a3 + 1)) ∧ (a3 < a4) ∧ (a5 = a6)) ∨ ((a0 = 0) ∧ (a2 = a3))) (h2 : a1 = 0) (h3 : a6 = 41) (h4 : a7 = 1) : a7 = a0 := by omega
theorem oq155 {a0 a1 a2 a3 a4 a5 a6 : Int} (h0 : a0 = a1) (h1 : a2 = a0) (h2 : a3 = a4 + 1) (h3 : (a5 + a3) = 6) (h4 : a1 = a5 + a6) (h5 : a6 = 1) : (a2 + a4) = 6 := oz760 h0 h1 h2 h3 h4 h5
theorem oq156 {a0 a1 a2 a3 a4 a5 a6 a7 a8 a9 a10 a11 a12 a13 a14 : Int} (h0 : a0 = a1) (h1 : a2 = a3) (h2 : a4 = a2) (h3 : a3 ≤ a5) (h4 : ((a0 = 1) ∧ (a6 = (a5 + 1)) ∧ (a5 < a7) ∧ (a8 = a9)) ∨ ((a0 = 0) ∧ (a6 = a5))) (h5 : ((a10 = 1) ∧ (a11 = (a6 + 1)) ∧ (a6 < a12) ∧ (a13 = a14)) ∨ ((a10 = 0) ∧ (a11 = a6))) (h6 : a1 = 0) (h7 : a9 = 33) (h8 : a14 = 45) : a4 ≤ a11 := by omega
theorem oq157 {a0 a1 a2 a3 a4 a5 a6 a7 : Int} (h0 : a0 ≠ a1) (h1 : a2 = a3) (h2 : ((a0 = 1) ∧ (a4 = (a5 + 1)) ∧ (a5 < a3) ∧ (a6 = a7)) ∨ ((a0 = 0) ∧ (a4 = a5))) (h3 : a1 = 0) (h4 : a7 = 45) : a4 ≤ a2 := by omega
theorem oq158 {a0 a1 a2 a3 a4 a5 : Int} (h0 : (-2147483648 : Int) ≤ a0) (h1 : a1 = a2) (h2 : a3 = a1) (h3 : a2 = a0 + a4) (h4 : a5 = a3) (h5 : a4 = 1) : (-2147483648 : Int) ≤ a5 - a4 := oz767 h0 h1 h2 h3 h4 h5
theorem oq159 {a0 a1 a2 a3 a4 a5 a6 : Int} (h0 : a0 = a1) (h1 : a2 = a0) (h2 : (0 : Int) ≤ a3) (h3 : (a4 + a3) = 6) (h4 : a1 = a4 + a5) (h5 : a6 = a2) (h6 : a5 = 1) : a6 - a5 ≤ 2147483647 := oz768 h0 h1 h2 h3 h4 h5 h6
theorem oq161 {a0 a1 a2 a3 a4 a5 a6 a7 a8 a9 a10 a11 a12 : Int} (h0 : a0 = a1) (h1 : a2 = a1) (h2 : a3 ≠ a1) (h3 : (a4 = a5 → a6 = a7)) (h4 : ((a0 = 1) ∧ (a4 = (a5 + 1)) ∧ (a5 < a8) ∧ (a7 = a9)) ∨ ((a0 = 0) ∧ (a4 = a5))) (h5 : ((a3 = 1) ∧ (a10 = (a4 + 1)) ∧ (a4 < a11) ∧ (a6 = a12)) ∨ ((a3 = 0) ∧ (a10 = a4))) (h6 : ((a2 = 0) → (¬ (((48 : Int) ≤ a7) ∧ (a7 ≤ 57))))) (h7 : a1 = 0) (h8 : a9 = 33) (h9 : a12 = 45) : ¬ (48 ≤ a7 ∧ a7 ≤ 57) := by omega
theorem oq162 {a0 a1 a2 a3 a4 a5 a6 a7 a8 a9 a10 a11 : Int} (h0 : a0 = a1) (h1 : a2 ≠ a1) (h2 : (a3 = a4 → a5 = a6)) (h3 : ((a0 = 1) ∧ (a3 = (a4 + 1)) ∧ (a4 < a7) ∧ (a6 = a8)) ∨ ((a0 = 0) ∧ (a3 = a4))) (h4 : ((a2 = 1) ∧ (a9 = (a3 + 1)) ∧ (a3 < a10) ∧ (a5 = a11)) ∨ ((a2 = 0) ∧ (a9 = a3))) (h5 : a1 = 0) (h6 : a8 = 33) (h7 : a11 = 45) : a6 = 45 := by omega
theorem oq163 {a0 a1 a2 a3 a4 a5 a6 : Int} (h0 : a0 ≠ a1) (h1 : ((a0 = 1) ∧ (a2 = (a3 + 1)) ∧ (a3 < a4) ∧ (a5 = a6)) ∨ ((a0 = 0) ∧ (a2 = a3))) (h2 : a1 = 0) (h3 : a6 = 45) : ¬ (a0 = 0) := by omega
theorem oq164 {a0 a1 : Int} (h0 : a0 ≤ 200) (h1 : a1 = 1) : a0 + a1 ≤ 2147483647 := oz271 h0 h1
theorem oq165 {a0 a1 a2 : Int} (h0 : a0 ≤ 199) (h1 : a1 = a0 + a2) (h2 : a2 = 1) : a1 ≤ 200 := oz746 h0 h1 h2
theorem oq166 {a0 : Int} (h0 : a0 ≤ 199) : a0 < 200 := oz747 h0
theorem oq167 {a0 a1 a2 : Int} (h0 : a0 = a1 + a2) (h1 : a2 = 1) : (a2 = 1) ∧ (a0 = (a1 + 1)) := by omega
theorem oq169 {a0 a1 : Int} (h0 : a0 = a1) (h1 : a0 = 1) (h2 : a1 = 0) : False := by omega
theorem oq170 {a0 a1 a2 a3 a4 a5 a6 : Int} (h0 : (-2147483648 : Int) ≤ a0) (h1 : a1 = a2) (h2 : a3 = a1) (h3 : a4 = a5) (h4 : a2 = a0 + a6) (h5 : a5 = a3) (h6 : a6 = 1) : (-2147483648 : Int) ≤ a4 - a6 := oz764 h0 h1 h2 h3 h4 h5 h6
theorem oq171 {a0 a1 a2 a3 a4 a5 a6 a7 : Int} (h0 : a0 = a1) (h1 : a2 = a0) (h2 : a3 = a4) (h3 : (0 : Int) ≤ a5) (h4 : (a6 + a5) = 6) (h5 : a1 = a6 + a7) (h6 : a4 = a2) (h7 : a7 = 1) : a3 - a7 ≤ 2147483647 := oz765 h0 h1 h2 h3 h4 h5 h6 h7
theorem oq173 {a0 a1 a2 a3 a4 a5 : Int} (h0 : a0 = a1) (h1 : a2 = a3 + 1) (h2 : (a4 + a2) = 6) (h3 : a1 = a4 + a5) (h4 : a5 = 1) : (a0 + a3) = 6 := oz744 h0 h1 h2 h3 h4
theorem oq174 {a0 a1 a2 a3 a4 a5 a6 a7 : Int} (h0 : a0 = a1) (h1 : a1 ≤ a2) (h2 : ((a3 = 1) ∧ (a4 = (a2 + 1)) ∧ (a2 < a5) ∧ (a6 = a7)) ∨ ((a3 = 0) ∧ (a4 = a2))) (h3 : a7 = 33) : a0 ≤ a4 := by omega
theorem oq175 {a0 a1 a2 a3 a4 a5 a6 : Int} (h0 : a0 = a1) (h1 : a2 ≤ a1) (h2 : ((a3 = 1) ∧ (a4 = (a2 + 1)) ∧ (a2 < a1) ∧ (a5 = a6)) ∨ ((a3 = 0) ∧ (a4 = a2))) (h3 : a6 = 33) : a4 ≤ a0 := by omega
theorem oq176 {a0 a1 a2 a3 a4 : Int} (h0 : (-2147483648 : Int) ≤ a0) (h1 : a1 = a2) (h2 : a2 = a0 + a3) (h3 : a4 = a1) (h4 : a3 = 1) : (-2147483648 : Int) ≤ a4 - a3 := oz756 h0 h1 h2 h3 h4
theorem oq177 {a0 a1 a2 a3 a4 a5 : Int} (h0 : a0 = a1) (h1 : (0 : Int) ≤ a2) (h2 : (a3 + a2) = 6) (h3 : a1 = a3 + a4) (h4 : a5 = a0) (h5 : a4 = 1) : a5 - a4 ≤ 2147483647 := oz757 h0 h1 h2 h3 h4 h5
theorem oq178 {a0 a1 a2 a3 a4 a5 a6 a7 a8 a9 a10 a11 a12 a13 a14 a15 a16 a17 : Int} (h0 : a0 = a1) (h1 : a2 = a3) (h2 : a4 = a5 - a6) (h3 : a1 = a7 + a6) (h4 : a5 = a0) (h5 : a8 ≤ a9) (h6 : a9 ≤ a10) (h7 : (a11 - a9) ≤ (a2 - a8)) (h8 : a2 ≤ a11) (h9 : ((a12 = 1) ∧ (a8 = (a13 + 1)) ∧ (a13 < a14) ∧ (a15 = a16)) ∨ ((a12 = 0) ∧ (a8 = a13))) (h10 : a6 = 1) (h11 : a16 = 33) (h12 : a17 = 0) : (a4 = a7) ∧ (a13 ≤ a9) ∧ (a9 ≤ a10) ∧ ((a11 - a9) ≤ (a3 - a13)) ∧ (a3 ≤ a11) ∧ ((0 : Int) ≤ a17) ∧ (a17 ≤ 1) ∧ (((a17 = 1) → ((a13 + 1) ≤ a9))) := ⟨by omega, by omega, h6, by omega, by omega, by omega, by omega, by omega⟩
theorem oq179 {a0 a1 a2 a3 a4 a5 a6 a7 : Int} (h0 : a0 = a1) (h1 : a2 ≠ a1) (h2 : ((a2 = 1) ∧ (a3 = (a4 + 1)) ∧ (a4 < a5) ∧ (a6 = a7)) ∨ ((a2 = 0) ∧ (a3 = a4))) (h3 : ((a0 = 0) → (¬ (((48 : Int) ≤ a6) ∧ (a6 ≤ 57))))) (h4 : a1 = 0) (h5 : a7 = 33) : ¬ (48 ≤ a6 ∧ a6 ≤ 57) := by omega
theorem oq180 {a0 a1 a2 a3 a4 a5 a6 : Int} (h0 : a0 ≠ a1) (h1 : ((a0 = 1) ∧ (a2 = (a3 + 1)) ∧ (a3 < a4) ∧ (a5 = a6)) ∨ ((a0 = 0) ∧ (a2 = a3))) (h2 : a1 = 0) (h3 : a6 = 33) : a5 = 33 := by omega
theorem oq181 {a0 a1 a2 a3 a4 a5 a6 : Int} (h0 : a0 ≠ a1) (h1 : ((a0 = 1) ∧ (a2 = (a3 + 1)) ∧ (a3 < a4) ∧ (a5 = a6)) ∨ ((a0 = 0) ∧ (a2 = a3))) (h2 : a1 = 0) (h3 : a6 = 33) : ¬ (a0 = 0) := by omega
theorem oq182 {a0 a1 a2 a3 a4 a5 a6 a7 a8 a9 : Int} (h0 : a0 = a1) (h1 : a2 ≤ 120) (h2 : (0 : Int) ≤ a3) (h3 : a1 ≤ a4) (h4 : (a3 - a2) ≤ (a0 - a5)) (h5 : ((a6 = 1) ∧ (a5 = (a4 + 1)) ∧ (a4 < a7) ∧ (a8 = a9)) ∨ ((a6 = 0) ∧ (a5 = a4))) (h6 : a9 = 33) : ((0 : Int) ≤ a3) ∧ (a3 ≤ 199) := by omega
theorem oq183 {a0 a1 a2 a3 a4 a5 : Int} (h0 : (-2147483648 : Int) ≤ a0) (h1 : a1 = a2) (h2 : a3 = a4) (h3 : a4 = a0 + a5) (h4 : a2 = a3) (h5 : a5 = 1) : (-2147483648 : Int) ≤ a1 - a5 := by omega
theorem oq184 {a0 a1 a2 a3 a4 a5 a6 : Int} (h0 : a0 = a1) (h1 : a2 = a3) (h2 : (0 : Int) ≤ a4) (h3 : (a5 + a4) = 6) (h4 : a3 = a5 + a6) (h5 : a1 = a2) (h6 : a6 = 1) : a0 - a6 ≤ 2147483647 := by omega
theorem oq185 {a0 a1 a2 a3 a4 a5 a6 a7 a8 a9 a10 a11 a12 a13 a14 a15 a16 a17 a18 a19 a20 a21 : Int} (h0 : a0 ≠ a1) (h1 : a2 = a3) (h2 : a4 = a5) (h3 : a6 = a7) (h4 : a8 = a9) (h5 : a10 = a11) (h6 : a12 = a6 - a13) (h7 : a9 = a14 + a13) (h8 : a7 = a8) (h9 : a15 ≤ a5) (h10 : a5 ≤ a3) (h11 : (a16 - a5) ≤ (a10 - a15)) (h12 : a10 ≤ a16) (h13 : a17 = (a16 + 1)) (h14 : ((a0 = 1) ∧ (a15 = (a18 + 1)) ∧ (a18 < a19) ∧ (a20 = a21)) ∨ ((a0 = 0) ∧ (a15 = a18))) (h15 : a1 = 0) (h16 : a13 = 1) (h17 : a21 = 33) : (a12 = a14) ∧ (a18 ≤ a4) ∧ (a4 ≤ a2) ∧ ((a17 - a4) ≤ (a11 - a18)) ∧ (a11 ≤ a17) ∧ ((0 : Int) ≤ a13) ∧ (a13 ≤ 1) ∧ (((a13 = 1) → ((a18 + 1) ≤ a4))) := ⟨by omega, by omega, by omega, by omega, by omega, by omega, by omega, by omega⟩
theorem oq186 {a0 a1 a2 a3 a4 : Int} (h0 : a0 ≤ a1) (h1 : a2 = 0) : (a3 = a3) ∧ (a0 ≤ a0) ∧ (a0 ≤ a1) ∧ ((a4 - a0) ≤ (a4 - a0)) ∧ (a4 ≤ a4) ∧ ((0 : Int) ≤ a2) ∧ (a2 ≤ 1) ∧ (((a2 = 1) → ((a0 + 1) ≤ a0))) := by omega
theorem oq187 {a0 a1 a2 : Int} (h0 : a0 = a1) (h1 : (a0 + a2) = 6) (h2 : a1 = 6) : a2 ≤ 0 := by omega
theorem oq188 {a0 a1 a2 a3 a4 a5 a6 : Int} (h0 : a0 ≤ a1) (h1 : a2 ≤ 120) (h2 : a3 = a4 + a5) (h3 : (a1 = (-1)) ∨ ((100 : Int) ≤ a6)) (h4 : (a6 = (-1)) ∨ (a4 < a2)) (h5 : a0 = 0) (h6 : a5 = 1) : a3 ≤ 120 := by omega
theorem oq189 {a0 a1 : Int} (h0 : a0 ≤ 120) (h1 : (0 : Int) ≤ a1) (h2 : a1 ≤ a0) : ((0 : Int) ≤ a1) ∧ (a1 ≤ 199) := oz787 h0 h1 h2
theorem oq190 {a0 a1 a2 a3 a4 a5 a6 a7 a8 a9 a10 a11 a12 a13 : Int} (h0 : a0 ≤ a1) (h1 : a2 = a3) (h2 : a4 = a5) (h3 : a6 = a7) (h4 : a5 = a8 + a9) (h5 : (a1 = (-1)) ∨ ((100 : Int) ≤ a10)) (h6 : a11 = 1) (h7 : a12 = (a13 + 1)) (h8 : (a10 = (-1)) ∨ (a8 < a3)) (h9 : a0 = 0) (h10 : a9 = 1) : (a6 = a7) ∧ (a8 ≤ a4) ∧ (a4 ≤ a2) ∧ ((a12 - a4) ≤ (a13 - a8)) ∧ (a13 ≤ a12) ∧ ((0 : Int) ≤ a11) ∧ (a11 ≤ 1) ∧ (((a11 = 1) → ((a8 + 1) ≤ a4))) := ⟨h3, by omega, by omega, by omega, by omega, by omega, by omega, by omega⟩
theorem oq191 {a0 a1 a2 a3 : Int} (h0 : a0 ≤ a1) (h1 : a2 = a3) (h2 : (a1 = (-1)) ∨ ((100 : Int) ≤ a2)) (h3 : a0 = 0) : ¬ (48 ≤ a3 ∧ a3 ≤ 57) := by omega
theorem oq192 {a0 a1 : Int} (h0 : a0 ≤ a1) (h1 : a0 = 0) : (0 : Int) ≤ a1 := oz389 h0 h1
theorem oq193 {a0 : Int} (h0 : a0 = 1) : a0 = 1 := oz1381 h0
theorem oq198 {a0 a1 a2 a3 a4 : Int} (h0 : a0 ≠ a1) (h1 : a2 ≤ 120) (h2 : ((a0 = 1) ∧ ((48 : Int) ≤ a3) ∧ (a3 ≤ 57) ∧ (a4 < a2)) ∨ (a0 = 0)) (h3 : a1 = 0) : a4 < 120 := by omega
theorem oq204 {a0 a1 a2 a3 a4 a5 a6 : Int} (h0 : a0 ≠ a1) (h1 : a2 ≤ 120) (h2 : a3 = a4 + a5) (h3 : ((a0 = 1) ∧ ((48 : Int) ≤ a6) ∧ (a6 ≤ 57) ∧ (a4 < a2)) ∨ (a0 = 0)) (h4 : a1 = 0) (h5 : a5 = 1) : a3 ≤ 120 := by omega
theorem oq205 {a0 a1 a2 : Int} (h0 : ((a0 = 0) ∧ (a1 = 0)) ∨ ((a0 = 1) ∧ ((0 : Int) ≤ a1) ∧ (a1 ≤ 9)) ∨ ((a0 = 2) ∧ ((0 : Int) ≤ a1) ∧ (a1 ≤ 99)) ∨ ((a0 = 3) ∧ ((0 : Int) ≤ a1) ∧ (a1 ≤ 999)) ∨ ((a0 = 4) ∧ ((0 : Int) ≤ a1) ∧ (a1 ≤ 9999))) (h1 : a2 = 1) : (-2147483648 : Int) ≤ a0 + a2 := oz716 h0 h1
theorem oq206 {a0 a1 a2 : Int} (h0 : a0 < a1) (h1 : a1 = 4) (h2 : a2 = 1) : a0 + a2 ≤ 2147483647 := oz717 h0 h1 h2
theorem oq208 {a0 a1 : Int} (h0 : a0 = a1) : a0 = a1 := oz719 h0
theorem oq209 {a0 a1 a2 a3 a4 a5 : Int} (h0 : (a0 + a1) ≤ a2) (h1 : a3 = a2 + a4) (h2 : a5 = a1 + a4) (h3 : a4 = 1) : (a0 + a5) ≤ a3 := oz720 h0 h1 h2 h3
theorem oq210 {a0 a1 a2 a3 a4 a5 a6 : Int} (h0 : a0 ≠ a1) (h1 : a2 = a3 + a4) (h2 : ((a0 = 1) ∧ ((48 : Int) ≤ a5) ∧ (a5 ≤ 57) ∧ (a3 < a6)) ∨ (a0 = 0)) (h3 : a1 = 0) (h4 : a4 = 1) : a2 ≤ a6 := by omega
theorem oq211 {a0 a1 a2 a3 a4 a5 : Int} (h0 : ((a0 = 0) ∧ (a1 = 0)) ∨ ((a0 = 1) ∧ ((0 : Int) ≤ a1) ∧ (a1 ≤ 9)) ∨ ((a0 = 2) ∧ ((0 : Int) ≤ a1) ∧ (a1 ≤ 99)) ∨ ((a0 = 3) ∧ ((0 : Int) ≤ a1) ∧ (a1 ≤ 999)) ∨ ((a0 = 4) ∧ ((0 : Int) ≤ a1) ∧ (a1 ≤ 9999))) (h1 : a2 = a0 + a3) (h2 : a3 = 1) : ((1 : Int) ≤ a2) ∨ (a4 = a5) := oz722 h0 h1 h2
theorem oq212 {a0 a1 : Int} (h0 : a0 < a1) (h1 : a1 = 4) : a0 < 4 := op29 h0 h1
theorem oq213 {a0 a1 : Int} (h0 : ((a0 = 0) ∧ (a1 = 0)) ∨ ((a0 = 1) ∧ ((0 : Int) ≤ a1) ∧ (a1 ≤ 9)) ∨ ((a0 = 2) ∧ ((0 : Int) ≤ a1) ∧ (a1 ≤ 99)) ∨ ((a0 = 3) ∧ ((0 : Int) ≤ a1) ∧ (a1 ≤ 999)) ∨ ((a0 = 4) ∧ ((0 : Int) ≤ a1) ∧ (a1 ≤ 9999))) : (0 : Int) ≤ a0 := by omega
theorem oq214 {a0 a1 a2 : Int} (h0 : a0 = a1 + a2) (h1 : a2 = 1) : a0 = a1 + 1 := oz169 h0 h1
theorem oq215 {a0 a1 a2 a3 a4 : Int} (h0 : a0 ≠ a1) (h1 : ((a0 = 1) ∧ ((48 : Int) ≤ a2) ∧ (a2 ≤ 57) ∧ (a3 < a4)) ∨ (a0 = 0)) (h2 : a1 = 0) : 48 ≤ a2 := by omega
theorem oq216 {a0 a1 a2 a3 a4 : Int} (h0 : a0 ≠ a1) (h1 : ((a0 = 1) ∧ ((48 : Int) ≤ a2) ∧ (a2 ≤ 57) ∧ (a3 < a4)) ∨ (a0 = 0)) (h2 : a1 = 0) : a2 ≤ 57 := by omega
theorem oq217 {a0 a1 a2 : Int} (h0 : a0 = a1 + a2) (h1 : a2 = 1) : (4 - a0) < (4 - a1) := oz723 h0 h1
theorem oq218 {a0 a1 : Int} (h0 : a0 < a1) (h1 : a1 = 4) : (1 : Int) ≤ (4 - a0) := oz724 h0 h1
theorem oq219 {a0 : Int} (h0 : a0 = 0) : ((a0 = 0) ∧ (a0 = 0)) ∨ ((a0 = 1) ∧ ((0 : Int) ≤ a0) ∧ (a0 ≤ 9)) ∨ ((a0 = 2) ∧ ((0 : Int) ≤ a0) ∧ (a0 ≤ 99)) ∨ ((a0 = 3) ∧ ((0 : Int) ≤ a0) ∧ (a0 ≤ 999)) ∨ ((a0 = 4) ∧ ((0 : Int) ≤ a0) ∧ (a0 ≤ 9999)) := oz726 h0
theorem oq220 {a0 : Int}  : a0 = a0 := oz34
theorem oq221 {a0 a1 : Int} (h0 : a0 = 0) : (a1 + a0) ≤ a1 := oz727 h0
theorem oq222 {a0 a1 : Int} (h0 : a0 ≤ a1) : a0 ≤ a1 := oz173 h0
theorem oq223 {a0 a1 : Int} (h0 : a0 = 0) : ((1 : Int) ≤ a0) ∨ (a1 = a1) := oz729 h0
theorem oq224 {a0 a1 a2 a3 a4 a5 a6 a7 a8 a9 a10 a11 a12 a13 a14 a15 a16 a17 a18 a19 a20 a21 a22 a23 a24 a25 a26 a27 a28 a29 a30 a31 : Int} (h0 : a0 = a1) (h1 : a2 = a1) (h2 : a3 = a4) (h3 : a5 = a6) (h4 : a7 = a3) (h5 : a8 = a5) (h6 : a9 = a7) (h7 : a10 = a8) (h8 : a4 = a11 + a12) (h9 : a13 = a14 - a12) (h10 : ((a0 = 1) ∧ (a15 = (a16 + 1)) ∧ (a16 < a17) ∧ (a18 = a19)) ∨ ((a0 = 0) ∧ (a15 = a16))) (h11 : ((a2 = 1) ∧ (a20 = (a15 + 1)) ∧ (a15 < a21) ∧ (a22 = a23)) ∨ ((a2 = 0) ∧ (a20 = a15))) (h12 : ((a24 = 1) ∧ (a25 = (a20 + 1)) ∧ (a20 < a26) ∧ (a27 = a28)) ∨ ((a24 = 0) ∧ (a25 = a20))) (h13 : a14 = a9) (h14 : a25 ≤ a29) (h15 : a29 ≤ a30) (h16 : (a31 - a29) ≤ (a10 - a25)) (h17 : a10 ≤ a31) (h18 : a1 = 0) (h19 : a12 = 1) (h20 : a19 = 33) (h21 : a23 = 45) (h22 : a28 = 40) : (a13 = a11) ∧ (a16 ≤ a29) ∧ (a29 ≤ a30) ∧ ((a31 - a29) ≤ (a6 - a16)) ∧ (a6 ≤ a31) ∧ ((0 : Int) ≤ a1) ∧ (a1 ≤ 1) ∧ (((a1 = 1) → ((a16 + 1) ≤ a29))) := ⟨by omega, by omega, h15, by omega, by omega, by omega, by omega, by omega⟩
theorem oq225 {a0 a1 a2 a3 a4 a5 a6 a7 a8 a9 a10 a11 a12 a13 a14 a15 a16 a17 a18 a19 a20 a21 a22 a23 a24 a25 a26 a27 a28 a29 a30 a31 a32 a33 a34 a35 a36 a37 a38 : Int} (h0 : a0 = a1) (h1 : a2 = a1) (h2 : a3 = a1) (h3 : a4 = a5) (h4 : a6 = a7) (h5 : a8 = a4) (h6 : a9 = a6) (h7 : a10 = a8) (h8 : a11 = a9) (h9 : a12 = a13) (h10 : a14 = a15) (h11 : a16 = a17) (h12 : a5 = a18 + a19) (h13 : a20 = a14 - a19) (h14 : ((a0 = 1) ∧ (a21 = (a22 + 1)) ∧ (a22 < a23) ∧ (a24 = a25)) ∨ ((a0 = 0) ∧ (a21 = a22))) (h15 : ((a2 = 1) ∧ (a26 = (a21 + 1)) ∧ (a21 < a27) ∧ (a28 = a29)) ∨ ((a2 = 0) ∧ (a26 = a21))) (h16 : ((a30 = 1) ∧ (a31 = (a26 + 1)) ∧ (a26 < a32) ∧ (a33 = a34)) ∨ ((a30 = 0) ∧ (a31 = a26))) (h17 : a15 = a10) (h18 : a31 ≤ a35) (h19 : a35 ≤ a13) (h20 : (a17 - a35) ≤ (a11 - a31)) (h21 : a11 ≤ a17) (h22 : ((a3 = 1) ∧ (a36 = (a35 + 1)) ∧ (a35 < a13) ∧ (a37 = a38)) ∨ ((a3 = 0) ∧ (a36 = a35))) (h23 : a1 = 0) (h24 : a19 = 1) (h25 : a25 = 33) (h26 : a29 = 45) (h27 : a34 = 40) (h28 : a38 = 41) : (a20 = a18) ∧ (a22 ≤ a36) ∧ (a36 ≤ a12) ∧ ((a16 - a36) ≤ (a7 - a22)) ∧ (a7 ≤ a16) ∧ ((0 : Int) ≤ a1) ∧ (a1 ≤ 1) ∧ (((a1 = 1) → ((a22 + 1) ≤ a36))) := ⟨by omega, by omega, by omega, by omega, by omega, by omega, by omega, by omega⟩
theorem oq226 {a0 a1 a2 a3 a4 a5 a6 a7 a8 a9 a10 a11 a12 a13 a14 a15 a16 a17 a18 a19 a20 a21 a22 a23 a24 a25 a26 a27 a28 a29 a30 a31 a32 a33 a34 a35 a36 a37 a38 a39 a40 : Int} (h0 : a0 = a1) (h1 : a2 = a1) (h2 : a3 ≠ a1) (h3 : a4 = a1) (h4 : a5 ≠ a1) (h5 : a6 = a7) (h6 : a8 = a9) (h7 : a10 = a6) (h8 : a11 = a8) (h9 : a12 = a10) (h10 : a13 = a11) (h11 : a14 = a15) (h12 : a16 = a17) (h13 : a18 = a19) (h14 : (a20 = a21 → a22 = a23)) (h15 : (a24 = a20 → a25 = a22)) (h16 : a7 = a26 + a27) (h17 : a28 = a16 - a27) (h18 : ((a0 = 1) ∧ (a20 = (a21 + 1)) ∧ (a21 < a29) ∧ (a23 = a30)) ∨ ((a0 = 0) ∧ (a20 = a21))) (h19 : ((a2 = 1) ∧ (a24 = (a20 + 1)) ∧ (a20 < a31) ∧ (a22 = a32)) ∨ ((a2 = 0) ∧ (a24 = a20))) (h20 : ((a3 = 1) ∧ (a33 = (a24 + 1)) ∧ (a24 < a34) ∧ (a25 = a35)) ∨ ((a3 = 0) ∧ (a33 = a24))) (h21 : ((a4 = 0) → (¬ (((48 : Int) ≤ a23) ∧ (a23 ≤ 57))))) (h22 : a17 = a12) (h23 : a36 ≤ a15) (h24 : (a19 - a36) ≤ (a13 - a33)) (h25 : a13 ≤ a19) (h26 : (0 : Int) ≤ a5) (h27 : a5 ≤ 1) (h28 : ((a5 = 1) → ((a33 + 1) ≤ a36))) (h29 : ((a37 = 1) ∧ (a38 = (a36 + 1)) ∧ (a36 < a15) ∧ (a39 = a40)) ∨ ((a37 = 0) ∧ (a38 = a36))) (h30 : a1 = 0) (h31 : a27 = 1) (h32 : a30 = 33) (h33 : a32 = 45) (h34 : a35 = 40) (h35 : a40 = 41) : (a28 = a26) ∧ (a21 ≤ a38) ∧ (a38 ≤ a14) ∧ ((a18 - a38) ≤ (a9 - a21)) ∧ (a9 ≤ a18) ∧ ((0 : Int) ≤ a27) ∧ (a27 ≤ 1) ∧ (((a27 = 1) → ((a21 + 1) ≤ a38))) := ⟨by omega, by omega, by omega, by omega, by omega, by omega, by omega, by omega⟩
theorem oq227 {a0 a1 a2 a3 a4 a5 a6 a7 a8 a9 a10 a11 a12 a13 a14 a15 a16 a17 a18 a19 a20 a21 a22 a23 a24 : Int} (h0 : a0 = a1) (h1 : a2 = a3) (h2 : a4 = a5) (h3 : a6 = a2) (h4 : a7 = a4) (h5 : a3 = a8 + a9) (h6 : a10 = a11 - a9) (h7 : ((a0 = 1) ∧ (a12 = (a13 + 1)) ∧ (a13 < a14) ∧ (a15 = a16)) ∨ ((a0 = 0) ∧ (a12 = a13))) (h8 : ((a17 = 1) ∧ (a18 = (a12 + 1)) ∧ (a12 < a19) ∧ (a20 = a21)) ∨ ((a17 = 0) ∧ (a18 = a12))) (h9 : a11 = a6) (h10 : a18 ≤ a22) (h11 : a22 ≤ a23) (h12 : (a24 - a22) ≤ (a7 - a18)) (h13 : a7 ≤ a24) (h14 : a1 = 0) (h15 : a9 = 1) (h16 : a16 = 33) (h17 : a21 = 45) : (a10 = a8) ∧ (a13 ≤ a22) ∧ (a22 ≤ a23) ∧ ((a24 - a22) ≤ (a5 - a13)) ∧ (a5 ≤ a24) ∧ ((0 : Int) ≤ a1) ∧ (a1 ≤ 1) ∧ (((a1 = 1) → ((a13 + 1) ≤ a22))) := ⟨by omega, by omega, h11, by omega, by omega, by omega, by omega, by omega⟩
theorem oq228 {a0 a1 a2 a3 a4 a5 a6 a7 a8 a9 a10 a11 a12 a13 a14 a15 a16 : Int} (h0 : a0 = a1) (h1 : a2 = a3) (h2 : a4 = a2) (h3 : a5 ≤ 120) (h4 : (0 : Int) ≤ a6) (h5 : a3 ≤ a7) (h6 : ((a0 = 1) ∧ (a8 = (a7 + 1)) ∧ (a7 < a9) ∧ (a10 = a11)) ∨ ((a0 = 0) ∧ (a8 = a7))) (h7 : ((a12 = 1) ∧ (a13 = (a8 + 1)) ∧ (a8 < a14) ∧ (a15 = a16)) ∨ ((a12 = 0) ∧ (a13 = a8))) (h8 : (a6 - a5) ≤ (a4 - a13)) (h9 : a1 = 0) (h10 : a11 = 33) (h11 : a16 = 45) : ((0 : Int) ≤ a6) ∧ (a6 ≤ 199) := by omega
theorem oq229 {a0 a1 a2 a3 a4 a5 a6 a7 a8 a9 a10 a11 a12 a13 a14 a15 a16 a17 a18 a19 a20 a21 a22 a23 a24 a25 a26 a27 a28 : Int} (h0 : a0 = a1) (h1 : a2 ≠ a1) (h2 : a3 = a4) (h3 : a5 = a6) (h4 : a7 = a3) (h5 : a8 = a5) (h6 : a9 = a10) (h7 : a11 = a12) (h8 : a13 = a14) (h9 : a4 = a15 + a16) (h10 : a17 = a13 - a16) (h11 : ((a0 = 1) ∧ (a18 = (a19 + 1)) ∧ (a19 < a20) ∧ (a21 = a22)) ∨ ((a0 = 0) ∧ (a18 = a19))) (h12 : ((a2 = 1) ∧ (a23 = (a18 + 1)) ∧ (a18 < a24) ∧ (a25 = a26)) ∨ ((a2 = 0) ∧ (a23 = a18))) (h13 : a14 = a7) (h14 : a23 ≤ a12) (h15 : a12 ≤ a10) (h16 : (a27 - a12) ≤ (a8 - a23)) (h17 : a8 ≤ a27) (h18 : a28 = (a27 + 1)) (h19 : a1 = 0) (h20 : a16 = 1) (h21 : a22 = 33) (h22 : a26 = 45) : (a17 = a15) ∧ (a19 ≤ a11) ∧ (a11 ≤ a9) ∧ ((a28 - a11) ≤ (a6 - a19)) ∧ (a6 ≤ a28) ∧ ((0 : Int) ≤ a16) ∧ (a16 ≤ 1) ∧ (((a16 = 1) → ((a19 + 1) ≤ a11))) := ⟨by omega, by omega, by omega, by omega, by omega, by omega, by omega, by omega⟩
theorem oq230 {a0 a1 : Int} (h0 : a0 ≤ a1) (h1 : a0 = 4) : 4 ≤ a1 := op12 h0 h1
theorem oq231 {a0 a1 a2 a3 : Int} (h0 : a0 ≤ a1) (h1 : ((a1 = 0) ∧ (a2 = 0)) ∨ ((a1 = 1) ∧ ((0 : Int) ≤ a2) ∧ (a2 ≤ 9)) ∨ ((a1 = 2) ∧ ((0 : Int) ≤ a2) ∧ (a2 ≤ 99)) ∨ ((a1 = 3) ∧ ((0 : Int) ≤ a2) ∧ (a2 ≤ 999)) ∨ ((a1 = 4) ∧ ((0 : Int) ≤ a2) ∧ (a2 ≤ 9999))) (h2 : a0 = 4) (h3 : a3 = 18) : (-2147483648 : Int) ≤ a3 + a2 := oz790 h0 h1 h2 h3
theorem oq232 {a0 a1 a2 a3 : Int} (h0 : a0 ≤ a1) (h1 : ((a1 = 0) ∧ (a2 = 0)) ∨ ((a1 = 1) ∧ ((0 : Int) ≤ a2) ∧ (a2 ≤ 9)) ∨ ((a1 = 2) ∧ ((0 : Int) ≤ a2) ∧ (a2 ≤ 99)) ∨ ((a1 = 3) ∧ ((0 : Int) ≤ a2) ∧ (a2 ≤ 999)) ∨ ((a1 = 4) ∧ ((0 : Int) ≤ a2) ∧ (a2 ≤ 9999))) (h2 : a0 = 4) (h3 : a3 = 18) : a3 + a2 ≤ 2147483647 := oz791 h0 h1 h2 h3
theorem oq233 {a0 a1 a2 : Int} (h0 : a0 = a1) (h1 : (0 : Int) ≤ a0) (h2 : a2 ≤ 120) (h3 : a1 ≤ a2) : ((0 : Int) ≤ a0) ∧ (a0 ≤ 199) := oz792 h0 h1 h2 h3
theorem oq234 {a0 a1 a2 a3 a4 a5 a6 a7 a8 a9 a10 a11 a12 a13 : Int} (h0 : a0 ≤ a1) (h1 : a2 = a3) (h2 : a4 = a5) (h3 : a6 = a7) (h4 : a8 = a9) (h5 : a10 = a2) (h6 : (a11 + a1) ≤ a9) (h7 : a9 ≤ a7) (h8 : a12 = 1) (h9 : a13 = (a4 + 1)) (h10 : a0 = 4) : (a10 = a3) ∧ (a11 ≤ a8) ∧ (a8 ≤ a6) ∧ ((a13 - a8) ≤ (a5 - a11)) ∧ (a5 ≤ a13) ∧ ((0 : Int) ≤ a12) ∧ (a12 ≤ 1) ∧ (((a12 = 1) → ((a11 + 1) ≤ a8))) := ⟨by omega, by omega, by omega, by omega, by omega, by omega, by omega, by omega⟩
theorem oq235 {a0 a1 a2 a3 : Int} (h0 : a0 < a1) (h1 : ((a0 = 0) ∧ (a2 = 0)) ∨ ((a0 = 1) ∧ ((0 : Int) ≤ a2) ∧ (a2 ≤ 9)) ∨ ((a0 = 2) ∧ ((0 : Int) ≤ a2) ∧ (a2 ≤ 99)) ∨ ((a0 = 3) ∧ ((0 : Int) ≤ a2) ∧ (a2 ≤ 999)) ∨ ((a0 = 4) ∧ ((0 : Int) ≤ a2) ∧ (a2 ≤ 9999))) (h2 : a1 = 4) (h3 : a3 = 18) : (-2147483648 : Int) ≤ a3 + a2 := oz802 h0 h1 h2 h3
theorem oq236 {a0 a1 a2 a3 : Int} (h0 : a0 < a1) (h1 : ((a0 = 0) ∧ (a2 = 0)) ∨ ((a0 = 1) ∧ ((0 : Int) ≤ a2) ∧ (a2 ≤ 9)) ∨ ((a0 = 2) ∧ ((0 : Int) ≤ a2) ∧ (a2 ≤ 99)) ∨ ((a0 = 3) ∧ ((0 : Int) ≤ a2) ∧ (a2 ≤ 999)) ∨ ((a0 = 4) ∧ ((0 : Int) ≤ a2) ∧ (a2 ≤ 9999))) (h2 : a1 = 4) (h3 : a3 = 18) : a3 + a2 ≤ 2147483647 := oz803 h0 h1 h2 h3
theorem oq237 {a0 a1 a2 a3 a4 a5 a6 a7 a8 a9 a10 a11 a12 a13 a14 a15 a16 a17 a18 : Int} (h0 : a0 ≠ a1) (h1 : a2 = a1) (h2 : a3 = a4) (h3 : a5 = a6) (h4 : a7 = a8) (h5 : a9 = a10) (h6 : a11 = a3) (h7 : (a12 + a13) ≤ a10) (h8 : a10 ≤ a8) (h9 : ((1 : Int) ≤ a13) ∨ (a10 = a12)) (h10 : (a10 = a12 → a14 = a15)) (h11 : ((a2 = 0) → (¬ (((48 : Int) ≤ a14) ∧ (a14 ≤ 57))))) (h12 : a16 = 1) (h13 : a17 = (a5 + 1)) (h14 : ((a0 = 1) ∧ ((48 : Int) ≤ a15) ∧ (a15 ≤ 57) ∧ (a12 < a18)) ∨ (a0 = 0)) (h15 : a1 = 0) : (a11 = a4) ∧ (a12 ≤ a9) ∧ (a9 ≤ a7) ∧ ((a17 - a9) ≤ (a6 - a12)) ∧ (a6 ≤ a17) ∧ ((0 : Int) ≤ a16) ∧ (a16 ≤ 1) ∧ (((a16 = 1) → ((a12 + 1) ≤ a9))) := ⟨by omega, by omega, by omega, by omega, by omega, by omega, by omega, by omega⟩
theorem oq238 {a0 a1 a2 : Int} (h0 : a0 < a1) (h1 : ((a0 = 0) ∧ (a2 = 0)) ∨ ((a0 = 1) ∧ ((0 : Int) ≤ a2) ∧ (a2 ≤ 9)) ∨ ((a0 = 2) ∧ ((0 : Int) ≤ a2) ∧ (a2 ≤ 99)) ∨ ((a0 = 3) ∧ ((0 : Int) ≤ a2) ∧ (a2 ≤ 999)) ∨ ((a0 = 4) ∧ ((0 : Int) ≤ a2) ∧ (a2 ≤ 9999))) (h2 : a1 = 4) : (-2147483648 : Int) ≤ 10 * a2 := oz795 h0 h1 h2
theorem oq239 {a0 a1 a2 : Int} (h0 : a0 < a1) (h1 : ((a0 = 0) ∧ (a2 = 0)) ∨ ((a0 = 1) ∧ ((0 : Int) ≤ a2) ∧ (a2 ≤ 9)) ∨ ((a0 = 2) ∧ ((0 : Int) ≤ a2) ∧ (a2 ≤ 99)) ∨ ((a0 = 3) ∧ ((0 : Int) ≤ a2) ∧ (a2 ≤ 999)) ∨ ((a0 = 4) ∧ ((0 : Int) ≤ a2) ∧ (a2 ≤ 9999))) (h2 : a1 = 4) : 10 * a2 ≤ 2147483647 := oz796 h0 h1 h2
theorem oq240 {a0 a1 a2 a3 a4 a5 a6 : Int} (h0 : a0 ≠ a1) (h1 : a2 = a3) (h2 : a3 = a4) (h3 : ((a0 = 1) ∧ ((48 : Int) ≤ a5) ∧ (a5 ≤ 57) ∧ (a6 < a2)) ∨ (a0 = 0)) (h4 : a1 = 0) : a6 < a4 := by omega
theorem oq241 {a0 a1 a2 a3 a4 a5 a6 a7 a8 a9 a10 : Int} (h0 : a0 < a1) (h1 : a2 ≠ a3) (h2 : a4 = a5) (h3 : ((a0 = 0) ∧ (a6 = 0)) ∨ ((a0 = 1) ∧ ((0 : Int) ≤ a6) ∧ (a6 ≤ 9)) ∨ ((a0 = 2) ∧ ((0 : Int) ≤ a6) ∧ (a6 ≤ 99)) ∨ ((a0 = 3) ∧ ((0 : Int) ≤ a6) ∧ (a6 ≤ 999)) ∨ ((a0 = 4) ∧ ((0 : Int) ≤ a6) ∧ (a6 ≤ 9999))) (h4 : (a7 + a0) ≤ a8) (h5 : ((1 : Int) ≤ a0) ∨ (a8 = a7)) (h6 : a9 = 10 * a6) (h7 : ((a2 = 1) ∧ ((48 : Int) ≤ a5) ∧ (a5 ≤ 57) ∧ (a8 < a10)) ∨ (a2 = 0)) (h8 : a1 = 4) (h9 : a3 = 0) : (-2147483648 : Int) ≤ a9 + a4 := by omega
theorem oq242 {a0 a1 a2 a3 a4 a5 a6 a7 a8 a9 a10 : Int} (h0 : a0 < a1) (h1 : a2 ≠ a3) (h2 : a4 = a5) (h3 : ((a0 = 0) ∧ (a6 = 0)) ∨ ((a0 = 1) ∧ ((0 : Int) ≤ a6) ∧ (a6 ≤ 9)) ∨ ((a0 = 2) ∧ ((0 : Int) ≤ a6) ∧ (a6 ≤ 99)) ∨ ((a0 = 3) ∧ ((0 : Int) ≤ a6) ∧ (a6 ≤ 999)) ∨ ((a0 = 4) ∧ ((0 : Int) ≤ a6) ∧ (a6 ≤ 9999))) (h4 : (a7 + a0) ≤ a8) (h5 : ((1 : Int) ≤ a0) ∨ (a8 = a7)) (h6 : a9 = 10 * a6) (h7 : ((a2 = 1) ∧ ((48 : Int) ≤ a5) ∧ (a5 ≤ 57) ∧ (a8 < a10)) ∨ (a2 = 0)) (h8 : a1 = 4) (h9 : a3 = 0) : a9 + a4 ≤ 2147483647 := by omega
theorem oq243 {a0 a1 a2 a3 a4 a5 a6 a7 a8 a9 a10 a11 a12 : Int} (h0 : a0 < a1) (h1 : a2 ≠ a3) (h2 : a4 = a5) (h3 : ((a0 = 0) ∧ (a6 = 0)) ∨ ((a0 = 1) ∧ ((0 : Int) ≤ a6) ∧ (a6 ≤ 9)) ∨ ((a0 = 2) ∧ ((0 : Int) ≤ a6) ∧ (a6 ≤ 99)) ∨ ((a0 = 3) ∧ ((0 : Int) ≤ a6) ∧ (a6 ≤ 999)) ∨ ((a0 = 4) ∧ ((0 : Int) ≤ a6) ∧ (a6 ≤ 9999))) (h4 : (a7 + a0) ≤ a8) (h5 : ((1 : Int) ≤ a0) ∨ (a8 = a7)) (h6 : a9 = 10 * a6) (h7 : a10 = a9 + a4) (h8 : ((a2 = 1) ∧ ((48 : Int) ≤ a5) ∧ (a5 ≤ 57) ∧ (a8 < a11)) ∨ (a2 = 0)) (h9 : a1 = 4) (h10 : a3 = 0) (h11 : a12 = 48) : (-2147483648 : Int) ≤ a10 - a12 := by omega
theorem oq244 {a0 a1 a2 a3 a4 a5 a6 a7 a8 a9 a10 a11 a12 : Int} (h0 : a0 < a1) (h1 : a2 ≠ a3) (h2 : a4 = a5) (h3 : ((a0 = 0) ∧ (a6 = 0)) ∨ ((a0 = 1) ∧ ((0 : Int) ≤ a6) ∧ (a6 ≤ 9)) ∨ ((a0 = 2) ∧ ((0 : Int) ≤ a6) ∧ (a6 ≤ 99)) ∨ ((a0 = 3) ∧ ((0 : Int) ≤ a6) ∧ (a6 ≤ 999)) ∨ ((a0 = 4) ∧ ((0 : Int) ≤ a6) ∧ (a6 ≤ 9999))) (h4 : (a7 + a0) ≤ a8) (h5 : ((1 : Int) ≤ a0) ∨ (a8 = a7)) (h6 : a9 = 10 * a6) (h7 : a10 = a9 + a4) (h8 : ((a2 = 1) ∧ ((48 : Int) ≤ a5) ∧ (a5 ≤ 57) ∧ (a8 < a11)) ∨ (a2 = 0)) (h9 : a1 = 4) (h10 : a3 = 0) (h11 : a12 = 48) : a10 - a12 ≤ 2147483647 := by omega
theorem oq245 {a0 a1 a2 a3 a4 a5 a6 a7 a8 a9 a10 a11 a12 a13 a14 : Int} (h0 : a0 < a1) (h1 : a2 ≠ a3) (h2 : a4 = a5) (h3 : ((a0 = 0) ∧ (a6 = 0)) ∨ ((a0 = 1) ∧ ((0 : Int) ≤ a6) ∧ (a6 ≤ 9)) ∨ ((a0 = 2) ∧ ((0 : Int) ≤ a6) ∧ (a6 ≤ 99)) ∨ ((a0 = 3) ∧ ((0 : Int) ≤ a6) ∧ (a6 ≤ 999)) ∨ ((a0 = 4) ∧ ((0 : Int) ≤ a6) ∧ (a6 ≤ 9999))) (h4 : a7 = 10 * a6) (h5 : a8 = a7 + a4) (h6 : a9 = a8 - a10) (h7 : a11 = a0 + a12) (h8 : ((a2 = 1) ∧ ((48 : Int) ≤ a5) ∧ (a5 ≤ 57) ∧ (a13 < a14)) ∨ (a2 = 0)) (h9 : a1 = 4) (h10 : a3 = 0) (h11 : a10 = 48) (h12 : a12 = 1) : ((a11 = 0) ∧ (a9 = 0)) ∨ ((a11 = 1) ∧ ((0 : Int) ≤ a9) ∧ (a9 ≤ 9)) ∨ ((a11 = 2) ∧ ((0 : Int) ≤ a9) ∧ (a9 ≤ 99)) ∨ ((a11 = 3) ∧ ((0 : Int) ≤ a9) ∧ (a9 ≤ 999)) ∨ ((a11 = 4) ∧ ((0 : Int) ≤ a9) ∧ (a9 ≤ 9999)) := by omega
theorem oq246 {a0 a1 : Int} (h0 : (a0 + a1) = 6) : (a0 + a1) = 6 := oz808 h0
theorem oq248 {a0 a1 a2 : Int} (h0 : a0 ≠ a1) (h1 : a0 = a2) (h2 : a1 = 42) : a2 ≠ 42 := by omega
theorem oq249 {a0 a1 a2 : Int} (h0 : a0 ≠ a1) (h1 : a0 = a2) (h2 : a1 = 47) : a2 ≠ 47 := by omega
theorem oq250 {a0 a1 a2 : Int} (h0 : a0 ≠ a1) (h1 : a0 = a2) (h2 : a1 = 37) : a2 ≠ 37 := by omega
theorem oq251 {a0 : Int} (h0 : a0 = (-1)) : a0 = -1 := by omega
theorem oq252 {a0 : Int} (h0 : a0 = (-1)) : a0 < 0 := by omega
theorem oq253 {a0 a1 a2 a3 a4 a5 a6 a7 : Int} (h0 : a0 = a1) (h1 : a2 ≤ 120) (h2 : a0 = a3) (h3 : a4 = a3) (h4 : a5 = a6 + a7) (h5 : (a4 = (-1)) ∨ (a6 < a2)) (h6 : a1 = 37) (h7 : a7 = 1) : a5 ≤ 120 := by omega
theorem oq254 {a0 a1 a2 a3 : Int} (h0 : a0 = a1) (h1 : (a2 + a3) = 6) (h2 : a1 = a2) : (a0 + a3) = 6 := oz811 h0 h1 h2
theorem oq255 {a0 a1 a2 a3 a4 a5 : Int} (h0 : a0 ≤ a1) (h1 : (a2 - a3) ≤ (a0 - a1)) (h2 : a4 = a3 + a5) (h3 : a5 = 1) : a2 ≤ a4 := oz812 h0 h1 h2 h3
theorem oq256 {a0 a1 a2 a3 a4 a5 a6 a7 : Int} (h0 : a0 = a1) (h1 : a0 = a2) (h2 : a3 = a2) (h3 : a4 = a5 + a6) (h4 : (a3 = (-1)) ∨ (a5 < a7)) (h5 : a1 = 37) (h6 : a6 = 1) : a4 ≤ a7 := by omega
theorem oq257 {a0 a1 a2 a3 a4 a5 a6 a7 : Int} (h0 : a0 ≤ 120) (h1 : (0 : Int) ≤ a1) (h2 : a2 ≤ a3) (h3 : (a4 - a5) ≤ (a2 - a3)) (h4 : a6 = a5 + a7) (h5 : (a1 - a0) ≤ (a4 - a6)) (h6 : a7 = 1) : ((0 : Int) ≤ a1) ∧ (a1 ≤ 199) := oz814 h0 h1 h2 h3 h4 h5 h6
theorem oq259 {a0 a1 a2 a3 a4 a5 : Int} (h0 : a0 = a1) (h1 : (a2 + 1) ≤ a3) (h2 : a4 = a3 + a5) (h3 : a4 ≤ a1) (h4 : a5 = 1) : a2 ≤ a0 := by omega
theorem oq260 {a0 a1 a2 a3 : Int} (h0 : a0 = a1) (h1 : a2 = a3) (h2 : a3 ≤ a1) : a2 ≤ a0 := oz819 h0 h1 h2
theorem oq263 {a0 a1 a2 a3 a4 a5 : Int} (h0 : a0 = a1) (h1 : (a2 + 1) ≤ a3) (h2 : a4 = a3 + a5) (h3 : a4 ≤ a1) (h4 : a5 = 1) : (a2 + 1) ≤ a0 := by omega
theorem oq264 {a0 a1 a2 : Int} (h0 : a0 = a1) (h1 : a0 = a2) (h2 : a1 = 37) : a2 = 37 := by omega
theorem oq265 {a0 : Int} (h0 : a0 = 15) : a0 = 15 := by omega
theorem oq266 {a0 : Int} (h0 : a0 = 15) : (0 : Int) ≤ a0 := oz1427 h0
theorem oq267 {a0 a1 a2 a3 a4 a5 a6 a7 a8 : Int} (h0 : a0 = a1) (h1 : a2 = a0) (h2 : a1 = a3) (h3 : a3 = a4) (h4 : a5 = a6 + a7) (h5 : a5 ≤ a8) (h6 : a8 ≤ a2) (h7 : a7 = 1) : a6 < a4 := by omega
theorem oq268 {a0 a1 a2 a3 a4 : Int} (h0 : a0 = a1) (h1 : a2 = a3 + a4) (h2 : a2 ≤ a1) (h3 : a4 = 1) : a3 < a0 := by omega
theorem oq269 {a0 a1 a2 a3 a4 a5 a6 a7 : Int} (h0 : a0 = a1) (h1 : a2 = a0) (h2 : a3 = a4) (h3 : a5 = a6 + a7) (h4 : a5 ≤ a4) (h5 : a7 = 1) : (a2 - a3) < (a1 - a6) := by omega
theorem oq270 {a0 a1 a2 a3 a4 a5 : Int} (h0 : a0 = a1) (h1 : a2 = a3 + a4) (h2 : a2 ≤ a5) (h3 : a5 ≤ a0) (h4 : a4 = 1) : (1 : Int) ≤ (a1 - a3) := by omega
theorem oq272 {a0 a1 a2 a3 a4 a5 a6 a7 : Int} (h0 : a0 = a1) (h1 : a2 ≤ 120) (h2 : a0 = a3) (h3 : a4 = a3) (h4 : a5 = a6 + a7) (h5 : (a4 = (-1)) ∨ (a6 < a2)) (h6 : a1 = 47) (h7 : a7 = 1) : a5 ≤ 120 := by omega
theorem oq273 {a0 a1 a2 a3 a4 a5 a6 a7 : Int} (h0 : a0 = a1) (h1 : a0 = a2) (h2 : a3 = a2) (h3 : a4 = a5 + a6) (h4 : (a3 = (-1)) ∨ (a5 < a7)) (h5 : a1 = 47) (h6 : a6 = 1) : a4 ≤ a7 := by omega
theorem oq276 {a0 a1 a2 a3 a4 : Int} (h0 : a0 = a1) (h1 : a2 ≤ a1) (h2 : a0 ≤ a3) (h3 : a4 = (a3 + 1)) : a2 ≤ a4 := oz833 h0 h1 h2 h3
theorem oq277 {a0 a1 a2 : Int} (h0 : a0 = a1) (h1 : a0 = a2) (h2 : a1 = 47) : a2 = 47 := by omega
theorem oq278 {a0 : Int} (h0 : a0 = 14) : a0 = 14 := by omega
theorem oq279 {a0 : Int} (h0 : a0 = 14) : (0 : Int) ≤ a0 := oz1425 h0
theorem oq280 {a0 a1 a2 a3 a4 a5 a6 a7 a8 : Int} (h0 : a0 = a1) (h1 : a1 = a2) (h2 : a3 = a0) (h3 : a2 = a4) (h4 : a5 = a6 + a7) (h5 : a5 ≤ a8) (h6 : a8 ≤ a3) (h7 : a7 = 1) : a6 < a4 := by omega
theorem oq282 {a0 a1 a2 a3 a4 a5 : Int} (h0 : a0 = a1) (h1 : a2 ≤ 120) (h2 : a3 = a4 + a5) (h3 : (a0 = (-1)) ∨ (a4 < a2)) (h4 : a1 = 42) (h5 : a5 = 1) : a3 ≤ 120 := by omega
theorem oq283 {a0 a1 a2 a3 a4 a5 : Int} (h0 : a0 = a1) (h1 : a2 = a3 + a4) (h2 : (a0 = (-1)) ∨ (a3 < a5)) (h3 : a1 = 42) (h4 : a4 = 1) : a2 ≤ a5 := by omega
theorem oq284 {a0 a1 a2 : Int} (h0 : a0 = a1) (h1 : a0 = a2) (h2 : a1 = 42) : a2 = 42 := by omega
theorem oq285 {a0 : Int} (h0 : a0 = 13) : a0 = 13 := by omega
theorem oq286 {a0 : Int} (h0 : a0 = 13) : (0 : Int) ≤ a0 := oz1423 h0
theorem oq287 {a0 a1 a2 a3 : Int} (h0 : (a0 - a1) ≤ (a2 - a3)) : (a0 - a1) ≤ (a2 - a3) := oz840 h0
theorem oq288 {a0 a1 a2 a3 : Int} (h0 : a0 ≠ a1) (h1 : (0 : Int) ≤ a0) (h2 : a0 ≤ 1) (h3 : ((a0 = 1) → ((a2 + 1) ≤ a3))) (h4 : a1 = 0) : (a2 + 1) ≤ a3 := by omega
theorem oq289 {a0 a1 a2 a3 a4 a5 a6 a7 : Int} (h0 : a0 = a1) (h1 : a2 ≤ a3) (h2 : a3 ≤ a4) (h3 : (a5 - a3) ≤ (a6 - a2)) (h4 : a6 ≤ a5) (h5 : a7 = 0) : (a0 = a1) ∧ (a2 ≤ a3) ∧ (a3 ≤ a4) ∧ ((a5 - a3) ≤ (a6 - a2)) ∧ (a6 ≤ a5) ∧ ((0 : Int) ≤ a7) ∧ (a7 ≤ 1) ∧ (((a7 = 1) → ((a2 + 1) ≤ a3))) := by omega
theorem oq290 {a0 a1 a2 a3 a4 a5 a6 a7 : Int} (h0 : a0 = a1) (h1 : a2 ≤ a3) (h2 : (a4 - a2) ≤ (a5 - a6)) (h3 : a5 ≤ a4) (h4 : (a6 + 1) ≤ a2) (h5 : a7 = 1) : (a0 = a1) ∧ (a6 ≤ a2) ∧ (a2 ≤ a3) ∧ ((a4 - a2) ≤ (a5 - a6)) ∧ (a5 ≤ a4) ∧ ((0 : Int) ≤ a7) ∧ (a7 ≤ 1) ∧ (((a7 = 1) → ((a6 + 1) ≤ a2))) := ⟨h0, by omega, h1, h2, h3, by omega, by omega, by omega⟩
theorem oq291 {a0 a1 a2 : Int} (h0 : (a0 + a1) = 6) (h1 : a2 = a0) : (a2 + a1) = 6 := oz844 h0 h1
theorem oq292 {a0 a1 a2 a3 : Int} (h0 : a0 = a1) (h1 : a2 = a3) (h2 : a1 = a2) : a0 = a3 := oz845 h0 h1 h2
theorem oq293 {a0 a1 a2 a3 a4 a5 a6 a7 a8 a9 : Int} (h0 : a0 = a1) (h1 : (a2 - a3) ≤ (a4 - a5)) (h2 : a6 = a3 + a7) (h3 : (a8 - a1) ≤ (a2 - a6)) (h4 : a9 = (a8 + 1)) (h5 : a7 = 1) : (a9 - a0) ≤ (a4 - a5) := oz847 h0 h1 h2 h3 h4 h5
theorem oq294 {a0 a1 a2 a3 : Int} (h0 : a0 ≤ a1) (h1 : a1 ≤ a2) (h2 : a3 = (a2 + 1)) : a0 ≤ a3 := oz848 h0 h1 h2
theorem oq295 {a0 a1 a2 a3 a4 a5 a6 a7 a8 a9 a10 a11 a12 : Int} (h0 : a0 = a1) (h1 : (a2 - a3) ≤ (a4 - a5)) (h2 : a4 ≤ a2) (h3 : (a5 + 1) ≤ a3) (h4 : a6 = a3 + a7) (h5 : a8 = a0) (h6 : a6 ≤ a9) (h7 : a9 ≤ a10) (h8 : (a11 - a9) ≤ (a2 - a6)) (h9 : a2 ≤ a11) (h10 : a7 = 1) (h11 : a12 = 0) : (a8 = a1) ∧ (a5 ≤ a9) ∧ (a9 ≤ a10) ∧ ((a11 - a9) ≤ (a4 - a5)) ∧ (a4 ≤ a11) ∧ ((0 : Int) ≤ a12) ∧ (a12 ≤ 1) ∧ (((a12 = 1) → ((a5 + 1) ≤ a9))) := ⟨by omega, by omega, h7, by omega, by omega, by omega, by omega, by omega⟩
theorem oq296 {a0 a1 a2 : Int} (h0 : a0 ≠ a1) (h1 : a0 = a2) (h2 : a1 = 43) : a2 ≠ 43 := by omega
theorem oq297 {a0 a1 a2 : Int} (h0 : a0 ≠ a1) (h1 : a0 = a2) (h2 : a1 = 45) : a2 ≠ 45 := by omega
theorem oq298 {a0 a1 a2 a3 a4 a5 a6 a7 : Int} (h0 : a0 = a1) (h1 : a2 ≤ 120) (h2 : a0 = a3) (h3 : a4 = a3) (h4 : a5 = a6 + a7) (h5 : (a4 = (-1)) ∨ (a6 < a2)) (h6 : a1 = 45) (h7 : a7 = 1) : a5 ≤ 120 := by omega
theorem oq299 {a0 a1 a2 a3 a4 a5 a6 a7 : Int} (h0 : a0 = a1) (h1 : a0 = a2) (h2 : a3 = a2) (h3 : a4 = a5 + a6) (h4 : (a3 = (-1)) ∨ (a5 < a7)) (h5 : a1 = 45) (h6 : a6 = 1) : a4 ≤ a7 := by omega
theorem oq300 {a0 a1 a2 : Int} (h0 : a0 = a1) (h1 : a0 = a2) (h2 : a1 = 45) : a2 = 45 := by omega
theorem oq301 {a0 : Int} (h0 : a0 = 12) : a0 = 12 := by omega
theorem oq302 {a0 : Int} (h0 : a0 = 12) : (0 : Int) ≤ a0 := oz1418 h0
theorem oq303 {a0 a1 a2 a3 a4 a5 : Int} (h0 : a0 = a1) (h1 : a2 ≤ 120) (h2 : a3 = a4 + a5) (h3 : (a0 = (-1)) ∨ (a4 < a2)) (h4 : a1 = 43) (h5 : a5 = 1) : a3 ≤ 120 := by omega
theorem oq304 {a0 a1 a2 a3 a4 a5 : Int} (h0 : a0 = a1) (h1 : a2 = a3 + a4) (h2 : (a0 = (-1)) ∨ (a3 < a5)) (h3 : a1 = 43) (h4 : a4 = 1) : a2 ≤ a5 := by omega
theorem oq305 {a0 a1 a2 : Int} (h0 : a0 = a1) (h1 : a0 = a2) (h2 : a1 = 43) : a2 = 43 := by omega
theorem oq306 {a0 : Int} (h0 : a0 = 11) : a0 = 11 := by omega
theorem oq307 {a0 : Int} (h0 : a0 = 11) : (0 : Int) ≤ a0 := oz1416 h0
theorem oq308 {a0 a1 a2 a3 a4 a5 a6 a7 a8 a9 : Int} (h0 : a0 ≠ a1) (h1 : a2 = a3) (h2 : a4 ≤ a5) (h3 : a5 ≤ a6) (h4 : (a7 - a5) ≤ (a8 - a4)) (h5 : a8 ≤ a7) (h6 : (0 : Int) ≤ a0) (h7 : a0 ≤ 1) (h8 : ((a0 = 1) → ((a4 + 1) ≤ a5))) (h9 : a1 = 0) (h10 : a9 = 1) : (a2 = a3) ∧ (a4 ≤ a5) ∧ (a5 ≤ a6) ∧ ((a7 - a5) ≤ (a8 - a4)) ∧ (a8 ≤ a7) ∧ ((0 : Int) ≤ a9) ∧ (a9 ≤ 1) ∧ (((a9 = 1) → ((a4 + 1) ≤ a5))) := ⟨h1, h2, h3, h4, h5, by omega, by omega, by omega⟩
theorem oq309 {a0 a1 a2 : Int} (h0 : a0 ≠ a1) (h1 : a0 = a2) (h2 : a1 = 60) : a2 ≠ 60 := by omega
theorem oq310 {a0 a1 a2 a3 a4 : Int} (h0 : a0 ≠ a1) (h1 : a2 ≠ a3) (h2 : a0 = a4) (h3 : a2 = a4) (h4 : a1 = 61) (h5 : a3 = 60) : a4 ≠ 61 := by omega
theorem oq311 {a0 a1 a2 a3 a4 a5 a6 : Int} (h0 : a0 ≠ a1) (h1 : a2 ≠ a3) (h2 : a4 ≠ a5) (h3 : a0 = a6) (h4 : a2 = a6) (h5 : a4 = a6) (h6 : a1 = 61) (h7 : a3 = 62) (h8 : a5 = 60) : a6 ≠ 62 := by omega
theorem oq312 {a0 a1 a2 a3 a4 a5 a6 a7 : Int} (h0 : a0 = a1) (h1 : a2 ≤ 120) (h2 : a0 = a3) (h3 : a4 = a3) (h4 : a5 = a6 + a7) (h5 : (a4 = (-1)) ∨ (a6 < a2)) (h6 : a1 = 62) (h7 : a7 = 1) : a5 ≤ 120 := by omega
theorem oq313 {a0 a1 a2 a3 a4 a5 : Int} (h0 : a0 ≤ a1) (h1 : a2 = a3 + a4) (h2 : (a5 - a3) ≤ (a0 - a1)) (h3 : a4 = 1) : a5 ≤ a2 := oz862 h0 h1 h2 h3
theorem oq314 {a0 a1 a2 a3 a4 a5 a6 a7 : Int} (h0 : a0 = a1) (h1 : a0 = a2) (h2 : a3 = a2) (h3 : a4 = a5 + a6) (h4 : (a3 = (-1)) ∨ (a5 < a7)) (h5 : a1 = 62) (h6 : a6 = 1) : a4 ≤ a7 := by omega
theorem oq315 {a0 a1 a2 a3 a4 a5 a6 a7 a8 a9 a10 a11 a12 : Int} (h0 : a0 = a1 + a2) (h1 : a3 = a4) (h2 : a0 ≤ a5) (h3 : a5 ≤ a6) (h4 : (a7 - a5) ≤ (a8 - a0)) (h5 : a8 ≤ a7) (h6 : a4 = a9) (h7 : a10 ≤ a1) (h8 : (a8 - a1) ≤ (a11 - a10)) (h9 : a11 ≤ a8) (h10 : a2 = 1) (h11 : a12 = 0) : (a3 = a9) ∧ (a10 ≤ a5) ∧ (a5 ≤ a6) ∧ ((a7 - a5) ≤ (a11 - a10)) ∧ (a11 ≤ a7) ∧ ((0 : Int) ≤ a12) ∧ (a12 ≤ 1) ∧ (((a12 = 1) → ((a10 + 1) ≤ a5))) := ⟨by omega, by omega, h3, by omega, by omega, by omega, by omega, by omega⟩
theorem oq316 {a0 a1 a2 : Int} (h0 : a0 = a1) (h1 : a0 = a2) (h2 : a1 = 62) : a2 = 62 := by omega
theorem oq317 {a0 : Int} (h0 : a0 = 10) : a0 = 10 := by omega
theorem oq318 {a0 : Int} (h0 : a0 = 10) : (0 : Int) ≤ a0 := oz1414 h0
theorem oq319 {a0 a1 a2 a3 a4 a5 a6 a7 : Int} (h0 : a0 ≤ 120) (h1 : (0 : Int) ≤ a1) (h2 : a2 ≤ a3) (h3 : a4 = a5 + a6) (h4 : (a1 - a0) ≤ (a7 - a4)) (h5 : (a7 - a5) ≤ (a2 - a3)) (h6 : a6 = 1) : ((0 : Int) ≤ a1) ∧ (a1 ≤ 199) := oz864 h0 h1 h2 h3 h4 h5 h6
theorem oq320 {a0 a1 a2 a3 a4 a5 a6 a7 a8 a9 a10 a11 a12 a13 a14 a15 : Int} (h0 : a0 = a1) (h1 : a2 = a3) (h2 : a4 = a5) (h3 : a6 = a7 + a8) (h4 : a5 = a9) (h5 : a6 ≤ a3) (h6 : a3 ≤ a1) (h7 : (a10 - a3) ≤ (a11 - a6)) (h8 : a11 ≤ a10) (h9 : a12 = (a10 + 1)) (h10 : a9 = a13) (h11 : a14 ≤ a7) (h12 : (a11 - a7) ≤ (a15 - a14)) (h13 : a15 ≤ a11) (h14 : a8 = 1) : (a4 = a13) ∧ (a14 ≤ a2) ∧ (a2 ≤ a0) ∧ ((a12 - a2) ≤ (a15 - a14)) ∧ (a15 ≤ a12) ∧ ((0 : Int) ≤ a8) ∧ (a8 ≤ 1) ∧ (((a8 = 1) → ((a14 + 1) ≤ a2))) := ⟨by omega, by omega, by omega, by omega, by omega, by omega, by omega, by omega⟩
theorem oq321 {a0 a1 a2 a3 a4 a5 a6 a7 : Int} (h0 : a0 = a1) (h1 : a2 ≤ 120) (h2 : a0 = a3) (h3 : a4 = a3) (h4 : a5 = a6 + a7) (h5 : (a4 = (-1)) ∨ (a6 < a2)) (h6 : a1 = 61) (h7 : a7 = 1) : a5 ≤ 120 := by omega
theorem oq322 {a0 a1 a2 a3 a4 a5 a6 a7 : Int} (h0 : a0 = a1) (h1 : a0 = a2) (h2 : a3 = a2) (h3 : a4 = a5 + a6) (h4 : (a3 = (-1)) ∨ (a5 < a7)) (h5 : a1 = 61) (h6 : a6 = 1) : a4 ≤ a7 := by omega
theorem oq323 {a0 a1 a2 a3 a4 a5 a6 a7 a8 a9 a10 a11 a12 : Int} (h0 : a0 = a1 + a2) (h1 : a3 = a4) (h2 : a5 ≤ a1) (h3 : (a6 - a1) ≤ (a7 - a5)) (h4 : a7 ≤ a6) (h5 : a8 = a3) (h6 : a0 ≤ a9) (h7 : a9 ≤ a10) (h8 : (a11 - a9) ≤ (a6 - a0)) (h9 : a6 ≤ a11) (h10 : a2 = 1) (h11 : a12 = 0) : (a8 = a4) ∧ (a5 ≤ a9) ∧ (a9 ≤ a10) ∧ ((a11 - a9) ≤ (a7 - a5)) ∧ (a7 ≤ a11) ∧ ((0 : Int) ≤ a12) ∧ (a12 ≤ 1) ∧ (((a12 = 1) → ((a5 + 1) ≤ a9))) := ⟨by omega, by omega, h7, by omega, by omega, by omega, by omega, by omega⟩
theorem oq324 {a0 a1 a2 : Int} (h0 : a0 = a1) (h1 : a0 = a2) (h2 : a1 = 61) : a2 = 61 := by omega
theorem oq325 {a0 : Int} (h0 : a0 = 9) : a0 = 9 := by omega
theorem oq326 {a0 : Int} (h0 : a0 = 9) : (0 : Int) ≤ a0 := oz258 h0
theorem oq327 {a0 a1 a2 a3 a4 a5 a6 a7 : Int} (h0 : a0 ≤ 120) (h1 : (0 : Int) ≤ a1) (h2 : a2 ≤ a3) (h3 : a4 = a5 + a6) (h4 : (a7 - a5) ≤ (a2 - a3)) (h5 : (a1 - a0) ≤ (a7 - a4)) (h6 : a6 = 1) : ((0 : Int) ≤ a1) ∧ (a1 ≤ 199) := oz871 h0 h1 h2 h3 h4 h5 h6
theorem oq328 {a0 a1 a2 a3 a4 a5 a6 a7 a8 a9 a10 a11 a12 a13 a14 a15 : Int} (h0 : a0 = a1) (h1 : a2 = a3) (h2 : a4 = a5) (h3 : a6 = a7 + a8) (h4 : a9 = a10) (h5 : a11 ≤ a7) (h6 : (a12 - a7) ≤ (a13 - a11)) (h7 : a13 ≤ a12) (h8 : a5 = a9) (h9 : a6 ≤ a3) (h10 : a3 ≤ a1) (h11 : (a14 - a3) ≤ (a12 - a6)) (h12 : a12 ≤ a14) (h13 : a15 = (a14 + 1)) (h14 : a8 = 1) : (a4 = a10) ∧ (a11 ≤ a2) ∧ (a2 ≤ a0) ∧ ((a15 - a2) ≤ (a13 - a11)) ∧ (a13 ≤ a15) ∧ ((0 : Int) ≤ a8) ∧ (a8 ≤ 1) ∧ (((a8 = 1) → ((a11 + 1) ≤ a2))) := ⟨by omega, by omega, by omega, by omega, by omega, by omega, by omega, by omega⟩
theorem oq329 {a0 a1 a2 a3 a4 a5 : Int} (h0 : a0 = a1) (h1 : a2 ≤ 120) (h2 : a3 = a4 + a5) (h3 : (a0 = (-1)) ∨ (a4 < a2)) (h4 : a1 = 60) (h5 : a5 = 1) : a3 ≤ 120 := by omega
theorem oq330 {a0 a1 a2 a3 a4 a5 : Int} (h0 : a0 = a1) (h1 : a2 = a3 + a4) (h2 : (a0 = (-1)) ∨ (a3 < a5)) (h3 : a1 = 60) (h4 : a4 = 1) : a2 ≤ a5 := by omega
theorem oq331 {a0 a1 a2 : Int} (h0 : a0 = a1) (h1 : a0 = a2) (h2 : a1 = 60) : a2 = 60 := by omega
theorem oq332 {a0 : Int} (h0 : a0 = 8) : a0 = 8 := by omega
theorem oq333 {a0 : Int} (h0 : a0 = 8) : (0 : Int) ≤ a0 := oz85 h0
theorem oq334 {a0 : Int} (h0 : a0 = 38) : (0 : Int) ≤ a0 := oz879 h0
theorem oq337 {a0 a1 a2 a3 a4 a5 a6 a7 a8 a9 : Int} (h0 : a0 = a1) (h1 : a2 ≤ a3) (h2 : (a1 - a4) ≤ (a2 - a3)) (h3 : ((a5 = 1) ∧ (a6 = (a4 + 1)) ∧ (a4 < a7) ∧ (a8 = a9)) ∨ ((a5 = 0) ∧ (a6 = a4))) (h4 : a9 = 38) : a0 ≤ a6 := by omega
theorem oq338 {a0 a1 a2 a3 a4 a5 a6 : Int} (h0 : a0 = a1) (h1 : a2 ≤ a1) (h2 : ((a3 = 1) ∧ (a4 = (a2 + 1)) ∧ (a2 < a1) ∧ (a5 = a6)) ∨ ((a3 = 0) ∧ (a4 = a2))) (h3 : a6 = 38) : a4 ≤ a0 := by omega
theorem oq339 {a0 a1 a2 a3 a4 a5 a6 a7 a8 a9 a10 a11 : Int} (h0 : a0 = a1) (h1 : a2 ≤ 120) (h2 : (0 : Int) ≤ a3) (h3 : a4 ≤ a5) (h4 : (a1 - a6) ≤ (a4 - a5)) (h5 : (a3 - a2) ≤ (a0 - a7)) (h6 : ((a8 = 1) ∧ (a7 = (a6 + 1)) ∧ (a6 < a9) ∧ (a10 = a11)) ∨ ((a8 = 0) ∧ (a7 = a6))) (h7 : a11 = 38) : ((0 : Int) ≤ a3) ∧ (a3 ≤ 199) := by omega
theorem oq341 {a0 a1 a2 a3 a4 a5 a6 a7 a8 : Int} (h0 : a0 = a1) (h1 : (a2 + 1) ≤ a3) (h2 : a4 ≤ a1) (h3 : ((a5 = 1) ∧ (a4 = (a3 + 1)) ∧ (a3 < a6) ∧ (a7 = a8)) ∨ ((a5 = 0) ∧ (a4 = a3))) (h4 : a8 = 38) : a2 ≤ a0 := by omega
theorem oq344 {a0 a1 a2 a3 a4 a5 a6 a7 a8 : Int} (h0 : a0 = a1) (h1 : (a2 + 1) ≤ a3) (h2 : a4 ≤ a1) (h3 : ((a5 = 1) ∧ (a4 = (a3 + 1)) ∧ (a3 < a6) ∧ (a7 = a8)) ∨ ((a5 = 0) ∧ (a4 = a3))) (h4 : a8 = 38) : (a2 + 1) ≤ a0 := by omega
theorem oq345 {a0 a1 a2 a3 a4 a5 a6 : Int} (h0 : a0 ≠ a1) (h1 : ((a0 = 1) ∧ (a2 = (a3 + 1)) ∧ (a3 < a4) ∧ (a5 = a6)) ∨ ((a0 = 0) ∧ (a2 = a3))) (h2 : a1 = 0) (h3 : a6 = 38) : ¬ (a0 = 0) := by omega
theorem oq346 {a0 a1 a2 a3 a4 a5 a6 a7 a8 a9 a10 a11 a12 : Int} (h0 : a0 ≠ a1) (h1 : a2 = a3) (h2 : a4 = a5) (h3 : a3 = a6) (h4 : a5 = a2) (h5 : a6 = a7) (h6 : a8 ≤ a9) (h7 : a9 ≤ a4) (h8 : ((a0 = 1) ∧ (a8 = (a10 + 1)) ∧ (a10 < a2) ∧ (a11 = a12)) ∨ ((a0 = 0) ∧ (a8 = a10))) (h9 : a1 = 0) (h10 : a12 = 38) : a10 < a7 := by omega
theorem oq347 {a0 a1 a2 a3 a4 a5 a6 a7 a8 : Int} (h0 : a0 ≠ a1) (h1 : a2 = a3) (h2 : a4 ≤ a3) (h3 : ((a0 = 1) ∧ (a4 = (a5 + 1)) ∧ (a5 < a6) ∧ (a7 = a8)) ∨ ((a0 = 0) ∧ (a4 = a5))) (h4 : a1 = 0) (h5 : a8 = 38) : a5 < a2 := by omega
theorem oq348 {a0 a1 a2 a3 a4 a5 a6 a7 a8 a9 a10 a11 : Int} (h0 : a0 ≠ a1) (h1 : a2 = a3) (h2 : a4 = a2) (h3 : a5 = a6) (h4 : a3 = a7) (h5 : a8 ≤ a6) (h6 : ((a0 = 1) ∧ (a8 = (a9 + 1)) ∧ (a9 < a7) ∧ (a10 = a11)) ∨ ((a0 = 0) ∧ (a8 = a9))) (h7 : a1 = 0) (h8 : a11 = 38) : (a4 - a5) < (a7 - a9) := by omega
theorem oq349 {a0 a1 a2 a3 a4 a5 a6 a7 a8 a9 : Int} (h0 : a0 ≠ a1) (h1 : a2 = a3) (h2 : a3 = a4) (h3 : a5 ≤ a6) (h4 : a6 ≤ a2) (h5 : ((a0 = 1) ∧ (a5 = (a7 + 1)) ∧ (a7 < a4) ∧ (a8 = a9)) ∨ ((a0 = 0) ∧ (a5 = a7))) (h6 : a1 = 0) (h7 : a9 = 38) : (1 : Int) ≤ (a4 - a7) := by omega
theorem oq351 {a0 a1 a2 a3 a4 a5 a6 a7 a8 a9 a10 a11 a12 a13 a14 a15 : Int} (h0 : a0 = a1) (h1 : a2 = a3) (h2 : a4 = a5) (h3 : a6 = a7) (h4 : a5 = a8) (h5 : a9 ≤ a3) (h6 : (a7 - a9) ≤ (a10 - a11)) (h7 : a10 ≤ a7) (h8 : (a11 + 1) ≤ a9) (h9 : ((a0 = 1) ∧ (a12 = (a9 + 1)) ∧ (a9 < a3) ∧ (a13 = a14)) ∨ ((a0 = 0) ∧ (a12 = a9))) (h10 : a1 = 0) (h11 : a14 = 38) (h12 : a15 = 1) : (a4 = a8) ∧ (a11 ≤ a12) ∧ (a12 ≤ a2) ∧ ((a6 - a12) ≤ (a10 - a11)) ∧ (a10 ≤ a6) ∧ ((0 : Int) ≤ a15) ∧ (a15 ≤ 1) ∧ (((a15 = 1) → ((a11 + 1) ≤ a12))) := ⟨by omega, by omega, by omega, by omega, by omega, by omega, by omega, by omega⟩
theorem oq352 {a0 a1 a2 a3 a4 : Int} (h0 : a0 = a1) (h1 : a2 = a3) (h2 : a3 = a4) (h3 : a1 = a2) : a0 = a4 := oz894 h0 h1 h2 h3
theorem oq353 {a0 a1 a2 a3 a4 a5 a6 a7 a8 a9 a10 a11 a12 a13 a14 : Int} (h0 : a0 ≠ a1) (h1 : a2 = a3) (h2 : a4 = a5) (h3 : (a5 - a6) ≤ (a7 - a8)) (h4 : (a9 - a3) ≤ (a4 - a10)) (h5 : a11 = (a9 + 1)) (h6 : ((a0 = 1) ∧ (a10 = (a6 + 1)) ∧ (a6 < a12) ∧ (a13 = a14)) ∨ ((a0 = 0) ∧ (a10 = a6))) (h7 : a1 = 0) (h8 : a14 = 38) : (a11 - a2) ≤ (a7 - a8) := by omega
theorem oq354 {a0 a1 a2 a3 a4 a5 a6 a7 a8 a9 a10 a11 a12 a13 a14 a15 a16 a17 : Int} (h0 : a0 = a1) (h1 : a2 = a3) (h2 : a1 = a4) (h3 : (a3 - a5) ≤ (a6 - a7)) (h4 : a6 ≤ a3) (h5 : (a7 + 1) ≤ a5) (h6 : a8 = a0) (h7 : a9 ≤ a10) (h8 : a10 ≤ a11) (h9 : (a12 - a10) ≤ (a2 - a9)) (h10 : a2 ≤ a12) (h11 : ((a13 = 1) ∧ (a9 = (a5 + 1)) ∧ (a5 < a14) ∧ (a15 = a16)) ∨ ((a13 = 0) ∧ (a9 = a5))) (h12 : a16 = 38) (h13 : a17 = 0) : (a8 = a4) ∧ (a7 ≤ a10) ∧ (a10 ≤ a11) ∧ ((a12 - a10) ≤ (a6 - a7)) ∧ (a6 ≤ a12) ∧ ((0 : Int) ≤ a17) ∧ (a17 ≤ 1) ∧ (((a17 = 1) → ((a7 + 1) ≤ a10))) := ⟨by omega, by omega, h8, by omega, by omega, by omega, by omega, by omega⟩
theorem oq355 {a0 : Int} (h0 : a0 = 124) : (0 : Int) ≤ a0 := oz901 h0
theorem oq357 {a0 a1 a2 a3 a4 a5 a6 a7 a8 a9 : Int} (h0 : a0 = a1) (h1 : a2 ≤ a3) (h2 : (a1 - a4) ≤ (a2 - a3)) (h3 : ((a5 = 1) ∧ (a6 = (a4 + 1)) ∧ (a4 < a7) ∧ (a8 = a9)) ∨ ((a5 = 0) ∧ (a6 = a4))) (h4 : a9 = 124) : a0 ≤ a6 := by omega
theorem oq358 {a0 a1 a2 a3 a4 a5 a6 : Int} (h0 : a0 = a1) (h1 : a2 ≤ a1) (h2 : ((a3 = 1) ∧ (a4 = (a2 + 1)) ∧ (a2 < a1) ∧ (a5 = a6)) ∨ ((a3 = 0) ∧ (a4 = a2))) (h3 : a6 = 124) : a4 ≤ a0 := by omega
theorem oq359 {a0 a1 a2 a3 a4 a5 a6 a7 a8 a9 a10 a11 : Int} (h0 : a0 = a1) (h1 : a2 ≤ 120) (h2 : (0 : Int) ≤ a3) (h3 : a4 ≤ a5) (h4 : (a1 - a6) ≤ (a4 - a5)) (h5 : (a3 - a2) ≤ (a0 - a7)) (h6 : ((a8 = 1) ∧ (a7 = (a6 + 1)) ∧ (a6 < a9) ∧ (a10 = a11)) ∨ ((a8 = 0) ∧ (a7 = a6))) (h7 : a11 = 124) : ((0 : Int) ≤ a3) ∧ (a3 ≤ 199) := by omega
theorem oq360 {a0 a1 a2 a3 a4 a5 a6 a7 a8 : Int} (h0 : a0 = a1) (h1 : (a2 + 1) ≤ a3) (h2 : a4 ≤ a1) (h3 : ((a5 = 1) ∧ (a4 = (a3 + 1)) ∧ (a3 < a6) ∧ (a7 = a8)) ∨ ((a5 = 0) ∧ (a4 = a3))) (h4 : a8 = 124) : a2 ≤ a0 := by omega
theorem oq362 {a0 a1 a2 a3 a4 a5 a6 a7 a8 : Int} (h0 : a0 = a1) (h1 : (a2 + 1) ≤ a3) (h2 : a4 ≤ a1) (h3 : ((a5 = 1) ∧ (a4 = (a3 + 1)) ∧ (a3 < a6) ∧ (a7 = a8)) ∨ ((a5 = 0) ∧ (a4 = a3))) (h4 : a8 = 124) : (a2 + 1) ≤ a0 := by omega
theorem oq363 {a0 a1 a2 a3 a4 a5 a6 : Int} (h0 : a0 ≠ a1) (h1 : ((a0 = 1) ∧ (a2 = (a3 + 1)) ∧ (a3 < a4) ∧ (a5 = a6)) ∨ ((a0 = 0) ∧ (a2 = a3))) (h2 : a1 = 0) (h3 : a6 = 124) : ¬ (a0 = 0) := by omega
theorem oq364 {a0 a1 a2 a3 a4 a5 a6 a7 a8 a9 a10 a11 a12 : Int} (h0 : a0 ≠ a1) (h1 : a2 = a3) (h2 : a4 = a5) (h3 : a3 = a6) (h4 : a5 = a2) (h5 : a6 = a7) (h6 : a8 ≤ a9) (h7 : a9 ≤ a4) (h8 : ((a0 = 1) ∧ (a8 = (a10 + 1)) ∧ (a10 < a2) ∧ (a11 = a12)) ∨ ((a0 = 0) ∧ (a8 = a10))) (h9 : a1 = 0) (h10 : a12 = 124) : a10 < a7 := by omega
theorem oq365 {a0 a1 a2 a3 a4 a5 a6 a7 a8 : Int} (h0 : a0 ≠ a1) (h1 : a2 = a3) (h2 : a4 ≤ a3) (h3 : ((a0 = 1) ∧ (a4 = (a5 + 1)) ∧ (a5 < a6) ∧ (a7 = a8)) ∨ ((a0 = 0) ∧ (a4 = a5))) (h4 : a1 = 0) (h5 : a8 = 124) : a5 < a2 := by omega
theorem oq366 {a0 a1 a2 a3 a4 a5 a6 a7 a8 a9 a10 a11 : Int} (h0 : a0 ≠ a1) (h1 : a2 = a3) (h2 : a4 = a2) (h3 : a5 = a6) (h4 : a3 = a7) (h5 : a8 ≤ a6) (h6 : ((a0 = 1) ∧ (a8 = (a9 + 1)) ∧ (a9 < a7) ∧ (a10 = a11)) ∨ ((a0 = 0) ∧ (a8 = a9))) (h7 : a1 = 0) (h8 : a11 = 124) : (a4 - a5) < (a7 - a9) := by omega
theorem oq367 {a0 a1 a2 a3 a4 a5 a6 a7 a8 a9 : Int} (h0 : a0 ≠ a1) (h1 : a2 = a3) (h2 : a3 = a4) (h3 : a5 ≤ a6) (h4 : a6 ≤ a2) (h5 : ((a0 = 1) ∧ (a5 = (a7 + 1)) ∧ (a7 < a4) ∧ (a8 = a9)) ∨ ((a0 = 0) ∧ (a5 = a7))) (h6 : a1 = 0) (h7 : a9 = 124) : (1 : Int) ≤ (a4 - a7) := by omega
theorem oq369 {a0 a1 a2 a3 a4 a5 a6 a7 a8 a9 a10 a11 a12 a13 a14 a15 : Int} (h0 : a0 = a1) (h1 : a2 = a3) (h2 : a4 = a5) (h3 : a6 = a7) (h4 : a5 = a8) (h5 : a9 ≤ a3) (h6 : (a7 - a9) ≤ (a10 - a11)) (h7 : a10 ≤ a7) (h8 : (a11 + 1) ≤ a9) (h9 : ((a0 = 1) ∧ (a12 = (a9 + 1)) ∧ (a9 < a3) ∧ (a13 = a14)) ∨ ((a0 = 0) ∧ (a12 = a9))) (h10 : a1 = 0) (h11 : a14 = 124) (h12 : a15 = 1) : (a4 = a8) ∧ (a11 ≤ a12) ∧ (a12 ≤ a2) ∧ ((a6 - a12) ≤ (a10 - a11)) ∧ (a10 ≤ a6) ∧ ((0 : Int) ≤ a15) ∧ (a15 ≤ 1) ∧ (((a15 = 1) → ((a11 + 1) ≤ a12))) := ⟨by omega, by omega, by omega, by omega, by omega, by omega, by omega, by omega⟩
theorem oq370 {a0 a1 a2 a3 a4 a5 a6 a7 a8 a9 a10 a11 a12 a13 a14 : Int} (h0 : a0 ≠ a1) (h1 : a2 = a3) (h2 : a4 = a5) (h3 : (a5 - a6) ≤ (a7 - a8)) (h4 : (a9 - a3) ≤ (a4 - a10)) (h5 : a11 = (a9 + 1)) (h6 : ((a0 = 1) ∧ (a10 = (a6 + 1)) ∧ (a6 < a12) ∧ (a13 = a14)) ∨ ((a0 = 0) ∧ (a10 = a6))) (h7 : a1 = 0) (h8 : a14 = 124) : (a11 - a2) ≤ (a7 - a8) := by omega
theorem oq371 {a0 a1 a2 a3 a4 a5 a6 a7 a8 a9 a10 a11 a12 a13 a14 a15 a16 a17 : Int} (h0 : a0 = a1) (h1 : a2 = a3) (h2 : a1 = a4) (h3 : (a3 - a5) ≤ (a6 - a7)) (h4 : a6 ≤ a3) (h5 : (a7 + 1) ≤ a5) (h6 : a8 = a0) (h7 : a9 ≤ a10) (h8 : a10 ≤ a11) (h9 : (a12 - a10) ≤ (a2 - a9)) (h10 : a2 ≤ a12) (h11 : ((a13 = 1) ∧ (a9 = (a5 + 1)) ∧ (a5 < a14) ∧ (a15 = a16)) ∨ ((a13 = 0) ∧ (a9 = a5))) (h12 : a16 = 124) (h13 : a17 = 0) : (a8 = a4) ∧ (a7 ≤ a10) ∧ (a10 ≤ a11) ∧ ((a12 - a10) ≤ (a6 - a7)) ∧ (a6 ≤ a12) ∧ ((0 : Int) ≤ a17) ∧ (a17 ≤ 1) ∧ (((a17 = 1) → ((a7 + 1) ≤ a10))) := ⟨by omega, by omega, h8, by omega, by omega, by omega, by omega, by omega⟩
theorem oq372 {a0 a1 : Int} (h0 : a0 ≤ 120) (h1 : (2 * a1) ≤ a0) : a1 < 61 := oz1284 h0 h1
theorem oq373 {a0 a1 a2 : Int} (h0 : a0 = a1) (h1 : a2 ≤ 120) (h2 : (2 * a1) ≤ a2) : a0 < 61 := oz1285 h0 h1 h2
theorem oq374 {a0 : Int} (h0 : a0 = 63) : (0 : Int) ≤ a0 := oz1286 h0
theorem oq375 {a0 a1 : Int} (h0 : a0 ≤ 61) (h1 : a1 = 1) : a0 + a1 ≤ 2147483647 := oz1288 h0 h1
theorem oq376 {a0 a1 a2 a3 a4 a5 : Int} (h0 : a0 = a1) (h1 : a2 = a0) (h2 : a3 ≤ 120) (h3 : (2 * a1) ≤ a3) (h4 : a4 = a2 + a5) (h5 : a5 = 1) : a4 ≤ 61 := oz1294 h0 h1 h2 h3 h4 h5
theorem oq377 {a0 a1 a2 a3 : Int} (h0 : a0 = a1) (h1 : a2 = a0) (h2 : a3 ≤ 120) (h3 : (2 * a1) ≤ a3) : a2 < 61 := oz1287 h0 h1 h2 h3
theorem oq378 {a0 a1 a2 a3 a4 a5 a6 a7 a8 a9 a10 a11 a12 a13 a14 a15 a16 a17 a18 a19 a20 : Int} (h0 : a0 = a1) (h1 : a2 ≠ a1) (h2 : a3 = a4) (h3 : a5 = a6) (h4 : a7 = a8) (h5 : a9 = a10) (h6 : a11 = a3) (h7 : a12 = 0) (h8 : a13 ≤ a14) (h9 : (2 * a4) ≤ a14) (h10 : a15 = a11 + a16) (h11 : a8 = a12) (h12 : a14 ≤ a17) (h13 : a17 ≤ a6) (h14 : (a10 - a17) ≤ (a13 - a14)) (h15 : (0 : Int) ≤ a2) (h16 : a2 ≤ 1) (h17 : ((a2 = 1) → ((a14 + 1) ≤ a17))) (h18 : ((a0 = 1) ∧ (a18 = (a17 + 1)) ∧ (a17 < a6) ∧ (a19 = a20)) ∨ ((a0 = 0) ∧ (a18 = a17))) (h19 : a1 = 0) (h20 : a16 = 1) (h21 : a20 = 63) : (a18 ≤ a5) ∧ (a14 ≤ a18) ∧ ((0 : Int) ≤ a16) ∧ (a16 ≤ 1) ∧ (((a16 = 1) → ((a7 = 0) ∧ (a9 ≤ a18) ∧ (a18 ≤ a5) ∧ ((2 * a15) ≤ (a18 + 1)) ∧ (a15 = (a4 + 1))))) := ⟨by omega, by omega, by omega, by omega, by omega⟩
theorem oq379 {a0 a1 a2 a3 a4 a5 a6 a7 a8 a9 : Int} (h0 : a0 = a1) (h1 : a2 ≤ a3) (h2 : (a1 - a4) ≤ (a2 - a3)) (h3 : ((a5 = 1) ∧ (a6 = (a4 + 1)) ∧ (a4 < a7) ∧ (a8 = a9)) ∨ ((a5 = 0) ∧ (a6 = a4))) (h4 : a9 = 63) : a0 ≤ a6 := by omega
theorem oq380 {a0 a1 a2 a3 a4 a5 a6 : Int} (h0 : a0 = a1) (h1 : a2 ≤ a1) (h2 : ((a3 = 1) ∧ (a4 = (a2 + 1)) ∧ (a2 < a1) ∧ (a5 = a6)) ∨ ((a3 = 0) ∧ (a4 = a2))) (h3 : a6 = 63) : a4 ≤ a0 := by omega
theorem oq381 {a0 a1 a2 a3 a4 a5 a6 : Int} (h0 : a0 = a1) (h1 : a2 = a3) (h2 : a1 = a2) (h3 : a4 ≤ 120) (h4 : (2 * a3) ≤ a4) (h5 : a5 = a0 + a6) (h6 : a6 = 1) : a5 ≤ 61 := by omega
theorem oq382 {a0 a1 a2 a3 a4 : Int} (h0 : a0 = a1) (h1 : a2 = a3) (h2 : a1 = a2) (h3 : a4 ≤ 120) (h4 : (2 * a3) ≤ a4) : a0 < 61 := by omega
theorem oq383 {a0 a1 a2 a3 a4 a5 a6 a7 a8 a9 a10 a11 a12 a13 a14 a15 a16 a17 a18 a19 a20 a21 a22 a23 : Int} (h0 : a0 ≠ a1) (h1 : a2 = a3) (h2 : a4 = a5) (h3 : a6 = a7) (h4 : a8 = a9) (h5 : a3 = a4) (h6 : a10 = 0) (h7 : a11 ≤ a12) (h8 : (2 * a5) ≤ a12) (h9 : a13 = a2 + a14) (h10 : a15 = a6) (h11 : a16 ≤ a17) (h12 : a17 ≤ a18) (h13 : (a19 - a17) ≤ (a8 - a16)) (h14 : a7 = a10) (h15 : a12 ≤ a20) (h16 : (a9 - a20) ≤ (a11 - a12)) (h17 : ((a0 = 1) ∧ (a16 = (a20 + 1)) ∧ (a20 < a21) ∧ (a22 = a23)) ∨ ((a0 = 0) ∧ (a16 = a20))) (h18 : a1 = 0) (h19 : a14 = 1) (h20 : a23 = 63) : (a17 ≤ a18) ∧ (a12 ≤ a17) ∧ ((0 : Int) ≤ a14) ∧ (a14 ≤ 1) ∧ (((a14 = 1) → ((a15 = 0) ∧ (a19 ≤ a17) ∧ (a17 ≤ a18) ∧ ((2 * a13) ≤ (a17 + 1)) ∧ (a13 = (a5 + 1))))) := ⟨h12, by omega, by omega, by omega, by omega⟩
theorem oq384 {a0 a1 a2 a3 a4 a5 a6 : Int} (h0 : a0 ≠ a1) (h1 : ((a0 = 1) ∧ (a2 = (a3 + 1)) ∧ (a3 < a4) ∧ (a5 = a6)) ∨ ((a0 = 0) ∧ (a2 = a3))) (h2 : a1 = 0) (h3 : a6 = 63) : ¬ (a0 = 0) := by omega
theorem oq385 {a0 a1 a2 a3 a4 a5 a6 a7 a8 a9 a10 a11 a12 a13 : Int} (h0 : a0 ≤ a1) (h1 : a1 ≤ a2) (h2 : a3 ≤ a4) (h3 : ((a5 = 1) ∧ (a0 = (a4 + 1)) ∧ (a4 < a6) ∧ (a7 = a8)) ∨ ((a5 = 0) ∧ (a0 = a4))) (h4 : a8 = 63) (h5 : a9 = 0) : (a1 ≤ a2) ∧ (a3 ≤ a1) ∧ ((0 : Int) ≤ a9) ∧ (a9 ≤ 1) ∧ (((a9 = 1) → ((a10 = 0) ∧ (a11 ≤ a1) ∧ (a1 ≤ a2) ∧ ((2 * a12) ≤ (a1 + 1)) ∧ (a12 = (a13 + 1))))) := ⟨h1, by omega, by omega, by omega, by omega⟩
theorem oq386 {a0 a1 a2 a3 a4 a5 a6 a7 : Int} (h0 : a0 ≤ a1) (h1 : a1 ≤ a2) (h2 : a3 = 0) : (a1 ≤ a2) ∧ (a0 ≤ a1) ∧ ((0 : Int) ≤ a3) ∧ (a3 ≤ 1) ∧ (((a3 = 1) → ((a4 = 0) ∧ (a5 ≤ a1) ∧ (a1 ≤ a2) ∧ ((2 * a6) ≤ (a1 + 1)) ∧ (a6 = (a7 + 1))))) := by omega
theorem oq387 {a0 : Int} (h0 : a0 = 0) : (0 : Int) ≤ a0 := oz46 h0
theorem oq388 {a0 : Int} (h0 : a0 = 0) : a0 ≤ 120 := oz1297 h0
theorem oq389 {a0 : Int} (h0 : a0 = 0) : a0 ≤ 200 := oz1298 h0
theorem oq390 {a0 : Int} (h0 : a0 = 0) : a0 ≤ 61 := oz1299 h0
theorem oq391 {a0 a1 : Int} (h0 : (0 : Int) ≤ a0) (h1 : a1 = 0) : (a1 = 0) ∧ (a1 ≤ a1) ∧ (a1 ≤ a0) := oz1300 h0 h1
theorem oq392 {a0 : Int} (h0 : a0 = 0) : (2 * a0) ≤ a0 := oz1301 h0
theorem oq393 {a0 a1 : Int} (h0 : a0 ≤ 120) (h1 : a1 = (-100)) : (-2147483648 : Int) ≤ a1 - a0 := oz1302 h0 h1
theorem oq394 {a0 a1 : Int} (h0 : (0 : Int) ≤ a0) (h1 : a1 = (-100)) : a1 - a0 ≤ 2147483647 := oz1324 h0 h1
theorem oq395 {a0 : Int} (h0 : a0 = 0) : a0 = 0 := oz236 h0
theorem oq396 {a0 a1 a2 a3 : Int} (h0 : a0 = a1) (h1 : (0 : Int) ≤ a0) (h2 : a1 = 0) : ¬ (a0 ≠ 0 ∧ a2 = a3) := by omega
theorem oq397 {a0 a1 : Int} (h0 : a0 ≠ a1) (h1 : a0 = a1) (h2 : (0 : Int) ≤ a0) (h3 : a1 = 0) : False := oz1281 h0 h1 h2 h3
theorem oq398 {a0 : Int} (h0 : a0 = 59) : (0 : Int) ≤ a0 := oz1304 h0
theorem oq400 {a0 : Int} (h0 : a0 = 1) : (0 : Int) ≤ a0 := oz246 h0
theorem oq401 {a0 : Int} (h0 : a0 = 1) : a0 ≤ 1 := oz558 h0
theorem oq402 {a0 a1 a2 a3 a4 a5 a6 a7 : Int} (h0 : a0 ≠ a1) (h1 : a2 = a3) (h2 : a4 ≤ 120) (h3 : (0 : Int) ≤ a0) (h4 : a0 ≤ 1) (h5 : ((a0 = 1) → ((a5 = 0) ∧ (a6 ≤ a4) ∧ (a4 ≤ a7) ∧ ((2 * a3) ≤ (a4 + 1))))) (h6 : a1 = 0) : a2 ≤ 60 := oz1327 h0 h1 h2 h3 h4 h5 h6
theorem oq403 {a0 a1 a2 : Int} (h0 : a0 = a1) (h1 : a2 = a0) (h2 : (0 : Int) ≤ a2) (h3 : a1 = 0) : a2 = 0 := oe57 h0 h1 h2 h3
theorem oq404 {a0 a1 : Int} (h0 : a0 ≠ a1) (h1 : (0 : Int) ≤ a0) (h2 : a1 = 0) : a0 ≠ 0 := oz662 h0 h1 h2
theorem oq405 {a0 a1 a2 a3 a4 a5 : Int} (h0 : a0 = a1) (h1 : a2 = a3) (h2 : a1 = a2) (h3 : a3 = a4) (h4 : a4 = a5) : a0 = a5 := by omega
theorem oq406 {a0 a1 a2 : Int} (h0 : a0 ≤ a1) (h1 : a0 = a2) : a2 ≤ a1 := oz1318 h0 h1
theorem oq407 {a0 a1 a2 a3 : Int} (h0 : a0 ≤ a1) (h1 : a2 = a3) (h2 : a0 = a2) : a3 ≤ a1 := oz1319 h0 h1 h2
theorem oq408 {a0 a1 a2 : Int} (h0 : a0 = a1) (h1 : a2 = a0) : a2 = a1 := oz762 h0 h1
theorem oq409 {a0 a1 : Int} (h0 : a0 < a1) (h1 : a1 ≤ 200) : a0 < 200 := oz269 h0 h1
theorem oq410 {a0 a1 a2 : Int} (h0 : a0 < a1) (h1 : a1 ≤ 200) (h2 : a2 = 1) : a0 + a2 ≤ 2147483647 := oz277 h0 h1 h2
theorem oq411 {a0 a1 a2 a3 : Int} (h0 : a0 < a1) (h1 : (0 : Int) ≤ a0) (h2 : a2 = a0 + a3) (h3 : a3 = 1) : ((0 : Int) ≤ a2) ∧ (a2 ≤ a1) := oz1320 h0 h1 h2 h3
theorem oq412 {a0 a1 a2 a3 : Int} (h0 : a0 = a1 + a2) (h1 : a2 = 1) : (a3 - a0) < (a3 - a1) := oz44 h0 h1
theorem oq413 {a0 a1 : Int} (h0 : a0 < a1) : (1 : Int) ≤ (a1 - a0) := oz45 h0
theorem oq414 {a0 a1 : Int} (h0 : (0 : Int) ≤ a0) (h1 : a1 = 0) : ((0 : Int) ≤ a1) ∧ (a1 ≤ a0) := oz1321 h0 h1
theorem oq415 {a0 a1 : Int} (h0 : a0 < a1) (h1 : a1 ≤ 60) : a0 < 61 := oz1322 h0 h1
theorem oq416 {a0 a1 : Int} (h0 : a0 < a1) (h1 : a1 ≤ 60) : a0 < 60 := oz266 h0 h1
theorem oq417 {a0 a1 a2 : Int} (h0 : a0 < a1) (h1 : a1 ≤ 60) (h2 : a2 = 1) : a0 + a2 ≤ 2147483647 := oz307 h0 h1 h2
theorem oq418 {a0 a1 a2 a3 a4 a5 a6 a7 a8 a9 a10 a11 a12 a13 : Int} (h0 : a0 ≠ a1) (h1 : a2 = a3) (h2 : a4 = a5) (h3 : a6 = a7) (h4 : (0 : Int) ≤ a0) (h5 : a0 ≤ 1) (h6 : ((a0 = 1) → ((a5 = 0) ∧ (a7 ≤ a8) ∧ (a8 ≤ a3) ∧ ((2 * a9) ≤ (a8 + 1))))) (h7 : a8 ≤ a3) (h8 : ((a10 = 1) ∧ (a11 = (a8 + 1)) ∧ (a8 < a3) ∧ (a12 = a13)) ∨ ((a10 = 0) ∧ (a11 = a8))) (h9 : a1 = 0) (h10 : a13 = 59) : (a4 = 0) ∧ (a6 ≤ a11) ∧ (a11 ≤ a2) := by omega
theorem oq419 {a0 a1 a2 a3 a4 a5 a6 a7 a8 a9 a10 a11 : Int} (h0 : a0 ≠ a1) (h1 : a2 ≠ a1) (h2 : a3 = a4) (h3 : (0 : Int) ≤ a0) (h4 : a0 ≤ 1) (h5 : ((a0 = 1) → ((a5 = 0) ∧ (a6 ≤ a7) ∧ (a7 ≤ a8) ∧ ((2 * a4) ≤ (a7 + 1))))) (h6 : ((a2 = 1) ∧ (a9 = (a7 + 1)) ∧ (a7 < a8) ∧ (a10 = a11)) ∨ ((a2 = 0) ∧ (a9 = a7))) (h7 : a1 = 0) (h8 : a11 = 59) : (2 * a3) ≤ a9 := by omega
theorem oq420 {a0 : Int} (h0 : (0 : Int) ≤ a0) (h1 : a0 ≤ 1) : ((0 : Int) ≤ a0) ∧ (a0 ≤ 1) := by omega
theorem oq421 {a0 a1 a2 a3 a4 a5 a6 : Int} (h0 : a0 ≤ a1) (h1 : a2 ≤ 1) (h2 : ((a2 = 1) → ((a3 = 0) ∧ (a4 ≤ a0) ∧ (a0 ≤ a1) ∧ ((2 * a5) ≤ (a0 + 1)) ∧ (a5 = (a6 + 1))))) : ((a2 = 1) → ((a3 = 0) ∧ (a4 ≤ a0) ∧ (a0 ≤ a1) ∧ ((2 * a5) ≤ (a0 + 1)))) := by omega
theorem oq422 {a0 a1 a2 a3 a4 a5 a6 : Int} (h0 : a0 ≠ a1) (h1 : ((a0 = 1) ∧ (a2 = (a3 + 1)) ∧ (a3 < a4) ∧ (a5 = a6)) ∨ ((a0 = 0) ∧ (a2 = a3))) (h2 : a1 = 0) (h3 : a6 = 59) : ¬ (a0 = 0) := by omega
theorem oq423 {a0 a1 a2 a3 a4 a5 a6 a7 a8 a9 a10 a11 a12 : Int} (h0 : a0 ≠ a1) (h1 : a2 = a3) (h2 : a4 = a2) (h3 : a5 = a4) (h4 : a3 = a6) (h5 : a6 = a7) (h6 : ((a0 = 1) ∧ (a8 = (a9 + 1)) ∧ (a9 < a2) ∧ (a10 = a11)) ∨ ((a0 = 0) ∧ (a8 = a9))) (h7 : a12 ≤ a5) (h8 : a8 ≤ a12) (h9 : a1 = 0) (h10 : a11 = 59) : a9 < a7 := by omega
theorem oq424 {a0 a1 a2 a3 a4 a5 a6 a7 : Int} (h0 : a0 ≠ a1) (h1 : ((a0 = 1) ∧ (a2 = (a3 + 1)) ∧ (a3 < a4) ∧ (a5 = a6)) ∨ ((a0 = 0) ∧ (a2 = a3))) (h2 : a2 ≤ a7) (h3 : a1 = 0) (h4 : a6 = 59) : a3 < a7 := by omega
theorem oq425 {a0 a1 a2 a3 a4 a5 a6 a7 a8 a9 a10 a11 : Int} (h0 : a0 ≠ a1) (h1 : a2 ≠ a1) (h2 : a3 = a4) (h3 : a5 = a3) (h4 : (0 : Int) ≤ a0) (h5 : ((a2 = 1) ∧ (a6 = (a7 + 1)) ∧ (a7 < a4) ∧ (a8 = a9)) ∨ ((a2 = 0) ∧ (a6 = a7))) (h6 : a6 ≤ a10) (h7 : a11 ≤ 1) (h8 : a1 = 0) (h9 : a9 = 59) : (((200 * a11) + a5) - a10) < (((200 * a0) + a4) - a7) := by omega
theorem oq426 {a0 a1 a2 a3 : Int} (h0 : a0 ≠ a1) (h1 : (0 : Int) ≤ a2) (h2 : a3 ≤ 120) (h3 : (0 : Int) ≤ a0) (h4 : a1 = 0) : (1 : Int) ≤ (((200 * a0) + a2) - a3) := by omega
theorem oq427 {a0 a1 a2 a3 a4 a5 a6 : Int} (h0 : a0 ≤ a1) (h1 : a2 ≤ 1) (h2 : ((a2 = 1) → ((a3 = 0) ∧ (a4 ≤ a0) ∧ (a0 ≤ a1) ∧ ((2 * a5) ≤ (a0 + 1)) ∧ (a5 = (a6 + 1))))) (h3 : a6 = 0) : ((a2 = 1) → ((a3 = 0) ∧ (a4 ≤ a0) ∧ (a0 ≤ a1) ∧ ((2 * a5) ≤ (a0 + 1)))) := by omega
theorem oq428 {a0 a1 a2 a3 a4 a5 a6 a7 a8 a9 a10 a11 : Int} (h0 : a0 = a1) (h1 : a2 ≠ a3) (h2 : a4 = a5) (h3 : a3 = a4) (h4 : a5 = a6) (h5 : a6 = a7) (h6 : a8 ≤ a4) (h7 : ((a0 = 1) ∧ (a2 = (a8 + 1)) ∧ (a8 < a4) ∧ (a9 = a10)) ∨ ((a0 = 0) ∧ (a2 = a8))) (h8 : a1 = 0) (h9 : a10 = 59) : ¬ (a11 ≠ 0 ∧ a2 = a7) := by omega
set_option maxRecDepth 100000 in
theorem ke147_116 {i : Nat → Int32} {a : Nat → List Int32} {q : Nat → List Int64} {r : Nat → Nat} (hI : kI i a q) (hr : kr r) (t : List Int32) (nn : Int32) (hT : a 119 = t) (hN : i 7429 = nn) (hX : kBy t) : km 1 147 [.ref 116] (ks i a q r) (kPI (ks i a q r) (fun v => ((((-1) : Int) ≤ v.toInt) ∧ (v.toInt ≤ 255) ∧ ((v.toInt = (-1)) ∨ ((i 7437).toInt < (i 7429).toInt))) ∧ v = cHr t nn (i 7437) 0)) := by
  have hG := kG_self kW0 hI hr
  refine km_ofPI (q := (mi_h147, mi_c147)) rfl (by decide) (Nat.le_of_ble_eq_true rfl) ?_
  intro P hP
  have hn1 : (i 7429).toInt = nn.toInt := congrArg Int32.toInt hN
  have fi_7437 : ((0 : Int) ≤ (i 7437).toInt) ∧ ((i 7437).toInt ≤ 120) := hG.I.1 7437
  have fi_7429 : ((0 : Int) ≤ (i 7429).toInt) ∧ ((i 7429).toInt ≤ 120) := hG.I.1 7429
  first | refine ft_goL mi_k147 4 8 [(0, .ref 116)] [.int (i 7429), .int (i 7437)] (by rfl) ?_ | refine ft_go mi_k147 4 8 [(0, .ref 116)] [.int (i 7429), .int (i 7437)] i a q r (by rfl) ?_
  refine ft_ifS mi_k147 (decide ((i 7429) ≤ (i 7437))) 23 11 [] (by rfl) (fun c => ?_) (fun c => ?_)
  ·
    have c2 : (i 7429).toInt ≤ (i 7437).toInt := kd_le c; clear c
    first | refine ft_goS mi_k147 1 24 [.int (-1)] (by rfl) ?_ | refine ft_go mi_k147 1 24 [(0, .ref 116)] [.int (-1)] i a q r (by rfl) ?_
    exact ft_ret mi_k147 (by rfl) (hP (-1) ⟨(oq0 koqm1), (show ((-1) : Int32) = cHr t nn (i 7437) 0 from (cHr_out (fun z => absurd z.2 (oq1 c2 hn1))))⟩)
  ·
    have c3 : (i 7437).toInt < (i 7429).toInt := kd_leF c; clear c
    first | refine ft_goS mi_k147 4 19 [.int (i 7437), .ref 119] (by rfl) ?_ | refine ft_go mi_k147 4 19 [(0, .ref 116)] [.int (i 7437), .ref 119] i a q r (by rfl) ?_
    refine ko_iald3 mi_k147.1 (n := 120) (c := 120) (ax := (0, 0, 0, 0, 0)) (mi_k147.2 _ _ (by rfl)) (by rfl) (ksG119 _ _ _ _) (hG.I.2.1 119) rfl (oq2 fi_7437.1) (oq3 c3 fi_7429.2) ?_
    have hx4 : ((0 : Int) ≤ ((a 119).getD (i 7437).toNatClampNeg 0).toInt) ∧ (((a 119).getD (i 7437).toNatClampNeg 0).toInt ≤ 255) := (hT ▸ hX ((i 7437).toNatClampNeg) : (0 : Int) ≤ ((a 119).getD ((i 7437).toNatClampNeg) 0).toInt ∧ ((a 119).getD ((i 7437).toNatClampNeg) 0).toInt ≤ 255)
    first | refine ft_goS mi_k147 1 24 [.int ((a 119).getD (i 7437).toNatClampNeg 0)] (by rfl) ?_ | refine ft_go mi_k147 1 24 [(0, .ref 116)] [.int ((a 119).getD (i 7437).toNatClampNeg 0)] i a q r (by rfl) ?_
    exact ft_ret mi_k147 (by rfl) (hP ((a 119).getD (i 7437).toNatClampNeg 0) ⟨(oq4 c3 hx4.1 hx4.2), (show ((a 119).getD (i 7437).toNatClampNeg 0) = cHr t nn (i 7437) 0 from (by rw [hT]; exact cHr_in koq0 (oq5 c3 hn1)))⟩)
set_option maxRecDepth 100000 in
theorem ke150_116 {i : Nat → Int32} {a : Nat → List Int32} {q : Nat → List Int64} {r : Nat → Nat} (hI : kI i a q) (hr : kr r) (t : List Int32) (nn : Int32) (hT : a 119 = t) (hN : i 7429 = nn) (hX : kBy t) : km 3 150 [.ref 116] (ks i a q r) (kPI (ks i a q r) (fun v => (((v.toInt = 1) ∧ ((48 : Int) ≤ (cHr t nn (i 7437) 0).toInt) ∧ ((cHr t nn (i 7437) 0).toInt ≤ 57) ∧ ((i 7437).toInt < (i 7429).toInt)) ∨ (v.toInt = 0)) ∧ (((v.toInt = 0) → (¬ (((48 : Int) ≤ (cHr t nn (i 7437) 0).toInt) ∧ ((cHr t nn (i 7437) 0).toInt ≤ 57))))))) := by
  have hG := kG_self kW0 hI hr
  refine km_ofPI (q := (mi_h150, mi_c150)) rfl (by decide) (Nat.le_of_ble_eq_true rfl) ?_
  intro P hP
  have hn1 : (i 7429).toInt = nn.toInt := congrArg Int32.toInt hN
  first | refine ft_goL mi_k150 1 1 [(0, .ref 116)] [.ref 116] (by rfl) ?_ | refine ft_go mi_k150 1 1 [(0, .ref 116)] [.ref 116] i a q r (by rfl) ?_
  refine ko_callPI mi_k150.1 (pc := 1) (ls := [(0, .ref 116)]) (st := [.ref 116]) (h := ks i a q r) (i := (.invokevirtual 166, 3, 147, 0, 9, 0, 404)) (mi_k150.2 _ _ (by rfl)) (ft_invS mi_pq147 (by rfl)) (cy := mi_c147) mi_pq147 rfl (ke147_116 hG.I hG.R t nn hT hN hX) (by decide) ?_
  intro vg2 hg2
  obtain ⟨hg2, og2⟩ := hg2
  have z3 : (((-1) : Int) ≤ vg2.toInt) ∧ (vg2.toInt ≤ 255) ∧ ((vg2.toInt = (-1)) ∨ ((i 7437).toInt < (i 7429).toInt)) := hg2
  have q4 : vg2 = cHr t nn (i 7437) 0 := og2
  have hv5 : vg2.toInt = (cHr t nn (i 7437) 0).toInt := congrArg Int32.toInt og2
  first | refine ft_goS mi_k150 1 6 [.int 48, .int vg2] (by rfl) ?_ | refine ft_go mi_k150 1 6 [(0, .ref 116)] [.int 48, .int vg2] i a q r (by rfl) ?_
  refine ft_ifS mi_k150 (decide (vg2 < 48)) 22 9 [] (by rfl) (fun c => ?_) (fun c => ?_)
  ·
    have c6 : vg2.toInt < (48 : Int32).toInt := kd_lt c; clear c
    first | refine ft_goS mi_k150 1 23 [.int 0] (by rfl) ?_ | refine ft_go mi_k150 1 23 [(0, .ref 116)] [.int 0] i a q r (by rfl) ?_
    exact ft_ret mi_k150 (by rfl) (hP 0 (oq6 c6 hv5 koq48 koq0))
  ·
    have c7 : (48 : Int32).toInt ≤ vg2.toInt := kd_ltF c; clear c
    first | refine ft_goS mi_k150 1 10 [.ref 116] (by rfl) ?_ | refine ft_go mi_k150 1 10 [(0, .ref 116)] [.ref 116] i a q r (by rfl) ?_
    refine ko_callPI mi_k150.1 (pc := 10) (ls := [(0, .ref 116)]) (st := [.ref 116]) (h := ks i a q r) (i := (.invokevirtual 166, 3, 147, 0, 9, 0, 404)) (mi_k150.2 _ _ (by rfl)) (ft_invS mi_pq147 (by rfl)) (cy := mi_c147) mi_pq147 rfl (ke147_116 hG.I hG.R t nn hT hN hX) (by decide) ?_
    intro vg8 hg8
    obtain ⟨hg8, og8⟩ := hg8
    have q10 : vg8 = cHr t nn (i 7437) 0 := og8
    have hv11 : vg8.toInt = (cHr t nn (i 7437) 0).toInt := congrArg Int32.toInt og8
    first | refine ft_goS mi_k150 1 15 [.int 57, .int vg8] (by rfl) ?_ | refine ft_go mi_k150 1 15 [(0, .ref 116)] [.int 57, .int vg8] i a q r (by rfl) ?_
    refine ft_ifS mi_k150 (decide (57 < vg8)) 22 18 [] (by rfl) (fun c => ?_) (fun c => ?_)
    ·
      have c12 : (57 : Int32).toInt < vg8.toInt := kd_lt c; clear c
      first | refine ft_goS mi_k150 1 23 [.int 0] (by rfl) ?_ | refine ft_go mi_k150 1 23 [(0, .ref 116)] [.int 0] i a q r (by rfl) ?_
      exact ft_ret mi_k150 (by rfl) (hP 0 (oq7 c12 hv11 koq57 koq0))
    ·
      have c13 : vg8.toInt ≤ (57 : Int32).toInt := kd_ltF c; clear c
      first | refine ft_goS mi_k150 2 23 [.int 1] (by rfl) ?_ | refine ft_go mi_k150 2 23 [(0, .ref 116)] [.int 1] i a q r (by rfl) ?_
      exact ft_ret mi_k150 (by rfl) (hP 1 (oq8 c13 c7 hv11 hv5 z3.2.2 koq57 koq48 koq1))
set_option maxRecDepth 100000 in
theorem ke151 {i : Nat → Int32} {a : Nat → List Int32} {q : Nat → List Int64} {r : Nat → Nat} (hI : kI i a q) (hr : kr r) (x1 : Int32) : km 1 151 [.int x1] (ks i a q r) (kPI (ks i a q r) (fun v => ((((-1) : Int) ≤ v.toInt) ∧ (v.toInt ≤ 5) ∧ ((v.toInt = (-1)) ∨ ((100 : Int) ≤ x1.toInt))) ∧ v = nmO x1)) := by
  have hG := kG_self kW0 hI hr
  refine km_ofPI (q := (mi_h151, mi_c151)) rfl (by decide) (Nat.le_of_ble_eq_true rfl) ?_
  intro P hP
  first | refine ft_goL mi_k151 1 1 [(0, .int x1)] [.int x1] (by rfl) ?_ | refine ft_go mi_k151 1 1 [(0, .int x1)] [.int x1] i a q r (by rfl) ?_
  by_cases w1 : x1.toInt = 100
  ·
    refine ft_swx mi_k151 (pc := 1) (v := 100) (t := 106) (kj_eq w1 (by decide) : x1 = 100) (by decide +kernel) ?_
    first | refine ft_goS mi_k151 1 107 [.int 5] (by rfl) ?_ | refine ft_go mi_k151 1 107 [(0, .int x1)] [.int 5] i a q r (by rfl) ?_
    exact ft_ret mi_k151 (by rfl) (hP 5 ⟨(oq9 w1 koq5), (show (5 : Int32) = nmO x1 from (nmO_of (oq10 w1 koq5)))⟩)
  by_cases w2 : x1.toInt = 101
  ·
    refine ft_swx mi_k151 (pc := 1) (v := 101) (t := 108) (kj_eq w2 (by decide) : x1 = 101) (by decide +kernel) ?_
    first | refine fo_goS mi_k151 fz151_108_1_109 [.int (-1)] (by rfl) ?_ | refine ft_go mi_k151 1 109 [(0, .int x1)] [.int (-1)] i a q r (by rfl) ?_
    exact ft_ret mi_k151 (by rfl) (hP (-1) ⟨(oq11 koqm1), (show ((-1) : Int32) = nmO x1 from (nmO_no (oq12 w2) (oq13 w2) (oq14 w2) (oq15 w2) (oq16 w2) (oq17 w2) rfl))⟩)
  by_cases w3 : x1.toInt = 102
  ·
    refine ft_swx mi_k151 (pc := 1) (v := 102) (t := 108) (kj_eq w3 (by decide) : x1 = 102) (by decide +kernel) ?_
    first | refine fo_goS mi_k151 fz151_108_1_109 [.int (-1)] (by rfl) ?_ | refine ft_go mi_k151 1 109 [(0, .int x1)] [.int (-1)] i a q r (by rfl) ?_
    exact ft_ret mi_k151 (by rfl) (hP (-1) ⟨(oq11 koqm1), (show ((-1) : Int32) = nmO x1 from (nmO_no (oq18 w3) (oq19 w3) (oq20 w3) (oq21 w3) (oq22 w3) (oq23 w3) rfl))⟩)
  by_cases w4 : x1.toInt = 103
  ·
    refine ft_swx mi_k151 (pc := 1) (v := 103) (t := 108) (kj_eq w4 (by decide) : x1 = 103) (by decide +kernel) ?_
    first | refine fo_goS mi_k151 fz151_108_1_109 [.int (-1)] (by rfl) ?_ | refine ft_go mi_k151 1 109 [(0, .int x1)] [.int (-1)] i a q r (by rfl) ?_
    exact ft_ret mi_k151 (by rfl) (hP (-1) ⟨(oq11 koqm1), (show ((-1) : Int32) = nmO x1 from (nmO_no (oq24 w4) (oq25 w4) (oq26 w4) (oq27 w4) (oq28 w4) (oq29 w4) rfl))⟩)
  by_cases w5 : x1.toInt = 104
  ·
    refine ft_swx mi_k151 (pc := 1) (v := 104) (t := 100) (kj_eq w5 (by decide) : x1 = 104) (by decide +kernel) ?_
    first | refine ft_goS mi_k151 1 101 [.int 2] (by rfl) ?_ | refine ft_go mi_k151 1 101 [(0, .int x1)] [.int 2] i a q r (by rfl) ?_
    exact ft_ret mi_k151 (by rfl) (hP 2 ⟨(oq30 w5 koq2), (show (2 : Int32) = nmO x1 from (nmO_of (oq31 w5 koq2)))⟩)
  by_cases w6 : x1.toInt = 105
  ·
    refine ft_swx mi_k151 (pc := 1) (v := 105) (t := 108) (kj_eq w6 (by decide) : x1 = 105) (by decide +kernel) ?_
    first | refine fo_goS mi_k151 fz151_108_1_109 [.int (-1)] (by rfl) ?_ | refine ft_go mi_k151 1 109 [(0, .int x1)] [.int (-1)] i a q r (by rfl) ?_
    exact ft_ret mi_k151 (by rfl) (hP (-1) ⟨(oq11 koqm1), (show ((-1) : Int32) = nmO x1 from (nmO_no (oq32 w6) (oq33 w6) (oq34 w6) (oq35 w6) (oq36 w6) (oq37 w6) rfl))⟩)
  by_cases w7 : x1.toInt = 106
  ·
    refine ft_swx mi_k151 (pc := 1) (v := 106) (t := 108) (kj_eq w7 (by decide) : x1 = 106) (by decide +kernel) ?_
    first | refine fo_goS mi_k151 fz151_108_1_109 [.int (-1)] (by rfl) ?_ | refine ft_go mi_k151 1 109 [(0, .int x1)] [.int (-1)] i a q r (by rfl) ?_
    exact ft_ret mi_k151 (by rfl) (hP (-1) ⟨(oq11 koqm1), (show ((-1) : Int32) = nmO x1 from (nmO_no (oq38 w7) (oq39 w7) (oq40 w7) (oq41 w7) (oq42 w7) (oq43 w7) rfl))⟩)
  by_cases w8 : x1.toInt = 107
  ·
    refine ft_swx mi_k151 (pc := 1) (v := 107) (t := 108) (kj_eq w8 (by decide) : x1 = 107) (by decide +kernel) ?_
    first | refine fo_goS mi_k151 fz151_108_1_109 [.int (-1)] (by rfl) ?_ | refine ft_go mi_k151 1 109 [(0, .int x1)] [.int (-1)] i a q r (by rfl) ?_
    exact ft_ret mi_k151 (by rfl) (hP (-1) ⟨(oq11 koqm1), (show ((-1) : Int32) = nmO x1 from (nmO_no (oq44 w8) (oq45 w8) (oq46 w8) (oq47 w8) (oq48 w8) (oq49 w8) rfl))⟩)
  by_cases w9 : x1.toInt = 108
  ·
    refine ft_swx mi_k151 (pc := 1) (v := 108) (t := 108) (kj_eq w9 (by decide) : x1 = 108) (by decide +kernel) ?_
    first | refine fo_goS mi_k151 fz151_108_1_109 [.int (-1)] (by rfl) ?_ | refine ft_go mi_k151 1 109 [(0, .int x1)] [.int (-1)] i a q r (by rfl) ?_
    exact ft_ret mi_k151 (by rfl) (hP (-1) ⟨(oq11 koqm1), (show ((-1) : Int32) = nmO x1 from (nmO_no (oq50 w9) (oq51 w9) (oq52 w9) (oq53 w9) (oq54 w9) (oq55 w9) rfl))⟩)
  by_cases w10 : x1.toInt = 109
  ·
    refine ft_swx mi_k151 (pc := 1) (v := 109) (t := 108) (kj_eq w10 (by decide) : x1 = 109) (by decide +kernel) ?_
    first | refine fo_goS mi_k151 fz151_108_1_109 [.int (-1)] (by rfl) ?_ | refine ft_go mi_k151 1 109 [(0, .int x1)] [.int (-1)] i a q r (by rfl) ?_
    exact ft_ret mi_k151 (by rfl) (hP (-1) ⟨(oq11 koqm1), (show ((-1) : Int32) = nmO x1 from (nmO_no (oq56 w10) (oq57 w10) (oq58 w10) (oq59 w10) (oq60 w10) (oq61 w10) rfl))⟩)
  by_cases w11 : x1.toInt = 110
  ·
    refine ft_swx mi_k151 (pc := 1) (v := 110) (t := 102) (kj_eq w11 (by decide) : x1 = 110) (by decide +kernel) ?_
    first | refine ft_goS mi_k151 1 103 [.int 3] (by rfl) ?_ | refine ft_go mi_k151 1 103 [(0, .int x1)] [.int 3] i a q r (by rfl) ?_
    exact ft_ret mi_k151 (by rfl) (hP 3 ⟨(oq62 w11 koq3), (show (3 : Int32) = nmO x1 from (nmO_of (oq63 w11 koq3)))⟩)
  by_cases w12 : x1.toInt = 111
  ·
    refine ft_swx mi_k151 (pc := 1) (v := 111) (t := 104) (kj_eq w12 (by decide) : x1 = 111) (by decide +kernel) ?_
    first | refine ft_goS mi_k151 1 105 [.int 4] (by rfl) ?_ | refine ft_go mi_k151 1 105 [(0, .int x1)] [.int 4] i a q r (by rfl) ?_
    exact ft_ret mi_k151 (by rfl) (hP 4 ⟨(oq64 w12 koq4), (show (4 : Int32) = nmO x1 from (nmO_of (oq65 w12 koq4)))⟩)
  by_cases w13 : x1.toInt = 112
  ·
    refine ft_swx mi_k151 (pc := 1) (v := 112) (t := 98) (kj_eq w13 (by decide) : x1 = 112) (by decide +kernel) ?_
    first | refine ft_goS mi_k151 1 99 [.int 1] (by rfl) ?_ | refine ft_go mi_k151 1 99 [(0, .int x1)] [.int 1] i a q r (by rfl) ?_
    exact ft_ret mi_k151 (by rfl) (hP 1 ⟨(oq66 w13 koq1), (show (1 : Int32) = nmO x1 from (nmO_of (oq67 w13 koq1)))⟩)
  by_cases w14 : x1.toInt = 113
  ·
    refine ft_swx mi_k151 (pc := 1) (v := 113) (t := 108) (kj_eq w14 (by decide) : x1 = 113) (by decide +kernel) ?_
    first | refine fo_goS mi_k151 fz151_108_1_109 [.int (-1)] (by rfl) ?_ | refine ft_go mi_k151 1 109 [(0, .int x1)] [.int (-1)] i a q r (by rfl) ?_
    exact ft_ret mi_k151 (by rfl) (hP (-1) ⟨(oq11 koqm1), (show ((-1) : Int32) = nmO x1 from (nmO_no (oq68 w14) (oq69 w14) (oq70 w14) (oq71 w14) (oq72 w14) (oq73 w14) rfl))⟩)
  by_cases w15 : x1.toInt = 114
  ·
    refine ft_swx mi_k151 (pc := 1) (v := 114) (t := 108) (kj_eq w15 (by decide) : x1 = 114) (by decide +kernel) ?_
    first | refine fo_goS mi_k151 fz151_108_1_109 [.int (-1)] (by rfl) ?_ | refine ft_go mi_k151 1 109 [(0, .int x1)] [.int (-1)] i a q r (by rfl) ?_
    exact ft_ret mi_k151 (by rfl) (hP (-1) ⟨(oq11 koqm1), (show ((-1) : Int32) = nmO x1 from (nmO_no (oq74 w15) (oq75 w15) (oq76 w15) (oq77 w15) (oq78 w15) (oq79 w15) rfl))⟩)
  by_cases w16 : x1.toInt = 115
  ·
    refine ft_swx mi_k151 (pc := 1) (v := 115) (t := 108) (kj_eq w16 (by decide) : x1 = 115) (by decide +kernel) ?_
    first | refine fo_goS mi_k151 fz151_108_1_109 [.int (-1)] (by rfl) ?_ | refine ft_go mi_k151 1 109 [(0, .int x1)] [.int (-1)] i a q r (by rfl) ?_
    exact ft_ret mi_k151 (by rfl) (hP (-1) ⟨(oq11 koqm1), (show ((-1) : Int32) = nmO x1 from (nmO_no (oq80 w16) (oq81 w16) (oq82 w16) (oq83 w16) (oq84 w16) (oq85 w16) rfl))⟩)
  by_cases w17 : x1.toInt = 116
  ·
    refine ft_swx mi_k151 (pc := 1) (v := 116) (t := 108) (kj_eq w17 (by decide) : x1 = 116) (by decide +kernel) ?_
    first | refine fo_goS mi_k151 fz151_108_1_109 [.int (-1)] (by rfl) ?_ | refine ft_go mi_k151 1 109 [(0, .int x1)] [.int (-1)] i a q r (by rfl) ?_
    exact ft_ret mi_k151 (by rfl) (hP (-1) ⟨(oq11 koqm1), (show ((-1) : Int32) = nmO x1 from (nmO_no (oq86 w17) (oq87 w17) (oq88 w17) (oq89 w17) (oq90 w17) (oq91 w17) rfl))⟩)
  by_cases w18 : x1.toInt = 117
  ·
    refine ft_swx mi_k151 (pc := 1) (v := 117) (t := 108) (kj_eq w18 (by decide) : x1 = 117) (by decide +kernel) ?_
    first | refine fo_goS mi_k151 fz151_108_1_109 [.int (-1)] (by rfl) ?_ | refine ft_go mi_k151 1 109 [(0, .int x1)] [.int (-1)] i a q r (by rfl) ?_
    exact ft_ret mi_k151 (by rfl) (hP (-1) ⟨(oq11 koqm1), (show ((-1) : Int32) = nmO x1 from (nmO_no (oq92 w18) (oq93 w18) (oq94 w18) (oq95 w18) (oq96 w18) (oq97 w18) rfl))⟩)
  by_cases w19 : x1.toInt = 118
  ·
    refine ft_swx mi_k151 (pc := 1) (v := 118) (t := 108) (kj_eq w19 (by decide) : x1 = 118) (by decide +kernel) ?_
    first | refine fo_goS mi_k151 fz151_108_1_109 [.int (-1)] (by rfl) ?_ | refine ft_go mi_k151 1 109 [(0, .int x1)] [.int (-1)] i a q r (by rfl) ?_
    exact ft_ret mi_k151 (by rfl) (hP (-1) ⟨(oq11 koqm1), (show ((-1) : Int32) = nmO x1 from (nmO_no (oq98 w19) (oq99 w19) (oq100 w19) (oq101 w19) (oq102 w19) (oq103 w19) rfl))⟩)
  by_cases w20 : x1.toInt = 119
  ·
    refine ft_swx mi_k151 (pc := 1) (v := 119) (t := 96) (kj_eq w20 (by decide) : x1 = 119) (by decide +kernel) ?_
    first | refine ft_goS mi_k151 1 97 [.int 0] (by rfl) ?_ | refine ft_go mi_k151 1 97 [(0, .int x1)] [.int 0] i a q r (by rfl) ?_
    exact ft_ret mi_k151 (by rfl) (hP 0 ⟨(oq104 w20 koq0), (show (0 : Int32) = nmO x1 from (nmO_of (oq105 w20 koq0)))⟩)
  refine ko_sw (ls := [(0, .int x1)]) (r := []) (h := ks i a q r) mi_in151 (v := x1) (i := (.tableswitch 107 100 119 #[105, 107, 107, 107, 99, 107, 107, 107, 107, 107, 101, 103, 97, 107, 107, 107, 107, 107, 107, 95], 95, 0, 0, 0, 0, 0)) (by rfl) rfl (oq106 w1 w2 w3 w4 w5 w6 w7 w8 w9 w10 w11 w12 w13 w14 w15 w16 w17 w18 w19 w20) 108 (by rfl) ?_
  first | refine fo_goS mi_k151 fz151_108_1_109 [.int (-1)] (by rfl) ?_ | refine ft_go mi_k151 1 109 [(0, .int x1)] [.int (-1)] i a q r (by rfl) ?_
  exact ft_ret mi_k151 (by rfl) (hP (-1) ⟨(oq11 koqm1), (show ((-1) : Int32) = nmO x1 from (nmO_no (oq107 w1 w10 w11 w12 w13 w14 w15 w16 w17 w18 w19 w2 w20 w3 w4 w5 w6 w7 w8 w9) (oq108 w1 w10 w11 w12 w13 w2 w3 w4 w5 w6 w7 w8 w9) (oq109 w1 w2 w3 w4 w5) (oq110 w1 w10 w11 w2 w3 w4 w5 w6 w7 w8 w9) (oq111 w1 w10 w11 w12 w2 w3 w4 w5 w6 w7 w8 w9) (oq112 w1) rfl))⟩)
def yw148_116 : kW := ([7437], [], [], [])
set_option maxRecDepth 100000 in
theorem ke148_116 {i : Nat → Int32} {a : Nat → List Int32} {q : Nat → List Int64} {r : Nat → Nat} (hI : kI i a q) (hr : kr r) (x1 : Int32) (hp0 : (0 : Int) ≤ x1.toInt) (t : List Int32) (nn : Int32) (hT : a 119 = t) (hN : i 7429 = nn) (hX : kBy t) : km 3 148 [.ref 116, .int x1] (ks i a q r) (kVI yw148_116 i a q r (fun v i1 a1 q1 r1 => ((((v.toInt = 1) ∧ ((i1 7437).toInt = ((i 7437).toInt + 1)) ∧ ((i 7437).toInt < (i 7429).toInt) ∧ ((cHr t nn (i 7437) 0).toInt = x1.toInt)) ∨ ((v.toInt = 0) ∧ ((i1 7437).toInt = (i 7437).toInt))) ∧ (((v.toInt = 0) → ((cHr t nn (i 7437) 0).toInt ≠ x1.toInt)))) ∧ (v, i1 7437) = cTkP t nn x1 (i 7437) 0)) := by
  have hG := kG_self yw148_116 hI hr
  refine km_ofI (q := (mi_h148, mi_c148)) rfl (by decide) (Nat.le_of_ble_eq_true rfl) ?_
  intro P hP
  have hn1 : (i 7429).toInt = nn.toInt := congrArg Int32.toInt hN
  first | refine ft_goL mi_k148 1 1 [(0, .ref 116), (1, .int x1)] [.ref 116] (by rfl) ?_ | refine ft_go mi_k148 1 1 [(0, .ref 116), (1, .int x1)] [.ref 116] i a q r (by rfl) ?_
  refine ko_callPI mi_k148.1 (pc := 1) (ls := [(0, .ref 116), (1, .int x1)]) (st := [.ref 116]) (h := ks i a q r) (i := (.invokevirtual 166, 3, 147, 0, 9, 0, 404)) (mi_k148.2 _ _ (by rfl)) (ft_invS mi_pq147 (by rfl)) (cy := mi_c147) mi_pq147 rfl (ke147_116 hG.I hG.R t nn hT hN hX) (by decide) ?_
  intro vg2 hg2
  obtain ⟨hg2, og2⟩ := hg2
  have fi_7437 : ((0 : Int) ≤ (i 7437).toInt) ∧ ((i 7437).toInt ≤ 120) := hG.I.1 7437
  have fi_7429 : ((0 : Int) ≤ (i 7429).toInt) ∧ ((i 7429).toInt ≤ 120) := hG.I.1 7429
  have z3 : (((-1) : Int) ≤ vg2.toInt) ∧ (vg2.toInt ≤ 255) ∧ ((vg2.toInt = (-1)) ∨ ((i 7437).toInt < (i 7429).toInt)) := hg2
  have q4 : vg2 = cHr t nn (i 7437) 0 := og2
  have hv5 : vg2.toInt = (cHr t nn (i 7437) 0).toInt := congrArg Int32.toInt og2
  first | refine ft_goS mi_k148 1 5 [.int x1, .int vg2] (by rfl) ?_ | refine ft_go mi_k148 1 5 [(0, .ref 116), (1, .int x1)] [.int x1, .int vg2] i a q r (by rfl) ?_
  refine ft_ifS mi_k148 (vg2 == x1) 10 8 [] (by rfl) (fun c => ?_) (fun c => ?_)
  ·
    have c6 : vg2.toInt = x1.toInt := kd_eq c; clear c
    have s7 : ((i 7437) + 1).toInt = (i 7437).toInt + (1 : Int32).toInt := kd_add (oq115 fi_7437.1 koq1) (oq116 fi_7437.2 koq1)
    have hJ8 := kG_i hG 7437 rfl (v := ((i 7437) + 1)) ⟨(oq117 fi_7437.1 s7 koq1), (oq118 c6 fi_7429.2 hp0 s7 z3.2.2 koq1)⟩
    first | refine fo_goI mi_k148 fz148_10_7_21 [.int 1] (ku i 7437 ((i 7437) + 1)) (by rfl) ?_ | refine ft_go mi_k148 7 21 [(0, .ref 116), (1, .int x1)] [.int 1] (ku i 7437 ((i 7437) + 1)) a q r (by rfl) ?_
    exact ft_ret mi_k148 (by rfl) (hP 1 _ _ _ _ hJ8 ⟨(oq119 c6 hp0 hv5 s7 z3.2.2 koq1), (tkP_y (oq120 c6 hv5))⟩)
  ·
    have c9 : vg2.toInt ≠ x1.toInt := kd_eqF c; clear c
    first | refine ft_goS mi_k148 1 9 [.int 0] (by rfl) ?_ | refine ft_go mi_k148 1 9 [(0, .ref 116), (1, .int x1)] [.int 0] i a q r (by rfl) ?_
    exact ft_ret mi_k148 (by rfl) (hP 0 _ _ _ _ hG ⟨(oq121 c9 hv5 koq0), (tkP_n (oq122 c9 hv5))⟩)
def zw149_116 : kW := ([7439], [127], [], [])
set_option maxRecDepth 100000 in
theorem kf149_116 {i : Nat → Int32} {a : Nat → List Int32} {q : Nat → List Int64} {r : Nat → Nat} (hI : kI i a q) (hr : kr r) (x1 : Int32) (hp0 : ((0 : Int) ≤ (i 7439).toInt) ∧ ((i 7439).toInt ≤ 199)) : km 1 149 [.ref 116, .int x1] (ks i a q r) (kVI zw149_116 i a q r (fun v i1 a1 q1 r1 => ((v.toInt = 1) ∧ ((i1 7439).toInt = ((i 7439).toInt + 1))) ∧ (a1 127 = (a 127).set (i 7439).toNatClampNeg x1 ∧ i1 7439 = i 7439 + 1))) := by
  have hG := kG_self zw149_116 hI hr
  refine km_ofI (q := (mi_h149, mi_c149)) rfl (by decide) (Nat.le_of_ble_eq_true rfl) ?_
  intro P hP
  have fi_7439 : ((0 : Int) ≤ (i 7439).toInt) ∧ ((i 7439).toInt ≤ 200) := hG.I.1 7439
  have s1 : ((i 7439) + 1).toInt = (i 7439).toInt + (1 : Int32).toInt := kd_add (oq115 fi_7439.1 koq1) (oq164 fi_7439.2 koq1)
  have hJ2 := kG_i hG 7439 rfl (v := ((i 7439) + 1)) ⟨(oq117 fi_7439.1 s1 koq1), (oq165 hp0.2 s1 koq1)⟩
  refine ft_go mi_k149 10 16 [(0, .ref 116), (1, .int x1)] [.int x1, .int (i 7439), .ref 127] (ku i 7439 ((i 7439) + 1)) a q r (by rfl) ?_
  refine ko_iast3 mi_k149.1 (n := 200) (c := 200) (ax := (0, 0, 0, 0, 0)) (mi_k149.2 _ _ (by rfl)) (by rfl) (ksG127 _ _ _ _) (ksA127 _ _ _ _) (hJ2.I.2.1 127) rfl (oq2 fi_7439.1) (oq166 hp0.2) ?_
  intro a3 ea3 fa3
  have hJ3 := kG_a3 hJ2 127 rfl ea3 fa3 (kd_bd _)
  first | refine ft_goS mi_k149 1 18 [.int 1] (by rfl) ?_ | refine ft_go mi_k149 1 18 [(0, .ref 116), (1, .int x1)] [.int 1] (ku i 7439 ((i 7439) + 1)) a3 q r (by rfl) ?_
  exact ft_ret mi_k149 (by rfl) (hP 1 _ _ _ _ hJ3 ⟨(oq167 s1 koq1), ⟨(show a3 127 = (a 127).set (i 7439).toNatClampNeg x1 from (by first | rfl | (simp only [ea3, sMn, sMx]; done) | (simp only [ea3, sMn, sMx]; rfl))), (show ((i 7439) + 1) = i 7439 + 1 from (by first | rfl | (simp only [sMn, sMx]; done) | (simp only [sMn, sMx]; rfl)))⟩⟩)
def wQ : kW := ([7437, 7438, 7439], [127], [], [])
def yw152_116_L11 : kW := ([7437], [], [], [])
def kMQ_152 (n : Nat) : Prop := ∀ (i : Nat → Int32) (a : Nat → List Int32) (q : Nat → List Int64) (r : Nat → Nat), kI i a q → kr r → (((i 7438).toInt + (n : Int)) = 6) → ((i 7439).toInt ≤ (i 7437).toInt) → ((i 7437).toInt ≤ (i 7429).toInt) → ∀ (t : List Int32) (nn : Int32), a 119 = t → i 7429 = nn → kBy t → km (6 * n + 10) 152 [.ref 116] (ks i a q r) (kVI wQ i a q r (fun v i1 a1 q1 r1 => (((i1 7438).toInt = (i 7438).toInt) ∧ ((i 7437).toInt ≤ (i1 7437).toInt) ∧ ((i1 7437).toInt ≤ (i1 7429).toInt) ∧ (((i1 7439).toInt - (i1 7437).toInt) ≤ ((i 7439).toInt - (i 7437).toInt)) ∧ ((i 7439).toInt ≤ (i1 7439).toInt) ∧ ((0 : Int) ≤ v.toInt) ∧ (v.toInt ≤ 1) ∧ (((v.toInt = 1) → (((i 7437).toInt + 1) ≤ (i1 7437).toInt)))) ∧ (v, (i1 7437, i1 7439, a1 127)) = (rO t nn n) (i 7437, i 7439, a 127)))
def yw153_116_L9 : kW := ([7437, 7438, 7439], [127], [], [])
def kMQ_153 (n : Nat) : Prop := ∀ (i : Nat → Int32) (a : Nat → List Int32) (q : Nat → List Int64) (r : Nat → Nat), kI i a q → kr r → (((i 7438).toInt + (n : Int)) = 6) → ((i 7439).toInt ≤ (i 7437).toInt) → ((i 7437).toInt ≤ (i 7429).toInt) → ∀ (t : List Int32) (nn : Int32), a 119 = t → i 7429 = nn → kBy t → km (6 * n + 11) 153 [.ref 116] (ks i a q r) (kVI wQ i a q r (fun v i1 a1 q1 r1 => (((i1 7438).toInt = (i 7438).toInt) ∧ ((i 7437).toInt ≤ (i1 7437).toInt) ∧ ((i1 7437).toInt ≤ (i1 7429).toInt) ∧ (((i1 7439).toInt - (i1 7437).toInt) ≤ ((i 7439).toInt - (i 7437).toInt)) ∧ ((i 7439).toInt ≤ (i1 7439).toInt) ∧ ((0 : Int) ≤ v.toInt) ∧ (v.toInt ≤ 1) ∧ (((v.toInt = 1) → (((i 7437).toInt + 1) ≤ (i1 7437).toInt)))) ∧ (v, (i1 7437, i1 7439, a1 127)) = (rP3 t nn (rO t nn n)) (i 7437, i 7439, a 127)))
def yw154_116_L9 : kW := ([7437, 7438, 7439], [127], [], [])
def kMQ_154 (n : Nat) : Prop := ∀ (i : Nat → Int32) (a : Nat → List Int32) (q : Nat → List Int64) (r : Nat → Nat), kI i a q → kr r → (((i 7438).toInt + (n : Int)) = 6) → ((i 7439).toInt ≤ (i 7437).toInt) → ((i 7437).toInt ≤ (i 7429).toInt) → ∀ (t : List Int32) (nn : Int32), a 119 = t → i 7429 = nn → kBy t → km (6 * n + 12) 154 [.ref 116] (ks i a q r) (kVI wQ i a q r (fun v i1 a1 q1 r1 => (((i1 7438).toInt = (i 7438).toInt) ∧ ((i 7437).toInt ≤ (i1 7437).toInt) ∧ ((i1 7437).toInt ≤ (i1 7429).toInt) ∧ (((i1 7439).toInt - (i1 7437).toInt) ≤ ((i 7439).toInt - (i 7437).toInt)) ∧ ((i 7439).toInt ≤ (i1 7439).toInt) ∧ ((0 : Int) ≤ v.toInt) ∧ (v.toInt ≤ 1) ∧ (((v.toInt = 1) → (((i 7437).toInt + 1) ≤ (i1 7437).toInt)))) ∧ (v, (i1 7437, i1 7439, a1 127)) = (rP4 t nn (rO t nn n)) (i 7437, i 7439, a 127)))
def kMQ_155 (n : Nat) : Prop := ∀ (i : Nat → Int32) (a : Nat → List Int32) (q : Nat → List Int64) (r : Nat → Nat), kI i a q → kr r → (((i 7438).toInt + (n : Int)) = 6) → ((i 7439).toInt ≤ (i 7437).toInt) → ((i 7437).toInt ≤ (i 7429).toInt) → ∀ (t : List Int32) (nn : Int32), a 119 = t → i 7429 = nn → kBy t → km (6 * n + 13) 155 [.ref 116] (ks i a q r) (kVI wQ i a q r (fun v i1 a1 q1 r1 => (((i1 7438).toInt = (i 7438).toInt) ∧ ((i 7437).toInt ≤ (i1 7437).toInt) ∧ ((i1 7437).toInt ≤ (i1 7429).toInt) ∧ (((i1 7439).toInt - (i1 7437).toInt) ≤ ((i 7439).toInt - (i 7437).toInt)) ∧ ((i 7439).toInt ≤ (i1 7439).toInt) ∧ ((0 : Int) ≤ v.toInt) ∧ (v.toInt ≤ 1) ∧ (((v.toInt = 1) → (((i 7437).toInt + 1) ≤ (i1 7437).toInt)))) ∧ (v, (i1 7437, i1 7439, a1 127)) = (rP5 t nn (rO t nn n)) (i 7437, i 7439, a 127)))
def yw156_116_L9 : kW := ([7437, 7438, 7439], [127], [], [])
def kMQ_156 (n : Nat) : Prop := ∀ (i : Nat → Int32) (a : Nat → List Int32) (q : Nat → List Int64) (r : Nat → Nat), kI i a q → kr r → (((i 7438).toInt + (n : Int)) = 6) → ((i 7439).toInt ≤ (i 7437).toInt) → ((i 7437).toInt ≤ (i 7429).toInt) → ∀ (t : List Int32) (nn : Int32), a 119 = t → i 7429 = nn → kBy t → km (6 * n + 14) 156 [.ref 116] (ks i a q r) (kVI wQ i a q r (fun v i1 a1 q1 r1 => (((i1 7438).toInt = (i 7438).toInt) ∧ ((i 7437).toInt ≤ (i1 7437).toInt) ∧ ((i1 7437).toInt ≤ (i1 7429).toInt) ∧ (((i1 7439).toInt - (i1 7437).toInt) ≤ ((i 7439).toInt - (i 7437).toInt)) ∧ ((i 7439).toInt ≤ (i1 7439).toInt) ∧ ((0 : Int) ≤ v.toInt) ∧ (v.toInt ≤ 1) ∧ (((v.toInt = 1) → (((i 7437).toInt + 1) ≤ (i1 7437).toInt)))) ∧ (v, (i1 7437, i1 7439, a1 127)) = (rP6 t nn (rO t nn n)) (i 7437, i 7439, a 127)))
def yw157_116_L9 : kW := ([7437, 7438, 7439], [127], [], [])
def kMQ_157 (n : Nat) : Prop := ∀ (i : Nat → Int32) (a : Nat → List Int32) (q : Nat → List Int64) (r : Nat → Nat), kI i a q → kr r → (((i 7438).toInt + (n : Int)) = 6) → ((i 7439).toInt ≤ (i 7437).toInt) → ((i 7437).toInt ≤ (i 7429).toInt) → ∀ (t : List Int32) (nn : Int32), a 119 = t → i 7429 = nn → kBy t → km (6 * n + 15) 157 [.ref 116] (ks i a q r) (kVI wQ i a q r (fun v i1 a1 q1 r1 => (((i1 7438).toInt = (i 7438).toInt) ∧ ((i 7437).toInt ≤ (i1 7437).toInt) ∧ ((i1 7437).toInt ≤ (i1 7429).toInt) ∧ (((i1 7439).toInt - (i1 7437).toInt) ≤ ((i 7439).toInt - (i 7437).toInt)) ∧ ((i 7439).toInt ≤ (i1 7439).toInt) ∧ ((0 : Int) ≤ v.toInt) ∧ (v.toInt ≤ 1) ∧ (((v.toInt = 1) → (((i 7437).toInt + 1) ≤ (i1 7437).toInt)))) ∧ (v, (i1 7437, i1 7439, a1 127)) = (rE t nn n) (i 7437, i 7439, a 127)))
end
section
set_option maxRecDepth 100000 in
set_option maxHeartbeats 4000000 in
theorem kMsQ_152 (n : Nat)  (ih : ∀ m, n = m + 1 → kMQ_157 m ∧ kMQ_152 m) : kMQ_152 n := by
  intro i a q r hI hr hp0 hp1 hp2 t nn hT hN hX
  have hG := kG_self wQ hI hr
  refine km_ofI (q := (mi_h152, mi_c152)) rfl (by decide) (Nat.le_of_ble_eq_true rfl) ?_
  intro P hP
  have fi_7439 : ((0 : Int) ≤ (i 7439).toInt) ∧ ((i 7439).toInt ≤ 200) := hG.I.1 7439
  have fi_7437 : ((0 : Int) ≤ (i 7437).toInt) ∧ ((i 7437).toInt ≤ 120) := hG.I.1 7437
  have fi_7429 : ((0 : Int) ≤ (i 7429).toInt) ∧ ((i 7429).toInt ≤ 120) := hG.I.1 7429
  have hn0 : (0 : Int) ≤ (n : Int) := Int.natCast_nonneg n
  have hn1 : (i 7429).toInt = nn.toInt := congrArg Int32.toInt hN
  first | refine ft_goL mi_k152 1 1 [(0, .ref 116)] [.ref 116] (by rfl) ?_ | refine ft_go mi_k152 1 1 [(0, .ref 116)] [.ref 116] i a q r (by rfl) ?_
  refine ko_callPI mi_k152.1 (pc := 1) (ls := [(0, .ref 116)]) (st := [.ref 116]) (h := ks i a q r) (i := (.invokevirtual 173, 3, 150, 0, 9, 0, 403)) (mi_k152.2 _ _ (by rfl)) (ft_invS mi_pq150 (by rfl)) (cy := mi_c150) mi_pq150 rfl (ke150_116 hG.I hG.R t nn hT hN hX) (kj_d3 (n := n) (c := 3) (o1 := 10) (by decide)) ?_
  intro vg2 hg2
  have z3 : (((vg2.toInt = 1) ∧ ((48 : Int) ≤ (cHr t nn (i 7437) 0).toInt) ∧ ((cHr t nn (i 7437) 0).toInt ≤ 57) ∧ ((i 7437).toInt < (i 7429).toInt)) ∨ (vg2.toInt = 0)) ∧ (((vg2.toInt = 0) → (¬ (((48 : Int) ≤ (cHr t nn (i 7437) 0).toInt) ∧ ((cHr t nn (i 7437) 0).toInt ≤ 57))))) := hg2
  refine ft_ifS mi_k152 (vg2 == 0) 66 7 [] (by rfl) (fun c => ?_) (fun c => ?_)
  ·
    have c4 : vg2.toInt = (0 : Int32).toInt := kd_eq c; clear c
    first | refine ft_goS mi_k152 1 67 [.ref 116] (by rfl) ?_ | refine ft_go mi_k152 1 67 [(0, .ref 116)] [.ref 116] i a q r (by rfl) ?_
    refine ko_callPI mi_k152.1 (pc := 67) (ls := [(0, .ref 116)]) (st := [.ref 116]) (h := ks i a q r) (i := (.invokevirtual 166, 3, 147, 0, 9, 0, 404)) (mi_k152.2 _ _ (by rfl)) (ft_invS mi_pq147 (by rfl)) (cy := mi_c147) mi_pq147 rfl (ke147_116 hG.I hG.R t nn hT hN hX) (kj_d3 (n := n) (c := 1) (o1 := 10) (by decide)) ?_
    intro vg5 hg5
    obtain ⟨hg5, og5⟩ := hg5
    have z6 : (((-1) : Int) ≤ vg5.toInt) ∧ (vg5.toInt ≤ 255) ∧ ((vg5.toInt = (-1)) ∨ ((i 7437).toInt < (i 7429).toInt)) := hg5
    have q7 : vg5 = cHr t nn (i 7437) 0 := og5
    have hv8 : vg5.toInt = (cHr t nn (i 7437) 0).toInt := congrArg Int32.toInt og5
    refine ko_callPI mi_k152.1 (pc := 70) (ls := [(0, .ref 116)]) (st := [.int vg5]) (h := ks i a q r) (i := (.invokestatic 180, 3, 151, 0, 9, 0, 406)) (mi_k152.2 _ _ (by rfl)) (ft_invS mi_pq151 (by rfl)) (cy := mi_c151) mi_pq151 rfl (ke151 hG.I hG.R vg5) (kj_d3 (n := n) (c := 1) (o1 := 10) (by decide)) ?_
    intro vg9 hg9
    obtain ⟨hg9, og9⟩ := hg9
    have z10 : (((-1) : Int) ≤ vg9.toInt) ∧ (vg9.toInt ≤ 5) ∧ ((vg9.toInt = (-1)) ∨ ((100 : Int) ≤ vg5.toInt)) := hg9
    have q11 : vg9 = nmO vg5 := og9
    first | refine ft_goL mi_k152 2 75 [(1, .int vg9), (0, .ref 116)] [.int vg9] (by rfl) ?_ | refine ft_go mi_k152 2 75 [(1, .int vg9), (0, .ref 116)] [.int vg9] i a q r (by rfl) ?_
    refine ft_ifS mi_k152 (decide (vg9 < 0)) 94 78 [] (by rfl) (fun c => ?_) (fun c => ?_)
    ·
      have c12 : vg9.toInt < (0 : Int32).toInt := kd_lt c; clear c
      first | refine ft_goS mi_k152 3 100 [.int 6, .int (i 7438)] (by rfl) ?_ | refine ft_go mi_k152 3 100 [(1, .int vg9), (0, .ref 116)] [.int 6, .int (i 7438)] i a q r (by rfl) ?_
      refine ft_ifS mi_k152 ((i 7438) != 6) 105 103 [] (by rfl) (fun c => ?_) (fun c => ?_)
      ·
        have c13 : (i 7438).toInt ≠ (6 : Int32).toInt := kd_ne c; clear c
        have b14 : ((-2147483648 : Int) ≤ (i 7438).toInt) ∧ ((i 7438).toInt ≤ 2147483647) := kd_bd (i 7438)
        have s15 : ((i 7438) + 1).toInt = (i 7438).toInt + (1 : Int32).toInt := kd_add (oq113 b14.1 koq1) (oq114 hn0 hp0 koq1)
        have hJ16 := kG_i hG 7438 rfl (v := ((i 7438) + 1)) (kd_bd _)
        first | refine fo_goI mi_k152 fz152_105_8_118 [.int 33, .ref 116] (ku i 7438 ((i 7438) + 1)) (by rfl) ?_ | refine ft_go mi_k152 8 118 [(1, .int vg9), (0, .ref 116)] [.int 33, .ref 116] (ku i 7438 ((i 7438) + 1)) a q r (by rfl) ?_
        refine ko_callI mi_k152.1 (pc := 118) (ls := [(1, .int vg9), (0, .ref 116)]) (st := [.int 33, .ref 116]) (h := ks (ku i 7438 ((i 7438) + 1)) a q r) (i := (.invokevirtual 187, 3, 148, 0, 9, 0, 407)) (mi_k152.2 _ _ (by rfl)) (ft_invS mi_pq148 (by rfl)) (cy := mi_c148) mi_pq148 rfl (ke148_116 hJ16.I hJ16.R 33 (oq123 koq33) t nn hT hN hX) (kj_d3 (n := n) (c := 3) (o1 := 10) (by decide)) ?_
        intro vg17 ig17 ag17 qg17 rg17 kg17 hg17
        have hGg17 := kG_call hJ16 kg17 (by decide +kernel)
        obtain ⟨hg17, og17⟩ := hg17
        have z18 : (((vg17.toInt = 1) ∧ ((ig17 7437).toInt = ((i 7437).toInt + 1)) ∧ ((i 7437).toInt < (i 7429).toInt) ∧ ((cHr t nn (i 7437) 0).toInt = (33 : Int32).toInt)) ∨ ((vg17.toInt = 0) ∧ ((ig17 7437).toInt = (i 7437).toInt))) ∧ (((vg17.toInt = 0) → ((cHr t nn (i 7437) 0).toInt ≠ (33 : Int32).toInt))) := hg17
        have q19 : ((ig17 7437).toInt = (i 7437).toInt → (cHr t nn (ig17 7437) 0).toInt = (cHr t nn (i 7437) 0).toInt) := fun h => congrArg Int32.toInt (kHr_c (t := t) (n := nn) (kj_v h) rfl)
        refine ft_ifS mi_k152 (vg17 == 0) 149 124 [] (by rfl) (fun c => ?_) (fun c => ?_)
        ·
          have c20 : vg17.toInt = (0 : Int32).toInt := kd_eq c; clear c
          first | refine ft_goS mi_k152 2 152 [.int 45, .ref 116] (by rfl) ?_ | refine ft_go mi_k152 2 152 [(1, .int vg9), (0, .ref 116)] [.int 45, .ref 116] ig17 ag17 qg17 rg17 (by rfl) ?_
          refine ko_callI mi_k152.1 (pc := 152) (ls := [(1, .int vg9), (0, .ref 116)]) (st := [.int 45, .ref 116]) (h := ks ig17 ag17 qg17 rg17) (i := (.invokevirtual 187, 3, 148, 0, 9, 0, 407)) (mi_k152.2 _ _ (by rfl)) (ft_invS mi_pq148 (by rfl)) (cy := mi_c148) mi_pq148 rfl (ke148_116 hGg17.I hGg17.R 45 (oq124 koq45) t nn ((kg17.fa 119 rfl).trans hT) ((kg17.fi 7429 rfl).trans hN) hX) (kj_d3 (n := n) (c := 3) (o1 := 10) (by decide)) ?_
          intro vg21 ig21 ag21 qg21 rg21 kg21 hg21
          have hGg21 := kG_call hGg17 kg21 (by decide +kernel)
          obtain ⟨hg21, og21⟩ := hg21
          have efig17_7429 : (ig17 7429).toInt = (i 7429).toInt := kg17.ti 7429 rfl
          have z22 : (((vg21.toInt = 1) ∧ ((ig21 7437).toInt = ((ig17 7437).toInt + 1)) ∧ ((ig17 7437).toInt < (ig17 7429).toInt) ∧ ((cHr t nn (ig17 7437) 0).toInt = (45 : Int32).toInt)) ∨ ((vg21.toInt = 0) ∧ ((ig21 7437).toInt = (ig17 7437).toInt))) ∧ (((vg21.toInt = 0) → ((cHr t nn (ig17 7437) 0).toInt ≠ (45 : Int32).toInt))) := hg21
          have q23 : ((ig21 7437).toInt = (ig17 7437).toInt → (cHr t nn (ig21 7437) 0).toInt = (cHr t nn (ig17 7437) 0).toInt) := fun h => congrArg Int32.toInt (kHr_c (t := t) (n := nn) (kj_v h) rfl)
          refine ft_ifS mi_k152 (vg21 == 0) 183 158 [] (by rfl) (fun c => ?_) (fun c => ?_)
          ·
            have c24 : vg21.toInt = (0 : Int32).toInt := kd_eq c; clear c
            first | refine ft_goS mi_k152 2 186 [.int 40, .ref 116] (by rfl) ?_ | refine ft_go mi_k152 2 186 [(1, .int vg9), (0, .ref 116)] [.int 40, .ref 116] ig21 ag21 qg21 rg21 (by rfl) ?_
            refine ko_callI mi_k152.1 (pc := 186) (ls := [(1, .int vg9), (0, .ref 116)]) (st := [.int 40, .ref 116]) (h := ks ig21 ag21 qg21 rg21) (i := (.invokevirtual 187, 3, 148, 0, 9, 0, 407)) (mi_k152.2 _ _ (by rfl)) (ft_invS mi_pq148 (by rfl)) (cy := mi_c148) mi_pq148 rfl (ke148_116 hGg21.I hGg21.R 40 (oq125 koq40) t nn (((kg21.fa 119 rfl).trans (kg17.fa 119 rfl)).trans hT) (((kg21.fi 7429 rfl).trans (kg17.fi 7429 rfl)).trans hN) hX) (kj_d3 (n := n) (c := 3) (o1 := 10) (by decide)) ?_
            intro vg25 ig25 ag25 qg25 rg25 kg25 hg25
            have hGg25 := kG_call hGg21 kg25 (by decide +kernel)
            obtain ⟨hg25, og25⟩ := hg25
            have efig21_7429 : (ig21 7429).toInt = (ig17 7429).toInt := kg21.ti 7429 rfl
            have z26 : (((vg25.toInt = 1) ∧ ((ig25 7437).toInt = ((ig21 7437).toInt + 1)) ∧ ((ig21 7437).toInt < (ig21 7429).toInt) ∧ ((cHr t nn (ig21 7437) 0).toInt = (40 : Int32).toInt)) ∨ ((vg25.toInt = 0) ∧ ((ig25 7437).toInt = (ig21 7437).toInt))) ∧ (((vg25.toInt = 0) → ((cHr t nn (ig21 7437) 0).toInt ≠ (40 : Int32).toInt))) := hg25
            have q27 : ((ig25 7437).toInt = (ig21 7437).toInt → (cHr t nn (ig25 7437) 0).toInt = (cHr t nn (ig21 7437) 0).toInt) := fun h => congrArg Int32.toInt (kHr_c (t := t) (n := nn) (kj_v h) rfl)
            refine ft_ifS mi_k152 (vg25 == 0) 212 192 [] (by rfl) (fun c => ?_) (fun c => ?_)
            ·
              have c28 : vg25.toInt = (0 : Int32).toInt := kd_eq c; clear c
              have efig17_7438 : (ig17 7438).toInt = ((i 7438) + 1).toInt := kg17.ti 7438 rfl
              have efig21_7438 : (ig21 7438).toInt = (ig17 7438).toInt := kg21.ti 7438 rfl
              have efig25_7438 : (ig25 7438).toInt = (ig21 7438).toInt := kg25.ti 7438 rfl
              have s29 : ((ig25 7438) - 1).toInt = (ig25 7438).toInt - (1 : Int32).toInt := kd_sub (oq126 b14.1 efig17_7438 efig21_7438 efig25_7438 s15 koq1) (oq127 efig17_7438 efig21_7438 efig25_7438 hn0 hp0 s15 koq1)
              have hJ30 := kG_i hGg25 7438 rfl (v := ((ig25 7438) - 1)) (kd_bd _)
              first | refine fo_go mi_k152 fz152_145_9_225 [(2, .int 0), (1, .int vg9), (0, .ref 116)] [.int 0] (ku ig25 7438 ((ig25 7438) - 1)) ag25 qg25 rg25 (by rfl) ?_ | refine fo_go mi_k152 fz152_179_9_225 [(2, .int 0), (1, .int vg9), (0, .ref 116)] [.int 0] (ku ig25 7438 ((ig25 7438) - 1)) ag25 qg25 rg25 (by rfl) ?_ | refine fo_go mi_k152 fz152_209_9_225 [(2, .int 0), (1, .int vg9), (0, .ref 116)] [.int 0] (ku ig25 7438 ((ig25 7438) - 1)) ag25 qg25 rg25 (by rfl) ?_ | refine fo_go mi_k152 fz152_212_9_225 [(2, .int 0), (1, .int vg9), (0, .ref 116)] [.int 0] (ku ig25 7438 ((ig25 7438) - 1)) ag25 qg25 rg25 (by rfl) ?_ | refine ft_go mi_k152 9 225 [(2, .int 0), (1, .int vg9), (0, .ref 116)] [.int 0] (ku ig25 7438 ((ig25 7438) - 1)) ag25 qg25 rg25 (by rfl) ?_
              have efig25_7429 : (ig25 7429).toInt = (ig21 7429).toInt := kg25.ti 7429 rfl
              have efig17_7439 : (ig17 7439).toInt = (i 7439).toInt := kg17.ti 7439 rfl
              have efig21_7439 : (ig21 7439).toInt = (ig17 7439).toInt := kg21.ti 7439 rfl
              have efig25_7439 : (ig25 7439).toInt = (ig21 7439).toInt := kg25.ti 7439 rfl
              obtain ⟨m, hm, hmI⟩ := kj_pred (oq131 c13 hn0 hp0 koq6)
              have tg31 : vg9 = nmO (rHr t nn (i 7437, i 7439, a 127)) := (og9.trans (congrArg nmO og5))
              have td32 : ¬ (48 ≤ (rHr t nn (i 7437, i 7439, a 127)).toInt ∧ (rHr t nn (i 7437, i 7439, a 127)).toInt ≤ 57) := (oq129 c4 z3.2 koq0)
              have tp33 : ((0 : Int32), (ig25 7437, ig25 7439, ag25 127)) = rPart t nn (some (rO t nn m)) (i 7437, i 7439, a 127) := rPt_bad (sub := rO t nn m) td32 tg31 (oq130 c12 koq0) (oq132 c20 z18.2 koq0 koq33) (oq133 c20 c24 q19 z18.1 z22.2 koq0 koq33 koq45) (oq134 c20 c24 c28 q19 q23 z18.1 z22.1 z26.2 koq0 koq33 koq45 koq40) (kT3 (kj_v (oq135 c20 c24 c28 z18.1 z22.1 z26.1 koq0 koq33 koq45 koq40)) ((kg25.fi 7439 rfl).trans ((kg21.fi 7439 rfl).trans (kg17.fi 7439 rfl))) (((kg25.fa 127 rfl).trans (kg21.fa 127 rfl)).trans (kg17.fa 127 rfl))) rfl
              exact ft_ret mi_k152 (by rfl) (hP 0 _ _ _ _ hJ30 ⟨(oq128 c20 c24 c28 efig17_7429 efig17_7438 efig17_7439 efig21_7429 efig21_7438 efig21_7439 efig25_7429 efig25_7438 efig25_7439 hp2 s15 s29 z18.1 z22.1 z26.1 koq0 koq1 koq33 koq45 koq40), (tp33.trans (congrFun (rO_s hm).symm _))⟩)
            ·
              have c34 : vg25.toInt ≠ (0 : Int32).toInt := kd_eqF c; clear c
              first | refine ft_goS mi_k152 1 193 [.ref 116] (by rfl) ?_ | refine ft_go mi_k152 1 193 [(1, .int vg9), (0, .ref 116)] [.ref 116] ig25 ag25 qg25 rg25 (by rfl) ?_
              obtain ⟨m, hm, hmI⟩ := kj_pred (oq131 c13 hn0 hp0 koq6)
              have efig17_7438 : (ig17 7438).toInt = ((i 7438) + 1).toInt := kg17.ti 7438 rfl
              have efig21_7438 : (ig21 7438).toInt = (ig17 7438).toInt := kg21.ti 7438 rfl
              have efig25_7438 : (ig25 7438).toInt = (ig21 7438).toInt := kg25.ti 7438 rfl
              have efig17_7439 : (ig17 7439).toInt = (i 7439).toInt := kg17.ti 7439 rfl
              have efig21_7439 : (ig21 7439).toInt = (ig17 7439).toInt := kg21.ti 7439 rfl
              have efig25_7439 : (ig25 7439).toInt = (ig21 7439).toInt := kg25.ti 7439 rfl
              have efig25_7429 : (ig25 7429).toInt = (ig21 7429).toInt := kg25.ti 7429 rfl
              refine ko_callI mi_k152.1 (pc := 193) (ls := [(1, .int vg9), (0, .ref 116)]) (st := [.ref 116]) (h := ks ig25 ag25 qg25 rg25) (i := (.invokevirtual 193, 3, 157, 0, 9, 0, 397)) (mi_k152.2 _ _ (by rfl)) (ft_invS mi_pq157 (by rfl)) (cy := mi_c157) mi_pq157 rfl ((ih m hm).1 _ _ _ _ hGg25.I hGg25.R (oq136 efig17_7438 efig21_7438 efig25_7438 hmI hp0 s15 koq1) (oq137 c20 c24 efig17_7439 efig21_7439 efig25_7439 hp1 z18.1 z22.1 z26.1 koq0 koq33 koq45 koq40) (oq138 c34 efig25_7429 z26.1 koq0 koq40) t nn ((((kg25.fa 119 rfl).trans (kg21.fa 119 rfl)).trans (kg17.fa 119 rfl)).trans hT) (((kg25.fi 7429 rfl).trans ((kg21.fi 7429 rfl).trans (kg17.fi 7429 rfl))).trans hN) hX) (kj_d2 (n := n) (m := m) (o := 15) (o1 := 10) hm (by decide)) ?_
              intro vg35 ig35 ag35 qg35 rg35 kg35 hg35
              have hGg35 := kG_call hGg25 kg35 (by decide +kernel)
              obtain ⟨hg35, og35⟩ := hg35
              have z36 : ((ig35 7438).toInt = (ig25 7438).toInt) ∧ ((ig25 7437).toInt ≤ (ig35 7437).toInt) ∧ ((ig35 7437).toInt ≤ (ig35 7429).toInt) ∧ (((ig35 7439).toInt - (ig35 7437).toInt) ≤ ((ig25 7439).toInt - (ig25 7437).toInt)) ∧ ((ig25 7439).toInt ≤ (ig35 7439).toInt) ∧ ((0 : Int) ≤ vg35.toInt) ∧ (vg35.toInt ≤ 1) ∧ (((vg35.toInt = 1) → (((ig25 7437).toInt + 1) ≤ (ig35 7437).toInt))) := hg35
              refine ft_ifS mi_k152 (vg35 == 0) 212 199 [] (by rfl) (fun c => ?_) (fun c => ?_)
              ·
                have c37 : vg35.toInt = (0 : Int32).toInt := kd_eq c; clear c
                have s38 : ((ig35 7438) - 1).toInt = (ig35 7438).toInt - (1 : Int32).toInt := kd_sub (oq139 b14.1 efig17_7438 efig21_7438 efig25_7438 s15 z36.1 koq1) (oq140 efig17_7438 efig21_7438 efig25_7438 hn0 hp0 s15 z36.1 koq1)
                have hJ39 := kG_i hGg35 7438 rfl (v := ((ig35 7438) - 1)) (kd_bd _)
                first | refine fo_go mi_k152 fz152_145_9_225 [(2, .int 0), (1, .int vg9), (0, .ref 116)] [.int 0] (ku ig35 7438 ((ig35 7438) - 1)) ag35 qg35 rg35 (by rfl) ?_ | refine fo_go mi_k152 fz152_179_9_225 [(2, .int 0), (1, .int vg9), (0, .ref 116)] [.int 0] (ku ig35 7438 ((ig35 7438) - 1)) ag35 qg35 rg35 (by rfl) ?_ | refine fo_go mi_k152 fz152_209_9_225 [(2, .int 0), (1, .int vg9), (0, .ref 116)] [.int 0] (ku ig35 7438 ((ig35 7438) - 1)) ag35 qg35 rg35 (by rfl) ?_ | refine fo_go mi_k152 fz152_212_9_225 [(2, .int 0), (1, .int vg9), (0, .ref 116)] [.int 0] (ku ig35 7438 ((ig35 7438) - 1)) ag35 qg35 rg35 (by rfl) ?_ | refine ft_go mi_k152 9 225 [(2, .int 0), (1, .int vg9), (0, .ref 116)] [.int 0] (ku ig35 7438 ((ig35 7438) - 1)) ag35 qg35 rg35 (by rfl) ?_
                have tg40 : vg9 = nmO (rHr t nn (i 7437, i 7439, a 127)) := (og9.trans (congrArg nmO og5))
                have td41 : ¬ (48 ≤ (rHr t nn (i 7437, i 7439, a 127)).toInt ∧ (rHr t nn (i 7437, i 7439, a 127)).toInt ≤ 57) := (oq142 c20 c24 c34 c4 q19 q23 z18.1 z22.1 z26.1 z3.2 koq0 koq33 koq45 koq40)
                have tk42 : (vg17, (ig17 7437, ig17 7439, ag17 127)) = rTk t nn 33 (i 7437, i 7439, a 127) := (tTkR og17 (kT2 (kg17.fi 7439 rfl) (kg17.fa 127 rfl)))
                have tk43 : (vg21, (ig21 7437, ig21 7439, ag21 127)) = rTk t nn 45 (ig17 7437, ig17 7439, ag17 127) := (tTkR og21 (kT2 (kg21.fi 7439 rfl) (kg21.fa 127 rfl)))
                have tk44 : (vg25, (ig25 7437, ig25 7439, ag25 127)) = rTk t nn 40 (ig21 7437, ig21 7439, ag21 127) := (tTkR og25 (kT2 (kg25.fi 7439 rfl) (kg25.fa 127 rfl)))
                have ta45 : (ig25 7437, ig25 7439, ag25 127) = rAt1 (i 7437, i 7439, a 127) := ((rTk_yes tk44 (oq146 c34 z26.1 koq0 koq40)).trans (congrArg rAt1 ((rTk_no tk43 (oq145 c24 koq0)).trans (rTk_no tk42 (oq145 c20 koq0)))))
                have tp46 : ((0 : Int32), (ig35 7437, ig35 7439, ag35 127)) = rPart t nn (some (rO t nn m)) (i 7437, i 7439, a 127) := rPt_par (sub := rO t nn m) td41 tg40 (oq130 c12 koq0) (oq144 c20 c24 c34 q19 q23 z18.1 z22.1 z26.1 koq0 koq33 koq45 koq40) (og35.trans (congrArg (rE t nn m) ta45)) (rPa_no (oq143 c37 z36.2.2.2.2.2.1 koq0) rfl)
                exact ft_ret mi_k152 (by rfl) (hP 0 _ _ _ _ hJ39 ⟨(oq224 c20 c24 efig17_7438 efig17_7439 efig21_7438 efig21_7439 efig25_7438 efig25_7439 s15 s38 z18.1 z22.1 z26.1 z36.1 z36.2.1 z36.2.2.1 z36.2.2.2.1 z36.2.2.2.2.1 koq0 koq1 koq33 koq45 koq40), (tp46.trans (congrFun (rO_s hm).symm _))⟩)
              ·
                have c47 : vg35.toInt ≠ (0 : Int32).toInt := kd_eqF c; clear c
                first | refine ft_goS mi_k152 2 202 [.int 41, .ref 116] (by rfl) ?_ | refine ft_go mi_k152 2 202 [(1, .int vg9), (0, .ref 116)] [.int 41, .ref 116] ig35 ag35 qg35 rg35 (by rfl) ?_
                refine ko_callI mi_k152.1 (pc := 202) (ls := [(1, .int vg9), (0, .ref 116)]) (st := [.int 41, .ref 116]) (h := ks ig35 ag35 qg35 rg35) (i := (.invokevirtual 187, 3, 148, 0, 9, 0, 407)) (mi_k152.2 _ _ (by rfl)) (ft_invS mi_pq148 (by rfl)) (cy := mi_c148) mi_pq148 rfl (ke148_116 hGg35.I hGg35.R 41 (oq147 koq41) t nn (((((kg35.fa 119 rfl).trans (kg25.fa 119 rfl)).trans (kg21.fa 119 rfl)).trans (kg17.fa 119 rfl)).trans hT) (((kg35.fi 7429 rfl).trans ((kg25.fi 7429 rfl).trans ((kg21.fi 7429 rfl).trans (kg17.fi 7429 rfl)))).trans hN) hX) (kj_d3 (n := n) (c := 3) (o1 := 10) (by decide)) ?_
                intro vg48 ig48 ag48 qg48 rg48 kg48 hg48
                have hGg48 := kG_call hGg35 kg48 (by decide +kernel)
                obtain ⟨hg48, og48⟩ := hg48
                have z49 : (((vg48.toInt = 1) ∧ ((ig48 7437).toInt = ((ig35 7437).toInt + 1)) ∧ ((ig35 7437).toInt < (ig35 7429).toInt) ∧ ((cHr t nn (ig35 7437) 0).toInt = (41 : Int32).toInt)) ∨ ((vg48.toInt = 0) ∧ ((ig48 7437).toInt = (ig35 7437).toInt))) ∧ (((vg48.toInt = 0) → ((cHr t nn (ig35 7437) 0).toInt ≠ (41 : Int32).toInt))) := hg48
                have q50 : ((ig48 7437).toInt = (ig35 7437).toInt → (cHr t nn (ig48 7437) 0).toInt = (cHr t nn (ig35 7437) 0).toInt) := fun h => congrArg Int32.toInt (kHr_c (t := t) (n := nn) (kj_v h) rfl)
                refine ft_ifS mi_k152 (vg48 == 0) 212 208 [] (by rfl) (fun c => ?_) (fun c => ?_)
                ·
                  have c51 : vg48.toInt = (0 : Int32).toInt := kd_eq c; clear c
                  have efig48_7438 : (ig48 7438).toInt = (ig35 7438).toInt := kg48.ti 7438 rfl
                  have s52 : ((ig48 7438) - 1).toInt = (ig48 7438).toInt - (1 : Int32).toInt := kd_sub (oq148 b14.1 efig17_7438 efig21_7438 efig25_7438 efig48_7438 s15 z36.1 koq1) (oq149 efig17_7438 efig21_7438 efig25_7438 efig48_7438 hn0 hp0 s15 z36.1 koq1)
                  have hJ53 := kG_i hGg48 7438 rfl (v := ((ig48 7438) - 1)) (kd_bd _)
                  first | refine fo_go mi_k152 fz152_145_9_225 [(2, .int 0), (1, .int vg9), (0, .ref 116)] [.int 0] (ku ig48 7438 ((ig48 7438) - 1)) ag48 qg48 rg48 (by rfl) ?_ | refine fo_go mi_k152 fz152_179_9_225 [(2, .int 0), (1, .int vg9), (0, .ref 116)] [.int 0] (ku ig48 7438 ((ig48 7438) - 1)) ag48 qg48 rg48 (by rfl) ?_ | refine fo_go mi_k152 fz152_209_9_225 [(2, .int 0), (1, .int vg9), (0, .ref 116)] [.int 0] (ku ig48 7438 ((ig48 7438) - 1)) ag48 qg48 rg48 (by rfl) ?_ | refine fo_go mi_k152 fz152_212_9_225 [(2, .int 0), (1, .int vg9), (0, .ref 116)] [.int 0] (ku ig48 7438 ((ig48 7438) - 1)) ag48 qg48 rg48 (by rfl) ?_ | refine ft_go mi_k152 9 225 [(2, .int 0), (1, .int vg9), (0, .ref 116)] [.int 0] (ku ig48 7438 ((ig48 7438) - 1)) ag48 qg48 rg48 (by rfl) ?_
                  have efig48_7429 : (ig48 7429).toInt = (ig35 7429).toInt := kg48.ti 7429 rfl
                  have efig48_7439 : (ig48 7439).toInt = (ig35 7439).toInt := kg48.ti 7439 rfl
                  have tg54 : vg9 = nmO (rHr t nn (i 7437, i 7439, a 127)) := (og9.trans (congrArg nmO og5))
                  have td55 : ¬ (48 ≤ (rHr t nn (i 7437, i 7439, a 127)).toInt ∧ (rHr t nn (i 7437, i 7439, a 127)).toInt ≤ 57) := (oq142 c20 c24 c34 c4 q19 q23 z18.1 z22.1 z26.1 z3.2 koq0 koq33 koq45 koq40)
                  have tk56 : (vg17, (ig17 7437, ig17 7439, ag17 127)) = rTk t nn 33 (i 7437, i 7439, a 127) := (tTkR og17 (kT2 (kg17.fi 7439 rfl) (kg17.fa 127 rfl)))
                  have tk57 : (vg21, (ig21 7437, ig21 7439, ag21 127)) = rTk t nn 45 (ig17 7437, ig17 7439, ag17 127) := (tTkR og21 (kT2 (kg21.fi 7439 rfl) (kg21.fa 127 rfl)))
                  have tk58 : (vg25, (ig25 7437, ig25 7439, ag25 127)) = rTk t nn 40 (ig21 7437, ig21 7439, ag21 127) := (tTkR og25 (kT2 (kg25.fi 7439 rfl) (kg25.fa 127 rfl)))
                  have ta59 : (ig25 7437, ig25 7439, ag25 127) = rAt1 (i 7437, i 7439, a 127) := ((rTk_yes tk58 (oq146 c34 z26.1 koq0 koq40)).trans (congrArg rAt1 ((rTk_no tk57 (oq145 c24 koq0)).trans (rTk_no tk56 (oq145 c20 koq0)))))
                  have tp60 : ((0 : Int32), (ig48 7437, ig48 7439, ag48 127)) = rPart t nn (some (rO t nn m)) (i 7437, i 7439, a 127) := rPt_par (sub := rO t nn m) td55 tg54 (oq130 c12 koq0) (oq144 c20 c24 c34 q19 q23 z18.1 z22.1 z26.1 koq0 koq33 koq45 koq40) (og35.trans (congrArg (rE t nn m) ta59)) (rPa_yes (oq151 c47 z36.2.2.2.2.2.1 koq0) (tTkR og48 (kT2 (kg48.fi 7439 rfl) (kg48.fa 127 rfl))) (kj_v (oq152 c51 koq0)))
                  exact ft_ret mi_k152 (by rfl) (hP 0 _ _ _ _ hJ53 ⟨(oq225 c20 c24 c51 efig17_7438 efig17_7439 efig21_7438 efig21_7439 efig25_7438 efig25_7439 efig48_7429 efig48_7438 efig48_7439 s15 s52 z18.1 z22.1 z26.1 z36.1 z36.2.1 z36.2.2.1 z36.2.2.2.1 z36.2.2.2.2.1 z49.1 koq0 koq1 koq33 koq45 koq40 koq41), (tp60.trans (congrFun (rO_s hm).symm _))⟩)
                ·
                  have c61 : vg48.toInt ≠ (0 : Int32).toInt := kd_eqF c; clear c
                  have efig48_7438 : (ig48 7438).toInt = (ig35 7438).toInt := kg48.ti 7438 rfl
                  have s62 : ((ig48 7438) - 1).toInt = (ig48 7438).toInt - (1 : Int32).toInt := kd_sub (oq148 b14.1 efig17_7438 efig21_7438 efig25_7438 efig48_7438 s15 z36.1 koq1) (oq149 efig17_7438 efig21_7438 efig25_7438 efig48_7438 hn0 hp0 s15 z36.1 koq1)
                  have hJ63 := kG_i hGg48 7438 rfl (v := ((ig48 7438) - 1)) (kd_bd _)
                  first | refine fo_go mi_k152 fz152_141_10_225 [(2, .int 1), (1, .int vg9), (0, .ref 116)] [.int 1] (ku ig48 7438 ((ig48 7438) - 1)) ag48 qg48 rg48 (by rfl) ?_ | refine fo_go mi_k152 fz152_144_10_225 [(2, .int 1), (1, .int vg9), (0, .ref 116)] [.int 1] (ku ig48 7438 ((ig48 7438) - 1)) ag48 qg48 rg48 (by rfl) ?_ | refine fo_go mi_k152 fz152_175_10_225 [(2, .int 1), (1, .int vg9), (0, .ref 116)] [.int 1] (ku ig48 7438 ((ig48 7438) - 1)) ag48 qg48 rg48 (by rfl) ?_ | refine fo_go mi_k152 fz152_178_10_225 [(2, .int 1), (1, .int vg9), (0, .ref 116)] [.int 1] (ku ig48 7438 ((ig48 7438) - 1)) ag48 qg48 rg48 (by rfl) ?_ | refine fo_go mi_k152 fz152_208_10_225 [(2, .int 1), (1, .int vg9), (0, .ref 116)] [.int 1] (ku ig48 7438 ((ig48 7438) - 1)) ag48 qg48 rg48 (by rfl) ?_ | refine fo_go mi_k152 fz152_189_10_225 [(2, .int 1), (1, .int vg9), (0, .ref 116)] [.int 1] (ku ig48 7438 ((ig48 7438) - 1)) ag48 qg48 rg48 (by rfl) ?_ | refine fo_go mi_k152 fz152_196_10_225 [(2, .int 1), (1, .int vg9), (0, .ref 116)] [.int 1] (ku ig48 7438 ((ig48 7438) - 1)) ag48 qg48 rg48 (by rfl) ?_ | refine fo_go mi_k152 fz152_205_10_225 [(2, .int 1), (1, .int vg9), (0, .ref 116)] [.int 1] (ku ig48 7438 ((ig48 7438) - 1)) ag48 qg48 rg48 (by rfl) ?_ | refine ft_go mi_k152 10 225 [(2, .int 1), (1, .int vg9), (0, .ref 116)] [.int 1] (ku ig48 7438 ((ig48 7438) - 1)) ag48 qg48 rg48 (by rfl) ?_
                  have efig48_7429 : (ig48 7429).toInt = (ig35 7429).toInt := kg48.ti 7429 rfl
                  have efig48_7439 : (ig48 7439).toInt = (ig35 7439).toInt := kg48.ti 7439 rfl
                  have tg64 : vg9 = nmO (rHr t nn (i 7437, i 7439, a 127)) := (og9.trans (congrArg nmO og5))
                  have td65 : ¬ (48 ≤ (rHr t nn (i 7437, i 7439, a 127)).toInt ∧ (rHr t nn (i 7437, i 7439, a 127)).toInt ≤ 57) := (oq142 c20 c24 c34 c4 q19 q23 z18.1 z22.1 z26.1 z3.2 koq0 koq33 koq45 koq40)
                  have tk66 : (vg17, (ig17 7437, ig17 7439, ag17 127)) = rTk t nn 33 (i 7437, i 7439, a 127) := (tTkR og17 (kT2 (kg17.fi 7439 rfl) (kg17.fa 127 rfl)))
                  have tk67 : (vg21, (ig21 7437, ig21 7439, ag21 127)) = rTk t nn 45 (ig17 7437, ig17 7439, ag17 127) := (tTkR og21 (kT2 (kg21.fi 7439 rfl) (kg21.fa 127 rfl)))
                  have tk68 : (vg25, (ig25 7437, ig25 7439, ag25 127)) = rTk t nn 40 (ig21 7437, ig21 7439, ag21 127) := (tTkR og25 (kT2 (kg25.fi 7439 rfl) (kg25.fa 127 rfl)))
                  have ta69 : (ig25 7437, ig25 7439, ag25 127) = rAt1 (i 7437, i 7439, a 127) := ((rTk_yes tk68 (oq146 c34 z26.1 koq0 koq40)).trans (congrArg rAt1 ((rTk_no tk67 (oq145 c24 koq0)).trans (rTk_no tk66 (oq145 c20 koq0)))))
                  have tp70 : ((1 : Int32), (ig48 7437, ig48 7439, ag48 127)) = rPart t nn (some (rO t nn m)) (i 7437, i 7439, a 127) := rPt_par (sub := rO t nn m) td65 tg64 (oq130 c12 koq0) (oq144 c20 c24 c34 q19 q23 z18.1 z22.1 z26.1 koq0 koq33 koq45 koq40) (og35.trans (congrArg (rE t nn m) ta69)) (rPa_yes (oq151 c47 z36.2.2.2.2.2.1 koq0) (tTkR og48 (kT2 (kg48.fi 7439 rfl) (kg48.fa 127 rfl))) (kj_v (oq154 c61 z49.1 koq0 koq41 koq1)))
                  exact ft_ret mi_k152 (by rfl) (hP 1 _ _ _ _ hJ63 ⟨(oq226 c20 c24 c34 c4 c47 efig17_7438 efig17_7439 efig21_7438 efig21_7439 efig25_7438 efig25_7439 efig48_7429 efig48_7438 efig48_7439 q19 q23 s15 s62 z18.1 z22.1 z26.1 z3.2 z36.1 z36.2.2.1 z36.2.2.2.1 z36.2.2.2.2.1 z36.2.2.2.2.2.1 z36.2.2.2.2.2.2.1 z36.2.2.2.2.2.2.2 z49.1 koq0 koq1 koq33 koq45 koq40 koq41), (tp70.trans (congrFun (rO_s hm).symm _))⟩)
          ·
            have c71 : vg21.toInt ≠ (0 : Int32).toInt := kd_eqF c; clear c
            first | refine ft_goS mi_k152 1 159 [.ref 116] (by rfl) ?_ | refine ft_go mi_k152 1 159 [(1, .int vg9), (0, .ref 116)] [.ref 116] ig21 ag21 qg21 rg21 (by rfl) ?_
            obtain ⟨m, hm, hmI⟩ := kj_pred (oq131 c13 hn0 hp0 koq6)
            have efig17_7438 : (ig17 7438).toInt = ((i 7438) + 1).toInt := kg17.ti 7438 rfl
            have efig21_7438 : (ig21 7438).toInt = (ig17 7438).toInt := kg21.ti 7438 rfl
            have efig17_7439 : (ig17 7439).toInt = (i 7439).toInt := kg17.ti 7439 rfl
            have efig21_7439 : (ig21 7439).toInt = (ig17 7439).toInt := kg21.ti 7439 rfl
            have efig21_7429 : (ig21 7429).toInt = (ig17 7429).toInt := kg21.ti 7429 rfl
            refine ko_callI mi_k152.1 (pc := 159) (ls := [(1, .int vg9), (0, .ref 116)]) (st := [.ref 116]) (h := ks ig21 ag21 qg21 rg21) (i := (.invokevirtual 190, 3, 152, 0, 9, 0, 402)) (mi_k152.2 _ _ (by rfl)) (ft_invS mi_pq152 (by rfl)) (cy := mi_c152) mi_pq152 rfl ((ih m hm).2 _ _ _ _ hGg21.I hGg21.R (oq155 efig17_7438 efig21_7438 hmI hp0 s15 koq1) (oq156 c20 efig17_7439 efig21_7439 hp1 z18.1 z22.1 koq0 koq33 koq45) (oq157 c71 efig21_7429 z22.1 koq0 koq45) t nn (((kg21.fa 119 rfl).trans (kg17.fa 119 rfl)).trans hT) (((kg21.fi 7429 rfl).trans (kg17.fi 7429 rfl)).trans hN) hX) (kj_d2 (n := n) (m := m) (o := 10) (o1 := 10) hm (by decide)) ?_
            intro vg72 ig72 ag72 qg72 rg72 kg72 hg72
            have hGg72 := kG_call hGg21 kg72 (by decide +kernel)
            obtain ⟨hg72, og72⟩ := hg72
            have fig72_7437 : ((0 : Int) ≤ (ig72 7437).toInt) ∧ ((ig72 7437).toInt ≤ 120) := hGg72.I.1 7437
            have fig72_7439 : ((0 : Int) ≤ (ig72 7439).toInt) ∧ ((ig72 7439).toInt ≤ 200) := hGg72.I.1 7439
            have z73 : ((ig72 7438).toInt = (ig21 7438).toInt) ∧ ((ig21 7437).toInt ≤ (ig72 7437).toInt) ∧ ((ig72 7437).toInt ≤ (ig72 7429).toInt) ∧ (((ig72 7439).toInt - (ig72 7437).toInt) ≤ ((ig21 7439).toInt - (ig21 7437).toInt)) ∧ ((ig21 7439).toInt ≤ (ig72 7439).toInt) ∧ ((0 : Int) ≤ vg72.toInt) ∧ (vg72.toInt ≤ 1) ∧ (((vg72.toInt = 1) → (((ig21 7437).toInt + 1) ≤ (ig72 7437).toInt))) := hg72
            refine ft_ifS mi_k152 (vg72 == 0) 178 165 [] (by rfl) (fun c => ?_) (fun c => ?_)
            ·
              have c74 : vg72.toInt = (0 : Int32).toInt := kd_eq c; clear c
              have s75 : ((ig72 7438) - 1).toInt = (ig72 7438).toInt - (1 : Int32).toInt := kd_sub (oq158 b14.1 efig17_7438 efig21_7438 s15 z73.1 koq1) (oq159 efig17_7438 efig21_7438 hn0 hp0 s15 z73.1 koq1)
              have hJ76 := kG_i hGg72 7438 rfl (v := ((ig72 7438) - 1)) (kd_bd _)
              first | refine fo_go mi_k152 fz152_141_10_225 [(2, .int 0), (1, .int vg9), (0, .ref 116)] [.int 0] (ku ig72 7438 ((ig72 7438) - 1)) ag72 qg72 rg72 (by rfl) ?_ | refine fo_go mi_k152 fz152_144_10_225 [(2, .int 0), (1, .int vg9), (0, .ref 116)] [.int 0] (ku ig72 7438 ((ig72 7438) - 1)) ag72 qg72 rg72 (by rfl) ?_ | refine fo_go mi_k152 fz152_175_10_225 [(2, .int 0), (1, .int vg9), (0, .ref 116)] [.int 0] (ku ig72 7438 ((ig72 7438) - 1)) ag72 qg72 rg72 (by rfl) ?_ | refine fo_go mi_k152 fz152_178_10_225 [(2, .int 0), (1, .int vg9), (0, .ref 116)] [.int 0] (ku ig72 7438 ((ig72 7438) - 1)) ag72 qg72 rg72 (by rfl) ?_ | refine fo_go mi_k152 fz152_208_10_225 [(2, .int 0), (1, .int vg9), (0, .ref 116)] [.int 0] (ku ig72 7438 ((ig72 7438) - 1)) ag72 qg72 rg72 (by rfl) ?_ | refine fo_go mi_k152 fz152_189_10_225 [(2, .int 0), (1, .int vg9), (0, .ref 116)] [.int 0] (ku ig72 7438 ((ig72 7438) - 1)) ag72 qg72 rg72 (by rfl) ?_ | refine fo_go mi_k152 fz152_196_10_225 [(2, .int 0), (1, .int vg9), (0, .ref 116)] [.int 0] (ku ig72 7438 ((ig72 7438) - 1)) ag72 qg72 rg72 (by rfl) ?_ | refine fo_go mi_k152 fz152_205_10_225 [(2, .int 0), (1, .int vg9), (0, .ref 116)] [.int 0] (ku ig72 7438 ((ig72 7438) - 1)) ag72 qg72 rg72 (by rfl) ?_ | refine ft_go mi_k152 10 225 [(2, .int 0), (1, .int vg9), (0, .ref 116)] [.int 0] (ku ig72 7438 ((ig72 7438) - 1)) ag72 qg72 rg72 (by rfl) ?_
              have tg77 : vg9 = nmO (rHr t nn (i 7437, i 7439, a 127)) := (og9.trans (congrArg nmO og5))
              have td78 : ¬ (48 ≤ (rHr t nn (i 7437, i 7439, a 127)).toInt ∧ (rHr t nn (i 7437, i 7439, a 127)).toInt ≤ 57) := (oq161 c20 c4 c71 q19 z18.1 z22.1 z3.2 koq0 koq33 koq45)
              have tk79 : (vg17, (ig17 7437, ig17 7439, ag17 127)) = rTk t nn 33 (i 7437, i 7439, a 127) := (tTkR og17 (kT2 (kg17.fi 7439 rfl) (kg17.fa 127 rfl)))
              have tk80 : (vg21, (ig21 7437, ig21 7439, ag21 127)) = rTk t nn 45 (ig17 7437, ig17 7439, ag17 127) := (tTkR og21 (kT2 (kg21.fi 7439 rfl) (kg21.fa 127 rfl)))
              have ta81 : (ig21 7437, ig21 7439, ag21 127) = rAt1 (i 7437, i 7439, a 127) := ((rTk_yes tk80 (oq163 c71 z22.1 koq0 koq45)).trans (congrArg rAt1 (rTk_no tk79 (oq145 c20 koq0))))
              have tp82 : ((0 : Int32), (ig72 7437, ig72 7439, ag72 127)) = rPart t nn (some (rO t nn m)) (i 7437, i 7439, a 127) := rPt_neg (sub := rO t nn m) td78 tg77 (oq130 c12 koq0) (oq162 c20 c71 q19 z18.1 z22.1 koq0 koq33 koq45) (og72.trans (congrArg (rO t nn m) ta81)) (rC2_no (oq143 c74 z73.2.2.2.2.2.1 koq0) rfl)
              exact ft_ret mi_k152 (by rfl) (hP 0 _ _ _ _ hJ76 ⟨(oq227 c20 efig17_7438 efig17_7439 efig21_7438 efig21_7439 s15 s75 z18.1 z22.1 z73.1 z73.2.1 z73.2.2.1 z73.2.2.2.1 z73.2.2.2.2.1 koq0 koq1 koq33 koq45), (tp82.trans (congrFun (rO_s hm).symm _))⟩)
            ·
              have c83 : vg72.toInt ≠ (0 : Int32).toInt := kd_eqF c; clear c
              first | refine ft_goS mi_k152 2 168 [.int 17, .ref 116] (by rfl) ?_ | refine ft_go mi_k152 2 168 [(1, .int vg9), (0, .ref 116)] [.int 17, .ref 116] ig72 ag72 qg72 rg72 (by rfl) ?_
              refine ko_callI mi_k152.1 (pc := 168) (ls := [(1, .int vg9), (0, .ref 116)]) (st := [.int 17, .ref 116]) (h := ks ig72 ag72 qg72 rg72) (i := (.invokevirtual 177, 3, 149, 0, 9, 0, 405)) (mi_k152.2 _ _ (by rfl)) (ft_invS mi_pq149 (by rfl)) (cy := mi_c149) mi_pq149 rfl (kf149_116 hGg72.I hGg72.R 17 (oq228 c20 efig17_7439 efig21_7439 fig72_7437.2 fig72_7439.1 hp1 z18.1 z22.1 z73.2.2.2.1 koq0 koq33 koq45)) (kj_d3 (n := n) (c := 1) (o1 := 10) (by decide)) ?_
              intro vg84 ig84 ag84 qg84 rg84 kg84 hg84
              have hGg84 := kG_call hGg72 kg84 (by decide +kernel)
              obtain ⟨hg84, og84⟩ := hg84
              have z85 : (vg84.toInt = 1) ∧ ((ig84 7439).toInt = ((ig72 7439).toInt + 1)) := hg84
              have q86 : ag84 127 = (ag72 127).set (ig72 7439).toNatClampNeg (17 : Int32) := og84.1
              have q87 : ig84 7439 = ig72 7439 + 1 := og84.2
              refine ft_ifS mi_k152 (vg84 == 0) 178 174 [] (by rfl) (fun c => ?_) (fun c => ?_)
              ·
                have c88 : vg84.toInt = (0 : Int32).toInt := kd_eq c; clear c
                exact (oq169 c88 z85.1 koq0).elim
              ·
                have c89 : vg84.toInt ≠ (0 : Int32).toInt := kd_eqF c; clear c
                have efig84_7438 : (ig84 7438).toInt = (ig72 7438).toInt := kg84.ti 7438 rfl
                have s90 : ((ig84 7438) - 1).toInt = (ig84 7438).toInt - (1 : Int32).toInt := kd_sub (oq170 b14.1 efig17_7438 efig21_7438 efig84_7438 s15 z73.1 koq1) (oq171 efig17_7438 efig21_7438 efig84_7438 hn0 hp0 s15 z73.1 koq1)
                have hJ91 := kG_i hGg84 7438 rfl (v := ((ig84 7438) - 1)) (kd_bd _)
                first | refine fo_go mi_k152 fz152_140_11_225 [(2, .int 1), (1, .int vg9), (0, .ref 116)] [.int 1] (ku ig84 7438 ((ig84 7438) - 1)) ag84 qg84 rg84 (by rfl) ?_ | refine fo_go mi_k152 fz152_128_11_225 [(2, .int 1), (1, .int vg9), (0, .ref 116)] [.int 1] (ku ig84 7438 ((ig84 7438) - 1)) ag84 qg84 rg84 (by rfl) ?_ | refine fo_go mi_k152 fz152_137_11_225 [(2, .int 1), (1, .int vg9), (0, .ref 116)] [.int 1] (ku ig84 7438 ((ig84 7438) - 1)) ag84 qg84 rg84 (by rfl) ?_ | refine fo_go mi_k152 fz152_174_11_225 [(2, .int 1), (1, .int vg9), (0, .ref 116)] [.int 1] (ku ig84 7438 ((ig84 7438) - 1)) ag84 qg84 rg84 (by rfl) ?_ | refine fo_go mi_k152 fz152_162_11_225 [(2, .int 1), (1, .int vg9), (0, .ref 116)] [.int 1] (ku ig84 7438 ((ig84 7438) - 1)) ag84 qg84 rg84 (by rfl) ?_ | refine fo_go mi_k152 fz152_171_11_225 [(2, .int 1), (1, .int vg9), (0, .ref 116)] [.int 1] (ku ig84 7438 ((ig84 7438) - 1)) ag84 qg84 rg84 (by rfl) ?_ | refine fo_go mi_k152 fz152_205_11_225 [(2, .int 1), (1, .int vg9), (0, .ref 116)] [.int 1] (ku ig84 7438 ((ig84 7438) - 1)) ag84 qg84 rg84 (by rfl) ?_ | refine ft_go mi_k152 11 225 [(2, .int 1), (1, .int vg9), (0, .ref 116)] [.int 1] (ku ig84 7438 ((ig84 7438) - 1)) ag84 qg84 rg84 (by rfl) ?_
                have efig84_7437 : (ig84 7437).toInt = (ig72 7437).toInt := kg84.ti 7437 rfl
                have efig84_7429 : (ig84 7429).toInt = (ig72 7429).toInt := kg84.ti 7429 rfl
                have tg92 : vg9 = nmO (rHr t nn (i 7437, i 7439, a 127)) := (og9.trans (congrArg nmO og5))
                have td93 : ¬ (48 ≤ (rHr t nn (i 7437, i 7439, a 127)).toInt ∧ (rHr t nn (i 7437, i 7439, a 127)).toInt ≤ 57) := (oq161 c20 c4 c71 q19 z18.1 z22.1 z3.2 koq0 koq33 koq45)
                have tk94 : (vg17, (ig17 7437, ig17 7439, ag17 127)) = rTk t nn 33 (i 7437, i 7439, a 127) := (tTkR og17 (kT2 (kg17.fi 7439 rfl) (kg17.fa 127 rfl)))
                have tk95 : (vg21, (ig21 7437, ig21 7439, ag21 127)) = rTk t nn 45 (ig17 7437, ig17 7439, ag17 127) := (tTkR og21 (kT2 (kg21.fi 7439 rfl) (kg21.fa 127 rfl)))
                have ta96 : (ig21 7437, ig21 7439, ag21 127) = rAt1 (i 7437, i 7439, a 127) := ((rTk_yes tk95 (oq163 c71 z22.1 koq0 koq45)).trans (congrArg rAt1 (rTk_no tk94 (oq145 c20 koq0))))
                have tp97 : ((1 : Int32), (ig84 7437, ig84 7439, ag84 127)) = rPart t nn (some (rO t nn m)) (i 7437, i 7439, a 127) := rPt_neg (sub := rO t nn m) td93 tg92 (oq130 c12 koq0) (oq162 c20 c71 q19 z18.1 z22.1 koq0 koq33 koq45) (og72.trans (congrArg (rO t nn m) ta96)) (rC2_yes (oq151 c83 z73.2.2.2.2.2.1 koq0) (tCod og84.1 og84.2 (kg84.fi 7437 rfl)) rfl)
                exact ft_ret mi_k152 (by rfl) (hP 1 _ _ _ _ hJ91 ⟨(oq229 c20 c71 efig17_7438 efig17_7439 efig21_7438 efig21_7439 efig84_7429 efig84_7437 efig84_7438 s15 s90 z18.1 z22.1 z73.1 z73.2.1 z73.2.2.1 z73.2.2.2.1 z73.2.2.2.2.1 z85.2 koq0 koq1 koq33 koq45), (tp97.trans (congrFun (rO_s hm).symm _))⟩)
        ·
          have c98 : vg17.toInt ≠ (0 : Int32).toInt := kd_eqF c; clear c
          first | refine ft_goS mi_k152 1 125 [.ref 116] (by rfl) ?_ | refine ft_go mi_k152 1 125 [(1, .int vg9), (0, .ref 116)] [.ref 116] ig17 ag17 qg17 rg17 (by rfl) ?_
          obtain ⟨m, hm, hmI⟩ := kj_pred (oq131 c13 hn0 hp0 koq6)
          have efig17_7438 : (ig17 7438).toInt = ((i 7438) + 1).toInt := kg17.ti 7438 rfl
          have efig17_7439 : (ig17 7439).toInt = (i 7439).toInt := kg17.ti 7439 rfl
          have efig17_7429 : (ig17 7429).toInt = (i 7429).toInt := kg17.ti 7429 rfl
          refine ko_callI mi_k152.1 (pc := 125) (ls := [(1, .int vg9), (0, .ref 116)]) (st := [.ref 116]) (h := ks ig17 ag17 qg17 rg17) (i := (.invokevirtual 190, 3, 152, 0, 9, 0, 402)) (mi_k152.2 _ _ (by rfl)) (ft_invS mi_pq152 (by rfl)) (cy := mi_c152) mi_pq152 rfl ((ih m hm).2 _ _ _ _ hGg17.I hGg17.R (oq173 efig17_7438 hmI hp0 s15 koq1) (oq174 efig17_7439 hp1 z18.1 koq33) (oq175 efig17_7429 hp2 z18.1 koq33) t nn ((kg17.fa 119 rfl).trans hT) ((kg17.fi 7429 rfl).trans hN) hX) (kj_d2 (n := n) (m := m) (o := 10) (o1 := 10) hm (by decide)) ?_
          intro vg99 ig99 ag99 qg99 rg99 kg99 hg99
          have hGg99 := kG_call hGg17 kg99 (by decide +kernel)
          obtain ⟨hg99, og99⟩ := hg99
          have fig99_7437 : ((0 : Int) ≤ (ig99 7437).toInt) ∧ ((ig99 7437).toInt ≤ 120) := hGg99.I.1 7437
          have fig99_7439 : ((0 : Int) ≤ (ig99 7439).toInt) ∧ ((ig99 7439).toInt ≤ 200) := hGg99.I.1 7439
          have z100 : ((ig99 7438).toInt = (ig17 7438).toInt) ∧ ((ig17 7437).toInt ≤ (ig99 7437).toInt) ∧ ((ig99 7437).toInt ≤ (ig99 7429).toInt) ∧ (((ig99 7439).toInt - (ig99 7437).toInt) ≤ ((ig17 7439).toInt - (ig17 7437).toInt)) ∧ ((ig17 7439).toInt ≤ (ig99 7439).toInt) ∧ ((0 : Int) ≤ vg99.toInt) ∧ (vg99.toInt ≤ 1) ∧ (((vg99.toInt = 1) → (((ig17 7437).toInt + 1) ≤ (ig99 7437).toInt))) := hg99
          refine ft_ifS mi_k152 (vg99 == 0) 144 131 [] (by rfl) (fun c => ?_) (fun c => ?_)
          ·
            have c101 : vg99.toInt = (0 : Int32).toInt := kd_eq c; clear c
            have s102 : ((ig99 7438) - 1).toInt = (ig99 7438).toInt - (1 : Int32).toInt := kd_sub (oq176 b14.1 efig17_7438 s15 z100.1 koq1) (oq177 efig17_7438 hn0 hp0 s15 z100.1 koq1)
            have hJ103 := kG_i hGg99 7438 rfl (v := ((ig99 7438) - 1)) (kd_bd _)
            first | refine fo_go mi_k152 fz152_141_10_225 [(2, .int 0), (1, .int vg9), (0, .ref 116)] [.int 0] (ku ig99 7438 ((ig99 7438) - 1)) ag99 qg99 rg99 (by rfl) ?_ | refine fo_go mi_k152 fz152_144_10_225 [(2, .int 0), (1, .int vg9), (0, .ref 116)] [.int 0] (ku ig99 7438 ((ig99 7438) - 1)) ag99 qg99 rg99 (by rfl) ?_ | refine fo_go mi_k152 fz152_175_10_225 [(2, .int 0), (1, .int vg9), (0, .ref 116)] [.int 0] (ku ig99 7438 ((ig99 7438) - 1)) ag99 qg99 rg99 (by rfl) ?_ | refine fo_go mi_k152 fz152_178_10_225 [(2, .int 0), (1, .int vg9), (0, .ref 116)] [.int 0] (ku ig99 7438 ((ig99 7438) - 1)) ag99 qg99 rg99 (by rfl) ?_ | refine fo_go mi_k152 fz152_208_10_225 [(2, .int 0), (1, .int vg9), (0, .ref 116)] [.int 0] (ku ig99 7438 ((ig99 7438) - 1)) ag99 qg99 rg99 (by rfl) ?_ | refine fo_go mi_k152 fz152_189_10_225 [(2, .int 0), (1, .int vg9), (0, .ref 116)] [.int 0] (ku ig99 7438 ((ig99 7438) - 1)) ag99 qg99 rg99 (by rfl) ?_ | refine fo_go mi_k152 fz152_196_10_225 [(2, .int 0), (1, .int vg9), (0, .ref 116)] [.int 0] (ku ig99 7438 ((ig99 7438) - 1)) ag99 qg99 rg99 (by rfl) ?_ | refine fo_go mi_k152 fz152_205_10_225 [(2, .int 0), (1, .int vg9), (0, .ref 116)] [.int 0] (ku ig99 7438 ((ig99 7438) - 1)) ag99 qg99 rg99 (by rfl) ?_ | refine ft_go mi_k152 10 225 [(2, .int 0), (1, .int vg9), (0, .ref 116)] [.int 0] (ku ig99 7438 ((ig99 7438) - 1)) ag99 qg99 rg99 (by rfl) ?_
            have tg104 : vg9 = nmO (rHr t nn (i 7437, i 7439, a 127)) := (og9.trans (congrArg nmO og5))
            have td105 : ¬ (48 ≤ (rHr t nn (i 7437, i 7439, a 127)).toInt ∧ (rHr t nn (i 7437, i 7439, a 127)).toInt ≤ 57) := (oq179 c4 c98 z18.1 z3.2 koq0 koq33)
            have tk106 : (vg17, (ig17 7437, ig17 7439, ag17 127)) = rTk t nn 33 (i 7437, i 7439, a 127) := (tTkR og17 (kT2 (kg17.fi 7439 rfl) (kg17.fa 127 rfl)))
            have ta107 : (ig17 7437, ig17 7439, ag17 127) = rAt1 (i 7437, i 7439, a 127) := (rTk_yes tk106 (oq181 c98 z18.1 koq0 koq33))
            have tp108 : ((0 : Int32), (ig99 7437, ig99 7439, ag99 127)) = rPart t nn (some (rO t nn m)) (i 7437, i 7439, a 127) := rPt_not (sub := rO t nn m) td105 tg104 (oq130 c12 koq0) (oq180 c98 z18.1 koq0 koq33) (og99.trans (congrArg (rO t nn m) ta107)) (rC2_no (oq143 c101 z100.2.2.2.2.2.1 koq0) rfl)
            exact ft_ret mi_k152 (by rfl) (hP 0 _ _ _ _ hJ103 ⟨(oq178 efig17_7438 efig17_7439 s102 s15 z100.1 z100.2.1 z100.2.2.1 z100.2.2.2.1 z100.2.2.2.2.1 z18.1 koq1 koq33 koq0), (tp108.trans (congrFun (rO_s hm).symm _))⟩)
          ·
            have c109 : vg99.toInt ≠ (0 : Int32).toInt := kd_eqF c; clear c
            first | refine ft_goS mi_k152 2 134 [.int 16, .ref 116] (by rfl) ?_ | refine ft_go mi_k152 2 134 [(1, .int vg9), (0, .ref 116)] [.int 16, .ref 116] ig99 ag99 qg99 rg99 (by rfl) ?_
            refine ko_callI mi_k152.1 (pc := 134) (ls := [(1, .int vg9), (0, .ref 116)]) (st := [.int 16, .ref 116]) (h := ks ig99 ag99 qg99 rg99) (i := (.invokevirtual 177, 3, 149, 0, 9, 0, 405)) (mi_k152.2 _ _ (by rfl)) (ft_invS mi_pq149 (by rfl)) (cy := mi_c149) mi_pq149 rfl (kf149_116 hGg99.I hGg99.R 16 (oq182 efig17_7439 fig99_7437.2 fig99_7439.1 hp1 z100.2.2.2.1 z18.1 koq33)) (kj_d3 (n := n) (c := 1) (o1 := 10) (by decide)) ?_
            intro vg110 ig110 ag110 qg110 rg110 kg110 hg110
            have hGg110 := kG_call hGg99 kg110 (by decide +kernel)
            obtain ⟨hg110, og110⟩ := hg110
            have z111 : (vg110.toInt = 1) ∧ ((ig110 7439).toInt = ((ig99 7439).toInt + 1)) := hg110
            have q112 : ag110 127 = (ag99 127).set (ig99 7439).toNatClampNeg (16 : Int32) := og110.1
            have q113 : ig110 7439 = ig99 7439 + 1 := og110.2
            refine ft_ifS mi_k152 (vg110 == 0) 144 140 [] (by rfl) (fun c => ?_) (fun c => ?_)
            ·
              have c114 : vg110.toInt = (0 : Int32).toInt := kd_eq c; clear c
              exact (oq169 c114 z111.1 koq0).elim
            ·
              have c115 : vg110.toInt ≠ (0 : Int32).toInt := kd_eqF c; clear c
              have efig110_7438 : (ig110 7438).toInt = (ig99 7438).toInt := kg110.ti 7438 rfl
              have s116 : ((ig110 7438) - 1).toInt = (ig110 7438).toInt - (1 : Int32).toInt := kd_sub (oq183 b14.1 efig110_7438 efig17_7438 s15 z100.1 koq1) (oq184 efig110_7438 efig17_7438 hn0 hp0 s15 z100.1 koq1)
              have hJ117 := kG_i hGg110 7438 rfl (v := ((ig110 7438) - 1)) (kd_bd _)
              first | refine fo_go mi_k152 fz152_140_11_225 [(2, .int 1), (1, .int vg9), (0, .ref 116)] [.int 1] (ku ig110 7438 ((ig110 7438) - 1)) ag110 qg110 rg110 (by rfl) ?_ | refine fo_go mi_k152 fz152_128_11_225 [(2, .int 1), (1, .int vg9), (0, .ref 116)] [.int 1] (ku ig110 7438 ((ig110 7438) - 1)) ag110 qg110 rg110 (by rfl) ?_ | refine fo_go mi_k152 fz152_137_11_225 [(2, .int 1), (1, .int vg9), (0, .ref 116)] [.int 1] (ku ig110 7438 ((ig110 7438) - 1)) ag110 qg110 rg110 (by rfl) ?_ | refine fo_go mi_k152 fz152_174_11_225 [(2, .int 1), (1, .int vg9), (0, .ref 116)] [.int 1] (ku ig110 7438 ((ig110 7438) - 1)) ag110 qg110 rg110 (by rfl) ?_ | refine fo_go mi_k152 fz152_162_11_225 [(2, .int 1), (1, .int vg9), (0, .ref 116)] [.int 1] (ku ig110 7438 ((ig110 7438) - 1)) ag110 qg110 rg110 (by rfl) ?_ | refine fo_go mi_k152 fz152_171_11_225 [(2, .int 1), (1, .int vg9), (0, .ref 116)] [.int 1] (ku ig110 7438 ((ig110 7438) - 1)) ag110 qg110 rg110 (by rfl) ?_ | refine fo_go mi_k152 fz152_205_11_225 [(2, .int 1), (1, .int vg9), (0, .ref 116)] [.int 1] (ku ig110 7438 ((ig110 7438) - 1)) ag110 qg110 rg110 (by rfl) ?_ | refine ft_go mi_k152 11 225 [(2, .int 1), (1, .int vg9), (0, .ref 116)] [.int 1] (ku ig110 7438 ((ig110 7438) - 1)) ag110 qg110 rg110 (by rfl) ?_
              have efig110_7437 : (ig110 7437).toInt = (ig99 7437).toInt := kg110.ti 7437 rfl
              have efig110_7429 : (ig110 7429).toInt = (ig99 7429).toInt := kg110.ti 7429 rfl
              have tg118 : vg9 = nmO (rHr t nn (i 7437, i 7439, a 127)) := (og9.trans (congrArg nmO og5))
              have td119 : ¬ (48 ≤ (rHr t nn (i 7437, i 7439, a 127)).toInt ∧ (rHr t nn (i 7437, i 7439, a 127)).toInt ≤ 57) := (oq179 c4 c98 z18.1 z3.2 koq0 koq33)
              have tk120 : (vg17, (ig17 7437, ig17 7439, ag17 127)) = rTk t nn 33 (i 7437, i 7439, a 127) := (tTkR og17 (kT2 (kg17.fi 7439 rfl) (kg17.fa 127 rfl)))
              have ta121 : (ig17 7437, ig17 7439, ag17 127) = rAt1 (i 7437, i 7439, a 127) := (rTk_yes tk120 (oq181 c98 z18.1 koq0 koq33))
              have tp122 : ((1 : Int32), (ig110 7437, ig110 7439, ag110 127)) = rPart t nn (some (rO t nn m)) (i 7437, i 7439, a 127) := rPt_not (sub := rO t nn m) td119 tg118 (oq130 c12 koq0) (oq180 c98 z18.1 koq0 koq33) (og99.trans (congrArg (rO t nn m) ta121)) (rC2_yes (oq151 c109 z100.2.2.2.2.2.1 koq0) (tCod og110.1 og110.2 (kg110.fi 7437 rfl)) rfl)
              exact ft_ret mi_k152 (by rfl) (hP 1 _ _ _ _ hJ117 ⟨(oq185 c98 efig110_7429 efig110_7437 efig110_7438 efig17_7438 efig17_7439 s116 s15 z100.1 z100.2.1 z100.2.2.1 z100.2.2.2.1 z100.2.2.2.2.1 z111.2 z18.1 koq0 koq1 koq33), (tp122.trans (congrFun (rO_s hm).symm _))⟩)
      ·
        have c123 : (i 7438).toInt = (6 : Int32).toInt := kd_neF c; clear c
        first | refine ft_goS mi_k152 1 104 [.int 0] (by rfl) ?_ | refine ft_go mi_k152 1 104 [(1, .int vg9), (0, .ref 116)] [.int 0] i a q r (by rfl) ?_
        have tg124 : vg9 = nmO (rHr t nn (i 7437, i 7439, a 127)) := (og9.trans (congrArg nmO og5))
        have td125 : ¬ (48 ≤ (rHr t nn (i 7437, i 7439, a 127)).toInt ∧ (rHr t nn (i 7437, i 7439, a 127)).toInt ≤ 57) := (oq129 c4 z3.2 koq0)
        have tp126 : ((0 : Int32), (i 7437, i 7439, a 127)) = rPart t nn none (i 7437, i 7439, a 127) := rPt_non td125 tg124 (oq130 c12 koq0) rfl rfl
        exact ft_ret mi_k152 (by rfl) (hP 0 _ _ _ _ hG ⟨(oq186 hp2 koq0), (tp126.trans (congrFun (rO_z (kj_n0 (oq187 c123 hp0 koq6))).symm _))⟩)
    ·
      have c127 : (0 : Int32).toInt ≤ vg9.toInt := kd_ltF c; clear c
      have s128 : ((i 7437) + 1).toInt = (i 7437).toInt + (1 : Int32).toInt := kd_add (oq115 fi_7437.1 koq1) (oq116 fi_7437.2 koq1)
      have hJ129 := kG_i hG 7437 rfl (v := ((i 7437) + 1)) ⟨(oq117 fi_7437.1 s128 koq1), (oq188 c127 fi_7429.2 s128 z10.2.2 z6.2.2 koq0 koq1)⟩
      first | refine fo_goI mi_k152 fz152_78_8_90 [.int vg9, .ref 116] (ku i 7437 ((i 7437) + 1)) (by rfl) ?_ | refine ft_go mi_k152 8 90 [(1, .int vg9), (0, .ref 116)] [.int vg9, .ref 116] (ku i 7437 ((i 7437) + 1)) a q r (by rfl) ?_
      refine ko_callI mi_k152.1 (pc := 90) (ls := [(1, .int vg9), (0, .ref 116)]) (st := [.int vg9, .ref 116]) (h := ks (ku i 7437 ((i 7437) + 1)) a q r) (i := (.invokevirtual 177, 3, 149, 0, 9, 0, 405)) (mi_k152.2 _ _ (by rfl)) (ft_invS mi_pq149 (by rfl)) (cy := mi_c149) mi_pq149 rfl (kf149_116 hJ129.I hJ129.R vg9 (oq189 fi_7437.2 fi_7439.1 hp1)) (kj_d3 (n := n) (c := 1) (o1 := 10) (by decide)) ?_
      intro vg130 ig130 ag130 qg130 rg130 kg130 hg130
      have hGg130 := kG_call hJ129 kg130 (by decide +kernel)
      obtain ⟨hg130, og130⟩ := hg130
      have z131 : (vg130.toInt = 1) ∧ ((ig130 7439).toInt = ((i 7439).toInt + 1)) := hg130
      have q132 : ag130 127 = (a 127).set (i 7439).toNatClampNeg vg9 := og130.1
      have q133 : ig130 7439 = i 7439 + 1 := og130.2
      have efig130_7438 : (ig130 7438).toInt = (i 7438).toInt := kg130.ti 7438 rfl
      have efig130_7437 : (ig130 7437).toInt = ((i 7437) + 1).toInt := kg130.ti 7437 rfl
      have efig130_7429 : (ig130 7429).toInt = (i 7429).toInt := kg130.ti 7429 rfl
      have tg134 : vg9 = nmO (rHr t nn (i 7437, i 7439, a 127)) := (og9.trans (congrArg nmO og5))
      have tp135 : ∀ nx, (vg130, (ig130 7437, ig130 7439, ag130 127)) = rPart t nn nx (i 7437, i 7439, a 127) := fun nx => rPt_nam (nx := nx) (oq191 c127 hv8 z10.2.2 koq0) tg134 (oq192 c127 koq0) (tCod og130.1 og130.2 (kg130.fi 7437 rfl)) (kj_v1 (oq193 z131.1))
      obtain rfl : vg130 = 1 := kj_v1 z131.1
      exact ft_ret mi_k152 (by rfl) (hP (1 : Int32) _ _ _ _ hGg130 ⟨(oq190 c127 efig130_7429 efig130_7437 efig130_7438 s128 z10.2.2 z131.1 z131.2 z6.2.2 koq0 koq1), (rPt_lv (rO_any t nn n) tp135)⟩)
  ·
    have c136 : vg2.toInt ≠ (0 : Int32).toInt := kd_eqF c; clear c
    first | refine ft_goL mi_k152 4 11 [(2, .int 0), (1, .int 0), (0, .ref 116)] [] (by rfl) ?_ | refine ft_go mi_k152 4 11 [(2, .int 0), (1, .int 0), (0, .ref 116)] [] i a q r (by rfl) ?_
    have lp137 : ∀ (nz : Nat) (i137 : Nat → Int32) (a137 : Nat → List Int32) (q137 : Nat → List Int64) (r137 : Nat → Nat) (l2_137 : Int32) (l1_137 : Int32), kG yw152_116_L11 i a q r i137 a137 q137 r137 → ((l2_137.toInt = 0) ∧ (l1_137.toInt = 0)) ∨ ((l2_137.toInt = 1) ∧ ((0 : Int) ≤ l1_137.toInt) ∧ (l1_137.toInt ≤ 9)) ∨ ((l2_137.toInt = 2) ∧ ((0 : Int) ≤ l1_137.toInt) ∧ (l1_137.toInt ≤ 99)) ∨ ((l2_137.toInt = 3) ∧ ((0 : Int) ≤ l1_137.toInt) ∧ (l1_137.toInt ≤ 999)) ∨ ((l2_137.toInt = 4) ∧ ((0 : Int) ≤ l1_137.toInt) ∧ (l1_137.toInt ≤ 9999)) → (i137 7438).toInt = (i 7438).toInt → ((i 7437).toInt + l2_137.toInt) ≤ (i137 7437).toInt → (i137 7437).toInt ≤ (i137 7429).toInt → ((1 : Int) ≤ l2_137.toInt) ∨ ((i137 7437).toInt = (i 7437).toInt) → rDig t nn (4 - l2_137.toInt).toNat (l1_137, i137 7437) = rDig t nn 4 (0, i 7437) → ((4 - l2_137.toInt)).toNat < nz → ko (6 * n + 10) (mi_h152, mi_c152) P (11, [(2, .int l2_137), (1, .int l1_137), (0, .ref 116)], [], (0, 0), ks i137 a137 q137 r137) := by
      intro nz
      induction nz with
      | zero =>
        intro _ _ _ _ _ _ _ _ _ _ _ _ _ hm
        exact absurd hm (Nat.not_lt_zero _)
      | succ nz ih137 =>
        intro i137 a137 q137 r137 l2_137 l1_137 hL137 p137_0 p137_1 p137_2 p137_3 p137_4 O137_0 hm137
        have efi137_7438 : (i137 7438).toInt = (i 7438).toInt := hL137.ti 7438 rfl
        have fi137_7437 : ((0 : Int) ≤ (i137 7437).toInt) ∧ ((i137 7437).toInt ≤ 120) := hL137.I.1 7437
        have fi137_7429 : ((0 : Int) ≤ (i137 7429).toInt) ∧ ((i137 7429).toInt ≤ 120) := hL137.I.1 7429
        have efi137_7429 : (i137 7429).toInt = (i 7429).toInt := hL137.ti 7429 rfl
        have q138 : ((i137 7437).toInt = (i 7437).toInt → (cHr t nn (i137 7437) 0).toInt = (cHr t nn (i 7437) 0).toInt) := fun h => congrArg Int32.toInt (kHr_c (t := t) (n := nn) (kj_v h) rfl)
        first | refine ft_goL mi_k152 2 13 [(2, .int l2_137), (1, .int l1_137), (0, .ref 116)] [.int 4, .int l2_137] (by rfl) ?_ | refine ft_go mi_k152 2 13 [(2, .int l2_137), (1, .int l1_137), (0, .ref 116)] [.int 4, .int l2_137] i137 a137 q137 r137 (by rfl) ?_
        refine ft_ifS mi_k152 (decide (4 ≤ l2_137)) 57 16 [] (by rfl) (fun c => ?_) (fun c => ?_)
        ·
          have c139 : (4 : Int32).toInt ≤ l2_137.toInt := kd_le c; clear c
          have hG140 := kG_call hG hL137 (by decide +kernel)
          have hD141 : (l1_137, i137 7437) = rDig t nn 4 (0, i 7437) := rDg_end O137_0 (kj_sub0 (n := 4) (oq230 c139 koq4))
          have s142 : (18 + l1_137).toInt = (18 : Int32).toInt + l1_137.toInt := kd_add (oq231 c139 p137_0 koq4 koq18) (oq232 c139 p137_0 koq4 koq18)
          first | refine fo_goS mi_k152 fz152_57_4_62 [.int (18 + l1_137), .ref 116] (by rfl) ?_ | refine ft_go mi_k152 4 62 [(2, .int l2_137), (1, .int l1_137), (0, .ref 116)] [.int (18 + l1_137), .ref 116] i137 a137 q137 r137 (by rfl) ?_
          have fi137_7439 : ((0 : Int) ≤ (i137 7439).toInt) ∧ ((i137 7439).toInt ≤ 200) := hG140.I.1 7439
          have efi137_7439 : (i137 7439).toInt = (i 7439).toInt := hL137.ti 7439 rfl
          refine ko_callI mi_k152.1 (pc := 62) (ls := [(2, .int l2_137), (1, .int l1_137), (0, .ref 116)]) (st := [.int (18 + l1_137), .ref 116]) (h := ks i137 a137 q137 r137) (i := (.invokevirtual 177, 3, 149, 0, 9, 0, 405)) (mi_k152.2 _ _ (by rfl)) (ft_invS mi_pq149 (by rfl)) (cy := mi_c149) mi_pq149 rfl (kf149_116 hG140.I hG140.R (18 + l1_137) (oq233 efi137_7439 fi137_7439.1 fi_7437.2 hp1)) (kj_d3 (n := n) (c := 1) (o1 := 10) (by decide)) ?_
          intro vg143 ig143 ag143 qg143 rg143 kg143 hg143
          have hGg143 := kG_call hG140 kg143 (by decide +kernel)
          obtain ⟨hg143, og143⟩ := hg143
          have z144 : (vg143.toInt = 1) ∧ ((ig143 7439).toInt = ((i137 7439).toInt + 1)) := hg143
          have q145 : ag143 127 = (a137 127).set (i137 7439).toNatClampNeg (18 + l1_137) := og143.1
          have q146 : ig143 7439 = i137 7439 + 1 := og143.2
          have efig143_7438 : (ig143 7438).toInt = (i137 7438).toInt := kg143.ti 7438 rfl
          have efig143_7437 : (ig143 7437).toInt = (i137 7437).toInt := kg143.ti 7437 rfl
          have efig143_7429 : (ig143 7429).toInt = (i137 7429).toInt := kg143.ti 7429 rfl
          have to147 : (ig143 7437, ig143 7439, ag143 127) = rCod (18 + l1_137) (i137 7437, (i 7439, a 127)) := ((tCod og143.1 og143.2 (kg143.fi 7437 rfl))).trans (congrArg (fun z : Int32 × List Int32 => rCod (18 + l1_137) (i137 7437, z)) (kT2 (hL137.fi 7439 rfl) (hL137.fa 127 rfl)))
          have tp148 : ∀ nx, (vg143, (ig143 7437, ig143 7439, ag143 127)) = rPart t nn nx (i 7437, i 7439, a 127) := fun nx => rPt_num (nx := nx) (oq215 c136 z3.1 koq0) (oq216 c136 z3.1 koq0) hD141 rfl to147 (kj_v1 (oq193 z144.1))
          obtain rfl : vg143 = 1 := kj_v1 z144.1
          exact ft_ret mi_k152 (by rfl) (hP (1 : Int32) _ _ _ _ hGg143 ⟨(oq234 c139 efi137_7438 efi137_7439 efig143_7429 efig143_7437 efig143_7438 p137_2 p137_3 z144.1 z144.2 koq4), (rPt_lv (rO_any t nn n) tp148)⟩)
        ·
          have c149 : l2_137.toInt < (4 : Int32).toInt := kd_leF c; clear c
          first | refine ft_goS mi_k152 1 17 [.ref 116] (by rfl) ?_ | refine ft_go mi_k152 1 17 [(2, .int l2_137), (1, .int l1_137), (0, .ref 116)] [.ref 116] i137 a137 q137 r137 (by rfl) ?_
          refine ko_callPI mi_k152.1 (pc := 17) (ls := [(2, .int l2_137), (1, .int l1_137), (0, .ref 116)]) (st := [.ref 116]) (h := ks i137 a137 q137 r137) (i := (.invokevirtual 173, 3, 150, 0, 9, 0, 403)) (mi_k152.2 _ _ (by rfl)) (ft_invS mi_pq150 (by rfl)) (cy := mi_c150) mi_pq150 rfl (ke150_116 hL137.I hL137.R t nn ((hL137.fa 119 rfl).trans hT) ((hL137.fi 7429 rfl).trans hN) hX) (kj_d3 (n := n) (c := 3) (o1 := 10) (by decide)) ?_
          intro vg150 hg150
          have z151 : (((vg150.toInt = 1) ∧ ((48 : Int) ≤ (cHr t nn (i137 7437) 0).toInt) ∧ ((cHr t nn (i137 7437) 0).toInt ≤ 57) ∧ ((i137 7437).toInt < (i137 7429).toInt)) ∨ (vg150.toInt = 0)) ∧ (((vg150.toInt = 0) → (¬ (((48 : Int) ≤ (cHr t nn (i137 7437) 0).toInt) ∧ ((cHr t nn (i137 7437) 0).toInt ≤ 57))))) := hg150
          refine ft_ifS mi_k152 (vg150 == 0) 57 23 [] (by rfl) (fun c => ?_) (fun c => ?_)
          ·
            have c152 : vg150.toInt = (0 : Int32).toInt := kd_eq c; clear c
            have hG153 := kG_call hG hL137 (by decide +kernel)
            have hD154 : (l1_137, i137 7437) = rDig t nn 4 (0, i 7437) := rDg_out O137_0 (oq129 c152 z151.2 koq0)
            have s155 : (18 + l1_137).toInt = (18 : Int32).toInt + l1_137.toInt := kd_add (oq235 c149 p137_0 koq4 koq18) (oq236 c149 p137_0 koq4 koq18)
            first | refine fo_goS mi_k152 fz152_57_4_62 [.int (18 + l1_137), .ref 116] (by rfl) ?_ | refine ft_go mi_k152 4 62 [(2, .int l2_137), (1, .int l1_137), (0, .ref 116)] [.int (18 + l1_137), .ref 116] i137 a137 q137 r137 (by rfl) ?_
            have fi137_7439 : ((0 : Int) ≤ (i137 7439).toInt) ∧ ((i137 7439).toInt ≤ 200) := hG153.I.1 7439
            have efi137_7439 : (i137 7439).toInt = (i 7439).toInt := hL137.ti 7439 rfl
            refine ko_callI mi_k152.1 (pc := 62) (ls := [(2, .int l2_137), (1, .int l1_137), (0, .ref 116)]) (st := [.int (18 + l1_137), .ref 116]) (h := ks i137 a137 q137 r137) (i := (.invokevirtual 177, 3, 149, 0, 9, 0, 405)) (mi_k152.2 _ _ (by rfl)) (ft_invS mi_pq149 (by rfl)) (cy := mi_c149) mi_pq149 rfl (kf149_116 hG153.I hG153.R (18 + l1_137) (oq233 efi137_7439 fi137_7439.1 fi_7437.2 hp1)) (kj_d3 (n := n) (c := 1) (o1 := 10) (by decide)) ?_
            intro vg156 ig156 ag156 qg156 rg156 kg156 hg156
            have hGg156 := kG_call hG153 kg156 (by decide +kernel)
            obtain ⟨hg156, og156⟩ := hg156
            have z157 : (vg156.toInt = 1) ∧ ((ig156 7439).toInt = ((i137 7439).toInt + 1)) := hg156
            have q158 : ag156 127 = (a137 127).set (i137 7439).toNatClampNeg (18 + l1_137) := og156.1
            have q159 : ig156 7439 = i137 7439 + 1 := og156.2
            have efig156_7438 : (ig156 7438).toInt = (i137 7438).toInt := kg156.ti 7438 rfl
            have efig156_7437 : (ig156 7437).toInt = (i137 7437).toInt := kg156.ti 7437 rfl
            have efig156_7429 : (ig156 7429).toInt = (i137 7429).toInt := kg156.ti 7429 rfl
            have to160 : (ig156 7437, ig156 7439, ag156 127) = rCod (18 + l1_137) (i137 7437, (i 7439, a 127)) := ((tCod og156.1 og156.2 (kg156.fi 7437 rfl))).trans (congrArg (fun z : Int32 × List Int32 => rCod (18 + l1_137) (i137 7437, z)) (kT2 (hL137.fi 7439 rfl) (hL137.fa 127 rfl)))
            have tp161 : ∀ nx, (vg156, (ig156 7437, ig156 7439, ag156 127)) = rPart t nn nx (i 7437, i 7439, a 127) := fun nx => rPt_num (nx := nx) (oq215 c136 z3.1 koq0) (oq216 c136 z3.1 koq0) hD154 rfl to160 (kj_v1 (oq193 z157.1))
            obtain rfl : vg156 = 1 := kj_v1 z157.1
            exact ft_ret mi_k152 (by rfl) (hP (1 : Int32) _ _ _ _ hGg156 ⟨(oq237 c136 c152 efi137_7438 efi137_7439 efig156_7429 efig156_7437 efig156_7438 p137_2 p137_3 p137_4 q138 z151.2 z157.1 z157.2 z3.1 koq0), (rPt_lv (rO_any t nn n) tp161)⟩)
          ·
            have c162 : vg150.toInt ≠ (0 : Int32).toInt := kd_eqF c; clear c
            have s163 : (10 * l1_137).toInt = 10 * l1_137.toInt := kd_cmul 10 koq10 (oq238 c149 p137_0 koq4) (oq239 c149 p137_0 koq4)
            first | refine fo_goS mi_k152 fz152_23_7_35 [.int (i137 7437), .ref 119, .int (10 * l1_137)] (by rfl) ?_ | refine ft_go mi_k152 7 35 [(2, .int l2_137), (1, .int l1_137), (0, .ref 116)] [.int (i137 7437), .ref 119, .int (10 * l1_137)] i137 a137 q137 r137 (by rfl) ?_
            refine ko_iald3 mi_k152.1 (n := 120) (c := 120) (ax := (0, 0, 0, 0, 0)) (mi_k152.2 _ _ (by rfl)) (by rfl) (ksG119 _ _ _ _) (hL137.I.2.1 119) rfl (oq2 fi137_7437.1) (oq198 c162 fi137_7429.2 z151.1 koq0) ?_
            have hd164 : ((a137 119).getD (i137 7437).toNatClampNeg 0).toInt = (cHr t nn (i137 7437) 0).toInt := congrArg Int32.toInt ((congrArg (fun z : List Int32 => z.getD (i137 7437).toNatClampNeg 0) ((hL137.fa 119 rfl).trans hT)).trans (cHr_in koq0 (oq240 c162 efi137_7429 hn1 z151.1 koq0)))
            have s165 : ((10 * l1_137) + ((a137 119).getD (i137 7437).toNatClampNeg 0)).toInt = (10 * l1_137).toInt + ((a137 119).getD (i137 7437).toNatClampNeg 0).toInt := kd_add (oq241 c149 c162 hd164 p137_0 p137_2 p137_4 s163 z151.1 koq4 koq0) (oq242 c149 c162 hd164 p137_0 p137_2 p137_4 s163 z151.1 koq4 koq0)
            have s166 : (((10 * l1_137) + ((a137 119).getD (i137 7437).toNatClampNeg 0)) - 48).toInt = ((10 * l1_137) + ((a137 119).getD (i137 7437).toNatClampNeg 0)).toInt - (48 : Int32).toInt := kd_sub (oq243 c149 c162 hd164 p137_0 p137_2 p137_4 s163 s165 z151.1 koq4 koq0 koq48) (oq244 c149 c162 hd164 p137_0 p137_2 p137_4 s163 s165 z151.1 koq4 koq0 koq48)
            have s167 : ((i137 7437) + 1).toInt = (i137 7437).toInt + (1 : Int32).toInt := kd_add (oq115 fi137_7437.1 koq1) (oq116 fi137_7437.2 koq1)
            have hJ168 := kG_i hL137 7437 rfl (v := ((i137 7437) + 1)) ⟨(oq117 fi137_7437.1 s167 koq1), (oq204 c162 fi137_7429.2 s167 z151.1 koq0 koq1)⟩
            have s169 : (l2_137 + 1).toInt = l2_137.toInt + (1 : Int32).toInt := kd_add (oq205 p137_0 koq1) (oq206 c149 koq4 koq1)
            first | refine fo_go mi_k152 fz152_36_12_11 [(2, .int (l2_137 + 1)), (1, .int (((10 * l1_137) + ((a137 119).getD (i137 7437).toNatClampNeg 0)) - 48)), (0, .ref 116)] [] (ku i137 7437 ((i137 7437) + 1)) a137 q137 r137 (by rfl) ?_ | refine ft_go mi_k152 12 11 [(2, .int (l2_137 + 1)), (1, .int (((10 * l1_137) + ((a137 119).getD (i137 7437).toNatClampNeg 0)) - 48)), (0, .ref 116)] [] (ku i137 7437 ((i137 7437) + 1)) a137 q137 r137 (by rfl) ?_
            exact ih137 _ _ _ _ _ _ hJ168 (oq245 c149 c162 hd164 p137_0 s163 s165 s166 s169 z151.1 koq4 koq0 koq48 koq1) (oq208 efi137_7438) (oq209 p137_2 s167 s169 koq1) (oq210 c162 s167 z151.1 koq0 koq1) (oq211 p137_0 s169 koq1) (rDg_again O137_0 (kj_sub2 (n := 4) (oq212 c149 koq4) (oq213 p137_0) (oq214 s169 koq1)) (oq215 c162 z151.1 koq0) (oq216 c162 z151.1 koq0) (congrArg (fun z : Int32 => ((10 * l1_137) + z) - 48) ((congrArg (fun z : List Int32 => z.getD (i137 7437).toNatClampNeg 0) ((hL137.fa 119 rfl).trans hT)).trans (cHr_in koq0 (oq240 c162 efi137_7429 hn1 z151.1 koq0)))) rfl) (kj_meas (oq217 s169 koq1) (oq218 c149 koq4) hm137)
    exact lp137 _ _ _ _ _ _ _ (kG_self _ hG.I hG.R) (oq219 koq0) oq220 (oq221 koq0) (oq222 hp2) (oq223 koq0) (by rw [koq0]; rfl) (Nat.lt_succ_self _)
end
section
set_option maxRecDepth 100000 in
theorem kMsQ_153 (n : Nat) (h152 : kMQ_152 n) : kMQ_153 n := by
  intro i a q r hI hr hp0 hp1 hp2 t nn hT hN hX
  have hG := kG_self wQ hI hr
  refine km_ofI (q := (mi_h153, mi_c153)) rfl (by decide) (Nat.le_of_ble_eq_true rfl) ?_
  intro P hP
  have hn0 : (0 : Int) ≤ (n : Int) := Int.natCast_nonneg n
  have hn1 : (i 7429).toInt = nn.toInt := congrArg Int32.toInt hN
  first | refine ft_goL mi_k153 1 1 [(0, .ref 116)] [.ref 116] (by rfl) ?_ | refine ft_go mi_k153 1 1 [(0, .ref 116)] [.ref 116] i a q r (by rfl) ?_
  refine ko_callI mi_k153.1 (pc := 1) (ls := [(0, .ref 116)]) (st := [.ref 116]) (h := ks i a q r) (i := (.invokevirtual 190, 3, 152, 0, 9, 0, 402)) (mi_k153.2 _ _ (by rfl)) (ft_invS mi_pq152 (by rfl)) (cy := mi_c152) mi_pq152 rfl (h152 _ _ _ _ hG.I hG.R (oq246 hp0) (oq222 hp1) (oq222 hp2) t nn hT hN hX) (kj_d1 (n := n) (o := 10) (o1 := 11) (by decide)) ?_
  intro vg2 ig2 ag2 qg2 rg2 kg2 hg2
  have hGg2 := kG_call hG kg2 (by decide +kernel)
  obtain ⟨hg2, og2⟩ := hg2
  have fig2_7437 : ((0 : Int) ≤ (ig2 7437).toInt) ∧ ((ig2 7437).toInt ≤ 120) := hGg2.I.1 7437
  have efig2_7429 : (ig2 7429).toInt = (i 7429).toInt := kg2.ti 7429 rfl
  have z3 : ((ig2 7438).toInt = (i 7438).toInt) ∧ ((i 7437).toInt ≤ (ig2 7437).toInt) ∧ ((ig2 7437).toInt ≤ (ig2 7429).toInt) ∧ (((ig2 7439).toInt - (ig2 7437).toInt) ≤ ((i 7439).toInt - (i 7437).toInt)) ∧ ((i 7439).toInt ≤ (ig2 7439).toInt) ∧ ((0 : Int) ≤ vg2.toInt) ∧ (vg2.toInt ≤ 1) ∧ (((vg2.toInt = 1) → (((i 7437).toInt + 1) ≤ (ig2 7437).toInt))) := hg2
  refine ft_ifS mi_k153 (vg2 != 0) 9 7 [] (by rfl) (fun c => ?_) (fun c => ?_)
  ·
    have c4 : vg2.toInt ≠ (0 : Int32).toInt := kd_ne c; clear c
    have lp5 : ∀ (nz : Nat) (i5 : Nat → Int32) (a5 : Nat → List Int32) (q5 : Nat → List Int64) (r5 : Nat → Nat), kG yw153_116_L9 ig2 ag2 qg2 rg2 i5 a5 q5 r5 → (i5 7438).toInt = (i 7438).toInt → (i 7437).toInt ≤ (i5 7437).toInt → (i5 7437).toInt ≤ (i5 7429).toInt → ((i5 7439).toInt - (i5 7437).toInt) ≤ ((i 7439).toInt - (i 7437).toInt) → (i 7439).toInt ≤ (i5 7439).toInt → ((i 7437).toInt + 1) ≤ (i5 7437).toInt → rGo t nn (rO t nn n) opMul (i5 7437, i5 7439, a5 127) (rMul t nn (rO t nn n) opMul (i 7437, i 7439, a 127)) → (((i5 7429).toInt - (i5 7437).toInt)).toNat < nz → ko (6 * n + 11) (mi_h153, mi_c153) P (9, [(0, .ref 116)], [], (0, 0), ks i5 a5 q5 r5) := by
      intro nz
      induction nz with
      | zero =>
        intro _ _ _ _ _ _ _ _ _ _ _ _ hm
        exact absurd hm (Nat.not_lt_zero _)
      | succ nz ih5 =>
        intro i5 a5 q5 r5 hL5 p5_0 p5_1 p5_2 p5_3 p5_4 p5_5 O5_0 hm5
        have fi5_7437 : ((0 : Int) ≤ (i5 7437).toInt) ∧ ((i5 7437).toInt ≤ 120) := hL5.I.1 7437
        have fi5_7429 : ((0 : Int) ≤ (i5 7429).toInt) ∧ ((i5 7429).toInt ≤ 120) := hL5.I.1 7429
        have efi5_7429 : (i5 7429).toInt = (ig2 7429).toInt := hL5.ti 7429 rfl
        first | refine ft_goL mi_k153 1 10 [(0, .ref 116)] [.ref 116] (by rfl) ?_ | refine ft_go mi_k153 1 10 [(0, .ref 116)] [.ref 116] i5 a5 q5 r5 (by rfl) ?_
        refine ko_callPI mi_k153.1 (pc := 10) (ls := [(0, .ref 116)]) (st := [.ref 116]) (h := ks i5 a5 q5 r5) (i := (.invokevirtual 166, 3, 147, 0, 9, 0, 404)) (mi_k153.2 _ _ (by rfl)) (ft_invS mi_pq147 (by rfl)) (cy := mi_c147) mi_pq147 rfl (ke147_116 hL5.I hL5.R t nn (((hL5.fa 119 rfl).trans (kg2.fa 119 rfl)).trans hT) (((hL5.fi 7429 rfl).trans (kg2.fi 7429 rfl)).trans hN) hX) (kj_d3 (n := n) (c := 1) (o1 := 11) (by decide)) ?_
        intro vg6 hg6
        obtain ⟨hg6, og6⟩ := hg6
        have z7 : (((-1) : Int) ≤ vg6.toInt) ∧ (vg6.toInt ≤ 255) ∧ ((vg6.toInt = (-1)) ∨ ((i5 7437).toInt < (i5 7429).toInt)) := hg6
        have q8 : vg6 = cHr t nn (i5 7437) 0 := og6
        have hv9 : vg6.toInt = (cHr t nn (i5 7437) 0).toInt := congrArg Int32.toInt og6
        first | refine ft_goS mi_k153 1 15 [.int 42, .int vg6] (by rfl) ?_ | refine ft_go mi_k153 1 15 [(0, .ref 116)] [.int 42, .int vg6] i5 a5 q5 r5 (by rfl) ?_
        refine ft_ifS mi_k153 (vg6 != 42) 23 18 [] (by rfl) (fun c => ?_) (fun c => ?_)
        ·
          have c10 : vg6.toInt ≠ (42 : Int32).toInt := kd_ne c; clear c
          first | refine ft_goS mi_k153 1 24 [.ref 116] (by rfl) ?_ | refine ft_go mi_k153 1 24 [(0, .ref 116)] [.ref 116] i5 a5 q5 r5 (by rfl) ?_
          refine ko_callPI mi_k153.1 (pc := 24) (ls := [(0, .ref 116)]) (st := [.ref 116]) (h := ks i5 a5 q5 r5) (i := (.invokevirtual 166, 3, 147, 0, 9, 0, 404)) (mi_k153.2 _ _ (by rfl)) (ft_invS mi_pq147 (by rfl)) (cy := mi_c147) mi_pq147 rfl (ke147_116 hL5.I hL5.R t nn (((hL5.fa 119 rfl).trans (kg2.fa 119 rfl)).trans hT) (((hL5.fi 7429 rfl).trans (kg2.fi 7429 rfl)).trans hN) hX) (kj_d3 (n := n) (c := 1) (o1 := 11) (by decide)) ?_
          intro vg11 hg11
          obtain ⟨hg11, og11⟩ := hg11
          have q13 : vg11 = cHr t nn (i5 7437) 0 := og11
          have hv14 : vg11.toInt = (cHr t nn (i5 7437) 0).toInt := congrArg Int32.toInt og11
          first | refine ft_goS mi_k153 1 29 [.int 47, .int vg11] (by rfl) ?_ | refine ft_go mi_k153 1 29 [(0, .ref 116)] [.int 47, .int vg11] i5 a5 q5 r5 (by rfl) ?_
          refine ft_ifS mi_k153 (vg11 != 47) 37 32 [] (by rfl) (fun c => ?_) (fun c => ?_)
          ·
            have c15 : vg11.toInt ≠ (47 : Int32).toInt := kd_ne c; clear c
            first | refine ft_goS mi_k153 1 38 [.ref 116] (by rfl) ?_ | refine ft_go mi_k153 1 38 [(0, .ref 116)] [.ref 116] i5 a5 q5 r5 (by rfl) ?_
            refine ko_callPI mi_k153.1 (pc := 38) (ls := [(0, .ref 116)]) (st := [.ref 116]) (h := ks i5 a5 q5 r5) (i := (.invokevirtual 166, 3, 147, 0, 9, 0, 404)) (mi_k153.2 _ _ (by rfl)) (ft_invS mi_pq147 (by rfl)) (cy := mi_c147) mi_pq147 rfl (ke147_116 hL5.I hL5.R t nn (((hL5.fa 119 rfl).trans (kg2.fa 119 rfl)).trans hT) (((hL5.fi 7429 rfl).trans (kg2.fi 7429 rfl)).trans hN) hX) (kj_d3 (n := n) (c := 1) (o1 := 11) (by decide)) ?_
            intro vg16 hg16
            obtain ⟨hg16, og16⟩ := hg16
            have q18 : vg16 = cHr t nn (i5 7437) 0 := og16
            have hv19 : vg16.toInt = (cHr t nn (i5 7437) 0).toInt := congrArg Int32.toInt og16
            first | refine ft_goS mi_k153 1 43 [.int 37, .int vg16] (by rfl) ?_ | refine ft_go mi_k153 1 43 [(0, .ref 116)] [.int 37, .int vg16] i5 a5 q5 r5 (by rfl) ?_
            refine ft_ifS mi_k153 (vg16 != 37) 51 46 [] (by rfl) (fun c => ?_) (fun c => ?_)
            ·
              have c20 : vg16.toInt ≠ (37 : Int32).toInt := kd_ne c; clear c
              first | refine ft_goL mi_k153 4 57 [(1, .int (-1)), (0, .ref 116)] [] (by rfl) ?_ | refine ft_go mi_k153 4 57 [(1, .int (-1)), (0, .ref 116)] [] i5 a5 q5 r5 (by rfl) ?_
              have hG21 := kG_call hGg2 hL5 (by decide +kernel)
              first | refine ft_goS mi_k153 1 58 [.int 1] (by rfl) ?_ | refine ft_go mi_k153 1 58 [(1, .int (-1)), (0, .ref 116)] [.int 1] i5 a5 q5 r5 (by rfl) ?_
              exact ft_ret mi_k153 (by rfl) (hP 1 _ _ _ _ hG21 ⟨(oq290 p5_0 p5_2 p5_3 p5_4 p5_5 koq1), (rGo_out O5_0 (opMul_of (x := (cHr t nn (i5 7437) 0)) (g := (-1)) (Or.inr (Or.inr (Or.inr (⟨(oq248 c10 hv9 koq42), (oq249 c15 hv14 koq47), (oq250 c20 hv19 koq37), (oq251 koqm1)⟩))))) (oq252 koqm1) rfl)⟩)
            ·
              have c22 : vg16.toInt = (37 : Int32).toInt := kd_neF c; clear c
              have s23 : ((i5 7437) + 1).toInt = (i5 7437).toInt + (1 : Int32).toInt := kd_add (oq115 fi5_7437.1 koq1) (oq116 fi5_7437.2 koq1)
              have hJ24 := kG_i hL5 7437 rfl (v := ((i5 7437) + 1)) ⟨(oq117 fi5_7437.1 s23 koq1), (oq253 c22 fi5_7429.2 hv19 hv9 s23 z7.2.2 koq37 koq1)⟩
              first | refine fo_go mi_k153 fz153_18_12_70 [(1, .int 15), (0, .ref 116)] [.ref 116] (ku i5 7437 ((i5 7437) + 1)) a5 q5 r5 (by rfl) ?_ | refine fo_go mi_k153 fz153_32_12_70 [(1, .int 15), (0, .ref 116)] [.ref 116] (ku i5 7437 ((i5 7437) + 1)) a5 q5 r5 (by rfl) ?_ | refine fo_go mi_k153 fz153_46_12_70 [(1, .int 15), (0, .ref 116)] [.ref 116] (ku i5 7437 ((i5 7437) + 1)) a5 q5 r5 (by rfl) ?_ | refine ft_go mi_k153 12 70 [(1, .int 15), (0, .ref 116)] [.ref 116] (ku i5 7437 ((i5 7437) + 1)) a5 q5 r5 (by rfl) ?_
              refine ko_callI mi_k153.1 (pc := 70) (ls := [(1, .int 15), (0, .ref 116)]) (st := [.ref 116]) (h := ks (ku i5 7437 ((i5 7437) + 1)) a5 q5 r5) (i := (.invokevirtual 190, 3, 152, 0, 9, 0, 402)) (mi_k153.2 _ _ (by rfl)) (ft_invS mi_pq152 (by rfl)) (cy := mi_c152) mi_pq152 rfl (h152 _ _ _ _ hJ24.I hJ24.R (oq291 hp0 p5_0) (oq255 hp1 p5_3 s23 koq1) (oq256 c22 hv19 hv9 s23 z7.2.2 koq37 koq1) t nn (((hL5.fa 119 rfl).trans (kg2.fa 119 rfl)).trans hT) (((hL5.fi 7429 rfl).trans (kg2.fi 7429 rfl)).trans hN) hX) (kj_d1 (n := n) (o := 10) (o1 := 11) (by decide)) ?_
              intro vg25 ig25 ag25 qg25 rg25 kg25 hg25
              have hGg25 := kG_call hJ24 kg25 (by decide +kernel)
              obtain ⟨hg25, og25⟩ := hg25
              have fig25_7437 : ((0 : Int) ≤ (ig25 7437).toInt) ∧ ((ig25 7437).toInt ≤ 120) := hGg25.I.1 7437
              have efig25_7429 : (ig25 7429).toInt = (i5 7429).toInt := kg25.ti 7429 rfl
              have fig25_7439 : ((0 : Int) ≤ (ig25 7439).toInt) ∧ ((ig25 7439).toInt ≤ 200) := hGg25.I.1 7439
              have z26 : ((ig25 7438).toInt = (i5 7438).toInt) ∧ (((i5 7437) + 1).toInt ≤ (ig25 7437).toInt) ∧ ((ig25 7437).toInt ≤ (ig25 7429).toInt) ∧ (((ig25 7439).toInt - (ig25 7437).toInt) ≤ ((i5 7439).toInt - ((i5 7437) + 1).toInt)) ∧ ((i5 7439).toInt ≤ (ig25 7439).toInt) ∧ ((0 : Int) ≤ vg25.toInt) ∧ (vg25.toInt ≤ 1) ∧ (((vg25.toInt = 1) → ((((i5 7437) + 1).toInt + 1) ≤ (ig25 7437).toInt))) := hg25
              refine ft_ifS mi_k153 (vg25 != 0) 78 76 [] (by rfl) (fun c => ?_) (fun c => ?_)
              ·
                have c27 : vg25.toInt ≠ (0 : Int32).toInt := kd_ne c; clear c
                first | refine fo_goS mi_k153 fz153_78_2_80 [.int 15, .ref 116] (by rfl) ?_ | refine ft_go mi_k153 2 80 [(1, .int 15), (0, .ref 116)] [.int 15, .ref 116] ig25 ag25 qg25 rg25 (by rfl) ?_
                refine ko_callI mi_k153.1 (pc := 80) (ls := [(1, .int 15), (0, .ref 116)]) (st := [.int 15, .ref 116]) (h := ks ig25 ag25 qg25 rg25) (i := (.invokevirtual 177, 3, 149, 0, 9, 0, 405)) (mi_k153.2 _ _ (by rfl)) (ft_invS mi_pq149 (by rfl)) (cy := mi_c149) mi_pq149 rfl (kf149_116 hGg25.I hGg25.R 15 (oq257 fig25_7437.2 fig25_7439.1 hp1 p5_3 s23 z26.2.2.2.1 koq1)) (kj_d3 (n := n) (c := 1) (o1 := 11) (by decide)) ?_
                intro vg28 ig28 ag28 qg28 rg28 kg28 hg28
                have hGg28 := kG_call hGg25 kg28 (by decide +kernel)
                obtain ⟨hg28, og28⟩ := hg28
                have z29 : (vg28.toInt = 1) ∧ ((ig28 7439).toInt = ((ig25 7439).toInt + 1)) := hg28
                have q30 : ag28 127 = (ag25 127).set (ig25 7439).toNatClampNeg (15 : Int32) := og28.1
                have q31 : ig28 7439 = ig25 7439 + 1 := og28.2
                first | refine fo_goS mi_k153 fz153_83_2_9 [] (by rfl) ?_ | refine ft_goS mi_k153 2 9 [] (by rfl) ?_ | refine ft_go mi_k153 2 9 [(1, .int 15), (0, .ref 116)] [] ig28 ag28 qg28 rg28 (by rfl) ?_
                refine ko_perm [(0, .ref 116)] (List.forall_mem_cons.mpr ⟨(List.Mem.tail _ (List.Mem.head _)), (fun _ h => absurd h List.not_mem_nil)⟩) ?_
                have efig28_7438 : (ig28 7438).toInt = (ig25 7438).toInt := kg28.ti 7438 rfl
                have efig28_7437 : (ig28 7437).toInt = (ig25 7437).toInt := kg28.ti 7437 rfl
                have efig28_7429 : (ig28 7429).toInt = (ig25 7429).toInt := kg28.ti 7429 rfl
                exact ih5 _ _ _ _ hGg28 (oq292 efig28_7438 p5_0 z26.1) (oq259 efig28_7437 p5_5 s23 z26.2.1 koq1) (oq260 efig28_7429 efig28_7437 z26.2.2.1) (oq293 efig28_7437 p5_3 s23 z26.2.2.2.1 z29.2 koq1) (oq294 p5_4 z26.2.2.2.2.1 z29.2) (oq263 efig28_7437 p5_5 s23 z26.2.1 koq1) (rGo_again O5_0 (opMul_of (x := (cHr t nn (i5 7437) 0)) (g := 15) (Or.inr (Or.inr (Or.inl ⟨(oq264 c22 hv19 koq37), (oq265 koq15)⟩)))) (oq266 koq15) (oq267 efi5_7429 efig25_7429 efig2_7429 hn1 s23 z26.2.1 z26.2.2.1 koq1) og25 (oq151 c27 z26.2.2.2.2.2.1 koq0) (tCod og28.1 og28.2 (kg28.fi 7437 rfl)) (oq268 efig28_7437 s23 z26.2.1 koq1)) (kj_meas (oq269 efig25_7429 efig28_7429 efig28_7437 s23 z26.2.1 koq1) (oq270 efig25_7429 s23 z26.2.1 z26.2.2.1 koq1) hm5)
              ·
                have c32 : vg25.toInt = (0 : Int32).toInt := kd_neF c; clear c
                have hG33 := kG_call hGg2 hGg25 (by decide +kernel)
                first | refine ft_goS mi_k153 1 77 [.int 0] (by rfl) ?_ | refine ft_go mi_k153 1 77 [(1, .int 15), (0, .ref 116)] [.int 0] ig25 ag25 qg25 rg25 (by rfl) ?_
                exact ft_ret mi_k153 (by rfl) (hP 0 _ _ _ _ hG33 ⟨(oq295 p5_0 p5_3 p5_4 p5_5 s23 z26.1 z26.2.1 z26.2.2.1 z26.2.2.2.1 z26.2.2.2.2.1 koq1 koq0), (rGo_no O5_0 (opMul_of (x := (cHr t nn (i5 7437) 0)) (g := 15) (Or.inr (Or.inr (Or.inl ⟨(oq264 c22 hv19 koq37), (oq265 koq15)⟩)))) (oq266 koq15) (oq267 efi5_7429 efig25_7429 efig2_7429 hn1 s23 z26.2.1 z26.2.2.1 koq1) og25 (oq143 c32 z26.2.2.2.2.2.1 koq0) rfl)⟩)
          ·
            have c34 : vg11.toInt = (47 : Int32).toInt := kd_neF c; clear c
            have s35 : ((i5 7437) + 1).toInt = (i5 7437).toInt + (1 : Int32).toInt := kd_add (oq115 fi5_7437.1 koq1) (oq116 fi5_7437.2 koq1)
            have hJ36 := kG_i hL5 7437 rfl (v := ((i5 7437) + 1)) ⟨(oq117 fi5_7437.1 s35 koq1), (oq272 c34 fi5_7429.2 hv14 hv9 s35 z7.2.2 koq47 koq1)⟩
            first | refine fo_go mi_k153 fz153_18_12_70 [(1, .int 14), (0, .ref 116)] [.ref 116] (ku i5 7437 ((i5 7437) + 1)) a5 q5 r5 (by rfl) ?_ | refine fo_go mi_k153 fz153_32_12_70 [(1, .int 14), (0, .ref 116)] [.ref 116] (ku i5 7437 ((i5 7437) + 1)) a5 q5 r5 (by rfl) ?_ | refine fo_go mi_k153 fz153_46_12_70 [(1, .int 14), (0, .ref 116)] [.ref 116] (ku i5 7437 ((i5 7437) + 1)) a5 q5 r5 (by rfl) ?_ | refine ft_go mi_k153 12 70 [(1, .int 14), (0, .ref 116)] [.ref 116] (ku i5 7437 ((i5 7437) + 1)) a5 q5 r5 (by rfl) ?_
            refine ko_callI mi_k153.1 (pc := 70) (ls := [(1, .int 14), (0, .ref 116)]) (st := [.ref 116]) (h := ks (ku i5 7437 ((i5 7437) + 1)) a5 q5 r5) (i := (.invokevirtual 190, 3, 152, 0, 9, 0, 402)) (mi_k153.2 _ _ (by rfl)) (ft_invS mi_pq152 (by rfl)) (cy := mi_c152) mi_pq152 rfl (h152 _ _ _ _ hJ36.I hJ36.R (oq291 hp0 p5_0) (oq255 hp1 p5_3 s35 koq1) (oq273 c34 hv14 hv9 s35 z7.2.2 koq47 koq1) t nn (((hL5.fa 119 rfl).trans (kg2.fa 119 rfl)).trans hT) (((hL5.fi 7429 rfl).trans (kg2.fi 7429 rfl)).trans hN) hX) (kj_d1 (n := n) (o := 10) (o1 := 11) (by decide)) ?_
            intro vg37 ig37 ag37 qg37 rg37 kg37 hg37
            have hGg37 := kG_call hJ36 kg37 (by decide +kernel)
            obtain ⟨hg37, og37⟩ := hg37
            have fig37_7437 : ((0 : Int) ≤ (ig37 7437).toInt) ∧ ((ig37 7437).toInt ≤ 120) := hGg37.I.1 7437
            have efig37_7429 : (ig37 7429).toInt = (i5 7429).toInt := kg37.ti 7429 rfl
            have fig37_7439 : ((0 : Int) ≤ (ig37 7439).toInt) ∧ ((ig37 7439).toInt ≤ 200) := hGg37.I.1 7439
            have z38 : ((ig37 7438).toInt = (i5 7438).toInt) ∧ (((i5 7437) + 1).toInt ≤ (ig37 7437).toInt) ∧ ((ig37 7437).toInt ≤ (ig37 7429).toInt) ∧ (((ig37 7439).toInt - (ig37 7437).toInt) ≤ ((i5 7439).toInt - ((i5 7437) + 1).toInt)) ∧ ((i5 7439).toInt ≤ (ig37 7439).toInt) ∧ ((0 : Int) ≤ vg37.toInt) ∧ (vg37.toInt ≤ 1) ∧ (((vg37.toInt = 1) → ((((i5 7437) + 1).toInt + 1) ≤ (ig37 7437).toInt))) := hg37
            refine ft_ifS mi_k153 (vg37 != 0) 78 76 [] (by rfl) (fun c => ?_) (fun c => ?_)
            ·
              have c39 : vg37.toInt ≠ (0 : Int32).toInt := kd_ne c; clear c
              first | refine fo_goS mi_k153 fz153_78_2_80 [.int 14, .ref 116] (by rfl) ?_ | refine ft_go mi_k153 2 80 [(1, .int 14), (0, .ref 116)] [.int 14, .ref 116] ig37 ag37 qg37 rg37 (by rfl) ?_
              refine ko_callI mi_k153.1 (pc := 80) (ls := [(1, .int 14), (0, .ref 116)]) (st := [.int 14, .ref 116]) (h := ks ig37 ag37 qg37 rg37) (i := (.invokevirtual 177, 3, 149, 0, 9, 0, 405)) (mi_k153.2 _ _ (by rfl)) (ft_invS mi_pq149 (by rfl)) (cy := mi_c149) mi_pq149 rfl (kf149_116 hGg37.I hGg37.R 14 (oq257 fig37_7437.2 fig37_7439.1 hp1 p5_3 s35 z38.2.2.2.1 koq1)) (kj_d3 (n := n) (c := 1) (o1 := 11) (by decide)) ?_
              intro vg40 ig40 ag40 qg40 rg40 kg40 hg40
              have hGg40 := kG_call hGg37 kg40 (by decide +kernel)
              obtain ⟨hg40, og40⟩ := hg40
              have z41 : (vg40.toInt = 1) ∧ ((ig40 7439).toInt = ((ig37 7439).toInt + 1)) := hg40
              have q42 : ag40 127 = (ag37 127).set (ig37 7439).toNatClampNeg (14 : Int32) := og40.1
              have q43 : ig40 7439 = ig37 7439 + 1 := og40.2
              first | refine fo_goS mi_k153 fz153_83_2_9 [] (by rfl) ?_ | refine ft_goS mi_k153 2 9 [] (by rfl) ?_ | refine ft_go mi_k153 2 9 [(1, .int 14), (0, .ref 116)] [] ig40 ag40 qg40 rg40 (by rfl) ?_
              refine ko_perm [(0, .ref 116)] (List.forall_mem_cons.mpr ⟨(List.Mem.tail _ (List.Mem.head _)), (fun _ h => absurd h List.not_mem_nil)⟩) ?_
              have efig40_7438 : (ig40 7438).toInt = (ig37 7438).toInt := kg40.ti 7438 rfl
              have efig40_7437 : (ig40 7437).toInt = (ig37 7437).toInt := kg40.ti 7437 rfl
              have efig40_7429 : (ig40 7429).toInt = (ig37 7429).toInt := kg40.ti 7429 rfl
              exact ih5 _ _ _ _ hGg40 (oq292 efig40_7438 p5_0 z38.1) (oq259 efig40_7437 p5_5 s35 z38.2.1 koq1) (oq260 efig40_7429 efig40_7437 z38.2.2.1) (oq293 efig40_7437 p5_3 s35 z38.2.2.2.1 z41.2 koq1) (oq294 p5_4 z38.2.2.2.2.1 z41.2) (oq263 efig40_7437 p5_5 s35 z38.2.1 koq1) (rGo_again O5_0 (opMul_of (x := (cHr t nn (i5 7437) 0)) (g := 14) (Or.inr (Or.inl ⟨(oq277 c34 hv14 koq47), (oq278 koq14)⟩))) (oq279 koq14) (oq280 efi5_7429 efig2_7429 efig37_7429 hn1 s35 z38.2.1 z38.2.2.1 koq1) og37 (oq151 c39 z38.2.2.2.2.2.1 koq0) (tCod og40.1 og40.2 (kg40.fi 7437 rfl)) (oq268 efig40_7437 s35 z38.2.1 koq1)) (kj_meas (oq269 efig37_7429 efig40_7429 efig40_7437 s35 z38.2.1 koq1) (oq270 efig37_7429 s35 z38.2.1 z38.2.2.1 koq1) hm5)
            ·
              have c44 : vg37.toInt = (0 : Int32).toInt := kd_neF c; clear c
              have hG45 := kG_call hGg2 hGg37 (by decide +kernel)
              first | refine ft_goS mi_k153 1 77 [.int 0] (by rfl) ?_ | refine ft_go mi_k153 1 77 [(1, .int 14), (0, .ref 116)] [.int 0] ig37 ag37 qg37 rg37 (by rfl) ?_
              exact ft_ret mi_k153 (by rfl) (hP 0 _ _ _ _ hG45 ⟨(oq295 p5_0 p5_3 p5_4 p5_5 s35 z38.1 z38.2.1 z38.2.2.1 z38.2.2.2.1 z38.2.2.2.2.1 koq1 koq0), (rGo_no O5_0 (opMul_of (x := (cHr t nn (i5 7437) 0)) (g := 14) (Or.inr (Or.inl ⟨(oq277 c34 hv14 koq47), (oq278 koq14)⟩))) (oq279 koq14) (oq280 efi5_7429 efig2_7429 efig37_7429 hn1 s35 z38.2.1 z38.2.2.1 koq1) og37 (oq143 c44 z38.2.2.2.2.2.1 koq0) rfl)⟩)
        ·
          have c46 : vg6.toInt = (42 : Int32).toInt := kd_neF c; clear c
          have s47 : ((i5 7437) + 1).toInt = (i5 7437).toInt + (1 : Int32).toInt := kd_add (oq115 fi5_7437.1 koq1) (oq116 fi5_7437.2 koq1)
          have hJ48 := kG_i hL5 7437 rfl (v := ((i5 7437) + 1)) ⟨(oq117 fi5_7437.1 s47 koq1), (oq282 c46 fi5_7429.2 s47 z7.2.2 koq42 koq1)⟩
          first | refine fo_go mi_k153 fz153_18_12_70 [(1, .int 13), (0, .ref 116)] [.ref 116] (ku i5 7437 ((i5 7437) + 1)) a5 q5 r5 (by rfl) ?_ | refine fo_go mi_k153 fz153_32_12_70 [(1, .int 13), (0, .ref 116)] [.ref 116] (ku i5 7437 ((i5 7437) + 1)) a5 q5 r5 (by rfl) ?_ | refine fo_go mi_k153 fz153_46_12_70 [(1, .int 13), (0, .ref 116)] [.ref 116] (ku i5 7437 ((i5 7437) + 1)) a5 q5 r5 (by rfl) ?_ | refine ft_go mi_k153 12 70 [(1, .int 13), (0, .ref 116)] [.ref 116] (ku i5 7437 ((i5 7437) + 1)) a5 q5 r5 (by rfl) ?_
          refine ko_callI mi_k153.1 (pc := 70) (ls := [(1, .int 13), (0, .ref 116)]) (st := [.ref 116]) (h := ks (ku i5 7437 ((i5 7437) + 1)) a5 q5 r5) (i := (.invokevirtual 190, 3, 152, 0, 9, 0, 402)) (mi_k153.2 _ _ (by rfl)) (ft_invS mi_pq152 (by rfl)) (cy := mi_c152) mi_pq152 rfl (h152 _ _ _ _ hJ48.I hJ48.R (oq291 hp0 p5_0) (oq255 hp1 p5_3 s47 koq1) (oq283 c46 s47 z7.2.2 koq42 koq1) t nn (((hL5.fa 119 rfl).trans (kg2.fa 119 rfl)).trans hT) (((hL5.fi 7429 rfl).trans (kg2.fi 7429 rfl)).trans hN) hX) (kj_d1 (n := n) (o := 10) (o1 := 11) (by decide)) ?_
          intro vg49 ig49 ag49 qg49 rg49 kg49 hg49
          have hGg49 := kG_call hJ48 kg49 (by decide +kernel)
          obtain ⟨hg49, og49⟩ := hg49
          have fig49_7437 : ((0 : Int) ≤ (ig49 7437).toInt) ∧ ((ig49 7437).toInt ≤ 120) := hGg49.I.1 7437
          have efig49_7429 : (ig49 7429).toInt = (i5 7429).toInt := kg49.ti 7429 rfl
          have fig49_7439 : ((0 : Int) ≤ (ig49 7439).toInt) ∧ ((ig49 7439).toInt ≤ 200) := hGg49.I.1 7439
          have z50 : ((ig49 7438).toInt = (i5 7438).toInt) ∧ (((i5 7437) + 1).toInt ≤ (ig49 7437).toInt) ∧ ((ig49 7437).toInt ≤ (ig49 7429).toInt) ∧ (((ig49 7439).toInt - (ig49 7437).toInt) ≤ ((i5 7439).toInt - ((i5 7437) + 1).toInt)) ∧ ((i5 7439).toInt ≤ (ig49 7439).toInt) ∧ ((0 : Int) ≤ vg49.toInt) ∧ (vg49.toInt ≤ 1) ∧ (((vg49.toInt = 1) → ((((i5 7437) + 1).toInt + 1) ≤ (ig49 7437).toInt))) := hg49
          refine ft_ifS mi_k153 (vg49 != 0) 78 76 [] (by rfl) (fun c => ?_) (fun c => ?_)
          ·
            have c51 : vg49.toInt ≠ (0 : Int32).toInt := kd_ne c; clear c
            first | refine fo_goS mi_k153 fz153_78_2_80 [.int 13, .ref 116] (by rfl) ?_ | refine ft_go mi_k153 2 80 [(1, .int 13), (0, .ref 116)] [.int 13, .ref 116] ig49 ag49 qg49 rg49 (by rfl) ?_
            refine ko_callI mi_k153.1 (pc := 80) (ls := [(1, .int 13), (0, .ref 116)]) (st := [.int 13, .ref 116]) (h := ks ig49 ag49 qg49 rg49) (i := (.invokevirtual 177, 3, 149, 0, 9, 0, 405)) (mi_k153.2 _ _ (by rfl)) (ft_invS mi_pq149 (by rfl)) (cy := mi_c149) mi_pq149 rfl (kf149_116 hGg49.I hGg49.R 13 (oq257 fig49_7437.2 fig49_7439.1 hp1 p5_3 s47 z50.2.2.2.1 koq1)) (kj_d3 (n := n) (c := 1) (o1 := 11) (by decide)) ?_
            intro vg52 ig52 ag52 qg52 rg52 kg52 hg52
            have hGg52 := kG_call hGg49 kg52 (by decide +kernel)
            obtain ⟨hg52, og52⟩ := hg52
            have z53 : (vg52.toInt = 1) ∧ ((ig52 7439).toInt = ((ig49 7439).toInt + 1)) := hg52
            have q54 : ag52 127 = (ag49 127).set (ig49 7439).toNatClampNeg (13 : Int32) := og52.1
            have q55 : ig52 7439 = ig49 7439 + 1 := og52.2
            first | refine fo_goS mi_k153 fz153_83_2_9 [] (by rfl) ?_ | refine ft_goS mi_k153 2 9 [] (by rfl) ?_ | refine ft_go mi_k153 2 9 [(1, .int 13), (0, .ref 116)] [] ig52 ag52 qg52 rg52 (by rfl) ?_
            refine ko_perm [(0, .ref 116)] (List.forall_mem_cons.mpr ⟨(List.Mem.tail _ (List.Mem.head _)), (fun _ h => absurd h List.not_mem_nil)⟩) ?_
            have efig52_7438 : (ig52 7438).toInt = (ig49 7438).toInt := kg52.ti 7438 rfl
            have efig52_7437 : (ig52 7437).toInt = (ig49 7437).toInt := kg52.ti 7437 rfl
            have efig52_7429 : (ig52 7429).toInt = (ig49 7429).toInt := kg52.ti 7429 rfl
            exact ih5 _ _ _ _ hGg52 (oq292 efig52_7438 p5_0 z50.1) (oq259 efig52_7437 p5_5 s47 z50.2.1 koq1) (oq260 efig52_7429 efig52_7437 z50.2.2.1) (oq293 efig52_7437 p5_3 s47 z50.2.2.2.1 z53.2 koq1) (oq294 p5_4 z50.2.2.2.2.1 z53.2) (oq263 efig52_7437 p5_5 s47 z50.2.1 koq1) (rGo_again O5_0 (opMul_of (x := (cHr t nn (i5 7437) 0)) (g := 13) (Or.inl ⟨(oq284 c46 hv9 koq42), (oq285 koq13)⟩)) (oq286 koq13) (oq280 efi5_7429 efig2_7429 efig49_7429 hn1 s47 z50.2.1 z50.2.2.1 koq1) og49 (oq151 c51 z50.2.2.2.2.2.1 koq0) (tCod og52.1 og52.2 (kg52.fi 7437 rfl)) (oq268 efig52_7437 s47 z50.2.1 koq1)) (kj_meas (oq269 efig49_7429 efig52_7429 efig52_7437 s47 z50.2.1 koq1) (oq270 efig49_7429 s47 z50.2.1 z50.2.2.1 koq1) hm5)
          ·
            have c56 : vg49.toInt = (0 : Int32).toInt := kd_neF c; clear c
            have hG57 := kG_call hGg2 hGg49 (by decide +kernel)
            first | refine ft_goS mi_k153 1 77 [.int 0] (by rfl) ?_ | refine ft_go mi_k153 1 77 [(1, .int 13), (0, .ref 116)] [.int 0] ig49 ag49 qg49 rg49 (by rfl) ?_
            exact ft_ret mi_k153 (by rfl) (hP 0 _ _ _ _ hG57 ⟨(oq295 p5_0 p5_3 p5_4 p5_5 s47 z50.1 z50.2.1 z50.2.2.1 z50.2.2.2.1 z50.2.2.2.2.1 koq1 koq0), (rGo_no O5_0 (opMul_of (x := (cHr t nn (i5 7437) 0)) (g := 13) (Or.inl ⟨(oq284 c46 hv9 koq42), (oq285 koq13)⟩)) (oq286 koq13) (oq280 efi5_7429 efig2_7429 efig49_7429 hn1 s47 z50.2.1 z50.2.2.1 koq1) og49 (oq143 c56 z50.2.2.2.2.2.1 koq0) rfl)⟩)
    exact lp5 _ _ _ _ _ (kG_self _ hGg2.I hGg2.R) (oq208 z3.1) (oq222 z3.2.1) (oq222 z3.2.2.1) (oq287 z3.2.2.2.1) (oq222 z3.2.2.2.2.1) (oq288 c4 z3.2.2.2.2.2.1 z3.2.2.2.2.2.2.1 z3.2.2.2.2.2.2.2 koq0) (rGo_begin og2 (oq151 c4 z3.2.2.2.2.2.1 koq0) (oq2 fig2_7437.1)) (Nat.lt_succ_self _)
  ·
    have c58 : vg2.toInt = (0 : Int32).toInt := kd_neF c; clear c
    first | refine ft_goS mi_k153 1 8 [.int 0] (by rfl) ?_ | refine ft_go mi_k153 1 8 [(0, .ref 116)] [.int 0] ig2 ag2 qg2 rg2 (by rfl) ?_
    exact ft_ret mi_k153 (by rfl) (hP 0 _ _ _ _ hGg2 ⟨(oq289 z3.1 z3.2.1 z3.2.2.1 z3.2.2.2.1 z3.2.2.2.2.1 koq0), (rMu_no og2 (oq143 c58 z3.2.2.2.2.2.1 koq0) rfl)⟩)
set_option maxRecDepth 100000 in
theorem kMsQ_154 (n : Nat) (h152 : kMQ_152 n) (h153 : kMQ_153 n) : kMQ_154 n := by
  intro i a q r hI hr hp0 hp1 hp2 t nn hT hN hX
  have hG := kG_self wQ hI hr
  refine km_ofI (q := (mi_h154, mi_c154)) rfl (by decide) (Nat.le_of_ble_eq_true rfl) ?_
  intro P hP
  have hn0 : (0 : Int) ≤ (n : Int) := Int.natCast_nonneg n
  have hn1 : (i 7429).toInt = nn.toInt := congrArg Int32.toInt hN
  first | refine ft_goL mi_k154 1 1 [(0, .ref 116)] [.ref 116] (by rfl) ?_ | refine ft_go mi_k154 1 1 [(0, .ref 116)] [.ref 116] i a q r (by rfl) ?_
  refine ko_callI mi_k154.1 (pc := 1) (ls := [(0, .ref 116)]) (st := [.ref 116]) (h := ks i a q r) (i := (.invokevirtual 196, 3, 153, 0, 9, 0, 401)) (mi_k154.2 _ _ (by rfl)) (ft_invS mi_pq153 (by rfl)) (cy := mi_c153) mi_pq153 rfl (h153 _ _ _ _ hG.I hG.R (oq246 hp0) (oq222 hp1) (oq222 hp2) t nn hT hN hX) (kj_d1 (n := n) (o := 11) (o1 := 12) (by decide)) ?_
  intro vg2 ig2 ag2 qg2 rg2 kg2 hg2
  have hGg2 := kG_call hG kg2 (by decide +kernel)
  obtain ⟨hg2, og2⟩ := hg2
  have fig2_7437 : ((0 : Int) ≤ (ig2 7437).toInt) ∧ ((ig2 7437).toInt ≤ 120) := hGg2.I.1 7437
  have efig2_7429 : (ig2 7429).toInt = (i 7429).toInt := kg2.ti 7429 rfl
  have z3 : ((ig2 7438).toInt = (i 7438).toInt) ∧ ((i 7437).toInt ≤ (ig2 7437).toInt) ∧ ((ig2 7437).toInt ≤ (ig2 7429).toInt) ∧ (((ig2 7439).toInt - (ig2 7437).toInt) ≤ ((i 7439).toInt - (i 7437).toInt)) ∧ ((i 7439).toInt ≤ (ig2 7439).toInt) ∧ ((0 : Int) ≤ vg2.toInt) ∧ (vg2.toInt ≤ 1) ∧ (((vg2.toInt = 1) → (((i 7437).toInt + 1) ≤ (ig2 7437).toInt))) := hg2
  refine ft_ifS mi_k154 (vg2 != 0) 9 7 [] (by rfl) (fun c => ?_) (fun c => ?_)
  ·
    have c4 : vg2.toInt ≠ (0 : Int32).toInt := kd_ne c; clear c
    have lp5 : ∀ (nz : Nat) (i5 : Nat → Int32) (a5 : Nat → List Int32) (q5 : Nat → List Int64) (r5 : Nat → Nat), kG yw154_116_L9 ig2 ag2 qg2 rg2 i5 a5 q5 r5 → (i5 7438).toInt = (i 7438).toInt → (i 7437).toInt ≤ (i5 7437).toInt → (i5 7437).toInt ≤ (i5 7429).toInt → ((i5 7439).toInt - (i5 7437).toInt) ≤ ((i 7439).toInt - (i 7437).toInt) → (i 7439).toInt ≤ (i5 7439).toInt → ((i 7437).toInt + 1) ≤ (i5 7437).toInt → rGo t nn (rP3 t nn (rO t nn n)) opSum (i5 7437, i5 7439, a5 127) (rMul t nn (rP3 t nn (rO t nn n)) opSum (i 7437, i 7439, a 127)) → (((i5 7429).toInt - (i5 7437).toInt)).toNat < nz → ko (6 * n + 12) (mi_h154, mi_c154) P (9, [(0, .ref 116)], [], (0, 0), ks i5 a5 q5 r5) := by
      intro nz
      induction nz with
      | zero =>
        intro _ _ _ _ _ _ _ _ _ _ _ _ hm
        exact absurd hm (Nat.not_lt_zero _)
      | succ nz ih5 =>
        intro i5 a5 q5 r5 hL5 p5_0 p5_1 p5_2 p5_3 p5_4 p5_5 O5_0 hm5
        have fi5_7437 : ((0 : Int) ≤ (i5 7437).toInt) ∧ ((i5 7437).toInt ≤ 120) := hL5.I.1 7437
        have fi5_7429 : ((0 : Int) ≤ (i5 7429).toInt) ∧ ((i5 7429).toInt ≤ 120) := hL5.I.1 7429
        have efi5_7429 : (i5 7429).toInt = (ig2 7429).toInt := hL5.ti 7429 rfl
        first | refine ft_goL mi_k154 1 10 [(0, .ref 116)] [.ref 116] (by rfl) ?_ | refine ft_go mi_k154 1 10 [(0, .ref 116)] [.ref 116] i5 a5 q5 r5 (by rfl) ?_
        refine ko_callPI mi_k154.1 (pc := 10) (ls := [(0, .ref 116)]) (st := [.ref 116]) (h := ks i5 a5 q5 r5) (i := (.invokevirtual 166, 3, 147, 0, 9, 0, 404)) (mi_k154.2 _ _ (by rfl)) (ft_invS mi_pq147 (by rfl)) (cy := mi_c147) mi_pq147 rfl (ke147_116 hL5.I hL5.R t nn (((hL5.fa 119 rfl).trans (kg2.fa 119 rfl)).trans hT) (((hL5.fi 7429 rfl).trans (kg2.fi 7429 rfl)).trans hN) hX) (kj_d3 (n := n) (c := 1) (o1 := 12) (by decide)) ?_
        intro vg6 hg6
        obtain ⟨hg6, og6⟩ := hg6
        have z7 : (((-1) : Int) ≤ vg6.toInt) ∧ (vg6.toInt ≤ 255) ∧ ((vg6.toInt = (-1)) ∨ ((i5 7437).toInt < (i5 7429).toInt)) := hg6
        have q8 : vg6 = cHr t nn (i5 7437) 0 := og6
        have hv9 : vg6.toInt = (cHr t nn (i5 7437) 0).toInt := congrArg Int32.toInt og6
        first | refine ft_goS mi_k154 1 15 [.int 43, .int vg6] (by rfl) ?_ | refine ft_go mi_k154 1 15 [(0, .ref 116)] [.int 43, .int vg6] i5 a5 q5 r5 (by rfl) ?_
        refine ft_ifS mi_k154 (vg6 != 43) 23 18 [] (by rfl) (fun c => ?_) (fun c => ?_)
        ·
          have c10 : vg6.toInt ≠ (43 : Int32).toInt := kd_ne c; clear c
          first | refine ft_goS mi_k154 1 24 [.ref 116] (by rfl) ?_ | refine ft_go mi_k154 1 24 [(0, .ref 116)] [.ref 116] i5 a5 q5 r5 (by rfl) ?_
          refine ko_callPI mi_k154.1 (pc := 24) (ls := [(0, .ref 116)]) (st := [.ref 116]) (h := ks i5 a5 q5 r5) (i := (.invokevirtual 166, 3, 147, 0, 9, 0, 404)) (mi_k154.2 _ _ (by rfl)) (ft_invS mi_pq147 (by rfl)) (cy := mi_c147) mi_pq147 rfl (ke147_116 hL5.I hL5.R t nn (((hL5.fa 119 rfl).trans (kg2.fa 119 rfl)).trans hT) (((hL5.fi 7429 rfl).trans (kg2.fi 7429 rfl)).trans hN) hX) (kj_d3 (n := n) (c := 1) (o1 := 12) (by decide)) ?_
          intro vg11 hg11
          obtain ⟨hg11, og11⟩ := hg11
          have q13 : vg11 = cHr t nn (i5 7437) 0 := og11
          have hv14 : vg11.toInt = (cHr t nn (i5 7437) 0).toInt := congrArg Int32.toInt og11
          first | refine ft_goS mi_k154 1 29 [.int 45, .int vg11] (by rfl) ?_ | refine ft_go mi_k154 1 29 [(0, .ref 116)] [.int 45, .int vg11] i5 a5 q5 r5 (by rfl) ?_
          refine ft_ifS mi_k154 (vg11 != 45) 37 32 [] (by rfl) (fun c => ?_) (fun c => ?_)
          ·
            have c15 : vg11.toInt ≠ (45 : Int32).toInt := kd_ne c; clear c
            first | refine ft_goL mi_k154 4 43 [(1, .int (-1)), (0, .ref 116)] [] (by rfl) ?_ | refine ft_go mi_k154 4 43 [(1, .int (-1)), (0, .ref 116)] [] i5 a5 q5 r5 (by rfl) ?_
            have hG16 := kG_call hGg2 hL5 (by decide +kernel)
            first | refine ft_goS mi_k154 1 44 [.int 1] (by rfl) ?_ | refine ft_go mi_k154 1 44 [(1, .int (-1)), (0, .ref 116)] [.int 1] i5 a5 q5 r5 (by rfl) ?_
            exact ft_ret mi_k154 (by rfl) (hP 1 _ _ _ _ hG16 ⟨(oq290 p5_0 p5_2 p5_3 p5_4 p5_5 koq1), (rGo_out O5_0 (opSum_of (x := (cHr t nn (i5 7437) 0)) (g := (-1)) (Or.inr (Or.inr (⟨(oq296 c10 hv9 koq43), (oq297 c15 hv14 koq45), (oq251 koqm1)⟩)))) (oq252 koqm1) rfl)⟩)
          ·
            have c17 : vg11.toInt = (45 : Int32).toInt := kd_neF c; clear c
            have s18 : ((i5 7437) + 1).toInt = (i5 7437).toInt + (1 : Int32).toInt := kd_add (oq115 fi5_7437.1 koq1) (oq116 fi5_7437.2 koq1)
            have hJ19 := kG_i hL5 7437 rfl (v := ((i5 7437) + 1)) ⟨(oq117 fi5_7437.1 s18 koq1), (oq298 c17 fi5_7429.2 hv14 hv9 s18 z7.2.2 koq45 koq1)⟩
            first | refine fo_go mi_k154 fz154_18_12_56 [(1, .int 12), (0, .ref 116)] [.ref 116] (ku i5 7437 ((i5 7437) + 1)) a5 q5 r5 (by rfl) ?_ | refine fo_go mi_k154 fz154_32_12_56 [(1, .int 12), (0, .ref 116)] [.ref 116] (ku i5 7437 ((i5 7437) + 1)) a5 q5 r5 (by rfl) ?_ | refine ft_go mi_k154 12 56 [(1, .int 12), (0, .ref 116)] [.ref 116] (ku i5 7437 ((i5 7437) + 1)) a5 q5 r5 (by rfl) ?_
            refine ko_callI mi_k154.1 (pc := 56) (ls := [(1, .int 12), (0, .ref 116)]) (st := [.ref 116]) (h := ks (ku i5 7437 ((i5 7437) + 1)) a5 q5 r5) (i := (.invokevirtual 196, 3, 153, 0, 9, 0, 401)) (mi_k154.2 _ _ (by rfl)) (ft_invS mi_pq153 (by rfl)) (cy := mi_c153) mi_pq153 rfl (h153 _ _ _ _ hJ19.I hJ19.R (oq291 hp0 p5_0) (oq255 hp1 p5_3 s18 koq1) (oq299 c17 hv14 hv9 s18 z7.2.2 koq45 koq1) t nn (((hL5.fa 119 rfl).trans (kg2.fa 119 rfl)).trans hT) (((hL5.fi 7429 rfl).trans (kg2.fi 7429 rfl)).trans hN) hX) (kj_d1 (n := n) (o := 11) (o1 := 12) (by decide)) ?_
            intro vg20 ig20 ag20 qg20 rg20 kg20 hg20
            have hGg20 := kG_call hJ19 kg20 (by decide +kernel)
            obtain ⟨hg20, og20⟩ := hg20
            have fig20_7437 : ((0 : Int) ≤ (ig20 7437).toInt) ∧ ((ig20 7437).toInt ≤ 120) := hGg20.I.1 7437
            have efig20_7429 : (ig20 7429).toInt = (i5 7429).toInt := kg20.ti 7429 rfl
            have fig20_7439 : ((0 : Int) ≤ (ig20 7439).toInt) ∧ ((ig20 7439).toInt ≤ 200) := hGg20.I.1 7439
            have z21 : ((ig20 7438).toInt = (i5 7438).toInt) ∧ (((i5 7437) + 1).toInt ≤ (ig20 7437).toInt) ∧ ((ig20 7437).toInt ≤ (ig20 7429).toInt) ∧ (((ig20 7439).toInt - (ig20 7437).toInt) ≤ ((i5 7439).toInt - ((i5 7437) + 1).toInt)) ∧ ((i5 7439).toInt ≤ (ig20 7439).toInt) ∧ ((0 : Int) ≤ vg20.toInt) ∧ (vg20.toInt ≤ 1) ∧ (((vg20.toInt = 1) → ((((i5 7437) + 1).toInt + 1) ≤ (ig20 7437).toInt))) := hg20
            refine ft_ifS mi_k154 (vg20 != 0) 64 62 [] (by rfl) (fun c => ?_) (fun c => ?_)
            ·
              have c22 : vg20.toInt ≠ (0 : Int32).toInt := kd_ne c; clear c
              first | refine ft_goS mi_k154 2 66 [.int 12, .ref 116] (by rfl) ?_ | refine ft_go mi_k154 2 66 [(1, .int 12), (0, .ref 116)] [.int 12, .ref 116] ig20 ag20 qg20 rg20 (by rfl) ?_
              refine ko_callI mi_k154.1 (pc := 66) (ls := [(1, .int 12), (0, .ref 116)]) (st := [.int 12, .ref 116]) (h := ks ig20 ag20 qg20 rg20) (i := (.invokevirtual 177, 3, 149, 0, 9, 0, 405)) (mi_k154.2 _ _ (by rfl)) (ft_invS mi_pq149 (by rfl)) (cy := mi_c149) mi_pq149 rfl (kf149_116 hGg20.I hGg20.R 12 (oq257 fig20_7437.2 fig20_7439.1 hp1 p5_3 s18 z21.2.2.2.1 koq1)) (kj_d3 (n := n) (c := 1) (o1 := 12) (by decide)) ?_
              intro vg23 ig23 ag23 qg23 rg23 kg23 hg23
              have hGg23 := kG_call hGg20 kg23 (by decide +kernel)
              obtain ⟨hg23, og23⟩ := hg23
              have z24 : (vg23.toInt = 1) ∧ ((ig23 7439).toInt = ((ig20 7439).toInt + 1)) := hg23
              have q25 : ag23 127 = (ag20 127).set (ig20 7439).toNatClampNeg (12 : Int32) := og23.1
              have q26 : ig23 7439 = ig20 7439 + 1 := og23.2
              first | refine ft_goS mi_k154 2 9 [] (by rfl) ?_ | refine ft_go mi_k154 2 9 [(1, .int 12), (0, .ref 116)] [] ig23 ag23 qg23 rg23 (by rfl) ?_
              refine ko_perm [(0, .ref 116)] (List.forall_mem_cons.mpr ⟨(List.Mem.tail _ (List.Mem.head _)), (fun _ h => absurd h List.not_mem_nil)⟩) ?_
              have efig23_7438 : (ig23 7438).toInt = (ig20 7438).toInt := kg23.ti 7438 rfl
              have efig23_7437 : (ig23 7437).toInt = (ig20 7437).toInt := kg23.ti 7437 rfl
              have efig23_7429 : (ig23 7429).toInt = (ig20 7429).toInt := kg23.ti 7429 rfl
              exact ih5 _ _ _ _ hGg23 (oq292 efig23_7438 p5_0 z21.1) (oq259 efig23_7437 p5_5 s18 z21.2.1 koq1) (oq260 efig23_7429 efig23_7437 z21.2.2.1) (oq293 efig23_7437 p5_3 s18 z21.2.2.2.1 z24.2 koq1) (oq294 p5_4 z21.2.2.2.2.1 z24.2) (oq263 efig23_7437 p5_5 s18 z21.2.1 koq1) (rGo_again O5_0 (opSum_of (x := (cHr t nn (i5 7437) 0)) (g := 12) (Or.inr (Or.inl ⟨(oq300 c17 hv14 koq45), (oq301 koq12)⟩))) (oq302 koq12) (oq267 efi5_7429 efig20_7429 efig2_7429 hn1 s18 z21.2.1 z21.2.2.1 koq1) og20 (oq151 c22 z21.2.2.2.2.2.1 koq0) (tCod og23.1 og23.2 (kg23.fi 7437 rfl)) (oq268 efig23_7437 s18 z21.2.1 koq1)) (kj_meas (oq269 efig20_7429 efig23_7429 efig23_7437 s18 z21.2.1 koq1) (oq270 efig20_7429 s18 z21.2.1 z21.2.2.1 koq1) hm5)
            ·
              have c27 : vg20.toInt = (0 : Int32).toInt := kd_neF c; clear c
              have hG28 := kG_call hGg2 hGg20 (by decide +kernel)
              first | refine ft_goS mi_k154 1 63 [.int 0] (by rfl) ?_ | refine ft_go mi_k154 1 63 [(1, .int 12), (0, .ref 116)] [.int 0] ig20 ag20 qg20 rg20 (by rfl) ?_
              exact ft_ret mi_k154 (by rfl) (hP 0 _ _ _ _ hG28 ⟨(oq295 p5_0 p5_3 p5_4 p5_5 s18 z21.1 z21.2.1 z21.2.2.1 z21.2.2.2.1 z21.2.2.2.2.1 koq1 koq0), (rGo_no O5_0 (opSum_of (x := (cHr t nn (i5 7437) 0)) (g := 12) (Or.inr (Or.inl ⟨(oq300 c17 hv14 koq45), (oq301 koq12)⟩))) (oq302 koq12) (oq267 efi5_7429 efig20_7429 efig2_7429 hn1 s18 z21.2.1 z21.2.2.1 koq1) og20 (oq143 c27 z21.2.2.2.2.2.1 koq0) rfl)⟩)
        ·
          have c29 : vg6.toInt = (43 : Int32).toInt := kd_neF c; clear c
          have s30 : ((i5 7437) + 1).toInt = (i5 7437).toInt + (1 : Int32).toInt := kd_add (oq115 fi5_7437.1 koq1) (oq116 fi5_7437.2 koq1)
          have hJ31 := kG_i hL5 7437 rfl (v := ((i5 7437) + 1)) ⟨(oq117 fi5_7437.1 s30 koq1), (oq303 c29 fi5_7429.2 s30 z7.2.2 koq43 koq1)⟩
          first | refine fo_go mi_k154 fz154_18_12_56 [(1, .int 11), (0, .ref 116)] [.ref 116] (ku i5 7437 ((i5 7437) + 1)) a5 q5 r5 (by rfl) ?_ | refine fo_go mi_k154 fz154_32_12_56 [(1, .int 11), (0, .ref 116)] [.ref 116] (ku i5 7437 ((i5 7437) + 1)) a5 q5 r5 (by rfl) ?_ | refine ft_go mi_k154 12 56 [(1, .int 11), (0, .ref 116)] [.ref 116] (ku i5 7437 ((i5 7437) + 1)) a5 q5 r5 (by rfl) ?_
          refine ko_callI mi_k154.1 (pc := 56) (ls := [(1, .int 11), (0, .ref 116)]) (st := [.ref 116]) (h := ks (ku i5 7437 ((i5 7437) + 1)) a5 q5 r5) (i := (.invokevirtual 196, 3, 153, 0, 9, 0, 401)) (mi_k154.2 _ _ (by rfl)) (ft_invS mi_pq153 (by rfl)) (cy := mi_c153) mi_pq153 rfl (h153 _ _ _ _ hJ31.I hJ31.R (oq291 hp0 p5_0) (oq255 hp1 p5_3 s30 koq1) (oq304 c29 s30 z7.2.2 koq43 koq1) t nn (((hL5.fa 119 rfl).trans (kg2.fa 119 rfl)).trans hT) (((hL5.fi 7429 rfl).trans (kg2.fi 7429 rfl)).trans hN) hX) (kj_d1 (n := n) (o := 11) (o1 := 12) (by decide)) ?_
          intro vg32 ig32 ag32 qg32 rg32 kg32 hg32
          have hGg32 := kG_call hJ31 kg32 (by decide +kernel)
          obtain ⟨hg32, og32⟩ := hg32
          have fig32_7437 : ((0 : Int) ≤ (ig32 7437).toInt) ∧ ((ig32 7437).toInt ≤ 120) := hGg32.I.1 7437
          have efig32_7429 : (ig32 7429).toInt = (i5 7429).toInt := kg32.ti 7429 rfl
          have fig32_7439 : ((0 : Int) ≤ (ig32 7439).toInt) ∧ ((ig32 7439).toInt ≤ 200) := hGg32.I.1 7439
          have z33 : ((ig32 7438).toInt = (i5 7438).toInt) ∧ (((i5 7437) + 1).toInt ≤ (ig32 7437).toInt) ∧ ((ig32 7437).toInt ≤ (ig32 7429).toInt) ∧ (((ig32 7439).toInt - (ig32 7437).toInt) ≤ ((i5 7439).toInt - ((i5 7437) + 1).toInt)) ∧ ((i5 7439).toInt ≤ (ig32 7439).toInt) ∧ ((0 : Int) ≤ vg32.toInt) ∧ (vg32.toInt ≤ 1) ∧ (((vg32.toInt = 1) → ((((i5 7437) + 1).toInt + 1) ≤ (ig32 7437).toInt))) := hg32
          refine ft_ifS mi_k154 (vg32 != 0) 64 62 [] (by rfl) (fun c => ?_) (fun c => ?_)
          ·
            have c34 : vg32.toInt ≠ (0 : Int32).toInt := kd_ne c; clear c
            first | refine ft_goS mi_k154 2 66 [.int 11, .ref 116] (by rfl) ?_ | refine ft_go mi_k154 2 66 [(1, .int 11), (0, .ref 116)] [.int 11, .ref 116] ig32 ag32 qg32 rg32 (by rfl) ?_
            refine ko_callI mi_k154.1 (pc := 66) (ls := [(1, .int 11), (0, .ref 116)]) (st := [.int 11, .ref 116]) (h := ks ig32 ag32 qg32 rg32) (i := (.invokevirtual 177, 3, 149, 0, 9, 0, 405)) (mi_k154.2 _ _ (by rfl)) (ft_invS mi_pq149 (by rfl)) (cy := mi_c149) mi_pq149 rfl (kf149_116 hGg32.I hGg32.R 11 (oq257 fig32_7437.2 fig32_7439.1 hp1 p5_3 s30 z33.2.2.2.1 koq1)) (kj_d3 (n := n) (c := 1) (o1 := 12) (by decide)) ?_
            intro vg35 ig35 ag35 qg35 rg35 kg35 hg35
            have hGg35 := kG_call hGg32 kg35 (by decide +kernel)
            obtain ⟨hg35, og35⟩ := hg35
            have z36 : (vg35.toInt = 1) ∧ ((ig35 7439).toInt = ((ig32 7439).toInt + 1)) := hg35
            have q37 : ag35 127 = (ag32 127).set (ig32 7439).toNatClampNeg (11 : Int32) := og35.1
            have q38 : ig35 7439 = ig32 7439 + 1 := og35.2
            first | refine ft_goS mi_k154 2 9 [] (by rfl) ?_ | refine ft_go mi_k154 2 9 [(1, .int 11), (0, .ref 116)] [] ig35 ag35 qg35 rg35 (by rfl) ?_
            refine ko_perm [(0, .ref 116)] (List.forall_mem_cons.mpr ⟨(List.Mem.tail _ (List.Mem.head _)), (fun _ h => absurd h List.not_mem_nil)⟩) ?_
            have efig35_7438 : (ig35 7438).toInt = (ig32 7438).toInt := kg35.ti 7438 rfl
            have efig35_7437 : (ig35 7437).toInt = (ig32 7437).toInt := kg35.ti 7437 rfl
            have efig35_7429 : (ig35 7429).toInt = (ig32 7429).toInt := kg35.ti 7429 rfl
            exact ih5 _ _ _ _ hGg35 (oq292 efig35_7438 p5_0 z33.1) (oq259 efig35_7437 p5_5 s30 z33.2.1 koq1) (oq260 efig35_7429 efig35_7437 z33.2.2.1) (oq293 efig35_7437 p5_3 s30 z33.2.2.2.1 z36.2 koq1) (oq294 p5_4 z33.2.2.2.2.1 z36.2) (oq263 efig35_7437 p5_5 s30 z33.2.1 koq1) (rGo_again O5_0 (opSum_of (x := (cHr t nn (i5 7437) 0)) (g := 11) (Or.inl ⟨(oq305 c29 hv9 koq43), (oq306 koq11)⟩)) (oq307 koq11) (oq280 efi5_7429 efig2_7429 efig32_7429 hn1 s30 z33.2.1 z33.2.2.1 koq1) og32 (oq151 c34 z33.2.2.2.2.2.1 koq0) (tCod og35.1 og35.2 (kg35.fi 7437 rfl)) (oq268 efig35_7437 s30 z33.2.1 koq1)) (kj_meas (oq269 efig32_7429 efig35_7429 efig35_7437 s30 z33.2.1 koq1) (oq270 efig32_7429 s30 z33.2.1 z33.2.2.1 koq1) hm5)
          ·
            have c39 : vg32.toInt = (0 : Int32).toInt := kd_neF c; clear c
            have hG40 := kG_call hGg2 hGg32 (by decide +kernel)
            first | refine ft_goS mi_k154 1 63 [.int 0] (by rfl) ?_ | refine ft_go mi_k154 1 63 [(1, .int 11), (0, .ref 116)] [.int 0] ig32 ag32 qg32 rg32 (by rfl) ?_
            exact ft_ret mi_k154 (by rfl) (hP 0 _ _ _ _ hG40 ⟨(oq295 p5_0 p5_3 p5_4 p5_5 s30 z33.1 z33.2.1 z33.2.2.1 z33.2.2.2.1 z33.2.2.2.2.1 koq1 koq0), (rGo_no O5_0 (opSum_of (x := (cHr t nn (i5 7437) 0)) (g := 11) (Or.inl ⟨(oq305 c29 hv9 koq43), (oq306 koq11)⟩)) (oq307 koq11) (oq280 efi5_7429 efig2_7429 efig32_7429 hn1 s30 z33.2.1 z33.2.2.1 koq1) og32 (oq143 c39 z33.2.2.2.2.2.1 koq0) rfl)⟩)
    exact lp5 _ _ _ _ _ (kG_self _ hGg2.I hGg2.R) (oq208 z3.1) (oq222 z3.2.1) (oq222 z3.2.2.1) (oq287 z3.2.2.2.1) (oq222 z3.2.2.2.2.1) (oq288 c4 z3.2.2.2.2.2.1 z3.2.2.2.2.2.2.1 z3.2.2.2.2.2.2.2 koq0) (rGo_begin og2 (oq151 c4 z3.2.2.2.2.2.1 koq0) (oq2 fig2_7437.1)) (Nat.lt_succ_self _)
  ·
    have c41 : vg2.toInt = (0 : Int32).toInt := kd_neF c; clear c
    first | refine ft_goS mi_k154 1 8 [.int 0] (by rfl) ?_ | refine ft_go mi_k154 1 8 [(0, .ref 116)] [.int 0] ig2 ag2 qg2 rg2 (by rfl) ?_
    exact ft_ret mi_k154 (by rfl) (hP 0 _ _ _ _ hGg2 ⟨(oq289 z3.1 z3.2.1 z3.2.2.1 z3.2.2.2.1 z3.2.2.2.2.1 koq0), (rMu_no og2 (oq143 c41 z3.2.2.2.2.2.1 koq0) rfl)⟩)
set_option maxRecDepth 100000 in
theorem kMsQ_155 (n : Nat) (h152 : kMQ_152 n) (h153 : kMQ_153 n) (h154 : kMQ_154 n) : kMQ_155 n := by
  intro i a q r hI hr hp0 hp1 hp2 t nn hT hN hX
  have hG := kG_self wQ hI hr
  refine km_ofI (q := (mi_h155, mi_c155)) rfl (by decide) (Nat.le_of_ble_eq_true rfl) ?_
  intro P hP
  have hn0 : (0 : Int) ≤ (n : Int) := Int.natCast_nonneg n
  have hn1 : (i 7429).toInt = nn.toInt := congrArg Int32.toInt hN
  first | refine ft_goL mi_k155 1 1 [(0, .ref 116)] [.ref 116] (by rfl) ?_ | refine ft_go mi_k155 1 1 [(0, .ref 116)] [.ref 116] i a q r (by rfl) ?_
  refine ko_callI mi_k155.1 (pc := 1) (ls := [(0, .ref 116)]) (st := [.ref 116]) (h := ks i a q r) (i := (.invokevirtual 199, 3, 154, 0, 9, 0, 400)) (mi_k155.2 _ _ (by rfl)) (ft_invS mi_pq154 (by rfl)) (cy := mi_c154) mi_pq154 rfl (h154 _ _ _ _ hG.I hG.R (oq246 hp0) (oq222 hp1) (oq222 hp2) t nn hT hN hX) (kj_d1 (n := n) (o := 12) (o1 := 13) (by decide)) ?_
  intro vg2 ig2 ag2 qg2 rg2 kg2 hg2
  have hGg2 := kG_call hG kg2 (by decide +kernel)
  obtain ⟨hg2, og2⟩ := hg2
  have fig2_7437 : ((0 : Int) ≤ (ig2 7437).toInt) ∧ ((ig2 7437).toInt ≤ 120) := hGg2.I.1 7437
  have fig2_7429 : ((0 : Int) ≤ (ig2 7429).toInt) ∧ ((ig2 7429).toInt ≤ 120) := hGg2.I.1 7429
  have z3 : ((ig2 7438).toInt = (i 7438).toInt) ∧ ((i 7437).toInt ≤ (ig2 7437).toInt) ∧ ((ig2 7437).toInt ≤ (ig2 7429).toInt) ∧ (((ig2 7439).toInt - (ig2 7437).toInt) ≤ ((i 7439).toInt - (i 7437).toInt)) ∧ ((i 7439).toInt ≤ (ig2 7439).toInt) ∧ ((0 : Int) ≤ vg2.toInt) ∧ (vg2.toInt ≤ 1) ∧ (((vg2.toInt = 1) → (((i 7437).toInt + 1) ≤ (ig2 7437).toInt))) := hg2
  refine ft_ifS mi_k155 (vg2 != 0) 9 7 [] (by rfl) (fun c => ?_) (fun c => ?_)
  ·
    have c4 : vg2.toInt ≠ (0 : Int32).toInt := kd_ne c; clear c
    first | refine ft_goS mi_k155 1 10 [.ref 116] (by rfl) ?_ | refine ft_go mi_k155 1 10 [(0, .ref 116)] [.ref 116] ig2 ag2 qg2 rg2 (by rfl) ?_
    refine ko_callPI mi_k155.1 (pc := 10) (ls := [(0, .ref 116)]) (st := [.ref 116]) (h := ks ig2 ag2 qg2 rg2) (i := (.invokevirtual 166, 3, 147, 0, 9, 0, 404)) (mi_k155.2 _ _ (by rfl)) (ft_invS mi_pq147 (by rfl)) (cy := mi_c147) mi_pq147 rfl (ke147_116 hGg2.I hGg2.R t nn ((kg2.fa 119 rfl).trans hT) ((kg2.fi 7429 rfl).trans hN) hX) (kj_d3 (n := n) (c := 1) (o1 := 13) (by decide)) ?_
    intro vg5 hg5
    obtain ⟨hg5, og5⟩ := hg5
    have z6 : (((-1) : Int) ≤ vg5.toInt) ∧ (vg5.toInt ≤ 255) ∧ ((vg5.toInt = (-1)) ∨ ((ig2 7437).toInt < (ig2 7429).toInt)) := hg5
    have q7 : vg5 = cHr t nn (ig2 7437) 0 := og5
    have hv8 : vg5.toInt = (cHr t nn (ig2 7437) 0).toInt := congrArg Int32.toInt og5
    first | refine ft_goS mi_k155 1 15 [.int 60, .int vg5] (by rfl) ?_ | refine ft_go mi_k155 1 15 [(0, .ref 116)] [.int 60, .int vg5] ig2 ag2 qg2 rg2 (by rfl) ?_
    refine ft_ifS mi_k155 (vg5 != 60) 23 18 [] (by rfl) (fun c => ?_) (fun c => ?_)
    ·
      have c9 : vg5.toInt ≠ (60 : Int32).toInt := kd_ne c; clear c
      first | refine ft_goS mi_k155 1 24 [.ref 116] (by rfl) ?_ | refine ft_go mi_k155 1 24 [(0, .ref 116)] [.ref 116] ig2 ag2 qg2 rg2 (by rfl) ?_
      refine ko_callPI mi_k155.1 (pc := 24) (ls := [(0, .ref 116)]) (st := [.ref 116]) (h := ks ig2 ag2 qg2 rg2) (i := (.invokevirtual 166, 3, 147, 0, 9, 0, 404)) (mi_k155.2 _ _ (by rfl)) (ft_invS mi_pq147 (by rfl)) (cy := mi_c147) mi_pq147 rfl (ke147_116 hGg2.I hGg2.R t nn ((kg2.fa 119 rfl).trans hT) ((kg2.fi 7429 rfl).trans hN) hX) (kj_d3 (n := n) (c := 1) (o1 := 13) (by decide)) ?_
      intro vg10 hg10
      obtain ⟨hg10, og10⟩ := hg10
      have q12 : vg10 = cHr t nn (ig2 7437) 0 := og10
      have hv13 : vg10.toInt = (cHr t nn (ig2 7437) 0).toInt := congrArg Int32.toInt og10
      first | refine ft_goS mi_k155 1 29 [.int 61, .int vg10] (by rfl) ?_ | refine ft_go mi_k155 1 29 [(0, .ref 116)] [.int 61, .int vg10] ig2 ag2 qg2 rg2 (by rfl) ?_
      refine ft_ifS mi_k155 (vg10 != 61) 37 32 [] (by rfl) (fun c => ?_) (fun c => ?_)
      ·
        have c14 : vg10.toInt ≠ (61 : Int32).toInt := kd_ne c; clear c
        first | refine ft_goS mi_k155 1 38 [.ref 116] (by rfl) ?_ | refine ft_go mi_k155 1 38 [(0, .ref 116)] [.ref 116] ig2 ag2 qg2 rg2 (by rfl) ?_
        refine ko_callPI mi_k155.1 (pc := 38) (ls := [(0, .ref 116)]) (st := [.ref 116]) (h := ks ig2 ag2 qg2 rg2) (i := (.invokevirtual 166, 3, 147, 0, 9, 0, 404)) (mi_k155.2 _ _ (by rfl)) (ft_invS mi_pq147 (by rfl)) (cy := mi_c147) mi_pq147 rfl (ke147_116 hGg2.I hGg2.R t nn ((kg2.fa 119 rfl).trans hT) ((kg2.fi 7429 rfl).trans hN) hX) (kj_d3 (n := n) (c := 1) (o1 := 13) (by decide)) ?_
        intro vg15 hg15
        obtain ⟨hg15, og15⟩ := hg15
        have q17 : vg15 = cHr t nn (ig2 7437) 0 := og15
        have hv18 : vg15.toInt = (cHr t nn (ig2 7437) 0).toInt := congrArg Int32.toInt og15
        first | refine ft_goS mi_k155 1 43 [.int 62, .int vg15] (by rfl) ?_ | refine ft_go mi_k155 1 43 [(0, .ref 116)] [.int 62, .int vg15] ig2 ag2 qg2 rg2 (by rfl) ?_
        refine ft_ifS mi_k155 (vg15 != 62) 51 46 [] (by rfl) (fun c => ?_) (fun c => ?_)
        ·
          have c19 : vg15.toInt ≠ (62 : Int32).toInt := kd_ne c; clear c
          first | refine fo_goL mi_k155 fz155_20_5_58 [(1, .int (-1)), (0, .ref 116)] [.int 1] (by rfl) ?_ | refine fo_goL mi_k155 fz155_34_5_58 [(1, .int (-1)), (0, .ref 116)] [.int 1] (by rfl) ?_ | refine fo_goL mi_k155 fz155_48_5_58 [(1, .int (-1)), (0, .ref 116)] [.int 1] (by rfl) ?_ | refine fo_goL mi_k155 fz155_51_5_58 [(1, .int (-1)), (0, .ref 116)] [.int 1] (by rfl) ?_ | refine ft_go mi_k155 5 58 [(1, .int (-1)), (0, .ref 116)] [.int 1] ig2 ag2 qg2 rg2 (by rfl) ?_
          exact ft_ret mi_k155 (by rfl) (hP 1 _ _ _ _ hGg2 ⟨(oq308 c4 z3.1 z3.2.1 z3.2.2.1 z3.2.2.2.1 z3.2.2.2.2.1 z3.2.2.2.2.2.1 z3.2.2.2.2.2.2.1 z3.2.2.2.2.2.2.2 koq0 koq1), (rCm_one og2 (oq151 c4 z3.2.2.2.2.2.1 koq0) (opCmp_of (x := (cHr t nn (ig2 7437) 0)) (g := (-1)) (Or.inr (Or.inr (Or.inr (⟨(oq309 c9 hv8 koq60), (oq310 c14 c9 hv13 hv8 koq61 koq60), (oq311 c14 c19 c9 hv13 hv18 hv8 koq61 koq62 koq60), (oq251 koqm1)⟩))))) (oq252 koqm1) rfl)⟩)
        ·
          have c20 : vg15.toInt = (62 : Int32).toInt := kd_neF c; clear c
          have s21 : ((ig2 7437) + 1).toInt = (ig2 7437).toInt + (1 : Int32).toInt := kd_add (oq115 fig2_7437.1 koq1) (oq116 fig2_7437.2 koq1)
          have hJ22 := kG_i hGg2 7437 rfl (v := ((ig2 7437) + 1)) ⟨(oq117 fig2_7437.1 s21 koq1), (oq312 c20 fig2_7429.2 hv18 hv8 s21 z6.2.2 koq62 koq1)⟩
          first | refine fo_go mi_k155 fz155_18_12_70 [(1, .int 10), (0, .ref 116)] [.ref 116] (ku ig2 7437 ((ig2 7437) + 1)) ag2 qg2 rg2 (by rfl) ?_ | refine fo_go mi_k155 fz155_32_12_70 [(1, .int 10), (0, .ref 116)] [.ref 116] (ku ig2 7437 ((ig2 7437) + 1)) ag2 qg2 rg2 (by rfl) ?_ | refine fo_go mi_k155 fz155_46_12_70 [(1, .int 10), (0, .ref 116)] [.ref 116] (ku ig2 7437 ((ig2 7437) + 1)) ag2 qg2 rg2 (by rfl) ?_ | refine ft_go mi_k155 12 70 [(1, .int 10), (0, .ref 116)] [.ref 116] (ku ig2 7437 ((ig2 7437) + 1)) ag2 qg2 rg2 (by rfl) ?_
          refine ko_callI mi_k155.1 (pc := 70) (ls := [(1, .int 10), (0, .ref 116)]) (st := [.ref 116]) (h := ks (ku ig2 7437 ((ig2 7437) + 1)) ag2 qg2 rg2) (i := (.invokevirtual 199, 3, 154, 0, 9, 0, 400)) (mi_k155.2 _ _ (by rfl)) (ft_invS mi_pq154 (by rfl)) (cy := mi_c154) mi_pq154 rfl (h154 _ _ _ _ hJ22.I hJ22.R (oq291 hp0 z3.1) (oq313 hp1 s21 z3.2.2.2.1 koq1) (oq314 c20 hv18 hv8 s21 z6.2.2 koq62 koq1) t nn ((kg2.fa 119 rfl).trans hT) ((kg2.fi 7429 rfl).trans hN) hX) (kj_d1 (n := n) (o := 12) (o1 := 13) (by decide)) ?_
          intro vg23 ig23 ag23 qg23 rg23 kg23 hg23
          have hGg23 := kG_call hJ22 kg23 (by decide +kernel)
          obtain ⟨hg23, og23⟩ := hg23
          have fig23_7437 : ((0 : Int) ≤ (ig23 7437).toInt) ∧ ((ig23 7437).toInt ≤ 120) := hGg23.I.1 7437
          have fig23_7439 : ((0 : Int) ≤ (ig23 7439).toInt) ∧ ((ig23 7439).toInt ≤ 200) := hGg23.I.1 7439
          have z24 : ((ig23 7438).toInt = (ig2 7438).toInt) ∧ (((ig2 7437) + 1).toInt ≤ (ig23 7437).toInt) ∧ ((ig23 7437).toInt ≤ (ig23 7429).toInt) ∧ (((ig23 7439).toInt - (ig23 7437).toInt) ≤ ((ig2 7439).toInt - ((ig2 7437) + 1).toInt)) ∧ ((ig2 7439).toInt ≤ (ig23 7439).toInt) ∧ ((0 : Int) ≤ vg23.toInt) ∧ (vg23.toInt ≤ 1) ∧ (((vg23.toInt = 1) → ((((ig2 7437) + 1).toInt + 1) ≤ (ig23 7437).toInt))) := hg23
          refine ft_ifS mi_k155 (vg23 == 0) 88 76 [] (by rfl) (fun c => ?_) (fun c => ?_)
          ·
            have c25 : vg23.toInt = (0 : Int32).toInt := kd_eq c; clear c
            first | refine ft_goS mi_k155 1 89 [.int 0] (by rfl) ?_ | refine ft_go mi_k155 1 89 [(1, .int 10), (0, .ref 116)] [.int 0] ig23 ag23 qg23 rg23 (by rfl) ?_
            exact ft_ret mi_k155 (by rfl) (hP 0 _ _ _ _ hGg23 ⟨(oq315 s21 z24.1 z24.2.1 z24.2.2.1 z24.2.2.2.1 z24.2.2.2.2.1 z3.1 z3.2.1 z3.2.2.2.1 z3.2.2.2.2.1 koq1 koq0), (rCm_two og2 (oq151 c4 z3.2.2.2.2.2.1 koq0) (opCmp_of (x := (cHr t nn (ig2 7437) 0)) (g := 10) (Or.inr (Or.inr (Or.inl ⟨(oq316 c20 hv18 koq62), (oq317 koq10)⟩)))) (oq318 koq10) og23 (rC2_no (oq143 c25 z24.2.2.2.2.2.1 koq0) rfl))⟩)
          ·
            have c26 : vg23.toInt ≠ (0 : Int32).toInt := kd_eqF c; clear c
            first | refine fo_goS mi_k155 fz155_76_2_78 [.int 10, .ref 116] (by rfl) ?_ | refine ft_go mi_k155 2 78 [(1, .int 10), (0, .ref 116)] [.int 10, .ref 116] ig23 ag23 qg23 rg23 (by rfl) ?_
            refine ko_callI mi_k155.1 (pc := 78) (ls := [(1, .int 10), (0, .ref 116)]) (st := [.int 10, .ref 116]) (h := ks ig23 ag23 qg23 rg23) (i := (.invokevirtual 177, 3, 149, 0, 9, 0, 405)) (mi_k155.2 _ _ (by rfl)) (ft_invS mi_pq149 (by rfl)) (cy := mi_c149) mi_pq149 rfl (kf149_116 hGg23.I hGg23.R 10 (oq319 fig23_7437.2 fig23_7439.1 hp1 s21 z24.2.2.2.1 z3.2.2.2.1 koq1)) (kj_d3 (n := n) (c := 1) (o1 := 13) (by decide)) ?_
            intro vg27 ig27 ag27 qg27 rg27 kg27 hg27
            have hGg27 := kG_call hGg23 kg27 (by decide +kernel)
            obtain ⟨hg27, og27⟩ := hg27
            have z28 : (vg27.toInt = 1) ∧ ((ig27 7439).toInt = ((ig23 7439).toInt + 1)) := hg27
            have q29 : ag27 127 = (ag23 127).set (ig23 7439).toNatClampNeg (10 : Int32) := og27.1
            have q30 : ig27 7439 = ig23 7439 + 1 := og27.2
            refine ft_ifS mi_k155 (vg27 == 0) 88 84 [] (by rfl) (fun c => ?_) (fun c => ?_)
            ·
              have c31 : vg27.toInt = (0 : Int32).toInt := kd_eq c; clear c
              exact (oq169 c31 z28.1 koq0).elim
            ·
              have c32 : vg27.toInt ≠ (0 : Int32).toInt := kd_eqF c; clear c
              first | refine fo_goS mi_k155 fz155_84_2_89 [.int 1] (by rfl) ?_ | refine fo_goS mi_k155 fz155_73_2_89 [.int 1] (by rfl) ?_ | refine fo_goS mi_k155 fz155_81_2_89 [.int 1] (by rfl) ?_ | refine ft_go mi_k155 2 89 [(1, .int 10), (0, .ref 116)] [.int 1] ig27 ag27 qg27 rg27 (by rfl) ?_
              have efig27_7438 : (ig27 7438).toInt = (ig23 7438).toInt := kg27.ti 7438 rfl
              have efig27_7437 : (ig27 7437).toInt = (ig23 7437).toInt := kg27.ti 7437 rfl
              have efig27_7429 : (ig27 7429).toInt = (ig23 7429).toInt := kg27.ti 7429 rfl
              exact ft_ret mi_k155 (by rfl) (hP 1 _ _ _ _ hGg27 ⟨(oq320 efig27_7429 efig27_7437 efig27_7438 s21 z24.1 z24.2.1 z24.2.2.1 z24.2.2.2.1 z24.2.2.2.2.1 z28.2 z3.1 z3.2.1 z3.2.2.2.1 z3.2.2.2.2.1 koq1), (rCm_two og2 (oq151 c4 z3.2.2.2.2.2.1 koq0) (opCmp_of (x := (cHr t nn (ig2 7437) 0)) (g := 10) (Or.inr (Or.inr (Or.inl ⟨(oq316 c20 hv18 koq62), (oq317 koq10)⟩)))) (oq318 koq10) og23 (rC2_yes (oq151 c26 z24.2.2.2.2.2.1 koq0) (tCod og27.1 og27.2 (kg27.fi 7437 rfl)) rfl))⟩)
      ·
        have c33 : vg10.toInt = (61 : Int32).toInt := kd_neF c; clear c
        have s34 : ((ig2 7437) + 1).toInt = (ig2 7437).toInt + (1 : Int32).toInt := kd_add (oq115 fig2_7437.1 koq1) (oq116 fig2_7437.2 koq1)
        have hJ35 := kG_i hGg2 7437 rfl (v := ((ig2 7437) + 1)) ⟨(oq117 fig2_7437.1 s34 koq1), (oq321 c33 fig2_7429.2 hv13 hv8 s34 z6.2.2 koq61 koq1)⟩
        first | refine fo_go mi_k155 fz155_18_12_70 [(1, .int 9), (0, .ref 116)] [.ref 116] (ku ig2 7437 ((ig2 7437) + 1)) ag2 qg2 rg2 (by rfl) ?_ | refine fo_go mi_k155 fz155_32_12_70 [(1, .int 9), (0, .ref 116)] [.ref 116] (ku ig2 7437 ((ig2 7437) + 1)) ag2 qg2 rg2 (by rfl) ?_ | refine fo_go mi_k155 fz155_46_12_70 [(1, .int 9), (0, .ref 116)] [.ref 116] (ku ig2 7437 ((ig2 7437) + 1)) ag2 qg2 rg2 (by rfl) ?_ | refine ft_go mi_k155 12 70 [(1, .int 9), (0, .ref 116)] [.ref 116] (ku ig2 7437 ((ig2 7437) + 1)) ag2 qg2 rg2 (by rfl) ?_
        refine ko_callI mi_k155.1 (pc := 70) (ls := [(1, .int 9), (0, .ref 116)]) (st := [.ref 116]) (h := ks (ku ig2 7437 ((ig2 7437) + 1)) ag2 qg2 rg2) (i := (.invokevirtual 199, 3, 154, 0, 9, 0, 400)) (mi_k155.2 _ _ (by rfl)) (ft_invS mi_pq154 (by rfl)) (cy := mi_c154) mi_pq154 rfl (h154 _ _ _ _ hJ35.I hJ35.R (oq291 hp0 z3.1) (oq313 hp1 s34 z3.2.2.2.1 koq1) (oq322 c33 hv13 hv8 s34 z6.2.2 koq61 koq1) t nn ((kg2.fa 119 rfl).trans hT) ((kg2.fi 7429 rfl).trans hN) hX) (kj_d1 (n := n) (o := 12) (o1 := 13) (by decide)) ?_
        intro vg36 ig36 ag36 qg36 rg36 kg36 hg36
        have hGg36 := kG_call hJ35 kg36 (by decide +kernel)
        obtain ⟨hg36, og36⟩ := hg36
        have fig36_7437 : ((0 : Int) ≤ (ig36 7437).toInt) ∧ ((ig36 7437).toInt ≤ 120) := hGg36.I.1 7437
        have fig36_7439 : ((0 : Int) ≤ (ig36 7439).toInt) ∧ ((ig36 7439).toInt ≤ 200) := hGg36.I.1 7439
        have z37 : ((ig36 7438).toInt = (ig2 7438).toInt) ∧ (((ig2 7437) + 1).toInt ≤ (ig36 7437).toInt) ∧ ((ig36 7437).toInt ≤ (ig36 7429).toInt) ∧ (((ig36 7439).toInt - (ig36 7437).toInt) ≤ ((ig2 7439).toInt - ((ig2 7437) + 1).toInt)) ∧ ((ig2 7439).toInt ≤ (ig36 7439).toInt) ∧ ((0 : Int) ≤ vg36.toInt) ∧ (vg36.toInt ≤ 1) ∧ (((vg36.toInt = 1) → ((((ig2 7437) + 1).toInt + 1) ≤ (ig36 7437).toInt))) := hg36
        refine ft_ifS mi_k155 (vg36 == 0) 88 76 [] (by rfl) (fun c => ?_) (fun c => ?_)
        ·
          have c38 : vg36.toInt = (0 : Int32).toInt := kd_eq c; clear c
          first | refine ft_goS mi_k155 1 89 [.int 0] (by rfl) ?_ | refine ft_go mi_k155 1 89 [(1, .int 9), (0, .ref 116)] [.int 0] ig36 ag36 qg36 rg36 (by rfl) ?_
          exact ft_ret mi_k155 (by rfl) (hP 0 _ _ _ _ hGg36 ⟨(oq323 s34 z3.1 z3.2.1 z3.2.2.2.1 z3.2.2.2.2.1 z37.1 z37.2.1 z37.2.2.1 z37.2.2.2.1 z37.2.2.2.2.1 koq1 koq0), (rCm_two og2 (oq151 c4 z3.2.2.2.2.2.1 koq0) (opCmp_of (x := (cHr t nn (ig2 7437) 0)) (g := 9) (Or.inr (Or.inl ⟨(oq324 c33 hv13 koq61), (oq325 koq9)⟩))) (oq326 koq9) og36 (rC2_no (oq143 c38 z37.2.2.2.2.2.1 koq0) rfl))⟩)
        ·
          have c39 : vg36.toInt ≠ (0 : Int32).toInt := kd_eqF c; clear c
          first | refine fo_goS mi_k155 fz155_76_2_78 [.int 9, .ref 116] (by rfl) ?_ | refine ft_go mi_k155 2 78 [(1, .int 9), (0, .ref 116)] [.int 9, .ref 116] ig36 ag36 qg36 rg36 (by rfl) ?_
          refine ko_callI mi_k155.1 (pc := 78) (ls := [(1, .int 9), (0, .ref 116)]) (st := [.int 9, .ref 116]) (h := ks ig36 ag36 qg36 rg36) (i := (.invokevirtual 177, 3, 149, 0, 9, 0, 405)) (mi_k155.2 _ _ (by rfl)) (ft_invS mi_pq149 (by rfl)) (cy := mi_c149) mi_pq149 rfl (kf149_116 hGg36.I hGg36.R 9 (oq327 fig36_7437.2 fig36_7439.1 hp1 s34 z3.2.2.2.1 z37.2.2.2.1 koq1)) (kj_d3 (n := n) (c := 1) (o1 := 13) (by decide)) ?_
          intro vg40 ig40 ag40 qg40 rg40 kg40 hg40
          have hGg40 := kG_call hGg36 kg40 (by decide +kernel)
          obtain ⟨hg40, og40⟩ := hg40
          have z41 : (vg40.toInt = 1) ∧ ((ig40 7439).toInt = ((ig36 7439).toInt + 1)) := hg40
          have q42 : ag40 127 = (ag36 127).set (ig36 7439).toNatClampNeg (9 : Int32) := og40.1
          have q43 : ig40 7439 = ig36 7439 + 1 := og40.2
          refine ft_ifS mi_k155 (vg40 == 0) 88 84 [] (by rfl) (fun c => ?_) (fun c => ?_)
          ·
            have c44 : vg40.toInt = (0 : Int32).toInt := kd_eq c; clear c
            exact (oq169 c44 z41.1 koq0).elim
          ·
            have c45 : vg40.toInt ≠ (0 : Int32).toInt := kd_eqF c; clear c
            first | refine fo_goS mi_k155 fz155_84_2_89 [.int 1] (by rfl) ?_ | refine fo_goS mi_k155 fz155_73_2_89 [.int 1] (by rfl) ?_ | refine fo_goS mi_k155 fz155_81_2_89 [.int 1] (by rfl) ?_ | refine ft_go mi_k155 2 89 [(1, .int 9), (0, .ref 116)] [.int 1] ig40 ag40 qg40 rg40 (by rfl) ?_
            have efig40_7438 : (ig40 7438).toInt = (ig36 7438).toInt := kg40.ti 7438 rfl
            have efig40_7437 : (ig40 7437).toInt = (ig36 7437).toInt := kg40.ti 7437 rfl
            have efig40_7429 : (ig40 7429).toInt = (ig36 7429).toInt := kg40.ti 7429 rfl
            exact ft_ret mi_k155 (by rfl) (hP 1 _ _ _ _ hGg40 ⟨(oq328 efig40_7429 efig40_7437 efig40_7438 s34 z3.1 z3.2.1 z3.2.2.2.1 z3.2.2.2.2.1 z37.1 z37.2.1 z37.2.2.1 z37.2.2.2.1 z37.2.2.2.2.1 z41.2 koq1), (rCm_two og2 (oq151 c4 z3.2.2.2.2.2.1 koq0) (opCmp_of (x := (cHr t nn (ig2 7437) 0)) (g := 9) (Or.inr (Or.inl ⟨(oq324 c33 hv13 koq61), (oq325 koq9)⟩))) (oq326 koq9) og36 (rC2_yes (oq151 c39 z37.2.2.2.2.2.1 koq0) (tCod og40.1 og40.2 (kg40.fi 7437 rfl)) rfl))⟩)
    ·
      have c46 : vg5.toInt = (60 : Int32).toInt := kd_neF c; clear c
      have s47 : ((ig2 7437) + 1).toInt = (ig2 7437).toInt + (1 : Int32).toInt := kd_add (oq115 fig2_7437.1 koq1) (oq116 fig2_7437.2 koq1)
      have hJ48 := kG_i hGg2 7437 rfl (v := ((ig2 7437) + 1)) ⟨(oq117 fig2_7437.1 s47 koq1), (oq329 c46 fig2_7429.2 s47 z6.2.2 koq60 koq1)⟩
      first | refine fo_go mi_k155 fz155_18_12_70 [(1, .int 8), (0, .ref 116)] [.ref 116] (ku ig2 7437 ((ig2 7437) + 1)) ag2 qg2 rg2 (by rfl) ?_ | refine fo_go mi_k155 fz155_32_12_70 [(1, .int 8), (0, .ref 116)] [.ref 116] (ku ig2 7437 ((ig2 7437) + 1)) ag2 qg2 rg2 (by rfl) ?_ | refine fo_go mi_k155 fz155_46_12_70 [(1, .int 8), (0, .ref 116)] [.ref 116] (ku ig2 7437 ((ig2 7437) + 1)) ag2 qg2 rg2 (by rfl) ?_ | refine ft_go mi_k155 12 70 [(1, .int 8), (0, .ref 116)] [.ref 116] (ku ig2 7437 ((ig2 7437) + 1)) ag2 qg2 rg2 (by rfl) ?_
      refine ko_callI mi_k155.1 (pc := 70) (ls := [(1, .int 8), (0, .ref 116)]) (st := [.ref 116]) (h := ks (ku ig2 7437 ((ig2 7437) + 1)) ag2 qg2 rg2) (i := (.invokevirtual 199, 3, 154, 0, 9, 0, 400)) (mi_k155.2 _ _ (by rfl)) (ft_invS mi_pq154 (by rfl)) (cy := mi_c154) mi_pq154 rfl (h154 _ _ _ _ hJ48.I hJ48.R (oq291 hp0 z3.1) (oq313 hp1 s47 z3.2.2.2.1 koq1) (oq330 c46 s47 z6.2.2 koq60 koq1) t nn ((kg2.fa 119 rfl).trans hT) ((kg2.fi 7429 rfl).trans hN) hX) (kj_d1 (n := n) (o := 12) (o1 := 13) (by decide)) ?_
      intro vg49 ig49 ag49 qg49 rg49 kg49 hg49
      have hGg49 := kG_call hJ48 kg49 (by decide +kernel)
      obtain ⟨hg49, og49⟩ := hg49
      have fig49_7437 : ((0 : Int) ≤ (ig49 7437).toInt) ∧ ((ig49 7437).toInt ≤ 120) := hGg49.I.1 7437
      have fig49_7439 : ((0 : Int) ≤ (ig49 7439).toInt) ∧ ((ig49 7439).toInt ≤ 200) := hGg49.I.1 7439
      have z50 : ((ig49 7438).toInt = (ig2 7438).toInt) ∧ (((ig2 7437) + 1).toInt ≤ (ig49 7437).toInt) ∧ ((ig49 7437).toInt ≤ (ig49 7429).toInt) ∧ (((ig49 7439).toInt - (ig49 7437).toInt) ≤ ((ig2 7439).toInt - ((ig2 7437) + 1).toInt)) ∧ ((ig2 7439).toInt ≤ (ig49 7439).toInt) ∧ ((0 : Int) ≤ vg49.toInt) ∧ (vg49.toInt ≤ 1) ∧ (((vg49.toInt = 1) → ((((ig2 7437) + 1).toInt + 1) ≤ (ig49 7437).toInt))) := hg49
      refine ft_ifS mi_k155 (vg49 == 0) 88 76 [] (by rfl) (fun c => ?_) (fun c => ?_)
      ·
        have c51 : vg49.toInt = (0 : Int32).toInt := kd_eq c; clear c
        first | refine ft_goS mi_k155 1 89 [.int 0] (by rfl) ?_ | refine ft_go mi_k155 1 89 [(1, .int 8), (0, .ref 116)] [.int 0] ig49 ag49 qg49 rg49 (by rfl) ?_
        exact ft_ret mi_k155 (by rfl) (hP 0 _ _ _ _ hGg49 ⟨(oq323 s47 z3.1 z3.2.1 z3.2.2.2.1 z3.2.2.2.2.1 z50.1 z50.2.1 z50.2.2.1 z50.2.2.2.1 z50.2.2.2.2.1 koq1 koq0), (rCm_two og2 (oq151 c4 z3.2.2.2.2.2.1 koq0) (opCmp_of (x := (cHr t nn (ig2 7437) 0)) (g := 8) (Or.inl ⟨(oq331 c46 hv8 koq60), (oq332 koq8)⟩)) (oq333 koq8) og49 (rC2_no (oq143 c51 z50.2.2.2.2.2.1 koq0) rfl))⟩)
      ·
        have c52 : vg49.toInt ≠ (0 : Int32).toInt := kd_eqF c; clear c
        first | refine fo_goS mi_k155 fz155_76_2_78 [.int 8, .ref 116] (by rfl) ?_ | refine ft_go mi_k155 2 78 [(1, .int 8), (0, .ref 116)] [.int 8, .ref 116] ig49 ag49 qg49 rg49 (by rfl) ?_
        refine ko_callI mi_k155.1 (pc := 78) (ls := [(1, .int 8), (0, .ref 116)]) (st := [.int 8, .ref 116]) (h := ks ig49 ag49 qg49 rg49) (i := (.invokevirtual 177, 3, 149, 0, 9, 0, 405)) (mi_k155.2 _ _ (by rfl)) (ft_invS mi_pq149 (by rfl)) (cy := mi_c149) mi_pq149 rfl (kf149_116 hGg49.I hGg49.R 8 (oq327 fig49_7437.2 fig49_7439.1 hp1 s47 z3.2.2.2.1 z50.2.2.2.1 koq1)) (kj_d3 (n := n) (c := 1) (o1 := 13) (by decide)) ?_
        intro vg53 ig53 ag53 qg53 rg53 kg53 hg53
        have hGg53 := kG_call hGg49 kg53 (by decide +kernel)
        obtain ⟨hg53, og53⟩ := hg53
        have z54 : (vg53.toInt = 1) ∧ ((ig53 7439).toInt = ((ig49 7439).toInt + 1)) := hg53
        have q55 : ag53 127 = (ag49 127).set (ig49 7439).toNatClampNeg (8 : Int32) := og53.1
        have q56 : ig53 7439 = ig49 7439 + 1 := og53.2
        refine ft_ifS mi_k155 (vg53 == 0) 88 84 [] (by rfl) (fun c => ?_) (fun c => ?_)
        ·
          have c57 : vg53.toInt = (0 : Int32).toInt := kd_eq c; clear c
          exact (oq169 c57 z54.1 koq0).elim
        ·
          have c58 : vg53.toInt ≠ (0 : Int32).toInt := kd_eqF c; clear c
          first | refine fo_goS mi_k155 fz155_84_2_89 [.int 1] (by rfl) ?_ | refine fo_goS mi_k155 fz155_73_2_89 [.int 1] (by rfl) ?_ | refine fo_goS mi_k155 fz155_81_2_89 [.int 1] (by rfl) ?_ | refine ft_go mi_k155 2 89 [(1, .int 8), (0, .ref 116)] [.int 1] ig53 ag53 qg53 rg53 (by rfl) ?_
          have efig53_7438 : (ig53 7438).toInt = (ig49 7438).toInt := kg53.ti 7438 rfl
          have efig53_7437 : (ig53 7437).toInt = (ig49 7437).toInt := kg53.ti 7437 rfl
          have efig53_7429 : (ig53 7429).toInt = (ig49 7429).toInt := kg53.ti 7429 rfl
          exact ft_ret mi_k155 (by rfl) (hP 1 _ _ _ _ hGg53 ⟨(oq328 efig53_7429 efig53_7437 efig53_7438 s47 z3.1 z3.2.1 z3.2.2.2.1 z3.2.2.2.2.1 z50.1 z50.2.1 z50.2.2.1 z50.2.2.2.1 z50.2.2.2.2.1 z54.2 koq1), (rCm_two og2 (oq151 c4 z3.2.2.2.2.2.1 koq0) (opCmp_of (x := (cHr t nn (ig2 7437) 0)) (g := 8) (Or.inl ⟨(oq331 c46 hv8 koq60), (oq332 koq8)⟩)) (oq333 koq8) og49 (rC2_yes (oq151 c52 z50.2.2.2.2.2.1 koq0) (tCod og53.1 og53.2 (kg53.fi 7437 rfl)) rfl))⟩)
  ·
    have c59 : vg2.toInt = (0 : Int32).toInt := kd_neF c; clear c
    first | refine ft_goS mi_k155 1 8 [.int 0] (by rfl) ?_ | refine ft_go mi_k155 1 8 [(0, .ref 116)] [.int 0] ig2 ag2 qg2 rg2 (by rfl) ?_
    exact ft_ret mi_k155 (by rfl) (hP 0 _ _ _ _ hGg2 ⟨(oq289 z3.1 z3.2.1 z3.2.2.1 z3.2.2.2.1 z3.2.2.2.2.1 koq0), (rCm_no og2 (oq143 c59 z3.2.2.2.2.2.1 koq0) rfl)⟩)
set_option maxRecDepth 100000 in
theorem kMsQ_156 (n : Nat) (h152 : kMQ_152 n) (h153 : kMQ_153 n) (h154 : kMQ_154 n) (h155 : kMQ_155 n) : kMQ_156 n := by
  intro i a q r hI hr hp0 hp1 hp2 t nn hT hN hX
  have hG := kG_self wQ hI hr
  refine km_ofI (q := (mi_h156, mi_c156)) rfl (by decide) (Nat.le_of_ble_eq_true rfl) ?_
  intro P hP
  have hn0 : (0 : Int) ≤ (n : Int) := Int.natCast_nonneg n
  have hn1 : (i 7429).toInt = nn.toInt := congrArg Int32.toInt hN
  first | refine ft_goL mi_k156 1 1 [(0, .ref 116)] [.ref 116] (by rfl) ?_ | refine ft_go mi_k156 1 1 [(0, .ref 116)] [.ref 116] i a q r (by rfl) ?_
  refine ko_callI mi_k156.1 (pc := 1) (ls := [(0, .ref 116)]) (st := [.ref 116]) (h := ks i a q r) (i := (.invokevirtual 202, 3, 155, 0, 9, 0, 399)) (mi_k156.2 _ _ (by rfl)) (ft_invS mi_pq155 (by rfl)) (cy := mi_c155) mi_pq155 rfl (h155 _ _ _ _ hG.I hG.R (oq246 hp0) (oq222 hp1) (oq222 hp2) t nn hT hN hX) (kj_d1 (n := n) (o := 13) (o1 := 14) (by decide)) ?_
  intro vg2 ig2 ag2 qg2 rg2 kg2 hg2
  have hGg2 := kG_call hG kg2 (by decide +kernel)
  obtain ⟨hg2, og2⟩ := hg2
  have fig2_7437 : ((0 : Int) ≤ (ig2 7437).toInt) ∧ ((ig2 7437).toInt ≤ 120) := hGg2.I.1 7437
  have efig2_7429 : (ig2 7429).toInt = (i 7429).toInt := kg2.ti 7429 rfl
  have z3 : ((ig2 7438).toInt = (i 7438).toInt) ∧ ((i 7437).toInt ≤ (ig2 7437).toInt) ∧ ((ig2 7437).toInt ≤ (ig2 7429).toInt) ∧ (((ig2 7439).toInt - (ig2 7437).toInt) ≤ ((i 7439).toInt - (i 7437).toInt)) ∧ ((i 7439).toInt ≤ (ig2 7439).toInt) ∧ ((0 : Int) ≤ vg2.toInt) ∧ (vg2.toInt ≤ 1) ∧ (((vg2.toInt = 1) → (((i 7437).toInt + 1) ≤ (ig2 7437).toInt))) := hg2
  refine ft_ifS mi_k156 (vg2 != 0) 9 7 [] (by rfl) (fun c => ?_) (fun c => ?_)
  ·
    have c4 : vg2.toInt ≠ (0 : Int32).toInt := kd_ne c; clear c
    have lp5 : ∀ (nz : Nat) (i5 : Nat → Int32) (a5 : Nat → List Int32) (q5 : Nat → List Int64) (r5 : Nat → Nat), kG yw156_116_L9 ig2 ag2 qg2 rg2 i5 a5 q5 r5 → (i5 7438).toInt = (i 7438).toInt → (i 7437).toInt ≤ (i5 7437).toInt → (i5 7437).toInt ≤ (i5 7429).toInt → ((i5 7439).toInt - (i5 7437).toInt) ≤ ((i 7439).toInt - (i 7437).toInt) → (i 7439).toInt ≤ (i5 7439).toInt → ((i 7437).toInt + 1) ≤ (i5 7437).toInt → rGb t nn (rP5 t nn (rO t nn n)) 38 7 (i5 7437, i5 7439, a5 127) (rBin t nn (rP5 t nn (rO t nn n)) 38 7 (i 7437, i 7439, a 127)) → (((i5 7429).toInt - (i5 7437).toInt)).toNat < nz → ko (6 * n + 14) (mi_h156, mi_c156) P (9, [(0, .ref 116)], [], (0, 0), ks i5 a5 q5 r5) := by
      intro nz
      induction nz with
      | zero =>
        intro _ _ _ _ _ _ _ _ _ _ _ _ hm
        exact absurd hm (Nat.not_lt_zero _)
      | succ nz ih5 =>
        intro i5 a5 q5 r5 hL5 p5_0 p5_1 p5_2 p5_3 p5_4 p5_5 O5_0 hm5
        have efi5_7429 : (i5 7429).toInt = (ig2 7429).toInt := hL5.ti 7429 rfl
        first | refine ft_goL mi_k156 2 12 [(0, .ref 116)] [.int 38, .ref 116] (by rfl) ?_ | refine ft_go mi_k156 2 12 [(0, .ref 116)] [.int 38, .ref 116] i5 a5 q5 r5 (by rfl) ?_
        refine ko_callI mi_k156.1 (pc := 12) (ls := [(0, .ref 116)]) (st := [.int 38, .ref 116]) (h := ks i5 a5 q5 r5) (i := (.invokevirtual 187, 3, 148, 0, 9, 0, 407)) (mi_k156.2 _ _ (by rfl)) (ft_invS mi_pq148 (by rfl)) (cy := mi_c148) mi_pq148 rfl (ke148_116 hL5.I hL5.R 38 (oq334 koq38) t nn (((hL5.fa 119 rfl).trans (kg2.fa 119 rfl)).trans hT) (((hL5.fi 7429 rfl).trans (kg2.fi 7429 rfl)).trans hN) hX) (kj_d3 (n := n) (c := 3) (o1 := 14) (by decide)) ?_
        intro vg6 ig6 ag6 qg6 rg6 kg6 hg6
        have hGg6 := kG_call hL5 kg6 (by decide +kernel)
        obtain ⟨hg6, og6⟩ := hg6
        have z7 : (((vg6.toInt = 1) ∧ ((ig6 7437).toInt = ((i5 7437).toInt + 1)) ∧ ((i5 7437).toInt < (i5 7429).toInt) ∧ ((cHr t nn (i5 7437) 0).toInt = (38 : Int32).toInt)) ∨ ((vg6.toInt = 0) ∧ ((ig6 7437).toInt = (i5 7437).toInt))) ∧ (((vg6.toInt = 0) → ((cHr t nn (i5 7437) 0).toInt ≠ (38 : Int32).toInt))) := hg6
        have q8 : ((ig6 7437).toInt = (i5 7437).toInt → (cHr t nn (ig6 7437) 0).toInt = (cHr t nn (i5 7437) 0).toInt) := fun h => congrArg Int32.toInt (kHr_c (t := t) (n := nn) (kj_v h) rfl)
        refine ft_ifS mi_k156 (vg6 == 0) 37 18 [] (by rfl) (fun c => ?_) (fun c => ?_)
        ·
          have c9 : vg6.toInt = (0 : Int32).toInt := kd_eq c; clear c
          have hG10 := kG_call hGg2 hGg6 (by decide +kernel)
          first | refine ft_goS mi_k156 1 38 [.int 1] (by rfl) ?_ | refine ft_go mi_k156 1 38 [(0, .ref 116)] [.int 1] ig6 ag6 qg6 rg6 (by rfl) ?_
          have efig6_7438 : (ig6 7438).toInt = (i5 7438).toInt := kg6.ti 7438 rfl
          have efig6_7429 : (ig6 7429).toInt = (i5 7429).toInt := kg6.ti 7429 rfl
          have efig6_7439 : (ig6 7439).toInt = (i5 7439).toInt := kg6.ti 7439 rfl
          exact ft_ret mi_k156 (by rfl) (hP 1 _ _ _ _ hG10 ⟨(oq351 c9 efig6_7429 efig6_7438 efig6_7439 p5_0 p5_2 p5_3 p5_4 p5_5 z7.1 koq0 koq38 koq1), (rGb_out O5_0 (tTkR og6 (kT2 (kg6.fi 7439 rfl) (kg6.fa 127 rfl))) (oq145 c9 koq0) (rTk_no (tTkR og6 (kT2 (kg6.fi 7439 rfl) (kg6.fa 127 rfl))) (oq145 c9 koq0)) rfl)⟩)
        ·
          have c11 : vg6.toInt ≠ (0 : Int32).toInt := kd_eqF c; clear c
          first | refine ft_goS mi_k156 1 19 [.ref 116] (by rfl) ?_ | refine ft_go mi_k156 1 19 [(0, .ref 116)] [.ref 116] ig6 ag6 qg6 rg6 (by rfl) ?_
          have efig6_7438 : (ig6 7438).toInt = (i5 7438).toInt := kg6.ti 7438 rfl
          have efig6_7439 : (ig6 7439).toInt = (i5 7439).toInt := kg6.ti 7439 rfl
          have efig6_7429 : (ig6 7429).toInt = (i5 7429).toInt := kg6.ti 7429 rfl
          refine ko_callI mi_k156.1 (pc := 19) (ls := [(0, .ref 116)]) (st := [.ref 116]) (h := ks ig6 ag6 qg6 rg6) (i := (.invokevirtual 202, 3, 155, 0, 9, 0, 399)) (mi_k156.2 _ _ (by rfl)) (ft_invS mi_pq155 (by rfl)) (cy := mi_c155) mi_pq155 rfl (h155 _ _ _ _ hGg6.I hGg6.R (oq254 efig6_7438 hp0 p5_0) (oq337 efig6_7439 hp1 p5_3 z7.1 koq38) (oq338 efig6_7429 p5_2 z7.1 koq38) t nn ((((kg6.fa 119 rfl).trans (hL5.fa 119 rfl)).trans (kg2.fa 119 rfl)).trans hT) (((kg6.fi 7429 rfl).trans ((hL5.fi 7429 rfl).trans (kg2.fi 7429 rfl))).trans hN) hX) (kj_d1 (n := n) (o := 13) (o1 := 14) (by decide)) ?_
          intro vg12 ig12 ag12 qg12 rg12 kg12 hg12
          have hGg12 := kG_call hGg6 kg12 (by decide +kernel)
          obtain ⟨hg12, og12⟩ := hg12
          have fig12_7437 : ((0 : Int) ≤ (ig12 7437).toInt) ∧ ((ig12 7437).toInt ≤ 120) := hGg12.I.1 7437
          have efig12_7429 : (ig12 7429).toInt = (ig6 7429).toInt := kg12.ti 7429 rfl
          have fig12_7439 : ((0 : Int) ≤ (ig12 7439).toInt) ∧ ((ig12 7439).toInt ≤ 200) := hGg12.I.1 7439
          have z13 : ((ig12 7438).toInt = (ig6 7438).toInt) ∧ ((ig6 7437).toInt ≤ (ig12 7437).toInt) ∧ ((ig12 7437).toInt ≤ (ig12 7429).toInt) ∧ (((ig12 7439).toInt - (ig12 7437).toInt) ≤ ((ig6 7439).toInt - (ig6 7437).toInt)) ∧ ((ig6 7439).toInt ≤ (ig12 7439).toInt) ∧ ((0 : Int) ≤ vg12.toInt) ∧ (vg12.toInt ≤ 1) ∧ (((vg12.toInt = 1) → (((ig6 7437).toInt + 1) ≤ (ig12 7437).toInt))) := hg12
          refine ft_ifS mi_k156 (vg12 != 0) 27 25 [] (by rfl) (fun c => ?_) (fun c => ?_)
          ·
            have c14 : vg12.toInt ≠ (0 : Int32).toInt := kd_ne c; clear c
            first | refine ft_goS mi_k156 2 30 [.int 7, .ref 116] (by rfl) ?_ | refine ft_go mi_k156 2 30 [(0, .ref 116)] [.int 7, .ref 116] ig12 ag12 qg12 rg12 (by rfl) ?_
            refine ko_callI mi_k156.1 (pc := 30) (ls := [(0, .ref 116)]) (st := [.int 7, .ref 116]) (h := ks ig12 ag12 qg12 rg12) (i := (.invokevirtual 177, 3, 149, 0, 9, 0, 405)) (mi_k156.2 _ _ (by rfl)) (ft_invS mi_pq149 (by rfl)) (cy := mi_c149) mi_pq149 rfl (kf149_116 hGg12.I hGg12.R 7 (oq339 efig6_7439 fig12_7437.2 fig12_7439.1 hp1 p5_3 z13.2.2.2.1 z7.1 koq38)) (kj_d3 (n := n) (c := 1) (o1 := 14) (by decide)) ?_
            intro vg15 ig15 ag15 qg15 rg15 kg15 hg15
            have hGg15 := kG_call hGg12 kg15 (by decide +kernel)
            obtain ⟨hg15, og15⟩ := hg15
            have z16 : (vg15.toInt = 1) ∧ ((ig15 7439).toInt = ((ig12 7439).toInt + 1)) := hg15
            have q17 : ag15 127 = (ag12 127).set (ig12 7439).toNatClampNeg (7 : Int32) := og15.1
            have q18 : ig15 7439 = ig12 7439 + 1 := og15.2
            first | refine ft_goS mi_k156 2 9 [] (by rfl) ?_ | refine ft_go mi_k156 2 9 [(0, .ref 116)] [] ig15 ag15 qg15 rg15 (by rfl) ?_
            have efig15_7438 : (ig15 7438).toInt = (ig12 7438).toInt := kg15.ti 7438 rfl
            have efig15_7437 : (ig15 7437).toInt = (ig12 7437).toInt := kg15.ti 7437 rfl
            have efig15_7429 : (ig15 7429).toInt = (ig12 7429).toInt := kg15.ti 7429 rfl
            exact ih5 _ _ _ _ hGg15 (oq352 efig15_7438 efig6_7438 p5_0 z13.1) (oq341 efig15_7437 p5_5 z13.2.1 z7.1 koq38) (oq260 efig15_7429 efig15_7437 z13.2.2.1) (oq353 c11 efig15_7437 efig6_7439 p5_3 z13.2.2.2.1 z16.2 z7.1 koq0 koq38) (oq276 efig6_7439 p5_4 z13.2.2.2.2.1 z16.2) (oq344 efig15_7437 p5_5 z13.2.1 z7.1 koq38) (rGb_again O5_0 (tTkR og6 (kT2 (kg6.fi 7439 rfl) (kg6.fa 127 rfl))) (oq345 c11 z7.1 koq0 koq38) (oq346 c11 efi5_7429 efig12_7429 efig2_7429 efig6_7429 hn1 z13.2.1 z13.2.2.1 z7.1 koq0 koq38) og12 (oq151 c14 z13.2.2.2.2.2.1 koq0) (tCod og15.1 og15.2 (kg15.fi 7437 rfl)) (oq347 c11 efig15_7437 z13.2.1 z7.1 koq0 koq38)) (kj_meas (oq348 c11 efig12_7429 efig15_7429 efig15_7437 efig6_7429 z13.2.1 z7.1 koq0 koq38) (oq349 c11 efig12_7429 efig6_7429 z13.2.1 z13.2.2.1 z7.1 koq0 koq38) hm5)
          ·
            have c19 : vg12.toInt = (0 : Int32).toInt := kd_neF c; clear c
            have hG20 := kG_call hGg2 hGg12 (by decide +kernel)
            first | refine ft_goS mi_k156 1 26 [.int 0] (by rfl) ?_ | refine ft_go mi_k156 1 26 [(0, .ref 116)] [.int 0] ig12 ag12 qg12 rg12 (by rfl) ?_
            exact ft_ret mi_k156 (by rfl) (hP 0 _ _ _ _ hG20 ⟨(oq354 efig6_7438 efig6_7439 p5_0 p5_3 p5_4 p5_5 z13.1 z13.2.1 z13.2.2.1 z13.2.2.2.1 z13.2.2.2.2.1 z7.1 koq38 koq0), (rGb_no O5_0 (tTkR og6 (kT2 (kg6.fi 7439 rfl) (kg6.fa 127 rfl))) (oq345 c11 z7.1 koq0 koq38) (oq346 c11 efi5_7429 efig12_7429 efig2_7429 efig6_7429 hn1 z13.2.1 z13.2.2.1 z7.1 koq0 koq38) og12 (oq143 c19 z13.2.2.2.2.2.1 koq0) rfl)⟩)
    exact lp5 _ _ _ _ _ (kG_self _ hGg2.I hGg2.R) (oq208 z3.1) (oq222 z3.2.1) (oq222 z3.2.2.1) (oq287 z3.2.2.2.1) (oq222 z3.2.2.2.2.1) (oq288 c4 z3.2.2.2.2.2.1 z3.2.2.2.2.2.2.1 z3.2.2.2.2.2.2.2 koq0) (rGb_begin og2 (oq151 c4 z3.2.2.2.2.2.1 koq0) (oq2 fig2_7437.1)) (Nat.lt_succ_self _)
  ·
    have c21 : vg2.toInt = (0 : Int32).toInt := kd_neF c; clear c
    first | refine ft_goS mi_k156 1 8 [.int 0] (by rfl) ?_ | refine ft_go mi_k156 1 8 [(0, .ref 116)] [.int 0] ig2 ag2 qg2 rg2 (by rfl) ?_
    exact ft_ret mi_k156 (by rfl) (hP 0 _ _ _ _ hGg2 ⟨(oq289 z3.1 z3.2.1 z3.2.2.1 z3.2.2.2.1 z3.2.2.2.2.1 koq0), (rBi_no og2 (oq143 c21 z3.2.2.2.2.2.1 koq0) rfl)⟩)
theorem rE_bin {t : List Int32} {n : Int32} {m : Nat} {S : rS} : rBin t n (rP6 t n (rO t n m)) 124 6 S = rE t n m S := rfl
set_option maxRecDepth 100000 in
theorem kMsQ_157 (n : Nat) (h152 : kMQ_152 n) (h153 : kMQ_153 n) (h154 : kMQ_154 n) (h155 : kMQ_155 n) (h156 : kMQ_156 n) : kMQ_157 n := by
  intro i a q r hI hr hp0 hp1 hp2 t nn hT hN hX
  have hG := kG_self wQ hI hr
  refine km_ofI (q := (mi_h157, mi_c157)) rfl (by decide) (Nat.le_of_ble_eq_true rfl) ?_
  intro P hP
  have hn0 : (0 : Int) ≤ (n : Int) := Int.natCast_nonneg n
  have hn1 : (i 7429).toInt = nn.toInt := congrArg Int32.toInt hN
  first | refine ft_goL mi_k157 1 1 [(0, .ref 116)] [.ref 116] (by rfl) ?_ | refine ft_go mi_k157 1 1 [(0, .ref 116)] [.ref 116] i a q r (by rfl) ?_
  refine ko_callI mi_k157.1 (pc := 1) (ls := [(0, .ref 116)]) (st := [.ref 116]) (h := ks i a q r) (i := (.invokevirtual 205, 3, 156, 0, 9, 0, 398)) (mi_k157.2 _ _ (by rfl)) (ft_invS mi_pq156 (by rfl)) (cy := mi_c156) mi_pq156 rfl (h156 _ _ _ _ hG.I hG.R (oq246 hp0) (oq222 hp1) (oq222 hp2) t nn hT hN hX) (kj_d1 (n := n) (o := 14) (o1 := 15) (by decide)) ?_
  intro vg2 ig2 ag2 qg2 rg2 kg2 hg2
  have hGg2 := kG_call hG kg2 (by decide +kernel)
  obtain ⟨hg2, og2⟩ := hg2
  have fig2_7437 : ((0 : Int) ≤ (ig2 7437).toInt) ∧ ((ig2 7437).toInt ≤ 120) := hGg2.I.1 7437
  have efig2_7429 : (ig2 7429).toInt = (i 7429).toInt := kg2.ti 7429 rfl
  have z3 : ((ig2 7438).toInt = (i 7438).toInt) ∧ ((i 7437).toInt ≤ (ig2 7437).toInt) ∧ ((ig2 7437).toInt ≤ (ig2 7429).toInt) ∧ (((ig2 7439).toInt - (ig2 7437).toInt) ≤ ((i 7439).toInt - (i 7437).toInt)) ∧ ((i 7439).toInt ≤ (ig2 7439).toInt) ∧ ((0 : Int) ≤ vg2.toInt) ∧ (vg2.toInt ≤ 1) ∧ (((vg2.toInt = 1) → (((i 7437).toInt + 1) ≤ (ig2 7437).toInt))) := hg2
  refine ft_ifS mi_k157 (vg2 != 0) 9 7 [] (by rfl) (fun c => ?_) (fun c => ?_)
  ·
    have c4 : vg2.toInt ≠ (0 : Int32).toInt := kd_ne c; clear c
    have lp5 : ∀ (nz : Nat) (i5 : Nat → Int32) (a5 : Nat → List Int32) (q5 : Nat → List Int64) (r5 : Nat → Nat), kG yw157_116_L9 ig2 ag2 qg2 rg2 i5 a5 q5 r5 → (i5 7438).toInt = (i 7438).toInt → (i 7437).toInt ≤ (i5 7437).toInt → (i5 7437).toInt ≤ (i5 7429).toInt → ((i5 7439).toInt - (i5 7437).toInt) ≤ ((i 7439).toInt - (i 7437).toInt) → (i 7439).toInt ≤ (i5 7439).toInt → ((i 7437).toInt + 1) ≤ (i5 7437).toInt → rGb t nn (rP6 t nn (rO t nn n)) 124 6 (i5 7437, i5 7439, a5 127) (rBin t nn (rP6 t nn (rO t nn n)) 124 6 (i 7437, i 7439, a 127)) → (((i5 7429).toInt - (i5 7437).toInt)).toNat < nz → ko (6 * n + 15) (mi_h157, mi_c157) P (9, [(0, .ref 116)], [], (0, 0), ks i5 a5 q5 r5) := by
      intro nz
      induction nz with
      | zero =>
        intro _ _ _ _ _ _ _ _ _ _ _ _ hm
        exact absurd hm (Nat.not_lt_zero _)
      | succ nz ih5 =>
        intro i5 a5 q5 r5 hL5 p5_0 p5_1 p5_2 p5_3 p5_4 p5_5 O5_0 hm5
        have efi5_7429 : (i5 7429).toInt = (ig2 7429).toInt := hL5.ti 7429 rfl
        first | refine ft_goL mi_k157 2 12 [(0, .ref 116)] [.int 124, .ref 116] (by rfl) ?_ | refine ft_go mi_k157 2 12 [(0, .ref 116)] [.int 124, .ref 116] i5 a5 q5 r5 (by rfl) ?_
        refine ko_callI mi_k157.1 (pc := 12) (ls := [(0, .ref 116)]) (st := [.int 124, .ref 116]) (h := ks i5 a5 q5 r5) (i := (.invokevirtual 187, 3, 148, 0, 9, 0, 407)) (mi_k157.2 _ _ (by rfl)) (ft_invS mi_pq148 (by rfl)) (cy := mi_c148) mi_pq148 rfl (ke148_116 hL5.I hL5.R 124 (oq355 koq124) t nn (((hL5.fa 119 rfl).trans (kg2.fa 119 rfl)).trans hT) (((hL5.fi 7429 rfl).trans (kg2.fi 7429 rfl)).trans hN) hX) (kj_d3 (n := n) (c := 3) (o1 := 15) (by decide)) ?_
        intro vg6 ig6 ag6 qg6 rg6 kg6 hg6
        have hGg6 := kG_call hL5 kg6 (by decide +kernel)
        obtain ⟨hg6, og6⟩ := hg6
        have z7 : (((vg6.toInt = 1) ∧ ((ig6 7437).toInt = ((i5 7437).toInt + 1)) ∧ ((i5 7437).toInt < (i5 7429).toInt) ∧ ((cHr t nn (i5 7437) 0).toInt = (124 : Int32).toInt)) ∨ ((vg6.toInt = 0) ∧ ((ig6 7437).toInt = (i5 7437).toInt))) ∧ (((vg6.toInt = 0) → ((cHr t nn (i5 7437) 0).toInt ≠ (124 : Int32).toInt))) := hg6
        have q8 : ((ig6 7437).toInt = (i5 7437).toInt → (cHr t nn (ig6 7437) 0).toInt = (cHr t nn (i5 7437) 0).toInt) := fun h => congrArg Int32.toInt (kHr_c (t := t) (n := nn) (kj_v h) rfl)
        refine ft_ifS mi_k157 (vg6 == 0) 37 18 [] (by rfl) (fun c => ?_) (fun c => ?_)
        ·
          have c9 : vg6.toInt = (0 : Int32).toInt := kd_eq c; clear c
          have hG10 := kG_call hGg2 hGg6 (by decide +kernel)
          first | refine ft_goS mi_k157 1 38 [.int 1] (by rfl) ?_ | refine ft_go mi_k157 1 38 [(0, .ref 116)] [.int 1] ig6 ag6 qg6 rg6 (by rfl) ?_
          have efig6_7438 : (ig6 7438).toInt = (i5 7438).toInt := kg6.ti 7438 rfl
          have efig6_7429 : (ig6 7429).toInt = (i5 7429).toInt := kg6.ti 7429 rfl
          have efig6_7439 : (ig6 7439).toInt = (i5 7439).toInt := kg6.ti 7439 rfl
          exact ft_ret mi_k157 (by rfl) (hP 1 _ _ _ _ hG10 ⟨(oq369 c9 efig6_7429 efig6_7438 efig6_7439 p5_0 p5_2 p5_3 p5_4 p5_5 z7.1 koq0 koq124 koq1), (Eq.trans (rGb_out O5_0 (tTkR og6 (kT2 (kg6.fi 7439 rfl) (kg6.fa 127 rfl))) (oq145 c9 koq0) (rTk_no (tTkR og6 (kT2 (kg6.fi 7439 rfl) (kg6.fa 127 rfl))) (oq145 c9 koq0)) rfl) rE_bin)⟩)
        ·
          have c11 : vg6.toInt ≠ (0 : Int32).toInt := kd_eqF c; clear c
          first | refine ft_goS mi_k157 1 19 [.ref 116] (by rfl) ?_ | refine ft_go mi_k157 1 19 [(0, .ref 116)] [.ref 116] ig6 ag6 qg6 rg6 (by rfl) ?_
          have efig6_7438 : (ig6 7438).toInt = (i5 7438).toInt := kg6.ti 7438 rfl
          have efig6_7439 : (ig6 7439).toInt = (i5 7439).toInt := kg6.ti 7439 rfl
          have efig6_7429 : (ig6 7429).toInt = (i5 7429).toInt := kg6.ti 7429 rfl
          refine ko_callI mi_k157.1 (pc := 19) (ls := [(0, .ref 116)]) (st := [.ref 116]) (h := ks ig6 ag6 qg6 rg6) (i := (.invokevirtual 205, 3, 156, 0, 9, 0, 398)) (mi_k157.2 _ _ (by rfl)) (ft_invS mi_pq156 (by rfl)) (cy := mi_c156) mi_pq156 rfl (h156 _ _ _ _ hGg6.I hGg6.R (oq254 efig6_7438 hp0 p5_0) (oq357 efig6_7439 hp1 p5_3 z7.1 koq124) (oq358 efig6_7429 p5_2 z7.1 koq124) t nn ((((kg6.fa 119 rfl).trans (hL5.fa 119 rfl)).trans (kg2.fa 119 rfl)).trans hT) (((kg6.fi 7429 rfl).trans ((hL5.fi 7429 rfl).trans (kg2.fi 7429 rfl))).trans hN) hX) (kj_d1 (n := n) (o := 14) (o1 := 15) (by decide)) ?_
          intro vg12 ig12 ag12 qg12 rg12 kg12 hg12
          have hGg12 := kG_call hGg6 kg12 (by decide +kernel)
          obtain ⟨hg12, og12⟩ := hg12
          have fig12_7437 : ((0 : Int) ≤ (ig12 7437).toInt) ∧ ((ig12 7437).toInt ≤ 120) := hGg12.I.1 7437
          have efig12_7429 : (ig12 7429).toInt = (ig6 7429).toInt := kg12.ti 7429 rfl
          have fig12_7439 : ((0 : Int) ≤ (ig12 7439).toInt) ∧ ((ig12 7439).toInt ≤ 200) := hGg12.I.1 7439
          have z13 : ((ig12 7438).toInt = (ig6 7438).toInt) ∧ ((ig6 7437).toInt ≤ (ig12 7437).toInt) ∧ ((ig12 7437).toInt ≤ (ig12 7429).toInt) ∧ (((ig12 7439).toInt - (ig12 7437).toInt) ≤ ((ig6 7439).toInt - (ig6 7437).toInt)) ∧ ((ig6 7439).toInt ≤ (ig12 7439).toInt) ∧ ((0 : Int) ≤ vg12.toInt) ∧ (vg12.toInt ≤ 1) ∧ (((vg12.toInt = 1) → (((ig6 7437).toInt + 1) ≤ (ig12 7437).toInt))) := hg12
          refine ft_ifS mi_k157 (vg12 != 0) 27 25 [] (by rfl) (fun c => ?_) (fun c => ?_)
          ·
            have c14 : vg12.toInt ≠ (0 : Int32).toInt := kd_ne c; clear c
            first | refine ft_goS mi_k157 2 30 [.int 6, .ref 116] (by rfl) ?_ | refine ft_go mi_k157 2 30 [(0, .ref 116)] [.int 6, .ref 116] ig12 ag12 qg12 rg12 (by rfl) ?_
            refine ko_callI mi_k157.1 (pc := 30) (ls := [(0, .ref 116)]) (st := [.int 6, .ref 116]) (h := ks ig12 ag12 qg12 rg12) (i := (.invokevirtual 177, 3, 149, 0, 9, 0, 405)) (mi_k157.2 _ _ (by rfl)) (ft_invS mi_pq149 (by rfl)) (cy := mi_c149) mi_pq149 rfl (kf149_116 hGg12.I hGg12.R 6 (oq359 efig6_7439 fig12_7437.2 fig12_7439.1 hp1 p5_3 z13.2.2.2.1 z7.1 koq124)) (kj_d3 (n := n) (c := 1) (o1 := 15) (by decide)) ?_
            intro vg15 ig15 ag15 qg15 rg15 kg15 hg15
            have hGg15 := kG_call hGg12 kg15 (by decide +kernel)
            obtain ⟨hg15, og15⟩ := hg15
            have z16 : (vg15.toInt = 1) ∧ ((ig15 7439).toInt = ((ig12 7439).toInt + 1)) := hg15
            have q17 : ag15 127 = (ag12 127).set (ig12 7439).toNatClampNeg (6 : Int32) := og15.1
            have q18 : ig15 7439 = ig12 7439 + 1 := og15.2
            first | refine ft_goS mi_k157 2 9 [] (by rfl) ?_ | refine ft_go mi_k157 2 9 [(0, .ref 116)] [] ig15 ag15 qg15 rg15 (by rfl) ?_
            have efig15_7438 : (ig15 7438).toInt = (ig12 7438).toInt := kg15.ti 7438 rfl
            have efig15_7437 : (ig15 7437).toInt = (ig12 7437).toInt := kg15.ti 7437 rfl
            have efig15_7429 : (ig15 7429).toInt = (ig12 7429).toInt := kg15.ti 7429 rfl
            exact ih5 _ _ _ _ hGg15 (oq352 efig15_7438 efig6_7438 p5_0 z13.1) (oq360 efig15_7437 p5_5 z13.2.1 z7.1 koq124) (oq260 efig15_7429 efig15_7437 z13.2.2.1) (oq370 c11 efig15_7437 efig6_7439 p5_3 z13.2.2.2.1 z16.2 z7.1 koq0 koq124) (oq276 efig6_7439 p5_4 z13.2.2.2.2.1 z16.2) (oq362 efig15_7437 p5_5 z13.2.1 z7.1 koq124) (rGb_again O5_0 (tTkR og6 (kT2 (kg6.fi 7439 rfl) (kg6.fa 127 rfl))) (oq363 c11 z7.1 koq0 koq124) (oq364 c11 efi5_7429 efig12_7429 efig2_7429 efig6_7429 hn1 z13.2.1 z13.2.2.1 z7.1 koq0 koq124) og12 (oq151 c14 z13.2.2.2.2.2.1 koq0) (tCod og15.1 og15.2 (kg15.fi 7437 rfl)) (oq365 c11 efig15_7437 z13.2.1 z7.1 koq0 koq124)) (kj_meas (oq366 c11 efig12_7429 efig15_7429 efig15_7437 efig6_7429 z13.2.1 z7.1 koq0 koq124) (oq367 c11 efig12_7429 efig6_7429 z13.2.1 z13.2.2.1 z7.1 koq0 koq124) hm5)
          ·
            have c19 : vg12.toInt = (0 : Int32).toInt := kd_neF c; clear c
            have hG20 := kG_call hGg2 hGg12 (by decide +kernel)
            first | refine ft_goS mi_k157 1 26 [.int 0] (by rfl) ?_ | refine ft_go mi_k157 1 26 [(0, .ref 116)] [.int 0] ig12 ag12 qg12 rg12 (by rfl) ?_
            exact ft_ret mi_k157 (by rfl) (hP 0 _ _ _ _ hG20 ⟨(oq371 efig6_7438 efig6_7439 p5_0 p5_3 p5_4 p5_5 z13.1 z13.2.1 z13.2.2.1 z13.2.2.2.1 z13.2.2.2.2.1 z7.1 koq124 koq0), (Eq.trans (rGb_no O5_0 (tTkR og6 (kT2 (kg6.fi 7439 rfl) (kg6.fa 127 rfl))) (oq363 c11 z7.1 koq0 koq124) (oq364 c11 efi5_7429 efig12_7429 efig2_7429 efig6_7429 hn1 z13.2.1 z13.2.2.1 z7.1 koq0 koq124) og12 (oq143 c19 z13.2.2.2.2.2.1 koq0) rfl) rE_bin)⟩)
    exact lp5 _ _ _ _ _ (kG_self _ hGg2.I hGg2.R) (oq208 z3.1) (oq222 z3.2.1) (oq222 z3.2.2.1) (oq287 z3.2.2.2.1) (oq222 z3.2.2.2.2.1) (oq288 c4 z3.2.2.2.2.2.1 z3.2.2.2.2.2.2.1 z3.2.2.2.2.2.2.2 koq0) (rGb_begin og2 (oq151 c4 z3.2.2.2.2.2.1 koq0) (oq2 fig2_7437.1)) (Nat.lt_succ_self _)
  ·
    have c21 : vg2.toInt = (0 : Int32).toInt := kd_neF c; clear c
    first | refine ft_goS mi_k157 1 8 [.int 0] (by rfl) ?_ | refine ft_go mi_k157 1 8 [(0, .ref 116)] [.int 0] ig2 ag2 qg2 rg2 (by rfl) ?_
    exact ft_ret mi_k157 (by rfl) (hP 0 _ _ _ _ hGg2 ⟨(oq289 z3.1 z3.2.1 z3.2.2.1 z3.2.2.2.1 z3.2.2.2.2.1 koq0), (Eq.trans (rBi_no og2 (oq143 c21 z3.2.2.2.2.2.1 koq0) rfl) rE_bin)⟩)
theorem kMallQ : ∀ n : Nat, kMQ_157 n ∧ kMQ_152 n
  | 0 => by
    have ih : ∀ m, 0 = m + 1 → kMQ_157 m ∧ kMQ_152 m := fun m h => by omega
    have h152 := kMsQ_152 0  ih
    have h153 := kMsQ_153 0 h152
    have h154 := kMsQ_154 0 h152 h153
    have h155 := kMsQ_155 0 h152 h153 h154
    have h156 := kMsQ_156 0 h152 h153 h154 h155
    have h157 := kMsQ_157 0 h152 h153 h154 h155 h156
    exact ⟨h157, h152⟩
  | n + 1 => by
    have ih : ∀ m, n + 1 = m + 1 → kMQ_157 m ∧ kMQ_152 m := fun m h => by
      have e : n = m := by omega
      subst e
      exact kMallQ n
    have h152 := kMsQ_152 (n + 1)  ih
    have h153 := kMsQ_153 (n + 1) h152
    have h154 := kMsQ_154 (n + 1) h152 h153
    have h155 := kMsQ_155 (n + 1) h152 h153 h154
    have h156 := kMsQ_156 (n + 1) h152 h153 h154 h155
    have h157 := kMsQ_157 (n + 1) h152 h153 h154 h155 h156
    exact ⟨h157, h152⟩
end
