theorem kot0 : (0 : Int32).toInt = 0 := by decide
theorem kot5 : (5 : Int32).toInt = 5 := by decide
theorem kot1 : (1 : Int32).toInt = 1 := by decide
theorem kot7 : (7 : Int32).toInt = 7 := by decide
theorem kotm1 : ((-1) : Int32).toInt = (-1) := by decide
theorem kot2 : (2 : Int32).toInt = 2 := by decide
theorem kot3 : (3 : Int32).toInt = 3 := by decide
theorem kot4 : (4 : Int32).toInt = 4 := by decide
theorem kot6 : (6 : Int32).toInt = 6 := by decide
theorem kot10 : (10 : Int32).toInt = 10 := by decide
theorem ot6 {a0 a1 a2 a3 : Int} (h0 : (0 : Int) ≤ a0) (h1 : a0 ≤ 5) (h2 : a1 ≤ a2) (h3 : a2 ≤ a3) (h4 : a1 = 0) (h5 : a3 = 7) : ((0 : Int) ≤ a0) ∧ (a0 ≤ 5) ∧ ((0 : Int) ≤ a2) ∧ (a2 ≤ 7) := by omega
theorem ot7 {a0 a1 a2 a3 : Int} (h0 : a0 ≠ a1) (h1 : (0 : Int) ≤ a0) (h2 : a1 = 0) : ¬ ((a2 = 0) ∧ ((0 : Int) ≤ a3) ∧ (a3 ≤ 7) ∧ (a0 = 0)) := by omega
theorem ot8 {a0 a1 a2 a3 a4 a5 a6 : Int} (h0 : a0 ≠ a1) (h1 : a0 ≠ a2) (h2 : (0 : Int) ≤ a0) (h3 : a1 = 0) (h4 : a2 = 1) : ¬ ((a3 = 0) ∧ ((0 : Int) ≤ a4) ∧ (a4 ≤ 7) ∧ (a0 = 1) ∧ ((0 : Int) ≤ a5) ∧ (a5 < a6)) := by omega
theorem ot9 {a0 a1 a2 : Int} (h0 : a0 = 0) : ¬ ((a0 = 1) ∧ ((0 : Int) ≤ a1) ∧ (a1 ≤ 7) ∧ (a2 = 0)) := by omega
theorem ot10 {a0 a1 a2 a3 a4 : Int} (h0 : a0 = 0) : ¬ ((a0 = 1) ∧ ((0 : Int) ≤ a1) ∧ (a1 ≤ 7) ∧ (a2 ≠ 0) ∧ (¬ ((a2 = 1) ∧ ((0 : Int) ≤ a3) ∧ (a3 < a4)))) := by omega
theorem ot11 {a0 a1 a2 a3 a4 : Int} (h0 : a0 = 0) : ¬ ((a0 = 1) ∧ ((0 : Int) ≤ a1) ∧ (a1 ≤ 7) ∧ (a2 = 1) ∧ ((0 : Int) ≤ a3) ∧ (a3 < a4)) := by omega
theorem ot12 {a0 a1 a2 : Int} (h0 : a0 = 0) : ¬ ((a0 = 2) ∧ ((0 : Int) ≤ a1) ∧ (a1 ≤ 7) ∧ (a2 = 0)) := by omega
theorem ot13 {a0 a1 a2 a3 a4 : Int} (h0 : a0 = 0) : ¬ ((a0 = 2) ∧ ((0 : Int) ≤ a1) ∧ (a1 ≤ 7) ∧ (a2 ≠ 0) ∧ (¬ ((a2 = 1) ∧ ((0 : Int) ≤ a3) ∧ (a3 < a4)))) := by omega
theorem ot14 {a0 a1 a2 a3 a4 : Int} (h0 : a0 = 0) : ¬ ((a0 = 2) ∧ ((0 : Int) ≤ a1) ∧ (a1 ≤ 7) ∧ (a2 = 1) ∧ ((0 : Int) ≤ a3) ∧ (a3 < a4)) := by omega
theorem ot15 {a0 a1 a2 : Int} (h0 : a0 = 0) : ¬ ((a0 = 3) ∧ ((0 : Int) ≤ a1) ∧ (a1 ≤ 7) ∧ (a2 = 0)) := by omega
theorem ot16 {a0 a1 a2 a3 a4 : Int} (h0 : a0 = 0) : ¬ ((a0 = 3) ∧ ((0 : Int) ≤ a1) ∧ (a1 ≤ 7) ∧ (a2 ≠ 0) ∧ (¬ ((a2 = 1) ∧ ((0 : Int) ≤ a3) ∧ (a3 < a4)))) := by omega
theorem ot17 {a0 a1 a2 a3 a4 : Int} (h0 : a0 = 0) : ¬ ((a0 = 3) ∧ ((0 : Int) ≤ a1) ∧ (a1 ≤ 7) ∧ (a2 = 1) ∧ ((0 : Int) ≤ a3) ∧ (a3 < a4)) := by omega
theorem ot18 {a0 a1 a2 : Int} (h0 : a0 = 0) : ¬ ((a0 = 4) ∧ ((0 : Int) ≤ a1) ∧ (a1 ≤ 7) ∧ (a2 = 0)) := by omega
theorem ot19 {a0 a1 a2 a3 a4 : Int} (h0 : a0 = 0) : ¬ ((a0 = 4) ∧ ((0 : Int) ≤ a1) ∧ (a1 ≤ 7) ∧ (a2 ≠ 0) ∧ (¬ ((a2 = 1) ∧ ((0 : Int) ≤ a3) ∧ (a3 < a4)))) := by omega
theorem ot20 {a0 a1 a2 a3 a4 : Int} (h0 : a0 = 0) : ¬ ((a0 = 4) ∧ ((0 : Int) ≤ a1) ∧ (a1 ≤ 7) ∧ (a2 = 1) ∧ ((0 : Int) ≤ a3) ∧ (a3 < a4)) := by omega
theorem ot21 {a0 a1 a2 : Int} (h0 : a0 = 0) : ¬ ((a0 = 5) ∧ ((0 : Int) ≤ a1) ∧ (a1 ≤ 7) ∧ (a2 = 0)) := by omega
theorem ot22 {a0 a1 a2 a3 a4 : Int} (h0 : a0 = 0) : ¬ ((a0 = 5) ∧ ((0 : Int) ≤ a1) ∧ (a1 ≤ 7) ∧ (a2 ≠ 0) ∧ (¬ ((a2 = 1) ∧ ((0 : Int) ≤ a3) ∧ (a3 < a4)))) := by omega
theorem ot23 {a0 a1 a2 a3 a4 : Int} (h0 : a0 = 0) : ¬ ((a0 = 5) ∧ ((0 : Int) ≤ a1) ∧ (a1 ≤ 7) ∧ (a2 = 1) ∧ ((0 : Int) ≤ a3) ∧ (a3 < a4)) := by omega
theorem ot28 {a0 : Int} (h0 : (0 : Int) ≤ a0) : (0 : Int) ≤ a0 := by omega
theorem ot29 {a0 a1 : Int} (h0 : a0 ≤ 50) (h1 : a1 < a0) : a1 < 50 := by omega
theorem ot30 {a0 : Int} (h0 : a0 = 0) : (0 : Int) ≤ a0 := by omega
theorem ot31 {a0 : Int} (h0 : a0 = 0) : a0 < 8 := by omega
theorem ot32 {a0 a1 : Int} (h0 : a0 ≠ a1) (h1 : a0 = 0) : a1 ≠ 0 := by omega
theorem ot33 {a0 a1 : Int} (h0 : a0 = a1) (h1 : a0 = 0) : a1 = 0 := by omega
theorem ot34 {a0 a1 a2 a3 : Int} (h0 : a0 = a1) (h1 : a1 = 1) : ¬ ((a2 = 0) ∧ ((0 : Int) ≤ a3) ∧ (a3 ≤ 7) ∧ (a0 = 0)) := by omega
theorem ot35 {a0 a1 a2 a3 a4 a5 : Int} (h0 : a0 = a1) (h1 : (0 : Int) ≤ a2) (h2 : a2 < a3) (h3 : a1 = 1) : ¬ ((a4 = 0) ∧ ((0 : Int) ≤ a5) ∧ (a5 ≤ 7) ∧ (a0 ≠ 0) ∧ (¬ ((a0 = 1) ∧ ((0 : Int) ≤ a2) ∧ (a2 < a3)))) := by omega
theorem ot36 {a0 a1 a2 : Int} (h0 : a0 = 0) (h1 : a1 ≤ a0) (h2 : a1 = 0) : a0 = 0 ∨ a0 = a2 ∨ (a2 = 3 ∧ a0 = 2) ∨ (a2 = 4 ∧ a0 = 1) ∨ (a2 = 5 ∧ a0 = 3) ∨ (a2 = 5 ∧ a0 = 2) ∨ (a2 = 7 ∧ a0 = 4) ∨ (a2 = 7 ∧ a0 = 1) := by omega
theorem ot37 {a0 a1 a2 : Int} (h0 : a0 = 0) (h1 : a1 ≠ 0) (h2 : a2 ≤ a1) (h3 : a2 = 0) : ¬ (a1 = 0 ∨ a1 = a0 ∨ (a0 = 3 ∧ a1 = 2) ∨ (a0 = 4 ∧ a1 = 1) ∨ (a0 = 5 ∧ a1 = 3) ∨ (a0 = 5 ∧ a1 = 2) ∨ (a0 = 7 ∧ a1 = 4) ∨ (a0 = 7 ∧ a1 = 1)) := by omega
theorem ot38 {a0 : Int} (h0 : a0 = 1) : (0 : Int) ≤ a0 := by omega
theorem ot39 {a0 : Int} (h0 : a0 = 1) : a0 < 8 := by omega
theorem ot40 {a0 a1 a2 : Int} (h0 : a0 ≠ a1) (h1 : a2 ≠ a1) (h2 : a0 = 1) (h3 : a2 = 0) : (a1 ≠ 1) ∧ (a1 ≠ 0) := by omega
theorem ot41 {a0 a1 : Int} (h0 : a0 = a1) (h1 : a0 = 0) : (a1 = 1) ∨ (a1 = 0) := by omega
theorem ot42 {a0 a1 : Int} (h0 : a0 = a1) (h1 : a0 = 1) : (a1 = 1) ∨ (a1 = 0) := by omega
theorem ot43 {a0 a1 a2 : Int} (h0 : a0 = 1) (h1 : (a1 = 1) ∨ (a1 = 0)) (h2 : a2 ≤ a1) (h3 : a2 = 0) : a1 = 0 ∨ a1 = a0 ∨ (a0 = 3 ∧ a1 = 2) ∨ (a0 = 4 ∧ a1 = 1) ∨ (a0 = 5 ∧ a1 = 3) ∨ (a0 = 5 ∧ a1 = 2) ∨ (a0 = 7 ∧ a1 = 4) ∨ (a0 = 7 ∧ a1 = 1) := by omega
theorem ot44 {a0 a1 a2 : Int} (h0 : a0 = 1) (h1 : a1 ≠ 1) (h2 : a1 ≠ 0) (h3 : a2 ≤ a1) (h4 : a2 = 0) : ¬ (a1 = 0 ∨ a1 = a0 ∨ (a0 = 3 ∧ a1 = 2) ∨ (a0 = 4 ∧ a1 = 1) ∨ (a0 = 5 ∧ a1 = 3) ∨ (a0 = 5 ∧ a1 = 2) ∨ (a0 = 7 ∧ a1 = 4) ∨ (a0 = 7 ∧ a1 = 1)) := by omega
theorem ot45 {a0 : Int} (h0 : a0 = 2) : (0 : Int) ≤ a0 := by omega
theorem ot46 {a0 : Int} (h0 : a0 = 2) : a0 < 8 := by omega
theorem ot47 {a0 a1 a2 : Int} (h0 : a0 ≠ a1) (h1 : a2 ≠ a1) (h2 : a0 = 2) (h3 : a2 = 0) : (a1 ≠ 2) ∧ (a1 ≠ 0) := by omega
theorem ot48 {a0 a1 : Int} (h0 : a0 = a1) (h1 : a0 = 0) : (a1 = 2) ∨ (a1 = 0) := by omega
theorem ot49 {a0 a1 : Int} (h0 : a0 = a1) (h1 : a0 = 2) : (a1 = 2) ∨ (a1 = 0) := by omega
theorem ot50 {a0 a1 a2 : Int} (h0 : a0 = 2) (h1 : (a1 = 2) ∨ (a1 = 0)) (h2 : a2 ≤ a1) (h3 : a2 = 0) : a1 = 0 ∨ a1 = a0 ∨ (a0 = 3 ∧ a1 = 2) ∨ (a0 = 4 ∧ a1 = 1) ∨ (a0 = 5 ∧ a1 = 3) ∨ (a0 = 5 ∧ a1 = 2) ∨ (a0 = 7 ∧ a1 = 4) ∨ (a0 = 7 ∧ a1 = 1) := by omega
theorem ot51 {a0 a1 a2 : Int} (h0 : a0 = 2) (h1 : a1 ≠ 2) (h2 : a1 ≠ 0) (h3 : a2 ≤ a1) (h4 : a2 = 0) : ¬ (a1 = 0 ∨ a1 = a0 ∨ (a0 = 3 ∧ a1 = 2) ∨ (a0 = 4 ∧ a1 = 1) ∨ (a0 = 5 ∧ a1 = 3) ∨ (a0 = 5 ∧ a1 = 2) ∨ (a0 = 7 ∧ a1 = 4) ∨ (a0 = 7 ∧ a1 = 1)) := by omega
theorem ot52 {a0 : Int} (h0 : a0 = 3) : (0 : Int) ≤ a0 := by omega
theorem ot53 {a0 : Int} (h0 : a0 = 3) : a0 < 8 := by omega
theorem ot54 {a0 a1 a2 a3 : Int} (h0 : a0 ≠ a1) (h1 : a2 ≠ a1) (h2 : a3 ≠ a1) (h3 : a0 = 3) (h4 : a2 = 2) (h5 : a3 = 0) : (a1 ≠ 3) ∧ (a1 ≠ 2) ∧ (a1 ≠ 0) := by omega
theorem ot55 {a0 a1 : Int} (h0 : a0 = a1) (h1 : a0 = 0) : (a1 = 3) ∨ (a1 = 2) ∨ (a1 = 0) := by omega
theorem ot56 {a0 a1 : Int} (h0 : a0 = a1) (h1 : a0 = 2) : (a1 = 3) ∨ (a1 = 2) ∨ (a1 = 0) := by omega
theorem ot57 {a0 a1 : Int} (h0 : a0 = a1) (h1 : a0 = 3) : (a1 = 3) ∨ (a1 = 2) ∨ (a1 = 0) := by omega
theorem ot58 {a0 a1 a2 : Int} (h0 : a0 = 3) (h1 : (a1 = 3) ∨ (a1 = 2) ∨ (a1 = 0)) (h2 : a2 ≤ a1) (h3 : a2 = 0) : a1 = 0 ∨ a1 = a0 ∨ (a0 = 3 ∧ a1 = 2) ∨ (a0 = 4 ∧ a1 = 1) ∨ (a0 = 5 ∧ a1 = 3) ∨ (a0 = 5 ∧ a1 = 2) ∨ (a0 = 7 ∧ a1 = 4) ∨ (a0 = 7 ∧ a1 = 1) := by omega
theorem ot59 {a0 a1 a2 : Int} (h0 : a0 = 3) (h1 : a1 ≠ 3) (h2 : a1 ≠ 2) (h3 : a1 ≠ 0) (h4 : a2 ≤ a1) (h5 : a2 = 0) : ¬ (a1 = 0 ∨ a1 = a0 ∨ (a0 = 3 ∧ a1 = 2) ∨ (a0 = 4 ∧ a1 = 1) ∨ (a0 = 5 ∧ a1 = 3) ∨ (a0 = 5 ∧ a1 = 2) ∨ (a0 = 7 ∧ a1 = 4) ∨ (a0 = 7 ∧ a1 = 1)) := by omega
theorem ot60 {a0 : Int} (h0 : a0 = 4) : (0 : Int) ≤ a0 := by omega
theorem ot61 {a0 : Int} (h0 : a0 = 4) : a0 < 8 := by omega
theorem ot62 {a0 a1 a2 a3 : Int} (h0 : a0 ≠ a1) (h1 : a2 ≠ a1) (h2 : a3 ≠ a1) (h3 : a0 = 4) (h4 : a2 = 1) (h5 : a3 = 0) : (a1 ≠ 4) ∧ (a1 ≠ 1) ∧ (a1 ≠ 0) := by omega
theorem ot63 {a0 a1 : Int} (h0 : a0 = a1) (h1 : a0 = 0) : (a1 = 4) ∨ (a1 = 1) ∨ (a1 = 0) := by omega
theorem ot64 {a0 a1 : Int} (h0 : a0 = a1) (h1 : a0 = 1) : (a1 = 4) ∨ (a1 = 1) ∨ (a1 = 0) := by omega
theorem ot65 {a0 a1 : Int} (h0 : a0 = a1) (h1 : a0 = 4) : (a1 = 4) ∨ (a1 = 1) ∨ (a1 = 0) := by omega
theorem ot66 {a0 a1 a2 : Int} (h0 : a0 = 4) (h1 : (a1 = 4) ∨ (a1 = 1) ∨ (a1 = 0)) (h2 : a2 ≤ a1) (h3 : a2 = 0) : a1 = 0 ∨ a1 = a0 ∨ (a0 = 3 ∧ a1 = 2) ∨ (a0 = 4 ∧ a1 = 1) ∨ (a0 = 5 ∧ a1 = 3) ∨ (a0 = 5 ∧ a1 = 2) ∨ (a0 = 7 ∧ a1 = 4) ∨ (a0 = 7 ∧ a1 = 1) := by omega
theorem ot67 {a0 a1 a2 : Int} (h0 : a0 = 4) (h1 : a1 ≠ 4) (h2 : a1 ≠ 1) (h3 : a1 ≠ 0) (h4 : a2 ≤ a1) (h5 : a2 = 0) : ¬ (a1 = 0 ∨ a1 = a0 ∨ (a0 = 3 ∧ a1 = 2) ∨ (a0 = 4 ∧ a1 = 1) ∨ (a0 = 5 ∧ a1 = 3) ∨ (a0 = 5 ∧ a1 = 2) ∨ (a0 = 7 ∧ a1 = 4) ∨ (a0 = 7 ∧ a1 = 1)) := by omega
theorem ot68 {a0 : Int} (h0 : a0 = 5) : (0 : Int) ≤ a0 := by omega
theorem ot69 {a0 : Int} (h0 : a0 = 5) : a0 < 8 := by omega
theorem ot70 {a0 a1 a2 a3 a4 : Int} (h0 : a0 ≠ a1) (h1 : a2 ≠ a1) (h2 : a3 ≠ a1) (h3 : a4 ≠ a1) (h4 : a0 = 5) (h5 : a2 = 3) (h6 : a3 = 2) (h7 : a4 = 0) : (a1 ≠ 5) ∧ (a1 ≠ 3) ∧ (a1 ≠ 2) ∧ (a1 ≠ 0) := by omega
theorem ot71 {a0 a1 : Int} (h0 : a0 = a1) (h1 : a0 = 0) : (a1 = 5) ∨ (a1 = 3) ∨ (a1 = 2) ∨ (a1 = 0) := by omega
theorem ot72 {a0 a1 : Int} (h0 : a0 = a1) (h1 : a0 = 2) : (a1 = 5) ∨ (a1 = 3) ∨ (a1 = 2) ∨ (a1 = 0) := by omega
theorem ot73 {a0 a1 : Int} (h0 : a0 = a1) (h1 : a0 = 3) : (a1 = 5) ∨ (a1 = 3) ∨ (a1 = 2) ∨ (a1 = 0) := by omega
theorem ot74 {a0 a1 : Int} (h0 : a0 = a1) (h1 : a0 = 5) : (a1 = 5) ∨ (a1 = 3) ∨ (a1 = 2) ∨ (a1 = 0) := by omega
theorem ot75 {a0 a1 a2 : Int} (h0 : a0 = 5) (h1 : (a1 = 5) ∨ (a1 = 3) ∨ (a1 = 2) ∨ (a1 = 0)) (h2 : a2 ≤ a1) (h3 : a2 = 0) : a1 = 0 ∨ a1 = a0 ∨ (a0 = 3 ∧ a1 = 2) ∨ (a0 = 4 ∧ a1 = 1) ∨ (a0 = 5 ∧ a1 = 3) ∨ (a0 = 5 ∧ a1 = 2) ∨ (a0 = 7 ∧ a1 = 4) ∨ (a0 = 7 ∧ a1 = 1) := by omega
theorem ot76 {a0 a1 a2 : Int} (h0 : a0 = 5) (h1 : a1 ≠ 5) (h2 : a1 ≠ 3) (h3 : a1 ≠ 2) (h4 : a1 ≠ 0) (h5 : a2 ≤ a1) (h6 : a2 = 0) : ¬ (a1 = 0 ∨ a1 = a0 ∨ (a0 = 3 ∧ a1 = 2) ∨ (a0 = 4 ∧ a1 = 1) ∨ (a0 = 5 ∧ a1 = 3) ∨ (a0 = 5 ∧ a1 = 2) ∨ (a0 = 7 ∧ a1 = 4) ∨ (a0 = 7 ∧ a1 = 1)) := by omega
theorem ot77 {a0 : Int} (h0 : a0 = 6) : (0 : Int) ≤ a0 := by omega
theorem ot78 {a0 : Int} (h0 : a0 = 6) : a0 < 8 := by omega
theorem ot79 {a0 a1 a2 : Int} (h0 : a0 ≠ a1) (h1 : a2 ≠ a1) (h2 : a0 = 6) (h3 : a2 = 0) : (a1 ≠ 6) ∧ (a1 ≠ 0) := by omega
theorem ot80 {a0 a1 : Int} (h0 : a0 = a1) (h1 : a0 = 0) : (a1 = 6) ∨ (a1 = 0) := by omega
theorem ot81 {a0 a1 : Int} (h0 : a0 = a1) (h1 : a0 = 6) : (a1 = 6) ∨ (a1 = 0) := by omega
theorem ot82 {a0 a1 a2 : Int} (h0 : a0 = 6) (h1 : (a1 = 6) ∨ (a1 = 0)) (h2 : a2 ≤ a1) (h3 : a2 = 0) : a1 = 0 ∨ a1 = a0 ∨ (a0 = 3 ∧ a1 = 2) ∨ (a0 = 4 ∧ a1 = 1) ∨ (a0 = 5 ∧ a1 = 3) ∨ (a0 = 5 ∧ a1 = 2) ∨ (a0 = 7 ∧ a1 = 4) ∨ (a0 = 7 ∧ a1 = 1) := by omega
theorem ot83 {a0 a1 a2 : Int} (h0 : a0 = 6) (h1 : a1 ≠ 6) (h2 : a1 ≠ 0) (h3 : a2 ≤ a1) (h4 : a2 = 0) : ¬ (a1 = 0 ∨ a1 = a0 ∨ (a0 = 3 ∧ a1 = 2) ∨ (a0 = 4 ∧ a1 = 1) ∨ (a0 = 5 ∧ a1 = 3) ∨ (a0 = 5 ∧ a1 = 2) ∨ (a0 = 7 ∧ a1 = 4) ∨ (a0 = 7 ∧ a1 = 1)) := by omega
theorem ot84 {a0 : Int} (h0 : a0 = 7) : (0 : Int) ≤ a0 := by omega
theorem ot85 {a0 : Int} (h0 : a0 = 7) : a0 < 8 := by omega
theorem ot86 {a0 a1 a2 a3 a4 : Int} (h0 : a0 ≠ a1) (h1 : a2 ≠ a1) (h2 : a3 ≠ a1) (h3 : a4 ≠ a1) (h4 : a0 = 7) (h5 : a2 = 4) (h6 : a3 = 1) (h7 : a4 = 0) : (a1 ≠ 7) ∧ (a1 ≠ 4) ∧ (a1 ≠ 1) ∧ (a1 ≠ 0) := by omega
theorem ot87 {a0 a1 : Int} (h0 : a0 = a1) (h1 : a0 = 0) : (a1 = 7) ∨ (a1 = 4) ∨ (a1 = 1) ∨ (a1 = 0) := by omega
theorem ot88 {a0 a1 : Int} (h0 : a0 = a1) (h1 : a0 = 1) : (a1 = 7) ∨ (a1 = 4) ∨ (a1 = 1) ∨ (a1 = 0) := by omega
theorem ot89 {a0 a1 : Int} (h0 : a0 = a1) (h1 : a0 = 4) : (a1 = 7) ∨ (a1 = 4) ∨ (a1 = 1) ∨ (a1 = 0) := by omega
theorem ot90 {a0 a1 : Int} (h0 : a0 = a1) (h1 : a0 = 7) : (a1 = 7) ∨ (a1 = 4) ∨ (a1 = 1) ∨ (a1 = 0) := by omega
theorem ot91 {a0 a1 a2 a3 : Int} (h0 : a0 ≤ 7) (h1 : a0 = 7) (h2 : a1 ≤ a2) (h3 : a2 ≤ a3) (h4 : (a2 = 7) ∨ (a2 = 4) ∨ (a2 = 1) ∨ (a2 = 0)) (h5 : a1 = 0) (h6 : a3 = 7) : a2 = 0 ∨ a2 = a0 ∨ (a0 = 3 ∧ a2 = 2) ∨ (a0 = 4 ∧ a2 = 1) ∨ (a0 = 5 ∧ a2 = 3) ∨ (a0 = 5 ∧ a2 = 2) ∨ (a0 = 7 ∧ a2 = 4) ∨ (a0 = 7 ∧ a2 = 1) := by omega
theorem ot92 {a0 a1 a2 a3 : Int} (h0 : a0 = 7) (h1 : a1 ≤ a2) (h2 : a2 ≤ a3) (h3 : a2 ≠ 7) (h4 : a2 ≠ 4) (h5 : a2 ≠ 1) (h6 : a2 ≠ 0) (h7 : a1 = 0) (h8 : a3 = 7) : ¬ (a2 = 0 ∨ a2 = a0 ∨ (a0 = 3 ∧ a2 = 2) ∨ (a0 = 4 ∧ a2 = 1) ∨ (a0 = 5 ∧ a2 = 3) ∨ (a0 = 5 ∧ a2 = 2) ∨ (a0 = 7 ∧ a2 = 4) ∨ (a0 = 7 ∧ a2 = 1)) := by omega
theorem ot93 {a0 : Int} (h0 : (0 : Int) ≤ a0) (h1 : a0 ≤ 7) (h2 : ¬ (a0 = 0)) (h3 : ¬ (a0 = 1)) (h4 : ¬ (a0 = 2)) (h5 : ¬ (a0 = 3)) (h6 : ¬ (a0 = 4)) (h7 : ¬ (a0 = 5)) (h8 : ¬ (a0 = 6)) (h9 : ¬ (a0 = 7)) : False := by omega
theorem ot94 {a0 a1 a2 a3 a4 : Int} (h0 : ¬ (((0 : Int) ≤ a0) ∧ (a0 < a1))) : ¬ ((a2 = 0) ∧ ((0 : Int) ≤ a3) ∧ (a3 ≤ 7) ∧ (a4 = 1) ∧ ((0 : Int) ≤ a0) ∧ (a0 < a1)) := by omega
theorem ot95 {a0 a1 a2 a3 a4 a5 : Int} (h0 : a0 = a1) (h1 : (0 : Int) ≤ a0) (h2 : a1 = 0) : ¬ ((a2 = 0) ∧ ((0 : Int) ≤ a3) ∧ (a3 ≤ 7) ∧ (a0 ≠ 0) ∧ (¬ ((a0 = 1) ∧ ((0 : Int) ≤ a4) ∧ (a4 < a5)))) := by omega
theorem ot96 {a0 a1 a2 a3 a4 a5 : Int} (h0 : a0 = a1) (h1 : a1 = 0) : ¬ ((a2 = 0) ∧ ((0 : Int) ≤ a3) ∧ (a3 ≤ 7) ∧ (a0 = 1) ∧ ((0 : Int) ≤ a4) ∧ (a4 < a5)) := by omega
theorem ot97 {a0 a1 a2 a3 : Int} (h0 : a0 = 1) (h1 : a0 ≤ 5) (h2 : a1 ≤ a2) (h3 : a2 ≤ a3) (h4 : a1 = 0) (h5 : a3 = 7) : ((0 : Int) ≤ a0) ∧ (a0 ≤ 5) ∧ ((0 : Int) ≤ a2) ∧ (a2 ≤ 7) := by omega
theorem ot98 {a0 a1 a2 : Int} (h0 : a0 = 1) : ¬ ((a0 = 0) ∧ ((0 : Int) ≤ a1) ∧ (a1 ≤ 7) ∧ (a2 = 0)) := by omega
theorem ot99 {a0 a1 a2 a3 a4 : Int} (h0 : a0 = 1) : ¬ ((a0 = 0) ∧ ((0 : Int) ≤ a1) ∧ (a1 ≤ 7) ∧ (a2 ≠ 0) ∧ (¬ ((a2 = 1) ∧ ((0 : Int) ≤ a3) ∧ (a3 < a4)))) := by omega
theorem ot100 {a0 a1 a2 a3 a4 : Int} (h0 : a0 = 1) : ¬ ((a0 = 0) ∧ ((0 : Int) ≤ a1) ∧ (a1 ≤ 7) ∧ (a2 = 1) ∧ ((0 : Int) ≤ a3) ∧ (a3 < a4)) := by omega
theorem ot101 {a0 a1 a2 a3 : Int} (h0 : a0 ≠ a1) (h1 : (0 : Int) ≤ a0) (h2 : a1 = 0) : ¬ ((a2 = 1) ∧ ((0 : Int) ≤ a3) ∧ (a3 ≤ 7) ∧ (a0 = 0)) := by omega
theorem ot102 {a0 a1 a2 a3 a4 a5 a6 : Int} (h0 : a0 ≠ a1) (h1 : a0 ≠ a2) (h2 : (0 : Int) ≤ a0) (h3 : a1 = 0) (h4 : a2 = 1) : ¬ ((a3 = 1) ∧ ((0 : Int) ≤ a4) ∧ (a4 ≤ 7) ∧ (a0 = 1) ∧ ((0 : Int) ≤ a5) ∧ (a5 < a6)) := by omega
theorem ot103 {a0 a1 a2 : Int} (h0 : a0 = 1) : ¬ ((a0 = 2) ∧ ((0 : Int) ≤ a1) ∧ (a1 ≤ 7) ∧ (a2 = 0)) := by omega
theorem ot104 {a0 a1 a2 a3 a4 : Int} (h0 : a0 = 1) : ¬ ((a0 = 2) ∧ ((0 : Int) ≤ a1) ∧ (a1 ≤ 7) ∧ (a2 ≠ 0) ∧ (¬ ((a2 = 1) ∧ ((0 : Int) ≤ a3) ∧ (a3 < a4)))) := by omega
theorem ot105 {a0 a1 a2 a3 a4 : Int} (h0 : a0 = 1) : ¬ ((a0 = 2) ∧ ((0 : Int) ≤ a1) ∧ (a1 ≤ 7) ∧ (a2 = 1) ∧ ((0 : Int) ≤ a3) ∧ (a3 < a4)) := by omega
theorem ot106 {a0 a1 a2 : Int} (h0 : a0 = 1) : ¬ ((a0 = 3) ∧ ((0 : Int) ≤ a1) ∧ (a1 ≤ 7) ∧ (a2 = 0)) := by omega
theorem ot107 {a0 a1 a2 a3 a4 : Int} (h0 : a0 = 1) : ¬ ((a0 = 3) ∧ ((0 : Int) ≤ a1) ∧ (a1 ≤ 7) ∧ (a2 ≠ 0) ∧ (¬ ((a2 = 1) ∧ ((0 : Int) ≤ a3) ∧ (a3 < a4)))) := by omega
theorem ot108 {a0 a1 a2 a3 a4 : Int} (h0 : a0 = 1) : ¬ ((a0 = 3) ∧ ((0 : Int) ≤ a1) ∧ (a1 ≤ 7) ∧ (a2 = 1) ∧ ((0 : Int) ≤ a3) ∧ (a3 < a4)) := by omega
theorem ot109 {a0 a1 a2 : Int} (h0 : a0 = 1) : ¬ ((a0 = 4) ∧ ((0 : Int) ≤ a1) ∧ (a1 ≤ 7) ∧ (a2 = 0)) := by omega
theorem ot110 {a0 a1 a2 a3 a4 : Int} (h0 : a0 = 1) : ¬ ((a0 = 4) ∧ ((0 : Int) ≤ a1) ∧ (a1 ≤ 7) ∧ (a2 ≠ 0) ∧ (¬ ((a2 = 1) ∧ ((0 : Int) ≤ a3) ∧ (a3 < a4)))) := by omega
theorem ot111 {a0 a1 a2 a3 a4 : Int} (h0 : a0 = 1) : ¬ ((a0 = 4) ∧ ((0 : Int) ≤ a1) ∧ (a1 ≤ 7) ∧ (a2 = 1) ∧ ((0 : Int) ≤ a3) ∧ (a3 < a4)) := by omega
theorem ot112 {a0 a1 a2 : Int} (h0 : a0 = 1) : ¬ ((a0 = 5) ∧ ((0 : Int) ≤ a1) ∧ (a1 ≤ 7) ∧ (a2 = 0)) := by omega
theorem ot113 {a0 a1 a2 a3 a4 : Int} (h0 : a0 = 1) : ¬ ((a0 = 5) ∧ ((0 : Int) ≤ a1) ∧ (a1 ≤ 7) ∧ (a2 ≠ 0) ∧ (¬ ((a2 = 1) ∧ ((0 : Int) ≤ a3) ∧ (a3 < a4)))) := by omega
theorem ot114 {a0 a1 a2 a3 a4 : Int} (h0 : a0 = 1) : ¬ ((a0 = 5) ∧ ((0 : Int) ≤ a1) ∧ (a1 ≤ 7) ∧ (a2 = 1) ∧ ((0 : Int) ≤ a3) ∧ (a3 < a4)) := by omega
theorem ot115 {a0 a1 a2 a3 : Int} (h0 : a0 = a1) (h1 : a1 = 1) : ¬ ((a2 = 1) ∧ ((0 : Int) ≤ a3) ∧ (a3 ≤ 7) ∧ (a0 = 0)) := by omega
theorem ot116 {a0 a1 a2 a3 a4 a5 : Int} (h0 : a0 = a1) (h1 : (0 : Int) ≤ a2) (h2 : a2 < a3) (h3 : a1 = 1) : ¬ ((a4 = 1) ∧ ((0 : Int) ≤ a5) ∧ (a5 ≤ 7) ∧ (a0 ≠ 0) ∧ (¬ ((a0 = 1) ∧ ((0 : Int) ≤ a2) ∧ (a2 < a3)))) := by omega
theorem ot117 {a0 a1 a2 : Int} (h0 : a0 ≤ a1) (h1 : a1 = 0) (h2 : a0 = 0) : a1 = 0 ∨ a1 = a2 ∨ (a2 = 3 ∧ a1 = 2) ∨ (a2 = 4 ∧ a1 = 1) ∨ (a2 = 5 ∧ a1 = 3) ∨ (a2 = 5 ∧ a1 = 2) ∨ (a2 = 7 ∧ a1 = 4) ∨ (a2 = 7 ∧ a1 = 1) := by omega
theorem ot118 {a0 a1 a2 : Int} (h0 : a0 = 0) (h1 : a1 ≤ a2) (h2 : a2 ≠ 0) (h3 : a1 = 0) : ¬ (a2 = 0 ∨ a2 = a0 ∨ (a0 = 3 ∧ a2 = 2) ∨ (a0 = 4 ∧ a2 = 1) ∨ (a0 = 5 ∧ a2 = 3) ∨ (a0 = 5 ∧ a2 = 2) ∨ (a0 = 7 ∧ a2 = 4) ∨ (a0 = 7 ∧ a2 = 1)) := by omega
theorem ot119 {a0 a1 a2 : Int} (h0 : a0 = 1) (h1 : a1 ≤ a2) (h2 : (a2 = 1) ∨ (a2 = 0)) (h3 : a1 = 0) : a2 = 0 ∨ a2 = a0 ∨ (a0 = 3 ∧ a2 = 2) ∨ (a0 = 4 ∧ a2 = 1) ∨ (a0 = 5 ∧ a2 = 3) ∨ (a0 = 5 ∧ a2 = 2) ∨ (a0 = 7 ∧ a2 = 4) ∨ (a0 = 7 ∧ a2 = 1) := by omega
theorem ot120 {a0 a1 a2 : Int} (h0 : a0 = 1) (h1 : a1 ≤ a2) (h2 : a2 ≠ 1) (h3 : a2 ≠ 0) (h4 : a1 = 0) : ¬ (a2 = 0 ∨ a2 = a0 ∨ (a0 = 3 ∧ a2 = 2) ∨ (a0 = 4 ∧ a2 = 1) ∨ (a0 = 5 ∧ a2 = 3) ∨ (a0 = 5 ∧ a2 = 2) ∨ (a0 = 7 ∧ a2 = 4) ∨ (a0 = 7 ∧ a2 = 1)) := by omega
theorem ot121 {a0 a1 a2 : Int} (h0 : a0 = 2) (h1 : a1 ≤ a2) (h2 : (a2 = 2) ∨ (a2 = 0)) (h3 : a1 = 0) : a2 = 0 ∨ a2 = a0 ∨ (a0 = 3 ∧ a2 = 2) ∨ (a0 = 4 ∧ a2 = 1) ∨ (a0 = 5 ∧ a2 = 3) ∨ (a0 = 5 ∧ a2 = 2) ∨ (a0 = 7 ∧ a2 = 4) ∨ (a0 = 7 ∧ a2 = 1) := by omega
theorem ot122 {a0 a1 a2 : Int} (h0 : a0 = 2) (h1 : a1 ≤ a2) (h2 : a2 ≠ 2) (h3 : a2 ≠ 0) (h4 : a1 = 0) : ¬ (a2 = 0 ∨ a2 = a0 ∨ (a0 = 3 ∧ a2 = 2) ∨ (a0 = 4 ∧ a2 = 1) ∨ (a0 = 5 ∧ a2 = 3) ∨ (a0 = 5 ∧ a2 = 2) ∨ (a0 = 7 ∧ a2 = 4) ∨ (a0 = 7 ∧ a2 = 1)) := by omega
theorem ot123 {a0 a1 a2 : Int} (h0 : a0 = 3) (h1 : a1 ≤ a2) (h2 : (a2 = 3) ∨ (a2 = 2) ∨ (a2 = 0)) (h3 : a1 = 0) : a2 = 0 ∨ a2 = a0 ∨ (a0 = 3 ∧ a2 = 2) ∨ (a0 = 4 ∧ a2 = 1) ∨ (a0 = 5 ∧ a2 = 3) ∨ (a0 = 5 ∧ a2 = 2) ∨ (a0 = 7 ∧ a2 = 4) ∨ (a0 = 7 ∧ a2 = 1) := by omega
theorem ot124 {a0 a1 a2 : Int} (h0 : a0 = 3) (h1 : a1 ≤ a2) (h2 : a2 ≠ 3) (h3 : a2 ≠ 2) (h4 : a2 ≠ 0) (h5 : a1 = 0) : ¬ (a2 = 0 ∨ a2 = a0 ∨ (a0 = 3 ∧ a2 = 2) ∨ (a0 = 4 ∧ a2 = 1) ∨ (a0 = 5 ∧ a2 = 3) ∨ (a0 = 5 ∧ a2 = 2) ∨ (a0 = 7 ∧ a2 = 4) ∨ (a0 = 7 ∧ a2 = 1)) := by omega
theorem ot125 {a0 a1 a2 : Int} (h0 : a0 = 4) (h1 : a1 ≤ a2) (h2 : (a2 = 4) ∨ (a2 = 1) ∨ (a2 = 0)) (h3 : a1 = 0) : a2 = 0 ∨ a2 = a0 ∨ (a0 = 3 ∧ a2 = 2) ∨ (a0 = 4 ∧ a2 = 1) ∨ (a0 = 5 ∧ a2 = 3) ∨ (a0 = 5 ∧ a2 = 2) ∨ (a0 = 7 ∧ a2 = 4) ∨ (a0 = 7 ∧ a2 = 1) := by omega
theorem ot126 {a0 a1 a2 : Int} (h0 : a0 = 4) (h1 : a1 ≤ a2) (h2 : a2 ≠ 4) (h3 : a2 ≠ 1) (h4 : a2 ≠ 0) (h5 : a1 = 0) : ¬ (a2 = 0 ∨ a2 = a0 ∨ (a0 = 3 ∧ a2 = 2) ∨ (a0 = 4 ∧ a2 = 1) ∨ (a0 = 5 ∧ a2 = 3) ∨ (a0 = 5 ∧ a2 = 2) ∨ (a0 = 7 ∧ a2 = 4) ∨ (a0 = 7 ∧ a2 = 1)) := by omega
theorem ot127 {a0 a1 a2 : Int} (h0 : a0 = 5) (h1 : a1 ≤ a2) (h2 : (a2 = 5) ∨ (a2 = 3) ∨ (a2 = 2) ∨ (a2 = 0)) (h3 : a1 = 0) : a2 = 0 ∨ a2 = a0 ∨ (a0 = 3 ∧ a2 = 2) ∨ (a0 = 4 ∧ a2 = 1) ∨ (a0 = 5 ∧ a2 = 3) ∨ (a0 = 5 ∧ a2 = 2) ∨ (a0 = 7 ∧ a2 = 4) ∨ (a0 = 7 ∧ a2 = 1) := by omega
theorem ot128 {a0 a1 a2 : Int} (h0 : a0 = 5) (h1 : a1 ≤ a2) (h2 : a2 ≠ 5) (h3 : a2 ≠ 3) (h4 : a2 ≠ 2) (h5 : a2 ≠ 0) (h6 : a1 = 0) : ¬ (a2 = 0 ∨ a2 = a0 ∨ (a0 = 3 ∧ a2 = 2) ∨ (a0 = 4 ∧ a2 = 1) ∨ (a0 = 5 ∧ a2 = 3) ∨ (a0 = 5 ∧ a2 = 2) ∨ (a0 = 7 ∧ a2 = 4) ∨ (a0 = 7 ∧ a2 = 1)) := by omega
theorem ot129 {a0 a1 a2 : Int} (h0 : a0 = 6) (h1 : a1 ≤ a2) (h2 : (a2 = 6) ∨ (a2 = 0)) (h3 : a1 = 0) : a2 = 0 ∨ a2 = a0 ∨ (a0 = 3 ∧ a2 = 2) ∨ (a0 = 4 ∧ a2 = 1) ∨ (a0 = 5 ∧ a2 = 3) ∨ (a0 = 5 ∧ a2 = 2) ∨ (a0 = 7 ∧ a2 = 4) ∨ (a0 = 7 ∧ a2 = 1) := by omega
theorem ot130 {a0 a1 a2 : Int} (h0 : a0 = 6) (h1 : a1 ≤ a2) (h2 : a2 ≠ 6) (h3 : a2 ≠ 0) (h4 : a1 = 0) : ¬ (a2 = 0 ∨ a2 = a0 ∨ (a0 = 3 ∧ a2 = 2) ∨ (a0 = 4 ∧ a2 = 1) ∨ (a0 = 5 ∧ a2 = 3) ∨ (a0 = 5 ∧ a2 = 2) ∨ (a0 = 7 ∧ a2 = 4) ∨ (a0 = 7 ∧ a2 = 1)) := by omega
theorem ot131 {a0 a1 a2 a3 a4 : Int} (h0 : ¬ (((0 : Int) ≤ a0) ∧ (a0 < a1))) : ¬ ((a2 = 1) ∧ ((0 : Int) ≤ a3) ∧ (a3 ≤ 7) ∧ (a4 = 1) ∧ ((0 : Int) ≤ a0) ∧ (a0 < a1)) := by omega
theorem ot132 {a0 a1 a2 a3 a4 a5 : Int} (h0 : a0 = a1) (h1 : (0 : Int) ≤ a0) (h2 : a1 = 0) : ¬ ((a2 = 1) ∧ ((0 : Int) ≤ a3) ∧ (a3 ≤ 7) ∧ (a0 ≠ 0) ∧ (¬ ((a0 = 1) ∧ ((0 : Int) ≤ a4) ∧ (a4 < a5)))) := by omega
theorem ot133 {a0 a1 a2 a3 a4 a5 : Int} (h0 : a0 = a1) (h1 : a1 = 0) : ¬ ((a2 = 1) ∧ ((0 : Int) ≤ a3) ∧ (a3 ≤ 7) ∧ (a0 = 1) ∧ ((0 : Int) ≤ a4) ∧ (a4 < a5)) := by omega
theorem ot134 {a0 a1 a2 a3 : Int} (h0 : a0 = 2) (h1 : a0 ≤ 5) (h2 : a1 ≤ a2) (h3 : a2 ≤ a3) (h4 : a1 = 0) (h5 : a3 = 7) : ((0 : Int) ≤ a0) ∧ (a0 ≤ 5) ∧ ((0 : Int) ≤ a2) ∧ (a2 ≤ 7) := by omega
theorem ot135 {a0 a1 a2 : Int} (h0 : a0 = 2) : ¬ ((a0 = 0) ∧ ((0 : Int) ≤ a1) ∧ (a1 ≤ 7) ∧ (a2 = 0)) := by omega
theorem ot136 {a0 a1 a2 a3 a4 : Int} (h0 : a0 = 2) : ¬ ((a0 = 0) ∧ ((0 : Int) ≤ a1) ∧ (a1 ≤ 7) ∧ (a2 ≠ 0) ∧ (¬ ((a2 = 1) ∧ ((0 : Int) ≤ a3) ∧ (a3 < a4)))) := by omega
theorem ot137 {a0 a1 a2 a3 a4 : Int} (h0 : a0 = 2) : ¬ ((a0 = 0) ∧ ((0 : Int) ≤ a1) ∧ (a1 ≤ 7) ∧ (a2 = 1) ∧ ((0 : Int) ≤ a3) ∧ (a3 < a4)) := by omega
theorem ot138 {a0 a1 a2 : Int} (h0 : a0 = 2) : ¬ ((a0 = 1) ∧ ((0 : Int) ≤ a1) ∧ (a1 ≤ 7) ∧ (a2 = 0)) := by omega
theorem ot139 {a0 a1 a2 a3 a4 : Int} (h0 : a0 = 2) : ¬ ((a0 = 1) ∧ ((0 : Int) ≤ a1) ∧ (a1 ≤ 7) ∧ (a2 ≠ 0) ∧ (¬ ((a2 = 1) ∧ ((0 : Int) ≤ a3) ∧ (a3 < a4)))) := by omega
theorem ot140 {a0 a1 a2 a3 a4 : Int} (h0 : a0 = 2) : ¬ ((a0 = 1) ∧ ((0 : Int) ≤ a1) ∧ (a1 ≤ 7) ∧ (a2 = 1) ∧ ((0 : Int) ≤ a3) ∧ (a3 < a4)) := by omega
theorem ot141 {a0 a1 a2 a3 : Int} (h0 : a0 ≠ a1) (h1 : (0 : Int) ≤ a0) (h2 : a1 = 0) : ¬ ((a2 = 2) ∧ ((0 : Int) ≤ a3) ∧ (a3 ≤ 7) ∧ (a0 = 0)) := by omega
theorem ot142 {a0 a1 a2 a3 a4 a5 a6 : Int} (h0 : a0 ≠ a1) (h1 : a0 ≠ a2) (h2 : (0 : Int) ≤ a0) (h3 : a1 = 0) (h4 : a2 = 1) : ¬ ((a3 = 2) ∧ ((0 : Int) ≤ a4) ∧ (a4 ≤ 7) ∧ (a0 = 1) ∧ ((0 : Int) ≤ a5) ∧ (a5 < a6)) := by omega
theorem ot143 {a0 a1 a2 : Int} (h0 : a0 = 2) : ¬ ((a0 = 3) ∧ ((0 : Int) ≤ a1) ∧ (a1 ≤ 7) ∧ (a2 = 0)) := by omega
theorem ot144 {a0 a1 a2 a3 a4 : Int} (h0 : a0 = 2) : ¬ ((a0 = 3) ∧ ((0 : Int) ≤ a1) ∧ (a1 ≤ 7) ∧ (a2 ≠ 0) ∧ (¬ ((a2 = 1) ∧ ((0 : Int) ≤ a3) ∧ (a3 < a4)))) := by omega
theorem ot145 {a0 a1 a2 a3 a4 : Int} (h0 : a0 = 2) : ¬ ((a0 = 3) ∧ ((0 : Int) ≤ a1) ∧ (a1 ≤ 7) ∧ (a2 = 1) ∧ ((0 : Int) ≤ a3) ∧ (a3 < a4)) := by omega
theorem ot146 {a0 a1 a2 : Int} (h0 : a0 = 2) : ¬ ((a0 = 4) ∧ ((0 : Int) ≤ a1) ∧ (a1 ≤ 7) ∧ (a2 = 0)) := by omega
theorem ot147 {a0 a1 a2 a3 a4 : Int} (h0 : a0 = 2) : ¬ ((a0 = 4) ∧ ((0 : Int) ≤ a1) ∧ (a1 ≤ 7) ∧ (a2 ≠ 0) ∧ (¬ ((a2 = 1) ∧ ((0 : Int) ≤ a3) ∧ (a3 < a4)))) := by omega
theorem ot148 {a0 a1 a2 a3 a4 : Int} (h0 : a0 = 2) : ¬ ((a0 = 4) ∧ ((0 : Int) ≤ a1) ∧ (a1 ≤ 7) ∧ (a2 = 1) ∧ ((0 : Int) ≤ a3) ∧ (a3 < a4)) := by omega
theorem ot149 {a0 a1 a2 : Int} (h0 : a0 = 2) : ¬ ((a0 = 5) ∧ ((0 : Int) ≤ a1) ∧ (a1 ≤ 7) ∧ (a2 = 0)) := by omega
theorem ot150 {a0 a1 a2 a3 a4 : Int} (h0 : a0 = 2) : ¬ ((a0 = 5) ∧ ((0 : Int) ≤ a1) ∧ (a1 ≤ 7) ∧ (a2 ≠ 0) ∧ (¬ ((a2 = 1) ∧ ((0 : Int) ≤ a3) ∧ (a3 < a4)))) := by omega
theorem ot151 {a0 a1 a2 a3 a4 : Int} (h0 : a0 = 2) : ¬ ((a0 = 5) ∧ ((0 : Int) ≤ a1) ∧ (a1 ≤ 7) ∧ (a2 = 1) ∧ ((0 : Int) ≤ a3) ∧ (a3 < a4)) := by omega
theorem ot152 {a0 a1 a2 a3 : Int} (h0 : a0 = a1) (h1 : a1 = 1) : ¬ ((a2 = 2) ∧ ((0 : Int) ≤ a3) ∧ (a3 ≤ 7) ∧ (a0 = 0)) := by omega
theorem ot153 {a0 a1 a2 a3 a4 a5 : Int} (h0 : a0 = a1) (h1 : (0 : Int) ≤ a2) (h2 : a2 < a3) (h3 : a1 = 1) : ¬ ((a4 = 2) ∧ ((0 : Int) ≤ a5) ∧ (a5 ≤ 7) ∧ (a0 ≠ 0) ∧ (¬ ((a0 = 1) ∧ ((0 : Int) ≤ a2) ∧ (a2 < a3)))) := by omega
theorem ot154 {a0 a1 a2 a3 : Int} (h0 : a0 ≤ 7) (h1 : a0 = 7) (h2 : (a1 = 7) ∨ (a1 = 4) ∨ (a1 = 1) ∨ (a1 = 0)) (h3 : a2 ≤ a1) (h4 : a1 ≤ a3) (h5 : a2 = 0) (h6 : a3 = 7) : a1 = 0 ∨ a1 = a0 ∨ (a0 = 3 ∧ a1 = 2) ∨ (a0 = 4 ∧ a1 = 1) ∨ (a0 = 5 ∧ a1 = 3) ∨ (a0 = 5 ∧ a1 = 2) ∨ (a0 = 7 ∧ a1 = 4) ∨ (a0 = 7 ∧ a1 = 1) := by omega
theorem ot155 {a0 a1 a2 a3 : Int} (h0 : a0 = 7) (h1 : a1 ≠ 7) (h2 : a1 ≠ 4) (h3 : a1 ≠ 1) (h4 : a1 ≠ 0) (h5 : a2 ≤ a1) (h6 : a1 ≤ a3) (h7 : a2 = 0) (h8 : a3 = 7) : ¬ (a1 = 0 ∨ a1 = a0 ∨ (a0 = 3 ∧ a1 = 2) ∨ (a0 = 4 ∧ a1 = 1) ∨ (a0 = 5 ∧ a1 = 3) ∨ (a0 = 5 ∧ a1 = 2) ∨ (a0 = 7 ∧ a1 = 4) ∨ (a0 = 7 ∧ a1 = 1)) := by omega
theorem ot156 {a0 : Int} (h0 : (0 : Int) ≤ a0) (h1 : a0 ≤ 7) (h2 : ¬ (a0 = 2)) (h3 : ¬ (a0 = 3)) (h4 : ¬ (a0 = 4)) (h5 : ¬ (a0 = 5)) (h6 : ¬ (a0 = 6)) (h7 : ¬ (a0 = 7)) (h8 : ¬ (a0 = 0)) (h9 : ¬ (a0 = 1)) : False := by omega
theorem ot157 {a0 a1 a2 a3 a4 : Int} (h0 : ¬ (((0 : Int) ≤ a0) ∧ (a0 < a1))) : ¬ ((a2 = 2) ∧ ((0 : Int) ≤ a3) ∧ (a3 ≤ 7) ∧ (a4 = 1) ∧ ((0 : Int) ≤ a0) ∧ (a0 < a1)) := by omega
theorem ot158 {a0 a1 a2 a3 a4 a5 : Int} (h0 : a0 = a1) (h1 : (0 : Int) ≤ a0) (h2 : a1 = 0) : ¬ ((a2 = 2) ∧ ((0 : Int) ≤ a3) ∧ (a3 ≤ 7) ∧ (a0 ≠ 0) ∧ (¬ ((a0 = 1) ∧ ((0 : Int) ≤ a4) ∧ (a4 < a5)))) := by omega
theorem ot159 {a0 a1 a2 a3 a4 a5 : Int} (h0 : a0 = a1) (h1 : a1 = 0) : ¬ ((a2 = 2) ∧ ((0 : Int) ≤ a3) ∧ (a3 ≤ 7) ∧ (a0 = 1) ∧ ((0 : Int) ≤ a4) ∧ (a4 < a5)) := by omega
theorem ot160 {a0 a1 a2 a3 : Int} (h0 : a0 = 3) (h1 : a0 ≤ 5) (h2 : a1 ≤ a2) (h3 : a2 ≤ a3) (h4 : a1 = 0) (h5 : a3 = 7) : ((0 : Int) ≤ a0) ∧ (a0 ≤ 5) ∧ ((0 : Int) ≤ a2) ∧ (a2 ≤ 7) := by omega
theorem ot161 {a0 a1 a2 : Int} (h0 : a0 = 3) : ¬ ((a0 = 0) ∧ ((0 : Int) ≤ a1) ∧ (a1 ≤ 7) ∧ (a2 = 0)) := by omega
theorem ot162 {a0 a1 a2 a3 a4 : Int} (h0 : a0 = 3) : ¬ ((a0 = 0) ∧ ((0 : Int) ≤ a1) ∧ (a1 ≤ 7) ∧ (a2 ≠ 0) ∧ (¬ ((a2 = 1) ∧ ((0 : Int) ≤ a3) ∧ (a3 < a4)))) := by omega
theorem ot163 {a0 a1 a2 a3 a4 : Int} (h0 : a0 = 3) : ¬ ((a0 = 0) ∧ ((0 : Int) ≤ a1) ∧ (a1 ≤ 7) ∧ (a2 = 1) ∧ ((0 : Int) ≤ a3) ∧ (a3 < a4)) := by omega
theorem ot164 {a0 a1 a2 : Int} (h0 : a0 = 3) : ¬ ((a0 = 1) ∧ ((0 : Int) ≤ a1) ∧ (a1 ≤ 7) ∧ (a2 = 0)) := by omega
theorem ot165 {a0 a1 a2 a3 a4 : Int} (h0 : a0 = 3) : ¬ ((a0 = 1) ∧ ((0 : Int) ≤ a1) ∧ (a1 ≤ 7) ∧ (a2 ≠ 0) ∧ (¬ ((a2 = 1) ∧ ((0 : Int) ≤ a3) ∧ (a3 < a4)))) := by omega
theorem ot166 {a0 a1 a2 a3 a4 : Int} (h0 : a0 = 3) : ¬ ((a0 = 1) ∧ ((0 : Int) ≤ a1) ∧ (a1 ≤ 7) ∧ (a2 = 1) ∧ ((0 : Int) ≤ a3) ∧ (a3 < a4)) := by omega
theorem ot167 {a0 a1 a2 : Int} (h0 : a0 = 3) : ¬ ((a0 = 2) ∧ ((0 : Int) ≤ a1) ∧ (a1 ≤ 7) ∧ (a2 = 0)) := by omega
theorem ot168 {a0 a1 a2 a3 a4 : Int} (h0 : a0 = 3) : ¬ ((a0 = 2) ∧ ((0 : Int) ≤ a1) ∧ (a1 ≤ 7) ∧ (a2 ≠ 0) ∧ (¬ ((a2 = 1) ∧ ((0 : Int) ≤ a3) ∧ (a3 < a4)))) := by omega
theorem ot169 {a0 a1 a2 a3 a4 : Int} (h0 : a0 = 3) : ¬ ((a0 = 2) ∧ ((0 : Int) ≤ a1) ∧ (a1 ≤ 7) ∧ (a2 = 1) ∧ ((0 : Int) ≤ a3) ∧ (a3 < a4)) := by omega
theorem ot170 {a0 a1 a2 a3 : Int} (h0 : a0 ≠ a1) (h1 : (0 : Int) ≤ a0) (h2 : a1 = 0) : ¬ ((a2 = 3) ∧ ((0 : Int) ≤ a3) ∧ (a3 ≤ 7) ∧ (a0 = 0)) := by omega
theorem ot171 {a0 a1 a2 a3 a4 a5 a6 : Int} (h0 : a0 ≠ a1) (h1 : a0 ≠ a2) (h2 : (0 : Int) ≤ a0) (h3 : a1 = 0) (h4 : a2 = 1) : ¬ ((a3 = 3) ∧ ((0 : Int) ≤ a4) ∧ (a4 ≤ 7) ∧ (a0 = 1) ∧ ((0 : Int) ≤ a5) ∧ (a5 < a6)) := by omega
theorem ot172 {a0 a1 a2 : Int} (h0 : a0 = 3) : ¬ ((a0 = 4) ∧ ((0 : Int) ≤ a1) ∧ (a1 ≤ 7) ∧ (a2 = 0)) := by omega
theorem ot173 {a0 a1 a2 a3 a4 : Int} (h0 : a0 = 3) : ¬ ((a0 = 4) ∧ ((0 : Int) ≤ a1) ∧ (a1 ≤ 7) ∧ (a2 ≠ 0) ∧ (¬ ((a2 = 1) ∧ ((0 : Int) ≤ a3) ∧ (a3 < a4)))) := by omega
theorem ot174 {a0 a1 a2 a3 a4 : Int} (h0 : a0 = 3) : ¬ ((a0 = 4) ∧ ((0 : Int) ≤ a1) ∧ (a1 ≤ 7) ∧ (a2 = 1) ∧ ((0 : Int) ≤ a3) ∧ (a3 < a4)) := by omega
theorem ot175 {a0 a1 a2 : Int} (h0 : a0 = 3) : ¬ ((a0 = 5) ∧ ((0 : Int) ≤ a1) ∧ (a1 ≤ 7) ∧ (a2 = 0)) := by omega
theorem ot176 {a0 a1 a2 a3 a4 : Int} (h0 : a0 = 3) : ¬ ((a0 = 5) ∧ ((0 : Int) ≤ a1) ∧ (a1 ≤ 7) ∧ (a2 ≠ 0) ∧ (¬ ((a2 = 1) ∧ ((0 : Int) ≤ a3) ∧ (a3 < a4)))) := by omega
theorem ot177 {a0 a1 a2 a3 a4 : Int} (h0 : a0 = 3) : ¬ ((a0 = 5) ∧ ((0 : Int) ≤ a1) ∧ (a1 ≤ 7) ∧ (a2 = 1) ∧ ((0 : Int) ≤ a3) ∧ (a3 < a4)) := by omega
theorem ot178 {a0 a1 a2 a3 : Int} (h0 : a0 = a1) (h1 : a1 = 1) : ¬ ((a2 = 3) ∧ ((0 : Int) ≤ a3) ∧ (a3 ≤ 7) ∧ (a0 = 0)) := by omega
theorem ot179 {a0 a1 a2 a3 a4 a5 : Int} (h0 : a0 = a1) (h1 : (0 : Int) ≤ a2) (h2 : a2 < a3) (h3 : a1 = 1) : ¬ ((a4 = 3) ∧ ((0 : Int) ≤ a5) ∧ (a5 ≤ 7) ∧ (a0 ≠ 0) ∧ (¬ ((a0 = 1) ∧ ((0 : Int) ≤ a2) ∧ (a2 < a3)))) := by omega
theorem ot180 {a0 a1 a2 a3 a4 : Int} (h0 : ¬ (((0 : Int) ≤ a0) ∧ (a0 < a1))) : ¬ ((a2 = 3) ∧ ((0 : Int) ≤ a3) ∧ (a3 ≤ 7) ∧ (a4 = 1) ∧ ((0 : Int) ≤ a0) ∧ (a0 < a1)) := by omega
theorem ot181 {a0 a1 a2 a3 a4 a5 : Int} (h0 : a0 = a1) (h1 : (0 : Int) ≤ a0) (h2 : a1 = 0) : ¬ ((a2 = 3) ∧ ((0 : Int) ≤ a3) ∧ (a3 ≤ 7) ∧ (a0 ≠ 0) ∧ (¬ ((a0 = 1) ∧ ((0 : Int) ≤ a4) ∧ (a4 < a5)))) := by omega
theorem ot182 {a0 a1 a2 a3 a4 a5 : Int} (h0 : a0 = a1) (h1 : a1 = 0) : ¬ ((a2 = 3) ∧ ((0 : Int) ≤ a3) ∧ (a3 ≤ 7) ∧ (a0 = 1) ∧ ((0 : Int) ≤ a4) ∧ (a4 < a5)) := by omega
theorem ot183 {a0 a1 a2 a3 : Int} (h0 : a0 = 4) (h1 : a0 ≤ 5) (h2 : a1 ≤ a2) (h3 : a2 ≤ a3) (h4 : a1 = 0) (h5 : a3 = 7) : ((0 : Int) ≤ a0) ∧ (a0 ≤ 5) ∧ ((0 : Int) ≤ a2) ∧ (a2 ≤ 7) := by omega
theorem ot184 {a0 a1 a2 : Int} (h0 : a0 = 4) : ¬ ((a0 = 0) ∧ ((0 : Int) ≤ a1) ∧ (a1 ≤ 7) ∧ (a2 = 0)) := by omega
theorem ot185 {a0 a1 a2 a3 a4 : Int} (h0 : a0 = 4) : ¬ ((a0 = 0) ∧ ((0 : Int) ≤ a1) ∧ (a1 ≤ 7) ∧ (a2 ≠ 0) ∧ (¬ ((a2 = 1) ∧ ((0 : Int) ≤ a3) ∧ (a3 < a4)))) := by omega
theorem ot186 {a0 a1 a2 a3 a4 : Int} (h0 : a0 = 4) : ¬ ((a0 = 0) ∧ ((0 : Int) ≤ a1) ∧ (a1 ≤ 7) ∧ (a2 = 1) ∧ ((0 : Int) ≤ a3) ∧ (a3 < a4)) := by omega
theorem ot187 {a0 a1 a2 : Int} (h0 : a0 = 4) : ¬ ((a0 = 1) ∧ ((0 : Int) ≤ a1) ∧ (a1 ≤ 7) ∧ (a2 = 0)) := by omega
theorem ot188 {a0 a1 a2 a3 a4 : Int} (h0 : a0 = 4) : ¬ ((a0 = 1) ∧ ((0 : Int) ≤ a1) ∧ (a1 ≤ 7) ∧ (a2 ≠ 0) ∧ (¬ ((a2 = 1) ∧ ((0 : Int) ≤ a3) ∧ (a3 < a4)))) := by omega
theorem ot189 {a0 a1 a2 a3 a4 : Int} (h0 : a0 = 4) : ¬ ((a0 = 1) ∧ ((0 : Int) ≤ a1) ∧ (a1 ≤ 7) ∧ (a2 = 1) ∧ ((0 : Int) ≤ a3) ∧ (a3 < a4)) := by omega
theorem ot190 {a0 a1 a2 : Int} (h0 : a0 = 4) : ¬ ((a0 = 2) ∧ ((0 : Int) ≤ a1) ∧ (a1 ≤ 7) ∧ (a2 = 0)) := by omega
theorem ot191 {a0 a1 a2 a3 a4 : Int} (h0 : a0 = 4) : ¬ ((a0 = 2) ∧ ((0 : Int) ≤ a1) ∧ (a1 ≤ 7) ∧ (a2 ≠ 0) ∧ (¬ ((a2 = 1) ∧ ((0 : Int) ≤ a3) ∧ (a3 < a4)))) := by omega
theorem ot192 {a0 a1 a2 a3 a4 : Int} (h0 : a0 = 4) : ¬ ((a0 = 2) ∧ ((0 : Int) ≤ a1) ∧ (a1 ≤ 7) ∧ (a2 = 1) ∧ ((0 : Int) ≤ a3) ∧ (a3 < a4)) := by omega
theorem ot193 {a0 a1 a2 : Int} (h0 : a0 = 4) : ¬ ((a0 = 3) ∧ ((0 : Int) ≤ a1) ∧ (a1 ≤ 7) ∧ (a2 = 0)) := by omega
theorem ot194 {a0 a1 a2 a3 a4 : Int} (h0 : a0 = 4) : ¬ ((a0 = 3) ∧ ((0 : Int) ≤ a1) ∧ (a1 ≤ 7) ∧ (a2 ≠ 0) ∧ (¬ ((a2 = 1) ∧ ((0 : Int) ≤ a3) ∧ (a3 < a4)))) := by omega
theorem ot195 {a0 a1 a2 a3 a4 : Int} (h0 : a0 = 4) : ¬ ((a0 = 3) ∧ ((0 : Int) ≤ a1) ∧ (a1 ≤ 7) ∧ (a2 = 1) ∧ ((0 : Int) ≤ a3) ∧ (a3 < a4)) := by omega
theorem ot196 {a0 a1 a2 a3 : Int} (h0 : a0 ≠ a1) (h1 : (0 : Int) ≤ a0) (h2 : a1 = 0) : ¬ ((a2 = 4) ∧ ((0 : Int) ≤ a3) ∧ (a3 ≤ 7) ∧ (a0 = 0)) := by omega
theorem ot197 {a0 a1 a2 a3 a4 a5 a6 : Int} (h0 : a0 ≠ a1) (h1 : a0 ≠ a2) (h2 : (0 : Int) ≤ a0) (h3 : a1 = 0) (h4 : a2 = 1) : ¬ ((a3 = 4) ∧ ((0 : Int) ≤ a4) ∧ (a4 ≤ 7) ∧ (a0 = 1) ∧ ((0 : Int) ≤ a5) ∧ (a5 < a6)) := by omega
theorem ot198 {a0 a1 a2 : Int} (h0 : a0 = 4) : ¬ ((a0 = 5) ∧ ((0 : Int) ≤ a1) ∧ (a1 ≤ 7) ∧ (a2 = 0)) := by omega
theorem ot199 {a0 a1 a2 a3 a4 : Int} (h0 : a0 = 4) : ¬ ((a0 = 5) ∧ ((0 : Int) ≤ a1) ∧ (a1 ≤ 7) ∧ (a2 ≠ 0) ∧ (¬ ((a2 = 1) ∧ ((0 : Int) ≤ a3) ∧ (a3 < a4)))) := by omega
theorem ot200 {a0 a1 a2 a3 a4 : Int} (h0 : a0 = 4) : ¬ ((a0 = 5) ∧ ((0 : Int) ≤ a1) ∧ (a1 ≤ 7) ∧ (a2 = 1) ∧ ((0 : Int) ≤ a3) ∧ (a3 < a4)) := by omega
theorem ot201 {a0 a1 a2 a3 : Int} (h0 : a0 = a1) (h1 : a1 = 1) : ¬ ((a2 = 4) ∧ ((0 : Int) ≤ a3) ∧ (a3 ≤ 7) ∧ (a0 = 0)) := by omega
theorem ot202 {a0 a1 a2 a3 a4 a5 : Int} (h0 : a0 = a1) (h1 : (0 : Int) ≤ a2) (h2 : a2 < a3) (h3 : a1 = 1) : ¬ ((a4 = 4) ∧ ((0 : Int) ≤ a5) ∧ (a5 ≤ 7) ∧ (a0 ≠ 0) ∧ (¬ ((a0 = 1) ∧ ((0 : Int) ≤ a2) ∧ (a2 < a3)))) := by omega
theorem ot203 {a0 a1 a2 a3 a4 : Int} (h0 : ¬ (((0 : Int) ≤ a0) ∧ (a0 < a1))) : ¬ ((a2 = 4) ∧ ((0 : Int) ≤ a3) ∧ (a3 ≤ 7) ∧ (a4 = 1) ∧ ((0 : Int) ≤ a0) ∧ (a0 < a1)) := by omega
theorem ot204 {a0 a1 a2 a3 a4 a5 : Int} (h0 : a0 = a1) (h1 : (0 : Int) ≤ a0) (h2 : a1 = 0) : ¬ ((a2 = 4) ∧ ((0 : Int) ≤ a3) ∧ (a3 ≤ 7) ∧ (a0 ≠ 0) ∧ (¬ ((a0 = 1) ∧ ((0 : Int) ≤ a4) ∧ (a4 < a5)))) := by omega
theorem ot205 {a0 a1 a2 a3 a4 a5 : Int} (h0 : a0 = a1) (h1 : a1 = 0) : ¬ ((a2 = 4) ∧ ((0 : Int) ≤ a3) ∧ (a3 ≤ 7) ∧ (a0 = 1) ∧ ((0 : Int) ≤ a4) ∧ (a4 < a5)) := by omega
theorem ot206 {a0 a1 a2 a3 : Int} (h0 : a0 = 5) (h1 : a0 ≤ 5) (h2 : a1 ≤ a2) (h3 : a2 ≤ a3) (h4 : a1 = 0) (h5 : a3 = 7) : ((0 : Int) ≤ a0) ∧ (a0 ≤ 5) ∧ ((0 : Int) ≤ a2) ∧ (a2 ≤ 7) := by omega
theorem ot207 {a0 a1 a2 : Int} (h0 : a0 = 5) : ¬ ((a0 = 0) ∧ ((0 : Int) ≤ a1) ∧ (a1 ≤ 7) ∧ (a2 = 0)) := by omega
theorem ot208 {a0 a1 a2 a3 a4 : Int} (h0 : a0 = 5) : ¬ ((a0 = 0) ∧ ((0 : Int) ≤ a1) ∧ (a1 ≤ 7) ∧ (a2 ≠ 0) ∧ (¬ ((a2 = 1) ∧ ((0 : Int) ≤ a3) ∧ (a3 < a4)))) := by omega
theorem ot209 {a0 a1 a2 a3 a4 : Int} (h0 : a0 = 5) : ¬ ((a0 = 0) ∧ ((0 : Int) ≤ a1) ∧ (a1 ≤ 7) ∧ (a2 = 1) ∧ ((0 : Int) ≤ a3) ∧ (a3 < a4)) := by omega
theorem ot210 {a0 a1 a2 : Int} (h0 : a0 = 5) : ¬ ((a0 = 1) ∧ ((0 : Int) ≤ a1) ∧ (a1 ≤ 7) ∧ (a2 = 0)) := by omega
theorem ot211 {a0 a1 a2 a3 a4 : Int} (h0 : a0 = 5) : ¬ ((a0 = 1) ∧ ((0 : Int) ≤ a1) ∧ (a1 ≤ 7) ∧ (a2 ≠ 0) ∧ (¬ ((a2 = 1) ∧ ((0 : Int) ≤ a3) ∧ (a3 < a4)))) := by omega
theorem ot212 {a0 a1 a2 a3 a4 : Int} (h0 : a0 = 5) : ¬ ((a0 = 1) ∧ ((0 : Int) ≤ a1) ∧ (a1 ≤ 7) ∧ (a2 = 1) ∧ ((0 : Int) ≤ a3) ∧ (a3 < a4)) := by omega
theorem ot213 {a0 a1 a2 : Int} (h0 : a0 = 5) : ¬ ((a0 = 2) ∧ ((0 : Int) ≤ a1) ∧ (a1 ≤ 7) ∧ (a2 = 0)) := by omega
theorem ot214 {a0 a1 a2 a3 a4 : Int} (h0 : a0 = 5) : ¬ ((a0 = 2) ∧ ((0 : Int) ≤ a1) ∧ (a1 ≤ 7) ∧ (a2 ≠ 0) ∧ (¬ ((a2 = 1) ∧ ((0 : Int) ≤ a3) ∧ (a3 < a4)))) := by omega
theorem ot215 {a0 a1 a2 a3 a4 : Int} (h0 : a0 = 5) : ¬ ((a0 = 2) ∧ ((0 : Int) ≤ a1) ∧ (a1 ≤ 7) ∧ (a2 = 1) ∧ ((0 : Int) ≤ a3) ∧ (a3 < a4)) := by omega
theorem ot216 {a0 a1 a2 : Int} (h0 : a0 = 5) : ¬ ((a0 = 3) ∧ ((0 : Int) ≤ a1) ∧ (a1 ≤ 7) ∧ (a2 = 0)) := by omega
theorem ot217 {a0 a1 a2 a3 a4 : Int} (h0 : a0 = 5) : ¬ ((a0 = 3) ∧ ((0 : Int) ≤ a1) ∧ (a1 ≤ 7) ∧ (a2 ≠ 0) ∧ (¬ ((a2 = 1) ∧ ((0 : Int) ≤ a3) ∧ (a3 < a4)))) := by omega
theorem ot218 {a0 a1 a2 a3 a4 : Int} (h0 : a0 = 5) : ¬ ((a0 = 3) ∧ ((0 : Int) ≤ a1) ∧ (a1 ≤ 7) ∧ (a2 = 1) ∧ ((0 : Int) ≤ a3) ∧ (a3 < a4)) := by omega
theorem ot219 {a0 a1 a2 : Int} (h0 : a0 = 5) : ¬ ((a0 = 4) ∧ ((0 : Int) ≤ a1) ∧ (a1 ≤ 7) ∧ (a2 = 0)) := by omega
theorem ot220 {a0 a1 a2 a3 a4 : Int} (h0 : a0 = 5) : ¬ ((a0 = 4) ∧ ((0 : Int) ≤ a1) ∧ (a1 ≤ 7) ∧ (a2 ≠ 0) ∧ (¬ ((a2 = 1) ∧ ((0 : Int) ≤ a3) ∧ (a3 < a4)))) := by omega
theorem ot221 {a0 a1 a2 a3 a4 : Int} (h0 : a0 = 5) : ¬ ((a0 = 4) ∧ ((0 : Int) ≤ a1) ∧ (a1 ≤ 7) ∧ (a2 = 1) ∧ ((0 : Int) ≤ a3) ∧ (a3 < a4)) := by omega
theorem ot222 {a0 a1 a2 a3 : Int} (h0 : a0 ≠ a1) (h1 : (0 : Int) ≤ a0) (h2 : a1 = 0) : ¬ ((a2 = 5) ∧ ((0 : Int) ≤ a3) ∧ (a3 ≤ 7) ∧ (a0 = 0)) := by omega
theorem ot223 {a0 a1 a2 a3 a4 a5 a6 : Int} (h0 : a0 ≠ a1) (h1 : a0 ≠ a2) (h2 : (0 : Int) ≤ a0) (h3 : a1 = 0) (h4 : a2 = 1) : ¬ ((a3 = 5) ∧ ((0 : Int) ≤ a4) ∧ (a4 ≤ 7) ∧ (a0 = 1) ∧ ((0 : Int) ≤ a5) ∧ (a5 < a6)) := by omega
theorem ot224 {a0 a1 a2 a3 : Int} (h0 : a0 = a1) (h1 : a1 = 1) : ¬ ((a2 = 5) ∧ ((0 : Int) ≤ a3) ∧ (a3 ≤ 7) ∧ (a0 = 0)) := by omega
theorem ot225 {a0 a1 a2 a3 a4 a5 : Int} (h0 : a0 = a1) (h1 : (0 : Int) ≤ a2) (h2 : a2 < a3) (h3 : a1 = 1) : ¬ ((a4 = 5) ∧ ((0 : Int) ≤ a5) ∧ (a5 ≤ 7) ∧ (a0 ≠ 0) ∧ (¬ ((a0 = 1) ∧ ((0 : Int) ≤ a2) ∧ (a2 < a3)))) := by omega
theorem ot226 {a0 a1 a2 a3 a4 : Int} (h0 : ¬ (((0 : Int) ≤ a0) ∧ (a0 < a1))) : ¬ ((a2 = 5) ∧ ((0 : Int) ≤ a3) ∧ (a3 ≤ 7) ∧ (a4 = 1) ∧ ((0 : Int) ≤ a0) ∧ (a0 < a1)) := by omega
theorem ot227 {a0 a1 a2 a3 a4 a5 : Int} (h0 : a0 = a1) (h1 : (0 : Int) ≤ a0) (h2 : a1 = 0) : ¬ ((a2 = 5) ∧ ((0 : Int) ≤ a3) ∧ (a3 ≤ 7) ∧ (a0 ≠ 0) ∧ (¬ ((a0 = 1) ∧ ((0 : Int) ≤ a4) ∧ (a4 < a5)))) := by omega
theorem ot228 {a0 a1 a2 a3 a4 a5 : Int} (h0 : a0 = a1) (h1 : a1 = 0) : ¬ ((a2 = 5) ∧ ((0 : Int) ≤ a3) ∧ (a3 ≤ 7) ∧ (a0 = 1) ∧ ((0 : Int) ≤ a4) ∧ (a4 < a5)) := by omega
theorem ot229 {a0 : Int} (h0 : ¬ (a0 = 3)) (h1 : ¬ (a0 = 4)) (h2 : ¬ (a0 = 5)) (h3 : ¬ (a0 = 1)) (h4 : ¬ (a0 = 0)) (h5 : ¬ (a0 = 2)) (h6 : (0 : Int) ≤ a0) (h7 : a0 ≤ 5) : False := by omega
theorem ot230 {a0 a1 a2 a3 a4 : Int} (h0 : ¬ ((a0 ≤ a1) ∧ (a1 ≤ a2))) (h1 : a0 = 0) (h2 : a2 = 7) : ¬ ((a3 = 0) ∧ ((0 : Int) ≤ a1) ∧ (a1 ≤ 7) ∧ (a4 = 0)) := by omega
theorem ot231 {a0 a1 a2 a3 a4 a5 a6 : Int} (h0 : ¬ ((a0 ≤ a1) ∧ (a1 ≤ a2))) (h1 : a0 = 0) (h2 : a2 = 7) : ¬ ((a3 = 0) ∧ ((0 : Int) ≤ a1) ∧ (a1 ≤ 7) ∧ (a4 ≠ 0) ∧ (¬ ((a4 = 1) ∧ ((0 : Int) ≤ a5) ∧ (a5 < a6)))) := by omega
theorem ot232 {a0 a1 a2 a3 a4 a5 a6 : Int} (h0 : ¬ ((a0 ≤ a1) ∧ (a1 ≤ a2))) (h1 : a0 = 0) (h2 : a2 = 7) : ¬ ((a3 = 0) ∧ ((0 : Int) ≤ a1) ∧ (a1 ≤ 7) ∧ (a4 = 1) ∧ ((0 : Int) ≤ a5) ∧ (a5 < a6)) := by omega
theorem ot233 {a0 a1 a2 a3 a4 : Int} (h0 : ¬ ((a0 ≤ a1) ∧ (a1 ≤ a2))) (h1 : a0 = 0) (h2 : a2 = 7) : ¬ ((a3 = 1) ∧ ((0 : Int) ≤ a1) ∧ (a1 ≤ 7) ∧ (a4 = 0)) := by omega
theorem ot234 {a0 a1 a2 a3 a4 a5 a6 : Int} (h0 : ¬ ((a0 ≤ a1) ∧ (a1 ≤ a2))) (h1 : a0 = 0) (h2 : a2 = 7) : ¬ ((a3 = 1) ∧ ((0 : Int) ≤ a1) ∧ (a1 ≤ 7) ∧ (a4 ≠ 0) ∧ (¬ ((a4 = 1) ∧ ((0 : Int) ≤ a5) ∧ (a5 < a6)))) := by omega
theorem ot235 {a0 a1 a2 a3 a4 a5 a6 : Int} (h0 : ¬ ((a0 ≤ a1) ∧ (a1 ≤ a2))) (h1 : a0 = 0) (h2 : a2 = 7) : ¬ ((a3 = 1) ∧ ((0 : Int) ≤ a1) ∧ (a1 ≤ 7) ∧ (a4 = 1) ∧ ((0 : Int) ≤ a5) ∧ (a5 < a6)) := by omega
theorem ot236 {a0 a1 a2 a3 a4 : Int} (h0 : ¬ ((a0 ≤ a1) ∧ (a1 ≤ a2))) (h1 : a0 = 0) (h2 : a2 = 7) : ¬ ((a3 = 2) ∧ ((0 : Int) ≤ a1) ∧ (a1 ≤ 7) ∧ (a4 = 0)) := by omega
theorem ot237 {a0 a1 a2 a3 a4 a5 a6 : Int} (h0 : ¬ ((a0 ≤ a1) ∧ (a1 ≤ a2))) (h1 : a0 = 0) (h2 : a2 = 7) : ¬ ((a3 = 2) ∧ ((0 : Int) ≤ a1) ∧ (a1 ≤ 7) ∧ (a4 ≠ 0) ∧ (¬ ((a4 = 1) ∧ ((0 : Int) ≤ a5) ∧ (a5 < a6)))) := by omega
theorem ot238 {a0 a1 a2 a3 a4 a5 a6 : Int} (h0 : ¬ ((a0 ≤ a1) ∧ (a1 ≤ a2))) (h1 : a0 = 0) (h2 : a2 = 7) : ¬ ((a3 = 2) ∧ ((0 : Int) ≤ a1) ∧ (a1 ≤ 7) ∧ (a4 = 1) ∧ ((0 : Int) ≤ a5) ∧ (a5 < a6)) := by omega
theorem ot239 {a0 a1 a2 a3 a4 : Int} (h0 : ¬ ((a0 ≤ a1) ∧ (a1 ≤ a2))) (h1 : a0 = 0) (h2 : a2 = 7) : ¬ ((a3 = 3) ∧ ((0 : Int) ≤ a1) ∧ (a1 ≤ 7) ∧ (a4 = 0)) := by omega
theorem ot240 {a0 a1 a2 a3 a4 a5 a6 : Int} (h0 : ¬ ((a0 ≤ a1) ∧ (a1 ≤ a2))) (h1 : a0 = 0) (h2 : a2 = 7) : ¬ ((a3 = 3) ∧ ((0 : Int) ≤ a1) ∧ (a1 ≤ 7) ∧ (a4 ≠ 0) ∧ (¬ ((a4 = 1) ∧ ((0 : Int) ≤ a5) ∧ (a5 < a6)))) := by omega
theorem ot241 {a0 a1 a2 a3 a4 a5 a6 : Int} (h0 : ¬ ((a0 ≤ a1) ∧ (a1 ≤ a2))) (h1 : a0 = 0) (h2 : a2 = 7) : ¬ ((a3 = 3) ∧ ((0 : Int) ≤ a1) ∧ (a1 ≤ 7) ∧ (a4 = 1) ∧ ((0 : Int) ≤ a5) ∧ (a5 < a6)) := by omega
theorem ot242 {a0 a1 a2 a3 a4 : Int} (h0 : ¬ ((a0 ≤ a1) ∧ (a1 ≤ a2))) (h1 : a0 = 0) (h2 : a2 = 7) : ¬ ((a3 = 4) ∧ ((0 : Int) ≤ a1) ∧ (a1 ≤ 7) ∧ (a4 = 0)) := by omega
theorem ot243 {a0 a1 a2 a3 a4 a5 a6 : Int} (h0 : ¬ ((a0 ≤ a1) ∧ (a1 ≤ a2))) (h1 : a0 = 0) (h2 : a2 = 7) : ¬ ((a3 = 4) ∧ ((0 : Int) ≤ a1) ∧ (a1 ≤ 7) ∧ (a4 ≠ 0) ∧ (¬ ((a4 = 1) ∧ ((0 : Int) ≤ a5) ∧ (a5 < a6)))) := by omega
theorem ot244 {a0 a1 a2 a3 a4 a5 a6 : Int} (h0 : ¬ ((a0 ≤ a1) ∧ (a1 ≤ a2))) (h1 : a0 = 0) (h2 : a2 = 7) : ¬ ((a3 = 4) ∧ ((0 : Int) ≤ a1) ∧ (a1 ≤ 7) ∧ (a4 = 1) ∧ ((0 : Int) ≤ a5) ∧ (a5 < a6)) := by omega
theorem ot245 {a0 a1 a2 a3 a4 : Int} (h0 : ¬ ((a0 ≤ a1) ∧ (a1 ≤ a2))) (h1 : a0 = 0) (h2 : a2 = 7) : ¬ ((a3 = 5) ∧ ((0 : Int) ≤ a1) ∧ (a1 ≤ 7) ∧ (a4 = 0)) := by omega
theorem ot246 {a0 a1 a2 a3 a4 a5 a6 : Int} (h0 : ¬ ((a0 ≤ a1) ∧ (a1 ≤ a2))) (h1 : a0 = 0) (h2 : a2 = 7) : ¬ ((a3 = 5) ∧ ((0 : Int) ≤ a1) ∧ (a1 ≤ 7) ∧ (a4 ≠ 0) ∧ (¬ ((a4 = 1) ∧ ((0 : Int) ≤ a5) ∧ (a5 < a6)))) := by omega
theorem ot247 {a0 a1 a2 a3 a4 a5 a6 : Int} (h0 : ¬ ((a0 ≤ a1) ∧ (a1 ≤ a2))) (h1 : a0 = 0) (h2 : a2 = 7) : ¬ ((a3 = 5) ∧ ((0 : Int) ≤ a1) ∧ (a1 ≤ 7) ∧ (a4 = 1) ∧ ((0 : Int) ≤ a5) ∧ (a5 < a6)) := by omega
theorem ot248 {a0 a1 a2 : Int} (h0 : ¬ (((0 : Int) ≤ a0) ∧ (a0 ≤ 5))) : ¬ ((a0 = 0) ∧ ((0 : Int) ≤ a1) ∧ (a1 ≤ 7) ∧ (a2 = 0)) := by omega
theorem ot249 {a0 a1 a2 a3 a4 : Int} (h0 : ¬ (((0 : Int) ≤ a0) ∧ (a0 ≤ 5))) : ¬ ((a0 = 0) ∧ ((0 : Int) ≤ a1) ∧ (a1 ≤ 7) ∧ (a2 ≠ 0) ∧ (¬ ((a2 = 1) ∧ ((0 : Int) ≤ a3) ∧ (a3 < a4)))) := by omega
theorem ot250 {a0 a1 a2 a3 a4 : Int} (h0 : ¬ (((0 : Int) ≤ a0) ∧ (a0 ≤ 5))) : ¬ ((a0 = 0) ∧ ((0 : Int) ≤ a1) ∧ (a1 ≤ 7) ∧ (a2 = 1) ∧ ((0 : Int) ≤ a3) ∧ (a3 < a4)) := by omega
theorem ot251 {a0 a1 a2 : Int} (h0 : ¬ (((0 : Int) ≤ a0) ∧ (a0 ≤ 5))) : ¬ ((a0 = 1) ∧ ((0 : Int) ≤ a1) ∧ (a1 ≤ 7) ∧ (a2 = 0)) := by omega
theorem ot252 {a0 a1 a2 a3 a4 : Int} (h0 : ¬ (((0 : Int) ≤ a0) ∧ (a0 ≤ 5))) : ¬ ((a0 = 1) ∧ ((0 : Int) ≤ a1) ∧ (a1 ≤ 7) ∧ (a2 ≠ 0) ∧ (¬ ((a2 = 1) ∧ ((0 : Int) ≤ a3) ∧ (a3 < a4)))) := by omega
theorem ot253 {a0 a1 a2 a3 a4 : Int} (h0 : ¬ (((0 : Int) ≤ a0) ∧ (a0 ≤ 5))) : ¬ ((a0 = 1) ∧ ((0 : Int) ≤ a1) ∧ (a1 ≤ 7) ∧ (a2 = 1) ∧ ((0 : Int) ≤ a3) ∧ (a3 < a4)) := by omega
theorem ot254 {a0 a1 a2 : Int} (h0 : ¬ (((0 : Int) ≤ a0) ∧ (a0 ≤ 5))) : ¬ ((a0 = 2) ∧ ((0 : Int) ≤ a1) ∧ (a1 ≤ 7) ∧ (a2 = 0)) := by omega
theorem ot255 {a0 a1 a2 a3 a4 : Int} (h0 : ¬ (((0 : Int) ≤ a0) ∧ (a0 ≤ 5))) : ¬ ((a0 = 2) ∧ ((0 : Int) ≤ a1) ∧ (a1 ≤ 7) ∧ (a2 ≠ 0) ∧ (¬ ((a2 = 1) ∧ ((0 : Int) ≤ a3) ∧ (a3 < a4)))) := by omega
theorem ot256 {a0 a1 a2 a3 a4 : Int} (h0 : ¬ (((0 : Int) ≤ a0) ∧ (a0 ≤ 5))) : ¬ ((a0 = 2) ∧ ((0 : Int) ≤ a1) ∧ (a1 ≤ 7) ∧ (a2 = 1) ∧ ((0 : Int) ≤ a3) ∧ (a3 < a4)) := by omega
theorem ot257 {a0 a1 a2 : Int} (h0 : ¬ (((0 : Int) ≤ a0) ∧ (a0 ≤ 5))) : ¬ ((a0 = 3) ∧ ((0 : Int) ≤ a1) ∧ (a1 ≤ 7) ∧ (a2 = 0)) := by omega
theorem ot258 {a0 a1 a2 a3 a4 : Int} (h0 : ¬ (((0 : Int) ≤ a0) ∧ (a0 ≤ 5))) : ¬ ((a0 = 3) ∧ ((0 : Int) ≤ a1) ∧ (a1 ≤ 7) ∧ (a2 ≠ 0) ∧ (¬ ((a2 = 1) ∧ ((0 : Int) ≤ a3) ∧ (a3 < a4)))) := by omega
theorem ot259 {a0 a1 a2 a3 a4 : Int} (h0 : ¬ (((0 : Int) ≤ a0) ∧ (a0 ≤ 5))) : ¬ ((a0 = 3) ∧ ((0 : Int) ≤ a1) ∧ (a1 ≤ 7) ∧ (a2 = 1) ∧ ((0 : Int) ≤ a3) ∧ (a3 < a4)) := by omega
theorem ot260 {a0 a1 a2 : Int} (h0 : ¬ (((0 : Int) ≤ a0) ∧ (a0 ≤ 5))) : ¬ ((a0 = 4) ∧ ((0 : Int) ≤ a1) ∧ (a1 ≤ 7) ∧ (a2 = 0)) := by omega
theorem ot261 {a0 a1 a2 a3 a4 : Int} (h0 : ¬ (((0 : Int) ≤ a0) ∧ (a0 ≤ 5))) : ¬ ((a0 = 4) ∧ ((0 : Int) ≤ a1) ∧ (a1 ≤ 7) ∧ (a2 ≠ 0) ∧ (¬ ((a2 = 1) ∧ ((0 : Int) ≤ a3) ∧ (a3 < a4)))) := by omega
theorem ot262 {a0 a1 a2 a3 a4 : Int} (h0 : ¬ (((0 : Int) ≤ a0) ∧ (a0 ≤ 5))) : ¬ ((a0 = 4) ∧ ((0 : Int) ≤ a1) ∧ (a1 ≤ 7) ∧ (a2 = 1) ∧ ((0 : Int) ≤ a3) ∧ (a3 < a4)) := by omega
theorem ot263 {a0 a1 a2 : Int} (h0 : ¬ (((0 : Int) ≤ a0) ∧ (a0 ≤ 5))) : ¬ ((a0 = 5) ∧ ((0 : Int) ≤ a1) ∧ (a1 ≤ 7) ∧ (a2 = 0)) := by omega
theorem ot264 {a0 a1 a2 a3 a4 : Int} (h0 : ¬ (((0 : Int) ≤ a0) ∧ (a0 ≤ 5))) : ¬ ((a0 = 5) ∧ ((0 : Int) ≤ a1) ∧ (a1 ≤ 7) ∧ (a2 ≠ 0) ∧ (¬ ((a2 = 1) ∧ ((0 : Int) ≤ a3) ∧ (a3 < a4)))) := by omega
theorem ot265 {a0 a1 a2 a3 a4 : Int} (h0 : ¬ (((0 : Int) ≤ a0) ∧ (a0 ≤ 5))) : ¬ ((a0 = 5) ∧ ((0 : Int) ≤ a1) ∧ (a1 ≤ 7) ∧ (a2 = 1) ∧ ((0 : Int) ≤ a3) ∧ (a3 < a4)) := by omega
theorem ot266 {a0 : Int} (h0 : a0 ≤ 5) : a0 < 6 := by omega
theorem ot269 {a0 : Int} (h0 : (0 : Int) ≤ a0) (h1 : a0 ≤ 5) : ((0 : Int) ≤ a0) ∧ (a0 ≤ 5) := by omega
theorem ot270 {a0 a1 a2 : Int} (h0 : (0 : Int) ≤ a0) : ¬ (((0 : Int) ≤ a1) ∧ (a1 ≤ 5) ∧ ((0 : Int) ≤ a2) ∧ (a2 ≤ 7) ∧ (a0 = (-1))) := by omega
theorem ot271 {a0 a1 a2 : Int} (h0 : a0 ≤ 4) : ¬ (((0 : Int) ≤ a1) ∧ (a1 ≤ 5) ∧ ((0 : Int) ≤ a2) ∧ (a2 ≤ 7) ∧ ((10 : Int) ≤ a0)) := by omega
theorem ot272 {a0 a1 : Int} (h0 : (-1 : Int) ≤ a0) (h1 : a1 = 10) : (-2147483648 : Int) ≤ a0 - a1 := by omega
theorem ot273 {a0 a1 : Int} (h0 : a0 ≤ 59) (h1 : a1 = 10) : a0 - a1 ≤ 2147483647 := by omega
theorem ot274 {a0 a1 a2 a3 : Int} (h0 : a0 ≠ a1) (h1 : (-1 : Int) ≤ a0) (h2 : a0 ≤ 4 ∨ 10 ≤ a0) (h3 : a2 = a0 - a3) (h4 : ¬ (((0 : Int) ≤ a0) ∧ (a0 ≤ 4))) (h5 : a1 = (-1)) (h6 : a3 = 10) : (0 : Int) ≤ a2 := by omega
theorem ot275 {a0 a1 a2 : Int} (h0 : a0 ≤ 59) (h1 : a1 = a0 - a2) (h2 : a2 = 10) : a1 < 50 := by omega
theorem ot276 {a0 a1 : Int} (h0 : a0 = a1) (h1 : a0 ≠ a1) (h2 : a0 ≤ a1) (h3 : a0 = 0) : False := by omega
theorem ot277 {a0 a1 a2 a3 : Int} (h0 : a0 ≠ a1) (h1 : (-1 : Int) ≤ a0) (h2 : a1 = (-1)) : ¬ (((0 : Int) ≤ a2) ∧ (a2 ≤ 5) ∧ ((0 : Int) ≤ a3) ∧ (a3 ≤ 7) ∧ (a0 = (-1))) := by omega
theorem ot278 {a0 a1 a2 a3 : Int} (h0 : a0 ≠ a1) (h1 : (-1 : Int) ≤ a0) (h2 : ¬ (((0 : Int) ≤ a0) ∧ (a0 ≤ 4))) (h3 : a1 = (-1)) : ¬ (((0 : Int) ≤ a2) ∧ (a2 ≤ 5) ∧ ((0 : Int) ≤ a3) ∧ (a3 ≤ 7) ∧ ((0 : Int) ≤ a0) ∧ (a0 ≤ 4)) := by omega
theorem ot279 {a0 a1 a2 : Int} (h0 : a0 = a1) (h1 : a0 ≤ a1) (h2 : a0 = 0) : a1 = 0 ∨ a1 = a2 ∨ (a2 = 3 ∧ a1 = 2) ∨ (a2 = 4 ∧ a1 = 1) ∨ (a2 = 5 ∧ a1 = 3) ∨ (a2 = 5 ∧ a1 = 2) ∨ (a2 = 7 ∧ a1 = 4) ∨ (a2 = 7 ∧ a1 = 1) := by omega
theorem ot280 {a0 : Int} (h0 : (0 : Int) ≤ a0) (h1 : a0 = 0) : a0 = 0 := by omega
theorem ot281 {a0 a1 a2 : Int} (h0 : a0 ≠ a1) (h1 : a2 = 0) (h2 : a0 ≤ a1) (h3 : a0 = 0) : ¬ (a1 = 0 ∨ a1 = a2 ∨ (a2 = 3 ∧ a1 = 2) ∨ (a2 = 4 ∧ a1 = 1) ∨ (a2 = 5 ∧ a1 = 3) ∨ (a2 = 5 ∧ a1 = 2) ∨ (a2 = 7 ∧ a1 = 4) ∨ (a2 = 7 ∧ a1 = 1)) := by omega
theorem ot282 {a0 a1 : Int} (h0 : a0 ≠ a1) (h1 : a0 = a1) (h2 : a0 ≤ a1) (h3 : a0 = 0) : False := by omega
theorem ot283 {a0 a1 : Int} (h0 : a0 = a1) (h1 : a0 ≠ a1) (h2 : a0 = 1) : False := by omega
theorem ot284 {a0 a1 a2 a3 : Int} (h0 : a0 = a1) (h1 : (0 : Int) ≤ a2) (h2 : a2 ≤ 5) (h3 : a1 ≤ a3) (h4 : a0 = 1) (h5 : a3 = 7) : ((0 : Int) ≤ a2) ∧ (a2 ≤ 5) ∧ ((0 : Int) ≤ a1) ∧ (a1 ≤ 7) := by omega
theorem ot285 {a0 a1 a2 : Int} (h0 : a0 = a1) (h1 : a2 = 1) (h2 : a0 = 1) : a1 = 0 ∨ a1 = a2 ∨ (a2 = 3 ∧ a1 = 2) ∨ (a2 = 4 ∧ a1 = 1) ∨ (a2 = 5 ∧ a1 = 3) ∨ (a2 = 5 ∧ a1 = 2) ∨ (a2 = 7 ∧ a1 = 4) ∨ (a2 = 7 ∧ a1 = 1) := by omega
theorem ot286 {a0 : Int} (h0 : a0 = 1) : a0 = 1 := by omega
theorem ot287 {a0 : Int} (h0 : a0 = 0) : a0 = 0 := by omega
theorem ot288 {a0 a1 a2 a3 : Int} (h0 : a0 ≠ a1) (h1 : a2 ≠ a1) (h2 : a3 = 1) (h3 : a2 ≤ a1) (h4 : a0 = 1) (h5 : a2 = 0) : ¬ (a1 = 0 ∨ a1 = a3 ∨ (a3 = 3 ∧ a1 = 2) ∨ (a3 = 4 ∧ a1 = 1) ∨ (a3 = 5 ∧ a1 = 3) ∨ (a3 = 5 ∧ a1 = 2) ∨ (a3 = 7 ∧ a1 = 4) ∨ (a3 = 7 ∧ a1 = 1)) := by omega
theorem ot289 {a0 a1 : Int} (h0 : a0 = a1) (h1 : a0 ≠ a1) (h2 : a0 = 2) : False := by omega
theorem ot290 {a0 a1 a2 a3 : Int} (h0 : a0 = a1) (h1 : (0 : Int) ≤ a2) (h2 : a2 ≤ 5) (h3 : a1 ≤ a3) (h4 : a0 = 2) (h5 : a3 = 7) : ((0 : Int) ≤ a2) ∧ (a2 ≤ 5) ∧ ((0 : Int) ≤ a1) ∧ (a1 ≤ 7) := by omega
theorem ot291 {a0 a1 a2 : Int} (h0 : a0 = a1) (h1 : a2 = 2) (h2 : a0 = 2) : a1 = 0 ∨ a1 = a2 ∨ (a2 = 3 ∧ a1 = 2) ∨ (a2 = 4 ∧ a1 = 1) ∨ (a2 = 5 ∧ a1 = 3) ∨ (a2 = 5 ∧ a1 = 2) ∨ (a2 = 7 ∧ a1 = 4) ∨ (a2 = 7 ∧ a1 = 1) := by omega
theorem ot292 {a0 : Int} (h0 : a0 = 2) : a0 = 2 := by omega
theorem ot293 {a0 a1 a2 a3 : Int} (h0 : a0 ≠ a1) (h1 : a2 ≠ a1) (h2 : a3 = 2) (h3 : a2 ≤ a1) (h4 : a0 = 2) (h5 : a2 = 0) : ¬ (a1 = 0 ∨ a1 = a3 ∨ (a3 = 3 ∧ a1 = 2) ∨ (a3 = 4 ∧ a1 = 1) ∨ (a3 = 5 ∧ a1 = 3) ∨ (a3 = 5 ∧ a1 = 2) ∨ (a3 = 7 ∧ a1 = 4) ∨ (a3 = 7 ∧ a1 = 1)) := by omega
theorem ot294 {a0 a1 : Int} (h0 : a0 = a1) (h1 : a0 ≠ a1) (h2 : a0 = 3) : False := by omega
theorem ot295 {a0 a1 a2 a3 : Int} (h0 : a0 = a1) (h1 : (0 : Int) ≤ a2) (h2 : a2 ≤ 5) (h3 : a1 ≤ a3) (h4 : a0 = 3) (h5 : a3 = 7) : ((0 : Int) ≤ a2) ∧ (a2 ≤ 5) ∧ ((0 : Int) ≤ a1) ∧ (a1 ≤ 7) := by omega
theorem ot296 {a0 a1 a2 : Int} (h0 : a0 = a1) (h1 : a2 = 3) (h2 : a0 = 3) : a1 = 0 ∨ a1 = a2 ∨ (a2 = 3 ∧ a1 = 2) ∨ (a2 = 4 ∧ a1 = 1) ∨ (a2 = 5 ∧ a1 = 3) ∨ (a2 = 5 ∧ a1 = 2) ∨ (a2 = 7 ∧ a1 = 4) ∨ (a2 = 7 ∧ a1 = 1) := by omega
theorem ot297 {a0 : Int} (h0 : a0 = 3) : a0 = 3 := by omega
theorem ot298 {a0 a1 a2 : Int} (h0 : a0 = a1) (h1 : a2 = 3) (h2 : a0 = 2) : a1 = 0 ∨ a1 = a2 ∨ (a2 = 3 ∧ a1 = 2) ∨ (a2 = 4 ∧ a1 = 1) ∨ (a2 = 5 ∧ a1 = 3) ∨ (a2 = 5 ∧ a1 = 2) ∨ (a2 = 7 ∧ a1 = 4) ∨ (a2 = 7 ∧ a1 = 1) := by omega
theorem ot299 {a0 a1 a2 a3 a4 : Int} (h0 : a0 ≠ a1) (h1 : a2 ≠ a1) (h2 : a3 ≠ a1) (h3 : a4 = 3) (h4 : a3 ≤ a1) (h5 : a0 = 3) (h6 : a2 = 2) (h7 : a3 = 0) : ¬ (a1 = 0 ∨ a1 = a4 ∨ (a4 = 3 ∧ a1 = 2) ∨ (a4 = 4 ∧ a1 = 1) ∨ (a4 = 5 ∧ a1 = 3) ∨ (a4 = 5 ∧ a1 = 2) ∨ (a4 = 7 ∧ a1 = 4) ∨ (a4 = 7 ∧ a1 = 1)) := by omega
theorem ot300 {a0 a1 : Int} (h0 : a0 = a1) (h1 : a0 ≠ a1) (h2 : a0 = 4) : False := by omega
theorem ot301 {a0 a1 a2 a3 : Int} (h0 : a0 = a1) (h1 : (0 : Int) ≤ a2) (h2 : a2 ≤ 5) (h3 : a1 ≤ a3) (h4 : a0 = 4) (h5 : a3 = 7) : ((0 : Int) ≤ a2) ∧ (a2 ≤ 5) ∧ ((0 : Int) ≤ a1) ∧ (a1 ≤ 7) := by omega
theorem ot302 {a0 a1 a2 : Int} (h0 : a0 = a1) (h1 : a2 = 4) (h2 : a0 = 4) : a1 = 0 ∨ a1 = a2 ∨ (a2 = 3 ∧ a1 = 2) ∨ (a2 = 4 ∧ a1 = 1) ∨ (a2 = 5 ∧ a1 = 3) ∨ (a2 = 5 ∧ a1 = 2) ∨ (a2 = 7 ∧ a1 = 4) ∨ (a2 = 7 ∧ a1 = 1) := by omega
theorem ot303 {a0 : Int} (h0 : a0 = 4) : a0 = 4 := by omega
theorem ot304 {a0 a1 a2 : Int} (h0 : a0 = a1) (h1 : a2 = 4) (h2 : a0 = 1) : a1 = 0 ∨ a1 = a2 ∨ (a2 = 3 ∧ a1 = 2) ∨ (a2 = 4 ∧ a1 = 1) ∨ (a2 = 5 ∧ a1 = 3) ∨ (a2 = 5 ∧ a1 = 2) ∨ (a2 = 7 ∧ a1 = 4) ∨ (a2 = 7 ∧ a1 = 1) := by omega
theorem ot305 {a0 a1 a2 a3 a4 : Int} (h0 : a0 ≠ a1) (h1 : a2 ≠ a1) (h2 : a3 ≠ a1) (h3 : a4 = 4) (h4 : a3 ≤ a1) (h5 : a0 = 4) (h6 : a2 = 1) (h7 : a3 = 0) : ¬ (a1 = 0 ∨ a1 = a4 ∨ (a4 = 3 ∧ a1 = 2) ∨ (a4 = 4 ∧ a1 = 1) ∨ (a4 = 5 ∧ a1 = 3) ∨ (a4 = 5 ∧ a1 = 2) ∨ (a4 = 7 ∧ a1 = 4) ∨ (a4 = 7 ∧ a1 = 1)) := by omega
theorem ot306 {a0 a1 : Int} (h0 : a0 = a1) (h1 : a0 ≠ a1) (h2 : a0 = 5) : False := by omega
theorem ot307 {a0 a1 a2 a3 : Int} (h0 : a0 = a1) (h1 : (0 : Int) ≤ a2) (h2 : a2 ≤ 5) (h3 : a1 ≤ a3) (h4 : a0 = 5) (h5 : a3 = 7) : ((0 : Int) ≤ a2) ∧ (a2 ≤ 5) ∧ ((0 : Int) ≤ a1) ∧ (a1 ≤ 7) := by omega
theorem ot308 {a0 a1 a2 : Int} (h0 : a0 = a1) (h1 : a2 = 5) (h2 : a0 = 5) : a1 = 0 ∨ a1 = a2 ∨ (a2 = 3 ∧ a1 = 2) ∨ (a2 = 4 ∧ a1 = 1) ∨ (a2 = 5 ∧ a1 = 3) ∨ (a2 = 5 ∧ a1 = 2) ∨ (a2 = 7 ∧ a1 = 4) ∨ (a2 = 7 ∧ a1 = 1) := by omega
theorem ot309 {a0 : Int} (h0 : a0 = 5) : a0 = 5 := by omega
theorem ot310 {a0 a1 a2 : Int} (h0 : a0 = a1) (h1 : a2 = 5) (h2 : a0 = 3) : a1 = 0 ∨ a1 = a2 ∨ (a2 = 3 ∧ a1 = 2) ∨ (a2 = 4 ∧ a1 = 1) ∨ (a2 = 5 ∧ a1 = 3) ∨ (a2 = 5 ∧ a1 = 2) ∨ (a2 = 7 ∧ a1 = 4) ∨ (a2 = 7 ∧ a1 = 1) := by omega
theorem ot311 {a0 a1 a2 : Int} (h0 : a0 = a1) (h1 : a2 = 5) (h2 : a0 = 2) : a1 = 0 ∨ a1 = a2 ∨ (a2 = 3 ∧ a1 = 2) ∨ (a2 = 4 ∧ a1 = 1) ∨ (a2 = 5 ∧ a1 = 3) ∨ (a2 = 5 ∧ a1 = 2) ∨ (a2 = 7 ∧ a1 = 4) ∨ (a2 = 7 ∧ a1 = 1) := by omega
theorem ot312 {a0 a1 a2 a3 a4 a5 : Int} (h0 : a0 ≠ a1) (h1 : a2 ≠ a1) (h2 : a3 ≠ a1) (h3 : a4 ≠ a1) (h4 : a5 = 5) (h5 : a2 ≤ a1) (h6 : a0 = 2) (h7 : a2 = 0) (h8 : a3 = 5) (h9 : a4 = 3) : ¬ (a1 = 0 ∨ a1 = a5 ∨ (a5 = 3 ∧ a1 = 2) ∨ (a5 = 4 ∧ a1 = 1) ∨ (a5 = 5 ∧ a1 = 3) ∨ (a5 = 5 ∧ a1 = 2) ∨ (a5 = 7 ∧ a1 = 4) ∨ (a5 = 7 ∧ a1 = 1)) := by omega
theorem ot313 {a0 a1 : Int} (h0 : a0 = a1) (h1 : a0 ≠ a1) (h2 : a0 = 6) : False := by omega
theorem ot314 {a0 a1 a2 a3 : Int} (h0 : a0 = a1) (h1 : (0 : Int) ≤ a2) (h2 : a2 ≤ 5) (h3 : a1 ≤ a3) (h4 : a0 = 6) (h5 : a3 = 7) : ((0 : Int) ≤ a2) ∧ (a2 ≤ 5) ∧ ((0 : Int) ≤ a1) ∧ (a1 ≤ 7) := by omega
theorem ot315 {a0 a1 a2 : Int} (h0 : a0 = a1) (h1 : a2 = 6) (h2 : a0 = 6) : a1 = 0 ∨ a1 = a2 ∨ (a2 = 3 ∧ a1 = 2) ∨ (a2 = 4 ∧ a1 = 1) ∨ (a2 = 5 ∧ a1 = 3) ∨ (a2 = 5 ∧ a1 = 2) ∨ (a2 = 7 ∧ a1 = 4) ∨ (a2 = 7 ∧ a1 = 1) := by omega
theorem ot316 {a0 : Int} (h0 : a0 = 6) : a0 = 6 := by omega
theorem ot317 {a0 a1 a2 a3 : Int} (h0 : a0 ≠ a1) (h1 : a2 ≠ a1) (h2 : a3 = 6) (h3 : a2 ≤ a1) (h4 : a0 = 6) (h5 : a2 = 0) : ¬ (a1 = 0 ∨ a1 = a3 ∨ (a3 = 3 ∧ a1 = 2) ∨ (a3 = 4 ∧ a1 = 1) ∨ (a3 = 5 ∧ a1 = 3) ∨ (a3 = 5 ∧ a1 = 2) ∨ (a3 = 7 ∧ a1 = 4) ∨ (a3 = 7 ∧ a1 = 1)) := by omega
theorem ot318 {a0 a1 : Int} (h0 : a0 = a1) (h1 : a0 ≠ a1) (h2 : a1 ≤ a0) (h3 : a0 = 7) : False := by omega
theorem ot319 {a0 a1 a2 : Int} (h0 : a0 = a1) (h1 : (0 : Int) ≤ a2) (h2 : a2 ≤ 5) (h3 : a1 ≤ a0) (h4 : a0 = 7) : ((0 : Int) ≤ a2) ∧ (a2 ≤ 5) ∧ ((0 : Int) ≤ a1) ∧ (a1 ≤ 7) := by omega
theorem ot320 {a0 a1 a2 : Int} (h0 : a0 = a1) (h1 : a2 ≤ 7) (h2 : a2 = 7) (h3 : a1 ≤ a0) (h4 : a0 = 7) : a1 = 0 ∨ a1 = a2 ∨ (a2 = 3 ∧ a1 = 2) ∨ (a2 = 4 ∧ a1 = 1) ∨ (a2 = 5 ∧ a1 = 3) ∨ (a2 = 5 ∧ a1 = 2) ∨ (a2 = 7 ∧ a1 = 4) ∨ (a2 = 7 ∧ a1 = 1) := by omega
theorem ot321 {a0 : Int} (h0 : a0 ≤ 7) (h1 : a0 = 7) : a0 = 7 := by omega
theorem ot322 {a0 a1 a2 : Int} (h0 : a0 = a1) (h1 : a2 ≤ 7) (h2 : a2 = 7) (h3 : a0 = 4) : a1 = 0 ∨ a1 = a2 ∨ (a2 = 3 ∧ a1 = 2) ∨ (a2 = 4 ∧ a1 = 1) ∨ (a2 = 5 ∧ a1 = 3) ∨ (a2 = 5 ∧ a1 = 2) ∨ (a2 = 7 ∧ a1 = 4) ∨ (a2 = 7 ∧ a1 = 1) := by omega
theorem ot323 {a0 a1 a2 : Int} (h0 : a0 = a1) (h1 : a2 ≤ 7) (h2 : a2 = 7) (h3 : a0 = 1) : a1 = 0 ∨ a1 = a2 ∨ (a2 = 3 ∧ a1 = 2) ∨ (a2 = 4 ∧ a1 = 1) ∨ (a2 = 5 ∧ a1 = 3) ∨ (a2 = 5 ∧ a1 = 2) ∨ (a2 = 7 ∧ a1 = 4) ∨ (a2 = 7 ∧ a1 = 1) := by omega
theorem ot324 {a0 a1 a2 a3 a4 a5 : Int} (h0 : a0 ≠ a1) (h1 : a2 ≠ a1) (h2 : a3 ≠ a1) (h3 : a4 ≠ a1) (h4 : a5 = 7) (h5 : a4 ≤ a1) (h6 : a1 ≤ a0) (h7 : a0 = 7) (h8 : a2 = 4) (h9 : a3 = 1) (h10 : a4 = 0) : ¬ (a1 = 0 ∨ a1 = a5 ∨ (a5 = 3 ∧ a1 = 2) ∨ (a5 = 4 ∧ a1 = 1) ∨ (a5 = 5 ∧ a1 = 3) ∨ (a5 = 5 ∧ a1 = 2) ∨ (a5 = 7 ∧ a1 = 4) ∨ (a5 = 7 ∧ a1 = 1)) := by omega
theorem ot325 {a0 : Int} (h0 : (0 : Int) ≤ a0) (h1 : a0 ≤ 7) (h2 : ¬ (a0 = 6)) (h3 : ¬ (a0 = 7)) (h4 : ¬ (a0 = 0)) (h5 : ¬ (a0 = 1)) (h6 : ¬ (a0 = 2)) (h7 : ¬ (a0 = 3)) (h8 : ¬ (a0 = 4)) (h9 : ¬ (a0 = 5)) : False := by omega
theorem ot326 {a0 a1 a2 a3 : Int} (h0 : a0 = a1) (h1 : a1 = (-1)) : ¬ (((0 : Int) ≤ a2) ∧ (a2 ≤ 5) ∧ ((0 : Int) ≤ a3) ∧ (a3 ≤ 7) ∧ ((0 : Int) ≤ a0) ∧ (a0 ≤ 4)) := by omega
theorem ot327 {a0 a1 a2 a3 : Int} (h0 : a0 = a1) (h1 : a1 = (-1)) : ¬ (((0 : Int) ≤ a2) ∧ (a2 ≤ 5) ∧ ((0 : Int) ≤ a3) ∧ (a3 ≤ 7) ∧ ((10 : Int) ≤ a0)) := by omega
theorem ot328 {a0 a1 a2 a3 a4 : Int} (h0 : ¬ ((a0 ≤ a1) ∧ (a1 ≤ a2))) (h1 : a0 = 0) (h2 : a2 = 7) : ¬ (((0 : Int) ≤ a3) ∧ (a3 ≤ 5) ∧ ((0 : Int) ≤ a1) ∧ (a1 ≤ 7) ∧ (a4 = (-1))) := by omega
theorem ot329 {a0 a1 a2 a3 a4 : Int} (h0 : ¬ ((a0 ≤ a1) ∧ (a1 ≤ a2))) (h1 : a0 = 0) (h2 : a2 = 7) : ¬ (((0 : Int) ≤ a3) ∧ (a3 ≤ 5) ∧ ((0 : Int) ≤ a1) ∧ (a1 ≤ 7) ∧ ((0 : Int) ≤ a4) ∧ (a4 ≤ 4)) := by omega
theorem ot330 {a0 a1 a2 a3 a4 : Int} (h0 : ¬ ((a0 ≤ a1) ∧ (a1 ≤ a2))) (h1 : a0 = 0) (h2 : a2 = 7) : ¬ (((0 : Int) ≤ a3) ∧ (a3 ≤ 5) ∧ ((0 : Int) ≤ a1) ∧ (a1 ≤ 7) ∧ ((10 : Int) ≤ a4)) := by omega
theorem ot331 {a0 a1 a2 : Int} (h0 : ¬ (((0 : Int) ≤ a0) ∧ (a0 ≤ 5))) : ¬ (((0 : Int) ≤ a0) ∧ (a0 ≤ 5) ∧ ((0 : Int) ≤ a1) ∧ (a1 ≤ 7) ∧ (a2 = (-1))) := by omega
theorem ot332 {a0 a1 a2 : Int} (h0 : ¬ (((0 : Int) ≤ a0) ∧ (a0 ≤ 5))) : ¬ (((0 : Int) ≤ a0) ∧ (a0 ≤ 5) ∧ ((0 : Int) ≤ a1) ∧ (a1 ≤ 7) ∧ ((0 : Int) ≤ a2) ∧ (a2 ≤ 4)) := by omega
theorem ot333 {a0 a1 a2 : Int} (h0 : ¬ (((0 : Int) ≤ a0) ∧ (a0 ≤ 5))) : ¬ (((0 : Int) ≤ a0) ∧ (a0 ≤ 5) ∧ ((0 : Int) ≤ a1) ∧ (a1 ≤ 7) ∧ ((10 : Int) ≤ a2)) := by omega
set_option maxRecDepth 100000 in
theorem ke10_l00 {i : Nat → Int32} {a : Nat → List Int32} {q : Nat → List Int64} {r : Nat → Nat} (hI : kI i a q) (hr : kr r) (x2 : Int32) : km 1 10 [.int 0, .int x2] (ks i a q r) (kPI (ks i a q r) (fun v => (v = 1 ∧ (x2.toInt = 0)) ∨ (v = 0 ∧ (x2.toInt ≠ 0)))) := by
  have hG := kG_self kW0 hI hr
  refine km_ofPI (q := (mi_h10, mi_c10)) rfl (by decide) (Nat.le_of_ble_eq_true rfl) ?_
  intro P hP
  refine ft_go mi_k10 14 22 [(3, .int 0), (2, .int 0), (0, .int 0), (1, .int x2)] [.int x2, .int 0] i a q r (by rfl) ?_
  refine ft_if mi_k10 (0 != x2) 27 25 [(3, .int 0), (2, .int 0), (0, .int 0), (1, .int x2)] [] (by rfl) (fun c => ?_) (fun c => ?_)
  ·
    have c1 : (0 : Int32).toInt ≠ x2.toInt := kd_ne c; clear c
    refine ft_go mi_k10 2 31 [(3, .int 0), (2, .int 0), (0, .int 0), (1, .int x2)] [.int 0, .ref (mi_RO + 4)] i a q r (by rfl) ?_
    refine ko_iaro2 mi_k10.1 (l := [(-1), 0, 0, 2, 1, 3, 0, 4]) (n := 8) (c := 8) (ax := (0, 0, 0, 0, 0)) (mi_k10.2 _ _ (by rfl)) (by rfl) (by rfl) rfl rfl (ot30 kot0) (ot31 kot0) ?_
    have r2 : ((-1 : Int) ≤ (([(-1), 0, 0, 2, 1, 3, 0, 4] : List Int32).getD (0 : Int32).toNatClampNeg 0).toInt) ∧ ((([(-1), 0, 0, 2, 1, 3, 0, 4] : List Int32).getD (0 : Int32).toNatClampNeg 0).toInt ≤ 4) := kro_rng (lo := -1) (hi := 4) (by decide) ((0 : Int32).toNatClampNeg)
    refine ko_eq (x1 := (32, [(3, .int 0), (2, .int 0), (0, .int 0), (1, .int x2)], [.int (-1)], (0, 0), ks i a q r)) (by rw [(by decide : (([(-1), 0, 0, 2, 1, 3, 0, 4] : List Int32).getD (0 : Int32).toNatClampNeg 0) = (-1))]) ?_
    refine ft_go mi_k10 2 36 [(3, .int (0 + 1)), (2, .int (-1)), (0, .int 0), (1, .int x2)] [] i a q r (by rfl) ?_
    refine ko_eq (x1 := (36, [(3, .int 1), (2, .int (-1)), (0, .int 0), (1, .int x2)], [], (0, 0), ks i a q r)) (by rw [(by decide : (0 + 1 : Int32) = 1)]) ?_
    refine ft_go mi_k10 7 40 [(3, .int 1), (2, .int (-1)), (0, .int 0), (1, .int x2)] [.int 0] i a q r (by rfl) ?_
    exact ft_ret mi_k10 (by rfl) (hP 0 (Or.inr ⟨rfl, (ot32 c1 kot0)⟩))
  ·
    have c3 : (0 : Int32).toInt = x2.toInt := kd_neF c; clear c
    refine ft_go mi_k10 1 26 [(3, .int 0), (2, .int 0), (0, .int 0), (1, .int x2)] [.int 1] i a q r (by rfl) ?_
    exact ft_ret mi_k10 (by rfl) (hP 1 (Or.inl ⟨rfl, (ot33 c3 kot0)⟩))
set_option maxRecDepth 100000 in
theorem ke10_l01 {i : Nat → Int32} {a : Nat → List Int32} {q : Nat → List Int64} {r : Nat → Nat} (hI : kI i a q) (hr : kr r) (x2 : Int32) : km 1 10 [.int 1, .int x2] (ks i a q r) (kPI (ks i a q r) (fun v => (v = 1 ∧ ((x2.toInt = 1) ∨ (x2.toInt = 0))) ∨ (v = 0 ∧ ((x2.toInt ≠ 1) ∧ (x2.toInt ≠ 0))))) := by
  have hG := kG_self kW0 hI hr
  refine km_ofPI (q := (mi_h10, mi_c10)) rfl (by decide) (Nat.le_of_ble_eq_true rfl) ?_
  intro P hP
  refine ft_go mi_k10 14 22 [(3, .int 0), (2, .int 1), (0, .int 1), (1, .int x2)] [.int x2, .int 1] i a q r (by rfl) ?_
  refine ft_if mi_k10 (1 != x2) 27 25 [(3, .int 0), (2, .int 1), (0, .int 1), (1, .int x2)] [] (by rfl) (fun c => ?_) (fun c => ?_)
  ·
    have c1 : (1 : Int32).toInt ≠ x2.toInt := kd_ne c; clear c
    refine ft_go mi_k10 2 31 [(3, .int 0), (2, .int 1), (0, .int 1), (1, .int x2)] [.int 1, .ref (mi_RO + 4)] i a q r (by rfl) ?_
    refine ko_iaro2 mi_k10.1 (l := [(-1), 0, 0, 2, 1, 3, 0, 4]) (n := 8) (c := 8) (ax := (0, 0, 0, 0, 0)) (mi_k10.2 _ _ (by rfl)) (by rfl) (by rfl) rfl rfl (ot38 kot1) (ot39 kot1) ?_
    have r2 : ((-1 : Int) ≤ (([(-1), 0, 0, 2, 1, 3, 0, 4] : List Int32).getD (1 : Int32).toNatClampNeg 0).toInt) ∧ ((([(-1), 0, 0, 2, 1, 3, 0, 4] : List Int32).getD (1 : Int32).toNatClampNeg 0).toInt ≤ 4) := kro_rng (lo := -1) (hi := 4) (by decide) ((1 : Int32).toNatClampNeg)
    refine ko_eq (x1 := (32, [(3, .int 0), (2, .int 1), (0, .int 1), (1, .int x2)], [.int 0], (0, 0), ks i a q r)) (by rw [(by decide : (([(-1), 0, 0, 2, 1, 3, 0, 4] : List Int32).getD (1 : Int32).toNatClampNeg 0) = 0)]) ?_
    refine ft_go mi_k10 2 36 [(3, .int (0 + 1)), (2, .int 0), (0, .int 1), (1, .int x2)] [] i a q r (by rfl) ?_
    refine ko_eq (x1 := (36, [(3, .int 1), (2, .int 0), (0, .int 1), (1, .int x2)], [], (0, 0), ks i a q r)) (by rw [(by decide : (0 + 1 : Int32) = 1)]) ?_
    refine ft_go mi_k10 11 22 [(3, .int 1), (2, .int 0), (0, .int 1), (1, .int x2)] [.int x2, .int 0] i a q r (by rfl) ?_
    refine ft_if mi_k10 (0 != x2) 27 25 [(3, .int 1), (2, .int 0), (0, .int 1), (1, .int x2)] [] (by rfl) (fun c => ?_) (fun c => ?_)
    ·
      have c3 : (0 : Int32).toInt ≠ x2.toInt := kd_ne c; clear c
      refine ft_go mi_k10 2 31 [(3, .int 1), (2, .int 0), (0, .int 1), (1, .int x2)] [.int 0, .ref (mi_RO + 4)] i a q r (by rfl) ?_
      refine ko_iaro2 mi_k10.1 (l := [(-1), 0, 0, 2, 1, 3, 0, 4]) (n := 8) (c := 8) (ax := (0, 0, 0, 0, 0)) (mi_k10.2 _ _ (by rfl)) (by rfl) (by rfl) rfl rfl (ot30 kot0) (ot31 kot0) ?_
      have r4 : ((-1 : Int) ≤ (([(-1), 0, 0, 2, 1, 3, 0, 4] : List Int32).getD (0 : Int32).toNatClampNeg 0).toInt) ∧ ((([(-1), 0, 0, 2, 1, 3, 0, 4] : List Int32).getD (0 : Int32).toNatClampNeg 0).toInt ≤ 4) := kro_rng (lo := -1) (hi := 4) (by decide) ((0 : Int32).toNatClampNeg)
      refine ko_eq (x1 := (32, [(3, .int 1), (2, .int 0), (0, .int 1), (1, .int x2)], [.int (-1)], (0, 0), ks i a q r)) (by rw [(by decide : (([(-1), 0, 0, 2, 1, 3, 0, 4] : List Int32).getD (0 : Int32).toNatClampNeg 0) = (-1))]) ?_
      refine ft_go mi_k10 2 36 [(3, .int (1 + 1)), (2, .int (-1)), (0, .int 1), (1, .int x2)] [] i a q r (by rfl) ?_
      refine ko_eq (x1 := (36, [(3, .int 2), (2, .int (-1)), (0, .int 1), (1, .int x2)], [], (0, 0), ks i a q r)) (by rw [(by decide : (1 + 1 : Int32) = 2)]) ?_
      refine ft_go mi_k10 7 40 [(3, .int 2), (2, .int (-1)), (0, .int 1), (1, .int x2)] [.int 0] i a q r (by rfl) ?_
      exact ft_ret mi_k10 (by rfl) (hP 0 (Or.inr ⟨rfl, (ot40 c1 c3 kot1 kot0)⟩))
    ·
      have c5 : (0 : Int32).toInt = x2.toInt := kd_neF c; clear c
      refine ft_go mi_k10 1 26 [(3, .int 1), (2, .int 0), (0, .int 1), (1, .int x2)] [.int 1] i a q r (by rfl) ?_
      exact ft_ret mi_k10 (by rfl) (hP 1 (Or.inl ⟨rfl, (ot41 c5 kot0)⟩))
  ·
    have c6 : (1 : Int32).toInt = x2.toInt := kd_neF c; clear c
    refine ft_go mi_k10 1 26 [(3, .int 0), (2, .int 1), (0, .int 1), (1, .int x2)] [.int 1] i a q r (by rfl) ?_
    exact ft_ret mi_k10 (by rfl) (hP 1 (Or.inl ⟨rfl, (ot42 c6 kot1)⟩))
set_option maxRecDepth 100000 in
theorem ke10_l02 {i : Nat → Int32} {a : Nat → List Int32} {q : Nat → List Int64} {r : Nat → Nat} (hI : kI i a q) (hr : kr r) (x2 : Int32) : km 1 10 [.int 2, .int x2] (ks i a q r) (kPI (ks i a q r) (fun v => (v = 1 ∧ ((x2.toInt = 2) ∨ (x2.toInt = 0))) ∨ (v = 0 ∧ ((x2.toInt ≠ 2) ∧ (x2.toInt ≠ 0))))) := by
  have hG := kG_self kW0 hI hr
  refine km_ofPI (q := (mi_h10, mi_c10)) rfl (by decide) (Nat.le_of_ble_eq_true rfl) ?_
  intro P hP
  refine ft_go mi_k10 14 22 [(3, .int 0), (2, .int 2), (0, .int 2), (1, .int x2)] [.int x2, .int 2] i a q r (by rfl) ?_
  refine ft_if mi_k10 (2 != x2) 27 25 [(3, .int 0), (2, .int 2), (0, .int 2), (1, .int x2)] [] (by rfl) (fun c => ?_) (fun c => ?_)
  ·
    have c1 : (2 : Int32).toInt ≠ x2.toInt := kd_ne c; clear c
    refine ft_go mi_k10 2 31 [(3, .int 0), (2, .int 2), (0, .int 2), (1, .int x2)] [.int 2, .ref (mi_RO + 4)] i a q r (by rfl) ?_
    refine ko_iaro2 mi_k10.1 (l := [(-1), 0, 0, 2, 1, 3, 0, 4]) (n := 8) (c := 8) (ax := (0, 0, 0, 0, 0)) (mi_k10.2 _ _ (by rfl)) (by rfl) (by rfl) rfl rfl (ot45 kot2) (ot46 kot2) ?_
    have r2 : ((-1 : Int) ≤ (([(-1), 0, 0, 2, 1, 3, 0, 4] : List Int32).getD (2 : Int32).toNatClampNeg 0).toInt) ∧ ((([(-1), 0, 0, 2, 1, 3, 0, 4] : List Int32).getD (2 : Int32).toNatClampNeg 0).toInt ≤ 4) := kro_rng (lo := -1) (hi := 4) (by decide) ((2 : Int32).toNatClampNeg)
    refine ko_eq (x1 := (32, [(3, .int 0), (2, .int 2), (0, .int 2), (1, .int x2)], [.int 0], (0, 0), ks i a q r)) (by rw [(by decide : (([(-1), 0, 0, 2, 1, 3, 0, 4] : List Int32).getD (2 : Int32).toNatClampNeg 0) = 0)]) ?_
    refine ft_go mi_k10 2 36 [(3, .int (0 + 1)), (2, .int 0), (0, .int 2), (1, .int x2)] [] i a q r (by rfl) ?_
    refine ko_eq (x1 := (36, [(3, .int 1), (2, .int 0), (0, .int 2), (1, .int x2)], [], (0, 0), ks i a q r)) (by rw [(by decide : (0 + 1 : Int32) = 1)]) ?_
    refine ft_go mi_k10 11 22 [(3, .int 1), (2, .int 0), (0, .int 2), (1, .int x2)] [.int x2, .int 0] i a q r (by rfl) ?_
    refine ft_if mi_k10 (0 != x2) 27 25 [(3, .int 1), (2, .int 0), (0, .int 2), (1, .int x2)] [] (by rfl) (fun c => ?_) (fun c => ?_)
    ·
      have c3 : (0 : Int32).toInt ≠ x2.toInt := kd_ne c; clear c
      refine ft_go mi_k10 2 31 [(3, .int 1), (2, .int 0), (0, .int 2), (1, .int x2)] [.int 0, .ref (mi_RO + 4)] i a q r (by rfl) ?_
      refine ko_iaro2 mi_k10.1 (l := [(-1), 0, 0, 2, 1, 3, 0, 4]) (n := 8) (c := 8) (ax := (0, 0, 0, 0, 0)) (mi_k10.2 _ _ (by rfl)) (by rfl) (by rfl) rfl rfl (ot30 kot0) (ot31 kot0) ?_
      have r4 : ((-1 : Int) ≤ (([(-1), 0, 0, 2, 1, 3, 0, 4] : List Int32).getD (0 : Int32).toNatClampNeg 0).toInt) ∧ ((([(-1), 0, 0, 2, 1, 3, 0, 4] : List Int32).getD (0 : Int32).toNatClampNeg 0).toInt ≤ 4) := kro_rng (lo := -1) (hi := 4) (by decide) ((0 : Int32).toNatClampNeg)
      refine ko_eq (x1 := (32, [(3, .int 1), (2, .int 0), (0, .int 2), (1, .int x2)], [.int (-1)], (0, 0), ks i a q r)) (by rw [(by decide : (([(-1), 0, 0, 2, 1, 3, 0, 4] : List Int32).getD (0 : Int32).toNatClampNeg 0) = (-1))]) ?_
      refine ft_go mi_k10 2 36 [(3, .int (1 + 1)), (2, .int (-1)), (0, .int 2), (1, .int x2)] [] i a q r (by rfl) ?_
      refine ko_eq (x1 := (36, [(3, .int 2), (2, .int (-1)), (0, .int 2), (1, .int x2)], [], (0, 0), ks i a q r)) (by rw [(by decide : (1 + 1 : Int32) = 2)]) ?_
      refine ft_go mi_k10 7 40 [(3, .int 2), (2, .int (-1)), (0, .int 2), (1, .int x2)] [.int 0] i a q r (by rfl) ?_
      exact ft_ret mi_k10 (by rfl) (hP 0 (Or.inr ⟨rfl, (ot47 c1 c3 kot2 kot0)⟩))
    ·
      have c5 : (0 : Int32).toInt = x2.toInt := kd_neF c; clear c
      refine ft_go mi_k10 1 26 [(3, .int 1), (2, .int 0), (0, .int 2), (1, .int x2)] [.int 1] i a q r (by rfl) ?_
      exact ft_ret mi_k10 (by rfl) (hP 1 (Or.inl ⟨rfl, (ot48 c5 kot0)⟩))
  ·
    have c6 : (2 : Int32).toInt = x2.toInt := kd_neF c; clear c
    refine ft_go mi_k10 1 26 [(3, .int 0), (2, .int 2), (0, .int 2), (1, .int x2)] [.int 1] i a q r (by rfl) ?_
    exact ft_ret mi_k10 (by rfl) (hP 1 (Or.inl ⟨rfl, (ot49 c6 kot2)⟩))
set_option maxRecDepth 100000 in
theorem ke10_l03 {i : Nat → Int32} {a : Nat → List Int32} {q : Nat → List Int64} {r : Nat → Nat} (hI : kI i a q) (hr : kr r) (x2 : Int32) : km 1 10 [.int 3, .int x2] (ks i a q r) (kPI (ks i a q r) (fun v => (v = 1 ∧ ((x2.toInt = 3) ∨ (x2.toInt = 2) ∨ (x2.toInt = 0))) ∨ (v = 0 ∧ ((x2.toInt ≠ 3) ∧ (x2.toInt ≠ 2) ∧ (x2.toInt ≠ 0))))) := by
  have hG := kG_self kW0 hI hr
  refine km_ofPI (q := (mi_h10, mi_c10)) rfl (by decide) (Nat.le_of_ble_eq_true rfl) ?_
  intro P hP
  refine ft_go mi_k10 14 22 [(3, .int 0), (2, .int 3), (0, .int 3), (1, .int x2)] [.int x2, .int 3] i a q r (by rfl) ?_
  refine ft_if mi_k10 (3 != x2) 27 25 [(3, .int 0), (2, .int 3), (0, .int 3), (1, .int x2)] [] (by rfl) (fun c => ?_) (fun c => ?_)
  ·
    have c1 : (3 : Int32).toInt ≠ x2.toInt := kd_ne c; clear c
    refine ft_go mi_k10 2 31 [(3, .int 0), (2, .int 3), (0, .int 3), (1, .int x2)] [.int 3, .ref (mi_RO + 4)] i a q r (by rfl) ?_
    refine ko_iaro2 mi_k10.1 (l := [(-1), 0, 0, 2, 1, 3, 0, 4]) (n := 8) (c := 8) (ax := (0, 0, 0, 0, 0)) (mi_k10.2 _ _ (by rfl)) (by rfl) (by rfl) rfl rfl (ot52 kot3) (ot53 kot3) ?_
    have r2 : ((-1 : Int) ≤ (([(-1), 0, 0, 2, 1, 3, 0, 4] : List Int32).getD (3 : Int32).toNatClampNeg 0).toInt) ∧ ((([(-1), 0, 0, 2, 1, 3, 0, 4] : List Int32).getD (3 : Int32).toNatClampNeg 0).toInt ≤ 4) := kro_rng (lo := -1) (hi := 4) (by decide) ((3 : Int32).toNatClampNeg)
    refine ko_eq (x1 := (32, [(3, .int 0), (2, .int 3), (0, .int 3), (1, .int x2)], [.int 2], (0, 0), ks i a q r)) (by rw [(by decide : (([(-1), 0, 0, 2, 1, 3, 0, 4] : List Int32).getD (3 : Int32).toNatClampNeg 0) = 2)]) ?_
    refine ft_go mi_k10 2 36 [(3, .int (0 + 1)), (2, .int 2), (0, .int 3), (1, .int x2)] [] i a q r (by rfl) ?_
    refine ko_eq (x1 := (36, [(3, .int 1), (2, .int 2), (0, .int 3), (1, .int x2)], [], (0, 0), ks i a q r)) (by rw [(by decide : (0 + 1 : Int32) = 1)]) ?_
    refine ft_go mi_k10 11 22 [(3, .int 1), (2, .int 2), (0, .int 3), (1, .int x2)] [.int x2, .int 2] i a q r (by rfl) ?_
    refine ft_if mi_k10 (2 != x2) 27 25 [(3, .int 1), (2, .int 2), (0, .int 3), (1, .int x2)] [] (by rfl) (fun c => ?_) (fun c => ?_)
    ·
      have c3 : (2 : Int32).toInt ≠ x2.toInt := kd_ne c; clear c
      refine ft_go mi_k10 2 31 [(3, .int 1), (2, .int 2), (0, .int 3), (1, .int x2)] [.int 2, .ref (mi_RO + 4)] i a q r (by rfl) ?_
      refine ko_iaro2 mi_k10.1 (l := [(-1), 0, 0, 2, 1, 3, 0, 4]) (n := 8) (c := 8) (ax := (0, 0, 0, 0, 0)) (mi_k10.2 _ _ (by rfl)) (by rfl) (by rfl) rfl rfl (ot45 kot2) (ot46 kot2) ?_
      have r4 : ((-1 : Int) ≤ (([(-1), 0, 0, 2, 1, 3, 0, 4] : List Int32).getD (2 : Int32).toNatClampNeg 0).toInt) ∧ ((([(-1), 0, 0, 2, 1, 3, 0, 4] : List Int32).getD (2 : Int32).toNatClampNeg 0).toInt ≤ 4) := kro_rng (lo := -1) (hi := 4) (by decide) ((2 : Int32).toNatClampNeg)
      refine ko_eq (x1 := (32, [(3, .int 1), (2, .int 2), (0, .int 3), (1, .int x2)], [.int 0], (0, 0), ks i a q r)) (by rw [(by decide : (([(-1), 0, 0, 2, 1, 3, 0, 4] : List Int32).getD (2 : Int32).toNatClampNeg 0) = 0)]) ?_
      refine ft_go mi_k10 2 36 [(3, .int (1 + 1)), (2, .int 0), (0, .int 3), (1, .int x2)] [] i a q r (by rfl) ?_
      refine ko_eq (x1 := (36, [(3, .int 2), (2, .int 0), (0, .int 3), (1, .int x2)], [], (0, 0), ks i a q r)) (by rw [(by decide : (1 + 1 : Int32) = 2)]) ?_
      refine ft_go mi_k10 11 22 [(3, .int 2), (2, .int 0), (0, .int 3), (1, .int x2)] [.int x2, .int 0] i a q r (by rfl) ?_
      refine ft_if mi_k10 (0 != x2) 27 25 [(3, .int 2), (2, .int 0), (0, .int 3), (1, .int x2)] [] (by rfl) (fun c => ?_) (fun c => ?_)
      ·
        have c5 : (0 : Int32).toInt ≠ x2.toInt := kd_ne c; clear c
        refine ft_go mi_k10 2 31 [(3, .int 2), (2, .int 0), (0, .int 3), (1, .int x2)] [.int 0, .ref (mi_RO + 4)] i a q r (by rfl) ?_
        refine ko_iaro2 mi_k10.1 (l := [(-1), 0, 0, 2, 1, 3, 0, 4]) (n := 8) (c := 8) (ax := (0, 0, 0, 0, 0)) (mi_k10.2 _ _ (by rfl)) (by rfl) (by rfl) rfl rfl (ot30 kot0) (ot31 kot0) ?_
        have r6 : ((-1 : Int) ≤ (([(-1), 0, 0, 2, 1, 3, 0, 4] : List Int32).getD (0 : Int32).toNatClampNeg 0).toInt) ∧ ((([(-1), 0, 0, 2, 1, 3, 0, 4] : List Int32).getD (0 : Int32).toNatClampNeg 0).toInt ≤ 4) := kro_rng (lo := -1) (hi := 4) (by decide) ((0 : Int32).toNatClampNeg)
        refine ko_eq (x1 := (32, [(3, .int 2), (2, .int 0), (0, .int 3), (1, .int x2)], [.int (-1)], (0, 0), ks i a q r)) (by rw [(by decide : (([(-1), 0, 0, 2, 1, 3, 0, 4] : List Int32).getD (0 : Int32).toNatClampNeg 0) = (-1))]) ?_
        refine ft_go mi_k10 2 36 [(3, .int (2 + 1)), (2, .int (-1)), (0, .int 3), (1, .int x2)] [] i a q r (by rfl) ?_
        refine ko_eq (x1 := (36, [(3, .int 3), (2, .int (-1)), (0, .int 3), (1, .int x2)], [], (0, 0), ks i a q r)) (by rw [(by decide : (2 + 1 : Int32) = 3)]) ?_
        refine ft_go mi_k10 7 40 [(3, .int 3), (2, .int (-1)), (0, .int 3), (1, .int x2)] [.int 0] i a q r (by rfl) ?_
        exact ft_ret mi_k10 (by rfl) (hP 0 (Or.inr ⟨rfl, (ot54 c1 c3 c5 kot3 kot2 kot0)⟩))
      ·
        have c7 : (0 : Int32).toInt = x2.toInt := kd_neF c; clear c
        refine ft_go mi_k10 1 26 [(3, .int 2), (2, .int 0), (0, .int 3), (1, .int x2)] [.int 1] i a q r (by rfl) ?_
        exact ft_ret mi_k10 (by rfl) (hP 1 (Or.inl ⟨rfl, (ot55 c7 kot0)⟩))
    ·
      have c8 : (2 : Int32).toInt = x2.toInt := kd_neF c; clear c
      refine ft_go mi_k10 1 26 [(3, .int 1), (2, .int 2), (0, .int 3), (1, .int x2)] [.int 1] i a q r (by rfl) ?_
      exact ft_ret mi_k10 (by rfl) (hP 1 (Or.inl ⟨rfl, (ot56 c8 kot2)⟩))
  ·
    have c9 : (3 : Int32).toInt = x2.toInt := kd_neF c; clear c
    refine ft_go mi_k10 1 26 [(3, .int 0), (2, .int 3), (0, .int 3), (1, .int x2)] [.int 1] i a q r (by rfl) ?_
    exact ft_ret mi_k10 (by rfl) (hP 1 (Or.inl ⟨rfl, (ot57 c9 kot3)⟩))
set_option maxRecDepth 100000 in
theorem ke10_l04 {i : Nat → Int32} {a : Nat → List Int32} {q : Nat → List Int64} {r : Nat → Nat} (hI : kI i a q) (hr : kr r) (x2 : Int32) : km 1 10 [.int 4, .int x2] (ks i a q r) (kPI (ks i a q r) (fun v => (v = 1 ∧ ((x2.toInt = 4) ∨ (x2.toInt = 1) ∨ (x2.toInt = 0))) ∨ (v = 0 ∧ ((x2.toInt ≠ 4) ∧ (x2.toInt ≠ 1) ∧ (x2.toInt ≠ 0))))) := by
  have hG := kG_self kW0 hI hr
  refine km_ofPI (q := (mi_h10, mi_c10)) rfl (by decide) (Nat.le_of_ble_eq_true rfl) ?_
  intro P hP
  refine ft_go mi_k10 14 22 [(3, .int 0), (2, .int 4), (0, .int 4), (1, .int x2)] [.int x2, .int 4] i a q r (by rfl) ?_
  refine ft_if mi_k10 (4 != x2) 27 25 [(3, .int 0), (2, .int 4), (0, .int 4), (1, .int x2)] [] (by rfl) (fun c => ?_) (fun c => ?_)
  ·
    have c1 : (4 : Int32).toInt ≠ x2.toInt := kd_ne c; clear c
    refine ft_go mi_k10 2 31 [(3, .int 0), (2, .int 4), (0, .int 4), (1, .int x2)] [.int 4, .ref (mi_RO + 4)] i a q r (by rfl) ?_
    refine ko_iaro2 mi_k10.1 (l := [(-1), 0, 0, 2, 1, 3, 0, 4]) (n := 8) (c := 8) (ax := (0, 0, 0, 0, 0)) (mi_k10.2 _ _ (by rfl)) (by rfl) (by rfl) rfl rfl (ot60 kot4) (ot61 kot4) ?_
    have r2 : ((-1 : Int) ≤ (([(-1), 0, 0, 2, 1, 3, 0, 4] : List Int32).getD (4 : Int32).toNatClampNeg 0).toInt) ∧ ((([(-1), 0, 0, 2, 1, 3, 0, 4] : List Int32).getD (4 : Int32).toNatClampNeg 0).toInt ≤ 4) := kro_rng (lo := -1) (hi := 4) (by decide) ((4 : Int32).toNatClampNeg)
    refine ko_eq (x1 := (32, [(3, .int 0), (2, .int 4), (0, .int 4), (1, .int x2)], [.int 1], (0, 0), ks i a q r)) (by rw [(by decide : (([(-1), 0, 0, 2, 1, 3, 0, 4] : List Int32).getD (4 : Int32).toNatClampNeg 0) = 1)]) ?_
    refine ft_go mi_k10 2 36 [(3, .int (0 + 1)), (2, .int 1), (0, .int 4), (1, .int x2)] [] i a q r (by rfl) ?_
    refine ko_eq (x1 := (36, [(3, .int 1), (2, .int 1), (0, .int 4), (1, .int x2)], [], (0, 0), ks i a q r)) (by rw [(by decide : (0 + 1 : Int32) = 1)]) ?_
    refine ft_go mi_k10 11 22 [(3, .int 1), (2, .int 1), (0, .int 4), (1, .int x2)] [.int x2, .int 1] i a q r (by rfl) ?_
    refine ft_if mi_k10 (1 != x2) 27 25 [(3, .int 1), (2, .int 1), (0, .int 4), (1, .int x2)] [] (by rfl) (fun c => ?_) (fun c => ?_)
    ·
      have c3 : (1 : Int32).toInt ≠ x2.toInt := kd_ne c; clear c
      refine ft_go mi_k10 2 31 [(3, .int 1), (2, .int 1), (0, .int 4), (1, .int x2)] [.int 1, .ref (mi_RO + 4)] i a q r (by rfl) ?_
      refine ko_iaro2 mi_k10.1 (l := [(-1), 0, 0, 2, 1, 3, 0, 4]) (n := 8) (c := 8) (ax := (0, 0, 0, 0, 0)) (mi_k10.2 _ _ (by rfl)) (by rfl) (by rfl) rfl rfl (ot38 kot1) (ot39 kot1) ?_
      have r4 : ((-1 : Int) ≤ (([(-1), 0, 0, 2, 1, 3, 0, 4] : List Int32).getD (1 : Int32).toNatClampNeg 0).toInt) ∧ ((([(-1), 0, 0, 2, 1, 3, 0, 4] : List Int32).getD (1 : Int32).toNatClampNeg 0).toInt ≤ 4) := kro_rng (lo := -1) (hi := 4) (by decide) ((1 : Int32).toNatClampNeg)
      refine ko_eq (x1 := (32, [(3, .int 1), (2, .int 1), (0, .int 4), (1, .int x2)], [.int 0], (0, 0), ks i a q r)) (by rw [(by decide : (([(-1), 0, 0, 2, 1, 3, 0, 4] : List Int32).getD (1 : Int32).toNatClampNeg 0) = 0)]) ?_
      refine ft_go mi_k10 2 36 [(3, .int (1 + 1)), (2, .int 0), (0, .int 4), (1, .int x2)] [] i a q r (by rfl) ?_
      refine ko_eq (x1 := (36, [(3, .int 2), (2, .int 0), (0, .int 4), (1, .int x2)], [], (0, 0), ks i a q r)) (by rw [(by decide : (1 + 1 : Int32) = 2)]) ?_
      refine ft_go mi_k10 11 22 [(3, .int 2), (2, .int 0), (0, .int 4), (1, .int x2)] [.int x2, .int 0] i a q r (by rfl) ?_
      refine ft_if mi_k10 (0 != x2) 27 25 [(3, .int 2), (2, .int 0), (0, .int 4), (1, .int x2)] [] (by rfl) (fun c => ?_) (fun c => ?_)
      ·
        have c5 : (0 : Int32).toInt ≠ x2.toInt := kd_ne c; clear c
        refine ft_go mi_k10 2 31 [(3, .int 2), (2, .int 0), (0, .int 4), (1, .int x2)] [.int 0, .ref (mi_RO + 4)] i a q r (by rfl) ?_
        refine ko_iaro2 mi_k10.1 (l := [(-1), 0, 0, 2, 1, 3, 0, 4]) (n := 8) (c := 8) (ax := (0, 0, 0, 0, 0)) (mi_k10.2 _ _ (by rfl)) (by rfl) (by rfl) rfl rfl (ot30 kot0) (ot31 kot0) ?_
        have r6 : ((-1 : Int) ≤ (([(-1), 0, 0, 2, 1, 3, 0, 4] : List Int32).getD (0 : Int32).toNatClampNeg 0).toInt) ∧ ((([(-1), 0, 0, 2, 1, 3, 0, 4] : List Int32).getD (0 : Int32).toNatClampNeg 0).toInt ≤ 4) := kro_rng (lo := -1) (hi := 4) (by decide) ((0 : Int32).toNatClampNeg)
        refine ko_eq (x1 := (32, [(3, .int 2), (2, .int 0), (0, .int 4), (1, .int x2)], [.int (-1)], (0, 0), ks i a q r)) (by rw [(by decide : (([(-1), 0, 0, 2, 1, 3, 0, 4] : List Int32).getD (0 : Int32).toNatClampNeg 0) = (-1))]) ?_
        refine ft_go mi_k10 2 36 [(3, .int (2 + 1)), (2, .int (-1)), (0, .int 4), (1, .int x2)] [] i a q r (by rfl) ?_
        refine ko_eq (x1 := (36, [(3, .int 3), (2, .int (-1)), (0, .int 4), (1, .int x2)], [], (0, 0), ks i a q r)) (by rw [(by decide : (2 + 1 : Int32) = 3)]) ?_
        refine ft_go mi_k10 7 40 [(3, .int 3), (2, .int (-1)), (0, .int 4), (1, .int x2)] [.int 0] i a q r (by rfl) ?_
        exact ft_ret mi_k10 (by rfl) (hP 0 (Or.inr ⟨rfl, (ot62 c1 c3 c5 kot4 kot1 kot0)⟩))
      ·
        have c7 : (0 : Int32).toInt = x2.toInt := kd_neF c; clear c
        refine ft_go mi_k10 1 26 [(3, .int 2), (2, .int 0), (0, .int 4), (1, .int x2)] [.int 1] i a q r (by rfl) ?_
        exact ft_ret mi_k10 (by rfl) (hP 1 (Or.inl ⟨rfl, (ot63 c7 kot0)⟩))
    ·
      have c8 : (1 : Int32).toInt = x2.toInt := kd_neF c; clear c
      refine ft_go mi_k10 1 26 [(3, .int 1), (2, .int 1), (0, .int 4), (1, .int x2)] [.int 1] i a q r (by rfl) ?_
      exact ft_ret mi_k10 (by rfl) (hP 1 (Or.inl ⟨rfl, (ot64 c8 kot1)⟩))
  ·
    have c9 : (4 : Int32).toInt = x2.toInt := kd_neF c; clear c
    refine ft_go mi_k10 1 26 [(3, .int 0), (2, .int 4), (0, .int 4), (1, .int x2)] [.int 1] i a q r (by rfl) ?_
    exact ft_ret mi_k10 (by rfl) (hP 1 (Or.inl ⟨rfl, (ot65 c9 kot4)⟩))
set_option maxRecDepth 100000 in
theorem ke10_l05 {i : Nat → Int32} {a : Nat → List Int32} {q : Nat → List Int64} {r : Nat → Nat} (hI : kI i a q) (hr : kr r) (x2 : Int32) : km 1 10 [.int 5, .int x2] (ks i a q r) (kPI (ks i a q r) (fun v => (v = 1 ∧ ((x2.toInt = 5) ∨ (x2.toInt = 3) ∨ (x2.toInt = 2) ∨ (x2.toInt = 0))) ∨ (v = 0 ∧ ((x2.toInt ≠ 5) ∧ (x2.toInt ≠ 3) ∧ (x2.toInt ≠ 2) ∧ (x2.toInt ≠ 0))))) := by
  have hG := kG_self kW0 hI hr
  refine km_ofPI (q := (mi_h10, mi_c10)) rfl (by decide) (Nat.le_of_ble_eq_true rfl) ?_
  intro P hP
  refine ft_go mi_k10 14 22 [(3, .int 0), (2, .int 5), (0, .int 5), (1, .int x2)] [.int x2, .int 5] i a q r (by rfl) ?_
  refine ft_if mi_k10 (5 != x2) 27 25 [(3, .int 0), (2, .int 5), (0, .int 5), (1, .int x2)] [] (by rfl) (fun c => ?_) (fun c => ?_)
  ·
    have c1 : (5 : Int32).toInt ≠ x2.toInt := kd_ne c; clear c
    refine ft_go mi_k10 2 31 [(3, .int 0), (2, .int 5), (0, .int 5), (1, .int x2)] [.int 5, .ref (mi_RO + 4)] i a q r (by rfl) ?_
    refine ko_iaro2 mi_k10.1 (l := [(-1), 0, 0, 2, 1, 3, 0, 4]) (n := 8) (c := 8) (ax := (0, 0, 0, 0, 0)) (mi_k10.2 _ _ (by rfl)) (by rfl) (by rfl) rfl rfl (ot68 kot5) (ot69 kot5) ?_
    have r2 : ((-1 : Int) ≤ (([(-1), 0, 0, 2, 1, 3, 0, 4] : List Int32).getD (5 : Int32).toNatClampNeg 0).toInt) ∧ ((([(-1), 0, 0, 2, 1, 3, 0, 4] : List Int32).getD (5 : Int32).toNatClampNeg 0).toInt ≤ 4) := kro_rng (lo := -1) (hi := 4) (by decide) ((5 : Int32).toNatClampNeg)
    refine ko_eq (x1 := (32, [(3, .int 0), (2, .int 5), (0, .int 5), (1, .int x2)], [.int 3], (0, 0), ks i a q r)) (by rw [(by decide : (([(-1), 0, 0, 2, 1, 3, 0, 4] : List Int32).getD (5 : Int32).toNatClampNeg 0) = 3)]) ?_
    refine ft_go mi_k10 2 36 [(3, .int (0 + 1)), (2, .int 3), (0, .int 5), (1, .int x2)] [] i a q r (by rfl) ?_
    refine ko_eq (x1 := (36, [(3, .int 1), (2, .int 3), (0, .int 5), (1, .int x2)], [], (0, 0), ks i a q r)) (by rw [(by decide : (0 + 1 : Int32) = 1)]) ?_
    refine ft_go mi_k10 11 22 [(3, .int 1), (2, .int 3), (0, .int 5), (1, .int x2)] [.int x2, .int 3] i a q r (by rfl) ?_
    refine ft_if mi_k10 (3 != x2) 27 25 [(3, .int 1), (2, .int 3), (0, .int 5), (1, .int x2)] [] (by rfl) (fun c => ?_) (fun c => ?_)
    ·
      have c3 : (3 : Int32).toInt ≠ x2.toInt := kd_ne c; clear c
      refine ft_go mi_k10 2 31 [(3, .int 1), (2, .int 3), (0, .int 5), (1, .int x2)] [.int 3, .ref (mi_RO + 4)] i a q r (by rfl) ?_
      refine ko_iaro2 mi_k10.1 (l := [(-1), 0, 0, 2, 1, 3, 0, 4]) (n := 8) (c := 8) (ax := (0, 0, 0, 0, 0)) (mi_k10.2 _ _ (by rfl)) (by rfl) (by rfl) rfl rfl (ot52 kot3) (ot53 kot3) ?_
      have r4 : ((-1 : Int) ≤ (([(-1), 0, 0, 2, 1, 3, 0, 4] : List Int32).getD (3 : Int32).toNatClampNeg 0).toInt) ∧ ((([(-1), 0, 0, 2, 1, 3, 0, 4] : List Int32).getD (3 : Int32).toNatClampNeg 0).toInt ≤ 4) := kro_rng (lo := -1) (hi := 4) (by decide) ((3 : Int32).toNatClampNeg)
      refine ko_eq (x1 := (32, [(3, .int 1), (2, .int 3), (0, .int 5), (1, .int x2)], [.int 2], (0, 0), ks i a q r)) (by rw [(by decide : (([(-1), 0, 0, 2, 1, 3, 0, 4] : List Int32).getD (3 : Int32).toNatClampNeg 0) = 2)]) ?_
      refine ft_go mi_k10 2 36 [(3, .int (1 + 1)), (2, .int 2), (0, .int 5), (1, .int x2)] [] i a q r (by rfl) ?_
      refine ko_eq (x1 := (36, [(3, .int 2), (2, .int 2), (0, .int 5), (1, .int x2)], [], (0, 0), ks i a q r)) (by rw [(by decide : (1 + 1 : Int32) = 2)]) ?_
      refine ft_go mi_k10 11 22 [(3, .int 2), (2, .int 2), (0, .int 5), (1, .int x2)] [.int x2, .int 2] i a q r (by rfl) ?_
      refine ft_if mi_k10 (2 != x2) 27 25 [(3, .int 2), (2, .int 2), (0, .int 5), (1, .int x2)] [] (by rfl) (fun c => ?_) (fun c => ?_)
      ·
        have c5 : (2 : Int32).toInt ≠ x2.toInt := kd_ne c; clear c
        refine ft_go mi_k10 2 31 [(3, .int 2), (2, .int 2), (0, .int 5), (1, .int x2)] [.int 2, .ref (mi_RO + 4)] i a q r (by rfl) ?_
        refine ko_iaro2 mi_k10.1 (l := [(-1), 0, 0, 2, 1, 3, 0, 4]) (n := 8) (c := 8) (ax := (0, 0, 0, 0, 0)) (mi_k10.2 _ _ (by rfl)) (by rfl) (by rfl) rfl rfl (ot45 kot2) (ot46 kot2) ?_
        have r6 : ((-1 : Int) ≤ (([(-1), 0, 0, 2, 1, 3, 0, 4] : List Int32).getD (2 : Int32).toNatClampNeg 0).toInt) ∧ ((([(-1), 0, 0, 2, 1, 3, 0, 4] : List Int32).getD (2 : Int32).toNatClampNeg 0).toInt ≤ 4) := kro_rng (lo := -1) (hi := 4) (by decide) ((2 : Int32).toNatClampNeg)
        refine ko_eq (x1 := (32, [(3, .int 2), (2, .int 2), (0, .int 5), (1, .int x2)], [.int 0], (0, 0), ks i a q r)) (by rw [(by decide : (([(-1), 0, 0, 2, 1, 3, 0, 4] : List Int32).getD (2 : Int32).toNatClampNeg 0) = 0)]) ?_
        refine ft_go mi_k10 2 36 [(3, .int (2 + 1)), (2, .int 0), (0, .int 5), (1, .int x2)] [] i a q r (by rfl) ?_
        refine ko_eq (x1 := (36, [(3, .int 3), (2, .int 0), (0, .int 5), (1, .int x2)], [], (0, 0), ks i a q r)) (by rw [(by decide : (2 + 1 : Int32) = 3)]) ?_
        refine ft_go mi_k10 11 22 [(3, .int 3), (2, .int 0), (0, .int 5), (1, .int x2)] [.int x2, .int 0] i a q r (by rfl) ?_
        refine ft_if mi_k10 (0 != x2) 27 25 [(3, .int 3), (2, .int 0), (0, .int 5), (1, .int x2)] [] (by rfl) (fun c => ?_) (fun c => ?_)
        ·
          have c7 : (0 : Int32).toInt ≠ x2.toInt := kd_ne c; clear c
          refine ft_go mi_k10 2 31 [(3, .int 3), (2, .int 0), (0, .int 5), (1, .int x2)] [.int 0, .ref (mi_RO + 4)] i a q r (by rfl) ?_
          refine ko_iaro2 mi_k10.1 (l := [(-1), 0, 0, 2, 1, 3, 0, 4]) (n := 8) (c := 8) (ax := (0, 0, 0, 0, 0)) (mi_k10.2 _ _ (by rfl)) (by rfl) (by rfl) rfl rfl (ot30 kot0) (ot31 kot0) ?_
          have r8 : ((-1 : Int) ≤ (([(-1), 0, 0, 2, 1, 3, 0, 4] : List Int32).getD (0 : Int32).toNatClampNeg 0).toInt) ∧ ((([(-1), 0, 0, 2, 1, 3, 0, 4] : List Int32).getD (0 : Int32).toNatClampNeg 0).toInt ≤ 4) := kro_rng (lo := -1) (hi := 4) (by decide) ((0 : Int32).toNatClampNeg)
          refine ko_eq (x1 := (32, [(3, .int 3), (2, .int 0), (0, .int 5), (1, .int x2)], [.int (-1)], (0, 0), ks i a q r)) (by rw [(by decide : (([(-1), 0, 0, 2, 1, 3, 0, 4] : List Int32).getD (0 : Int32).toNatClampNeg 0) = (-1))]) ?_
          refine ft_go mi_k10 2 36 [(3, .int (3 + 1)), (2, .int (-1)), (0, .int 5), (1, .int x2)] [] i a q r (by rfl) ?_
          refine ko_eq (x1 := (36, [(3, .int 4), (2, .int (-1)), (0, .int 5), (1, .int x2)], [], (0, 0), ks i a q r)) (by rw [(by decide : (3 + 1 : Int32) = 4)]) ?_
          refine ft_go mi_k10 7 40 [(3, .int 4), (2, .int (-1)), (0, .int 5), (1, .int x2)] [.int 0] i a q r (by rfl) ?_
          exact ft_ret mi_k10 (by rfl) (hP 0 (Or.inr ⟨rfl, (ot70 c1 c3 c5 c7 kot5 kot3 kot2 kot0)⟩))
        ·
          have c9 : (0 : Int32).toInt = x2.toInt := kd_neF c; clear c
          refine ft_go mi_k10 1 26 [(3, .int 3), (2, .int 0), (0, .int 5), (1, .int x2)] [.int 1] i a q r (by rfl) ?_
          exact ft_ret mi_k10 (by rfl) (hP 1 (Or.inl ⟨rfl, (ot71 c9 kot0)⟩))
      ·
        have c10 : (2 : Int32).toInt = x2.toInt := kd_neF c; clear c
        refine ft_go mi_k10 1 26 [(3, .int 2), (2, .int 2), (0, .int 5), (1, .int x2)] [.int 1] i a q r (by rfl) ?_
        exact ft_ret mi_k10 (by rfl) (hP 1 (Or.inl ⟨rfl, (ot72 c10 kot2)⟩))
    ·
      have c11 : (3 : Int32).toInt = x2.toInt := kd_neF c; clear c
      refine ft_go mi_k10 1 26 [(3, .int 1), (2, .int 3), (0, .int 5), (1, .int x2)] [.int 1] i a q r (by rfl) ?_
      exact ft_ret mi_k10 (by rfl) (hP 1 (Or.inl ⟨rfl, (ot73 c11 kot3)⟩))
  ·
    have c12 : (5 : Int32).toInt = x2.toInt := kd_neF c; clear c
    refine ft_go mi_k10 1 26 [(3, .int 0), (2, .int 5), (0, .int 5), (1, .int x2)] [.int 1] i a q r (by rfl) ?_
    exact ft_ret mi_k10 (by rfl) (hP 1 (Or.inl ⟨rfl, (ot74 c12 kot5)⟩))
set_option maxRecDepth 100000 in
theorem ke10_l06 {i : Nat → Int32} {a : Nat → List Int32} {q : Nat → List Int64} {r : Nat → Nat} (hI : kI i a q) (hr : kr r) (x2 : Int32) : km 1 10 [.int 6, .int x2] (ks i a q r) (kPI (ks i a q r) (fun v => (v = 1 ∧ ((x2.toInt = 6) ∨ (x2.toInt = 0))) ∨ (v = 0 ∧ ((x2.toInt ≠ 6) ∧ (x2.toInt ≠ 0))))) := by
  have hG := kG_self kW0 hI hr
  refine km_ofPI (q := (mi_h10, mi_c10)) rfl (by decide) (Nat.le_of_ble_eq_true rfl) ?_
  intro P hP
  refine ft_go mi_k10 14 22 [(3, .int 0), (2, .int 6), (0, .int 6), (1, .int x2)] [.int x2, .int 6] i a q r (by rfl) ?_
  refine ft_if mi_k10 (6 != x2) 27 25 [(3, .int 0), (2, .int 6), (0, .int 6), (1, .int x2)] [] (by rfl) (fun c => ?_) (fun c => ?_)
  ·
    have c1 : (6 : Int32).toInt ≠ x2.toInt := kd_ne c; clear c
    refine ft_go mi_k10 2 31 [(3, .int 0), (2, .int 6), (0, .int 6), (1, .int x2)] [.int 6, .ref (mi_RO + 4)] i a q r (by rfl) ?_
    refine ko_iaro2 mi_k10.1 (l := [(-1), 0, 0, 2, 1, 3, 0, 4]) (n := 8) (c := 8) (ax := (0, 0, 0, 0, 0)) (mi_k10.2 _ _ (by rfl)) (by rfl) (by rfl) rfl rfl (ot77 kot6) (ot78 kot6) ?_
    have r2 : ((-1 : Int) ≤ (([(-1), 0, 0, 2, 1, 3, 0, 4] : List Int32).getD (6 : Int32).toNatClampNeg 0).toInt) ∧ ((([(-1), 0, 0, 2, 1, 3, 0, 4] : List Int32).getD (6 : Int32).toNatClampNeg 0).toInt ≤ 4) := kro_rng (lo := -1) (hi := 4) (by decide) ((6 : Int32).toNatClampNeg)
    refine ko_eq (x1 := (32, [(3, .int 0), (2, .int 6), (0, .int 6), (1, .int x2)], [.int 0], (0, 0), ks i a q r)) (by rw [(by decide : (([(-1), 0, 0, 2, 1, 3, 0, 4] : List Int32).getD (6 : Int32).toNatClampNeg 0) = 0)]) ?_
    refine ft_go mi_k10 2 36 [(3, .int (0 + 1)), (2, .int 0), (0, .int 6), (1, .int x2)] [] i a q r (by rfl) ?_
    refine ko_eq (x1 := (36, [(3, .int 1), (2, .int 0), (0, .int 6), (1, .int x2)], [], (0, 0), ks i a q r)) (by rw [(by decide : (0 + 1 : Int32) = 1)]) ?_
    refine ft_go mi_k10 11 22 [(3, .int 1), (2, .int 0), (0, .int 6), (1, .int x2)] [.int x2, .int 0] i a q r (by rfl) ?_
    refine ft_if mi_k10 (0 != x2) 27 25 [(3, .int 1), (2, .int 0), (0, .int 6), (1, .int x2)] [] (by rfl) (fun c => ?_) (fun c => ?_)
    ·
      have c3 : (0 : Int32).toInt ≠ x2.toInt := kd_ne c; clear c
      refine ft_go mi_k10 2 31 [(3, .int 1), (2, .int 0), (0, .int 6), (1, .int x2)] [.int 0, .ref (mi_RO + 4)] i a q r (by rfl) ?_
      refine ko_iaro2 mi_k10.1 (l := [(-1), 0, 0, 2, 1, 3, 0, 4]) (n := 8) (c := 8) (ax := (0, 0, 0, 0, 0)) (mi_k10.2 _ _ (by rfl)) (by rfl) (by rfl) rfl rfl (ot30 kot0) (ot31 kot0) ?_
      have r4 : ((-1 : Int) ≤ (([(-1), 0, 0, 2, 1, 3, 0, 4] : List Int32).getD (0 : Int32).toNatClampNeg 0).toInt) ∧ ((([(-1), 0, 0, 2, 1, 3, 0, 4] : List Int32).getD (0 : Int32).toNatClampNeg 0).toInt ≤ 4) := kro_rng (lo := -1) (hi := 4) (by decide) ((0 : Int32).toNatClampNeg)
      refine ko_eq (x1 := (32, [(3, .int 1), (2, .int 0), (0, .int 6), (1, .int x2)], [.int (-1)], (0, 0), ks i a q r)) (by rw [(by decide : (([(-1), 0, 0, 2, 1, 3, 0, 4] : List Int32).getD (0 : Int32).toNatClampNeg 0) = (-1))]) ?_
      refine ft_go mi_k10 2 36 [(3, .int (1 + 1)), (2, .int (-1)), (0, .int 6), (1, .int x2)] [] i a q r (by rfl) ?_
      refine ko_eq (x1 := (36, [(3, .int 2), (2, .int (-1)), (0, .int 6), (1, .int x2)], [], (0, 0), ks i a q r)) (by rw [(by decide : (1 + 1 : Int32) = 2)]) ?_
      refine ft_go mi_k10 7 40 [(3, .int 2), (2, .int (-1)), (0, .int 6), (1, .int x2)] [.int 0] i a q r (by rfl) ?_
      exact ft_ret mi_k10 (by rfl) (hP 0 (Or.inr ⟨rfl, (ot79 c1 c3 kot6 kot0)⟩))
    ·
      have c5 : (0 : Int32).toInt = x2.toInt := kd_neF c; clear c
      refine ft_go mi_k10 1 26 [(3, .int 1), (2, .int 0), (0, .int 6), (1, .int x2)] [.int 1] i a q r (by rfl) ?_
      exact ft_ret mi_k10 (by rfl) (hP 1 (Or.inl ⟨rfl, (ot80 c5 kot0)⟩))
  ·
    have c6 : (6 : Int32).toInt = x2.toInt := kd_neF c; clear c
    refine ft_go mi_k10 1 26 [(3, .int 0), (2, .int 6), (0, .int 6), (1, .int x2)] [.int 1] i a q r (by rfl) ?_
    exact ft_ret mi_k10 (by rfl) (hP 1 (Or.inl ⟨rfl, (ot81 c6 kot6)⟩))
set_option maxRecDepth 100000 in
theorem ke10_l07 {i : Nat → Int32} {a : Nat → List Int32} {q : Nat → List Int64} {r : Nat → Nat} (hI : kI i a q) (hr : kr r) (x2 : Int32) : km 1 10 [.int 7, .int x2] (ks i a q r) (kPI (ks i a q r) (fun v => (v = 1 ∧ ((x2.toInt = 7) ∨ (x2.toInt = 4) ∨ (x2.toInt = 1) ∨ (x2.toInt = 0))) ∨ (v = 0 ∧ ((x2.toInt ≠ 7) ∧ (x2.toInt ≠ 4) ∧ (x2.toInt ≠ 1) ∧ (x2.toInt ≠ 0))))) := by
  have hG := kG_self kW0 hI hr
  refine km_ofPI (q := (mi_h10, mi_c10)) rfl (by decide) (Nat.le_of_ble_eq_true rfl) ?_
  intro P hP
  refine ft_go mi_k10 14 22 [(3, .int 0), (2, .int 7), (0, .int 7), (1, .int x2)] [.int x2, .int 7] i a q r (by rfl) ?_
  refine ft_if mi_k10 (7 != x2) 27 25 [(3, .int 0), (2, .int 7), (0, .int 7), (1, .int x2)] [] (by rfl) (fun c => ?_) (fun c => ?_)
  ·
    have c1 : (7 : Int32).toInt ≠ x2.toInt := kd_ne c; clear c
    refine ft_go mi_k10 2 31 [(3, .int 0), (2, .int 7), (0, .int 7), (1, .int x2)] [.int 7, .ref (mi_RO + 4)] i a q r (by rfl) ?_
    refine ko_iaro2 mi_k10.1 (l := [(-1), 0, 0, 2, 1, 3, 0, 4]) (n := 8) (c := 8) (ax := (0, 0, 0, 0, 0)) (mi_k10.2 _ _ (by rfl)) (by rfl) (by rfl) rfl rfl (ot84 kot7) (ot85 kot7) ?_
    have r2 : ((-1 : Int) ≤ (([(-1), 0, 0, 2, 1, 3, 0, 4] : List Int32).getD (7 : Int32).toNatClampNeg 0).toInt) ∧ ((([(-1), 0, 0, 2, 1, 3, 0, 4] : List Int32).getD (7 : Int32).toNatClampNeg 0).toInt ≤ 4) := kro_rng (lo := -1) (hi := 4) (by decide) ((7 : Int32).toNatClampNeg)
    refine ko_eq (x1 := (32, [(3, .int 0), (2, .int 7), (0, .int 7), (1, .int x2)], [.int 4], (0, 0), ks i a q r)) (by rw [(by decide : (([(-1), 0, 0, 2, 1, 3, 0, 4] : List Int32).getD (7 : Int32).toNatClampNeg 0) = 4)]) ?_
    refine ft_go mi_k10 2 36 [(3, .int (0 + 1)), (2, .int 4), (0, .int 7), (1, .int x2)] [] i a q r (by rfl) ?_
    refine ko_eq (x1 := (36, [(3, .int 1), (2, .int 4), (0, .int 7), (1, .int x2)], [], (0, 0), ks i a q r)) (by rw [(by decide : (0 + 1 : Int32) = 1)]) ?_
    refine ft_go mi_k10 11 22 [(3, .int 1), (2, .int 4), (0, .int 7), (1, .int x2)] [.int x2, .int 4] i a q r (by rfl) ?_
    refine ft_if mi_k10 (4 != x2) 27 25 [(3, .int 1), (2, .int 4), (0, .int 7), (1, .int x2)] [] (by rfl) (fun c => ?_) (fun c => ?_)
    ·
      have c3 : (4 : Int32).toInt ≠ x2.toInt := kd_ne c; clear c
      refine ft_go mi_k10 2 31 [(3, .int 1), (2, .int 4), (0, .int 7), (1, .int x2)] [.int 4, .ref (mi_RO + 4)] i a q r (by rfl) ?_
      refine ko_iaro2 mi_k10.1 (l := [(-1), 0, 0, 2, 1, 3, 0, 4]) (n := 8) (c := 8) (ax := (0, 0, 0, 0, 0)) (mi_k10.2 _ _ (by rfl)) (by rfl) (by rfl) rfl rfl (ot60 kot4) (ot61 kot4) ?_
      have r4 : ((-1 : Int) ≤ (([(-1), 0, 0, 2, 1, 3, 0, 4] : List Int32).getD (4 : Int32).toNatClampNeg 0).toInt) ∧ ((([(-1), 0, 0, 2, 1, 3, 0, 4] : List Int32).getD (4 : Int32).toNatClampNeg 0).toInt ≤ 4) := kro_rng (lo := -1) (hi := 4) (by decide) ((4 : Int32).toNatClampNeg)
      refine ko_eq (x1 := (32, [(3, .int 1), (2, .int 4), (0, .int 7), (1, .int x2)], [.int 1], (0, 0), ks i a q r)) (by rw [(by decide : (([(-1), 0, 0, 2, 1, 3, 0, 4] : List Int32).getD (4 : Int32).toNatClampNeg 0) = 1)]) ?_
      refine ft_go mi_k10 2 36 [(3, .int (1 + 1)), (2, .int 1), (0, .int 7), (1, .int x2)] [] i a q r (by rfl) ?_
      refine ko_eq (x1 := (36, [(3, .int 2), (2, .int 1), (0, .int 7), (1, .int x2)], [], (0, 0), ks i a q r)) (by rw [(by decide : (1 + 1 : Int32) = 2)]) ?_
      refine ft_go mi_k10 11 22 [(3, .int 2), (2, .int 1), (0, .int 7), (1, .int x2)] [.int x2, .int 1] i a q r (by rfl) ?_
      refine ft_if mi_k10 (1 != x2) 27 25 [(3, .int 2), (2, .int 1), (0, .int 7), (1, .int x2)] [] (by rfl) (fun c => ?_) (fun c => ?_)
      ·
        have c5 : (1 : Int32).toInt ≠ x2.toInt := kd_ne c; clear c
        refine ft_go mi_k10 2 31 [(3, .int 2), (2, .int 1), (0, .int 7), (1, .int x2)] [.int 1, .ref (mi_RO + 4)] i a q r (by rfl) ?_
        refine ko_iaro2 mi_k10.1 (l := [(-1), 0, 0, 2, 1, 3, 0, 4]) (n := 8) (c := 8) (ax := (0, 0, 0, 0, 0)) (mi_k10.2 _ _ (by rfl)) (by rfl) (by rfl) rfl rfl (ot38 kot1) (ot39 kot1) ?_
        have r6 : ((-1 : Int) ≤ (([(-1), 0, 0, 2, 1, 3, 0, 4] : List Int32).getD (1 : Int32).toNatClampNeg 0).toInt) ∧ ((([(-1), 0, 0, 2, 1, 3, 0, 4] : List Int32).getD (1 : Int32).toNatClampNeg 0).toInt ≤ 4) := kro_rng (lo := -1) (hi := 4) (by decide) ((1 : Int32).toNatClampNeg)
        refine ko_eq (x1 := (32, [(3, .int 2), (2, .int 1), (0, .int 7), (1, .int x2)], [.int 0], (0, 0), ks i a q r)) (by rw [(by decide : (([(-1), 0, 0, 2, 1, 3, 0, 4] : List Int32).getD (1 : Int32).toNatClampNeg 0) = 0)]) ?_
        refine ft_go mi_k10 2 36 [(3, .int (2 + 1)), (2, .int 0), (0, .int 7), (1, .int x2)] [] i a q r (by rfl) ?_
        refine ko_eq (x1 := (36, [(3, .int 3), (2, .int 0), (0, .int 7), (1, .int x2)], [], (0, 0), ks i a q r)) (by rw [(by decide : (2 + 1 : Int32) = 3)]) ?_
        refine ft_go mi_k10 11 22 [(3, .int 3), (2, .int 0), (0, .int 7), (1, .int x2)] [.int x2, .int 0] i a q r (by rfl) ?_
        refine ft_if mi_k10 (0 != x2) 27 25 [(3, .int 3), (2, .int 0), (0, .int 7), (1, .int x2)] [] (by rfl) (fun c => ?_) (fun c => ?_)
        ·
          have c7 : (0 : Int32).toInt ≠ x2.toInt := kd_ne c; clear c
          refine ft_go mi_k10 2 31 [(3, .int 3), (2, .int 0), (0, .int 7), (1, .int x2)] [.int 0, .ref (mi_RO + 4)] i a q r (by rfl) ?_
          refine ko_iaro2 mi_k10.1 (l := [(-1), 0, 0, 2, 1, 3, 0, 4]) (n := 8) (c := 8) (ax := (0, 0, 0, 0, 0)) (mi_k10.2 _ _ (by rfl)) (by rfl) (by rfl) rfl rfl (ot30 kot0) (ot31 kot0) ?_
          have r8 : ((-1 : Int) ≤ (([(-1), 0, 0, 2, 1, 3, 0, 4] : List Int32).getD (0 : Int32).toNatClampNeg 0).toInt) ∧ ((([(-1), 0, 0, 2, 1, 3, 0, 4] : List Int32).getD (0 : Int32).toNatClampNeg 0).toInt ≤ 4) := kro_rng (lo := -1) (hi := 4) (by decide) ((0 : Int32).toNatClampNeg)
          refine ko_eq (x1 := (32, [(3, .int 3), (2, .int 0), (0, .int 7), (1, .int x2)], [.int (-1)], (0, 0), ks i a q r)) (by rw [(by decide : (([(-1), 0, 0, 2, 1, 3, 0, 4] : List Int32).getD (0 : Int32).toNatClampNeg 0) = (-1))]) ?_
          refine ft_go mi_k10 2 36 [(3, .int (3 + 1)), (2, .int (-1)), (0, .int 7), (1, .int x2)] [] i a q r (by rfl) ?_
          refine ko_eq (x1 := (36, [(3, .int 4), (2, .int (-1)), (0, .int 7), (1, .int x2)], [], (0, 0), ks i a q r)) (by rw [(by decide : (3 + 1 : Int32) = 4)]) ?_
          refine ft_go mi_k10 7 40 [(3, .int 4), (2, .int (-1)), (0, .int 7), (1, .int x2)] [.int 0] i a q r (by rfl) ?_
          exact ft_ret mi_k10 (by rfl) (hP 0 (Or.inr ⟨rfl, (ot86 c1 c3 c5 c7 kot7 kot4 kot1 kot0)⟩))
        ·
          have c9 : (0 : Int32).toInt = x2.toInt := kd_neF c; clear c
          refine ft_go mi_k10 1 26 [(3, .int 3), (2, .int 0), (0, .int 7), (1, .int x2)] [.int 1] i a q r (by rfl) ?_
          exact ft_ret mi_k10 (by rfl) (hP 1 (Or.inl ⟨rfl, (ot87 c9 kot0)⟩))
      ·
        have c10 : (1 : Int32).toInt = x2.toInt := kd_neF c; clear c
        refine ft_go mi_k10 1 26 [(3, .int 2), (2, .int 1), (0, .int 7), (1, .int x2)] [.int 1] i a q r (by rfl) ?_
        exact ft_ret mi_k10 (by rfl) (hP 1 (Or.inl ⟨rfl, (ot88 c10 kot1)⟩))
    ·
      have c11 : (4 : Int32).toInt = x2.toInt := kd_neF c; clear c
      refine ft_go mi_k10 1 26 [(3, .int 1), (2, .int 4), (0, .int 7), (1, .int x2)] [.int 1] i a q r (by rfl) ?_
      exact ft_ret mi_k10 (by rfl) (hP 1 (Or.inl ⟨rfl, (ot89 c11 kot4)⟩))
  ·
    have c12 : (7 : Int32).toInt = x2.toInt := kd_neF c; clear c
    refine ft_go mi_k10 1 26 [(3, .int 0), (2, .int 7), (0, .int 7), (1, .int x2)] [.int 1] i a q r (by rfl) ?_
    exact ft_ret mi_k10 (by rfl) (hP 1 (Or.inl ⟨rfl, (ot90 c12 kot7)⟩))
set_option maxRecDepth 100000 in
theorem ke118_0 {i : Nat → Int32} {a : Nat → List Int32} {q : Nat → List Int64} {r : Nat → Nat} (hI : kI i a q) (hr : kr r) (x1 : Int32) (x2 : Int32) : km 5 118 [.ref 0, .int x1, .int x2] (ks i a q r) (kPI (ks i a q r) (fun v => (True) ∧ ((¬ (((0 : Int) ≤ x1.toInt) ∧ (x1.toInt ≤ 5) ∧ ((0 : Int) ≤ x2.toInt) ∧ (x2.toInt ≤ 7)) → v = -1) ∧ ((x1.toInt = 0) ∧ ((0 : Int) ≤ x2.toInt) ∧ (x2.toInt ≤ 7) ∧ ((i 6656).toInt = 0) → v = -11) ∧ ((x1.toInt = 0) ∧ ((0 : Int) ≤ x2.toInt) ∧ (x2.toInt ≤ 7) ∧ ((i 6656).toInt ≠ 0) ∧ (¬ (((i 6656).toInt = 1) ∧ ((0 : Int) ≤ (i 6657).toInt) ∧ ((i 6657).toInt < (i 6017).toInt))) → v = -12) ∧ ((x1.toInt = 0) ∧ ((0 : Int) ≤ x2.toInt) ∧ (x2.toInt ≤ 7) ∧ ((i 6656).toInt = 1) ∧ ((0 : Int) ≤ (i 6657).toInt) ∧ ((i 6657).toInt < (i 6017).toInt) → v = tkV ((a 95).getD (i 6657).toNatClampNeg 0) x2) ∧ ((x1.toInt = 1) ∧ ((0 : Int) ≤ x2.toInt) ∧ (x2.toInt ≤ 7) ∧ ((i 6784).toInt = 0) → v = -11) ∧ ((x1.toInt = 1) ∧ ((0 : Int) ≤ x2.toInt) ∧ (x2.toInt ≤ 7) ∧ ((i 6784).toInt ≠ 0) ∧ (¬ (((i 6784).toInt = 1) ∧ ((0 : Int) ≤ (i 6785).toInt) ∧ ((i 6785).toInt < (i 6017).toInt))) → v = -12) ∧ ((x1.toInt = 1) ∧ ((0 : Int) ≤ x2.toInt) ∧ (x2.toInt ≤ 7) ∧ ((i 6784).toInt = 1) ∧ ((0 : Int) ≤ (i 6785).toInt) ∧ ((i 6785).toInt < (i 6017).toInt) → v = tkV ((a 95).getD (i 6785).toNatClampNeg 0) x2) ∧ ((x1.toInt = 2) ∧ ((0 : Int) ≤ x2.toInt) ∧ (x2.toInt ≤ 7) ∧ ((i 6912).toInt = 0) → v = -11) ∧ ((x1.toInt = 2) ∧ ((0 : Int) ≤ x2.toInt) ∧ (x2.toInt ≤ 7) ∧ ((i 6912).toInt ≠ 0) ∧ (¬ (((i 6912).toInt = 1) ∧ ((0 : Int) ≤ (i 6913).toInt) ∧ ((i 6913).toInt < (i 6017).toInt))) → v = -12) ∧ ((x1.toInt = 2) ∧ ((0 : Int) ≤ x2.toInt) ∧ (x2.toInt ≤ 7) ∧ ((i 6912).toInt = 1) ∧ ((0 : Int) ≤ (i 6913).toInt) ∧ ((i 6913).toInt < (i 6017).toInt) → v = tkV ((a 95).getD (i 6913).toNatClampNeg 0) x2) ∧ ((x1.toInt = 3) ∧ ((0 : Int) ≤ x2.toInt) ∧ (x2.toInt ≤ 7) ∧ ((i 7040).toInt = 0) → v = -11) ∧ ((x1.toInt = 3) ∧ ((0 : Int) ≤ x2.toInt) ∧ (x2.toInt ≤ 7) ∧ ((i 7040).toInt ≠ 0) ∧ (¬ (((i 7040).toInt = 1) ∧ ((0 : Int) ≤ (i 7041).toInt) ∧ ((i 7041).toInt < (i 6017).toInt))) → v = -12) ∧ ((x1.toInt = 3) ∧ ((0 : Int) ≤ x2.toInt) ∧ (x2.toInt ≤ 7) ∧ ((i 7040).toInt = 1) ∧ ((0 : Int) ≤ (i 7041).toInt) ∧ ((i 7041).toInt < (i 6017).toInt) → v = tkV ((a 95).getD (i 7041).toNatClampNeg 0) x2) ∧ ((x1.toInt = 4) ∧ ((0 : Int) ≤ x2.toInt) ∧ (x2.toInt ≤ 7) ∧ ((i 7168).toInt = 0) → v = -11) ∧ ((x1.toInt = 4) ∧ ((0 : Int) ≤ x2.toInt) ∧ (x2.toInt ≤ 7) ∧ ((i 7168).toInt ≠ 0) ∧ (¬ (((i 7168).toInt = 1) ∧ ((0 : Int) ≤ (i 7169).toInt) ∧ ((i 7169).toInt < (i 6017).toInt))) → v = -12) ∧ ((x1.toInt = 4) ∧ ((0 : Int) ≤ x2.toInt) ∧ (x2.toInt ≤ 7) ∧ ((i 7168).toInt = 1) ∧ ((0 : Int) ≤ (i 7169).toInt) ∧ ((i 7169).toInt < (i 6017).toInt) → v = tkV ((a 95).getD (i 7169).toNatClampNeg 0) x2) ∧ ((x1.toInt = 5) ∧ ((0 : Int) ≤ x2.toInt) ∧ (x2.toInt ≤ 7) ∧ ((i 7296).toInt = 0) → v = -11) ∧ ((x1.toInt = 5) ∧ ((0 : Int) ≤ x2.toInt) ∧ (x2.toInt ≤ 7) ∧ ((i 7296).toInt ≠ 0) ∧ (¬ (((i 7296).toInt = 1) ∧ ((0 : Int) ≤ (i 7297).toInt) ∧ ((i 7297).toInt < (i 6017).toInt))) → v = -12) ∧ ((x1.toInt = 5) ∧ ((0 : Int) ≤ x2.toInt) ∧ (x2.toInt ≤ 7) ∧ ((i 7296).toInt = 1) ∧ ((0 : Int) ≤ (i 7297).toInt) ∧ ((i 7297).toInt < (i 6017).toInt) → v = tkV ((a 95).getD (i 7297).toNatClampNeg 0) x2)))) := by
  have hG := kG_self kW0 hI hr
  refine km_ofPI (q := (mi_h118, mi_c118)) rfl (by decide) (Nat.le_of_ble_eq_true rfl) ?_
  intro P hP
  first | refine ft_go mi_k118 1 1 [(0, .ref 0), (1, .int x1), (2, .int x2)] [.int x1] i a q r (by rfl) ?_ | refine ko_steps mi_in118 1 _ (1, [(0, .ref 0), (1, .int x1), (2, .int x2)], [.int x1], (0, 0), ks i a q r) (by rfl) ?_
  refine ko_callPI mi_k118.1 (pc := 1) (ls := [(0, .ref 0), (1, .int x1), (2, .int x2)]) (st := [.int x1]) (h := ks i a q r) (i := (.invokestatic 70, 3, 121, 0, 9, 0, 157)) (mi_k118.2 _ _ (by rfl)) (ft_invS mi_pq121 (by rfl)) (cy := mi_c121) mi_pq121 rfl (kc121 hG.I hG.R x1) (by decide) ?_
  intro vg1 hg1
  rcases hg1 with ⟨eg1, hg1⟩ | ⟨eg1, hg1⟩
  ·
    subst eg1
    have z2 : ((0 : Int) ≤ x1.toInt) ∧ (x1.toInt ≤ 5) := hg1
    first | refine ft_go mi_k118 4 11 [(0, .ref 0), (1, .int x1), (2, .int x2)] [.int 7, .int 0, .int x2] i a q r (by rfl) ?_ | refine ko_steps mi_in118 4 _ (11, [(0, .ref 0), (1, .int x1), (2, .int x2)], [.int 7, .int 0, .int x2], (0, 0), ks i a q r) (by rfl) ?_
    refine ko_callPI mi_k118.1 (pc := 11) (ls := [(0, .ref 0), (1, .int x1), (2, .int x2)]) (st := [.int 7, .int 0, .int x2]) (h := ks i a q r) (i := (.invokestatic 74, 3, 120, 0, 9, 0, 152)) (mi_k118.2 _ _ (by rfl)) (ft_invS mi_pq120 (by rfl)) (cy := mi_c120) mi_pq120 rfl (kc120 hG.I hG.R x2 0 7) (by decide) ?_
    intro vg3 hg3
    rcases hg3 with ⟨eg3, hg3⟩ | ⟨eg3, hg3⟩
    ·
      subst eg3
      have z4 : ((0 : Int32).toInt ≤ x2.toInt) ∧ (x2.toInt ≤ (7 : Int32).toInt) := hg3
      first | refine ft_go mi_k118 4 24 [(0, .ref 0), (1, .int x1), (2, .int x2)] [.int x1, .ref 97] i a q r (by rfl) ?_ | refine ko_steps mi_in118 4 _ (24, [(0, .ref 0), (1, .int x1), (2, .int x2)], [.int x1, .ref 97], (0, 0), ks i a q r) (by rfl) ?_
      by_cases w5 : x1.toInt = 0
      ·
        refine ko_eq (x1 := (24, [(0, .ref 0), (1, .int x1), (2, .int x2)], [.int 0, .ref 97], (0, 0), ks i a q r)) (by rw [(kj_eq w5 (by decide) : x1 = 0)]) ?_
        have fi_6656 : ((0 : Int) ≤ (i 6656).toInt) ∧ ((i 6656).toInt ≤ 2) := hG.I.1 6656
        first | refine ft_go mi_k118 4 30 [(3, .ref 104), (0, .ref 0), (1, .int x1), (2, .int x2)] [.int (i 6656)] i a q r (by rfl) ?_ | refine ko_steps mi_in118 4 _ (30, [(3, .ref 104), (0, .ref 0), (1, .int x1), (2, .int x2)], [.int (i 6656)], (0, 0), ks i a q r) (by rfl) ?_
        refine ft_if mi_k118 ((i 6656) != 0) 36 33 [(3, .ref 104), (0, .ref 0), (1, .int x1), (2, .int x2)] [] (by rfl) (fun c => ?_) (fun c => ?_)
        ·
          have c6 : (i 6656).toInt ≠ (0 : Int32).toInt := kd_ne c; clear c
          first | refine ft_go mi_k118 3 41 [(3, .ref 104), (0, .ref 0), (1, .int x1), (2, .int x2)] [.int 1, .int (i 6656)] i a q r (by rfl) ?_ | refine ko_steps mi_in118 3 _ (41, [(3, .ref 104), (0, .ref 0), (1, .int x1), (2, .int x2)], [.int 1, .int (i 6656)], (0, 0), ks i a q r) (by rfl) ?_
          refine ft_if mi_k118 ((i 6656) != 1) 58 44 [(3, .ref 104), (0, .ref 0), (1, .int x1), (2, .int x2)] [] (by rfl) (fun c => ?_) (fun c => ?_)
          ·
            have c7 : (i 6656).toInt ≠ (1 : Int32).toInt := kd_ne c; clear c
            first | refine ft_go mi_k118 1 60 [(3, .ref 104), (0, .ref 0), (1, .int x1), (2, .int x2)] [.int (-12)] i a q r (by rfl) ?_ | refine ko_steps mi_in118 1 _ (60, [(3, .ref 104), (0, .ref 0), (1, .int x1), (2, .int x2)], [.int (-12)], (0, 0), ks i a q r) (by rfl) ?_
            have fi_6017 : ((0 : Int) ≤ (i 6017).toInt) ∧ ((i 6017).toInt ≤ 50) := hG.I.1 6017
            have fi_6784 : ((0 : Int) ≤ (i 6784).toInt) ∧ ((i 6784).toInt ≤ 2) := hG.I.1 6784
            have fi_6912 : ((0 : Int) ≤ (i 6912).toInt) ∧ ((i 6912).toInt ≤ 2) := hG.I.1 6912
            have fi_7040 : ((0 : Int) ≤ (i 7040).toInt) ∧ ((i 7040).toInt ≤ 2) := hG.I.1 7040
            have fi_7168 : ((0 : Int) ≤ (i 7168).toInt) ∧ ((i 7168).toInt ≤ 2) := hG.I.1 7168
            have fi_7296 : ((0 : Int) ≤ (i 7296).toInt) ∧ ((i 7296).toInt ≤ 2) := hG.I.1 7296
            exact ft_ret mi_k118 (by rfl) (hP (-12) ⟨trivial, ⟨(fun h => absurd (ot6 z2.1 z2.2 z4.1 z4.2 kot0 kot7) h), (fun h => absurd h (ot7 c6 fi_6656.1 kot0)), (fun _ => (show ((-12) : Int32) = -12 from (by first | rfl | (simp only [sMn, sMx]; done) | (simp only [sMn, sMx]; rfl)))), (fun h => absurd h (ot8 c6 c7 fi_6656.1 kot0 kot1)), (fun h => absurd h (ot9 w5)), (fun h => absurd h (ot10 w5)), (fun h => absurd h (ot11 w5)), (fun h => absurd h (ot12 w5)), (fun h => absurd h (ot13 w5)), (fun h => absurd h (ot14 w5)), (fun h => absurd h (ot15 w5)), (fun h => absurd h (ot16 w5)), (fun h => absurd h (ot17 w5)), (fun h => absurd h (ot18 w5)), (fun h => absurd h (ot19 w5)), (fun h => absurd h (ot20 w5)), (fun h => absurd h (ot21 w5)), (fun h => absurd h (ot22 w5)), (fun h => absurd h (ot23 w5))⟩⟩)
          ·
            have c8 : (i 6656).toInt = (1 : Int32).toInt := kd_neF c; clear c
            first | refine ft_go mi_k118 4 52 [(3, .ref 104), (0, .ref 0), (1, .int x1), (2, .int x2)] [.int (i 6657), .ref 94] i a q r (by rfl) ?_ | refine ko_steps mi_in118 4 _ (52, [(3, .ref 104), (0, .ref 0), (1, .int x1), (2, .int x2)], [.int (i 6657), .ref 94], (0, 0), ks i a q r) (by rfl) ?_
            refine ko_callPI mi_k118.1 (pc := 52) (ls := [(3, .ref 104), (0, .ref 0), (1, .int x1), (2, .int x2)]) (st := [.int (i 6657), .ref 94]) (h := ks i a q r) (i := (.invokevirtual 301, 3, 8, 0, 9, 0, 304)) (mi_k118.2 _ _ (by rfl)) (ft_invS mi_pq8 (by rfl)) (cy := mi_c8) mi_pq8 rfl (kc8_94 hG.I hG.R (i 6657)) (by decide) ?_
            intro vg9 hg9
            rcases hg9 with ⟨eg9, hg9⟩ | ⟨eg9, hg9⟩
            ·
              subst eg9
              have fi_6017 : ((0 : Int) ≤ (i 6017).toInt) ∧ ((i 6017).toInt ≤ 50) := hG.I.1 6017
              have z10 : ((0 : Int) ≤ (i 6657).toInt) ∧ ((i 6657).toInt < (i 6017).toInt) := hg9
              first | refine ft_go mi_k118 6 72 [(3, .ref 104), (0, .ref 0), (1, .int x1), (2, .int x2)] [.int (i 6657), .ref 95] i a q r (by rfl) ?_ | refine ko_steps mi_in118 6 _ (72, [(3, .ref 104), (0, .ref 0), (1, .int x1), (2, .int x2)], [.int (i 6657), .ref 95], (0, 0), ks i a q r) (by rfl) ?_
              refine ko_iald3 mi_k118.1 (n := 50) (c := 50) (ax := (0, 0, 0, 0, 0)) (mi_k118.2 _ _ (by rfl)) (by rfl) (ksG95 _ _ _ _) (hG.I.2.1 95) rfl (ot28 z10.1) (ot29 fi_6017.2 z10.2) ?_
              have r11 : ((0 : Int) ≤ ((a 95).getD (i 6657).toNatClampNeg 0).toInt) ∧ (((a 95).getD (i 6657).toNatClampNeg 0).toInt ≤ 7) := hG.I.2.2.1 95 ((i 6657).toNatClampNeg)
              first | refine ft_go mi_k118 3 78 [(4, .int ((a 95).getD (i 6657).toNatClampNeg 0)), (3, .ref 104), (0, .ref 0), (1, .int x1), (2, .int x2)] [.int x2, .int ((a 95).getD (i 6657).toNatClampNeg 0)] i a q r (by rfl) ?_ | refine ko_steps mi_in118 3 _ (78, [(4, .int ((a 95).getD (i 6657).toNatClampNeg 0)), (3, .ref 104), (0, .ref 0), (1, .int x1), (2, .int x2)], [.int x2, .int ((a 95).getD (i 6657).toNatClampNeg 0)], (0, 0), ks i a q r) (by rfl) ?_
              by_cases w12 : ((a 95).getD (i 6657).toNatClampNeg 0).toInt = 0
              ·
                refine ko_eq (x1 := (78, [(4, .int ((a 95).getD (i 6657).toNatClampNeg 0)), (3, .ref 104), (0, .ref 0), (1, .int x1), (2, .int x2)], [.int x2, .int 0], (0, 0), ks i a q r)) (by rw [(kj_eq w12 (by decide) : ((a 95).getD (i 6657).toNatClampNeg 0) = 0)]) ?_
                refine ko_callPI mi_k118.1 (pc := 78) (ls := [(4, .int ((a 95).getD (i 6657).toNatClampNeg 0)), (3, .ref 104), (0, .ref 0), (1, .int x1), (2, .int x2)]) (st := [.int x2, .int 0]) (h := ks i a q r) (i := (.invokestatic 339, 3, 10, 0, 9, 0, 319)) (mi_k118.2 _ _ (by rfl)) (ft_invS mi_pq10 (by rfl)) (cy := mi_c10) mi_pq10 rfl (ke10_l00 hG.I hG.R x2) (by decide) ?_
                intro vg13 hg13
                rcases hg13 with ⟨eg13, hg13⟩ | ⟨eg13, hg13⟩
                ·
                  subst eg13
                  have z14 : x2.toInt = 0 := hg13
                  first | refine ft_go mi_k118 3 91 [(4, .int ((a 95).getD (i 6657).toNatClampNeg 0)), (3, .ref 104), (0, .ref 0), (1, .int x1), (2, .int x2)] [.int ((a 95).getD (i 6657).toNatClampNeg 0)] i a q r (by rfl) ?_ | refine ko_steps mi_in118 3 _ (91, [(4, .int ((a 95).getD (i 6657).toNatClampNeg 0)), (3, .ref 104), (0, .ref 0), (1, .int x1), (2, .int x2)], [.int ((a 95).getD (i 6657).toNatClampNeg 0)], (0, 0), ks i a q r) (by rfl) ?_
                  have fi_6784 : ((0 : Int) ≤ (i 6784).toInt) ∧ ((i 6784).toInt ≤ 2) := hG.I.1 6784
                  have fi_6912 : ((0 : Int) ≤ (i 6912).toInt) ∧ ((i 6912).toInt ≤ 2) := hG.I.1 6912
                  have fi_7040 : ((0 : Int) ≤ (i 7040).toInt) ∧ ((i 7040).toInt ≤ 2) := hG.I.1 7040
                  have fi_7168 : ((0 : Int) ≤ (i 7168).toInt) ∧ ((i 7168).toInt ≤ 2) := hG.I.1 7168
                  have fi_7296 : ((0 : Int) ≤ (i 7296).toInt) ∧ ((i 7296).toInt ≤ 2) := hG.I.1 7296
                  exact ft_ret mi_k118 (by rfl) (hP ((a 95).getD (i 6657).toNatClampNeg 0) ⟨trivial, ⟨(fun h => absurd (ot6 z2.1 z2.2 z4.1 z4.2 kot0 kot7) h), (fun h => absurd h (ot34 c8 kot1)), (fun h => absurd h (ot35 c8 z10.1 z10.2 kot1)), (fun _ => (show ((a 95).getD (i 6657).toNatClampNeg 0) = tkV ((a 95).getD (i 6657).toNatClampNeg 0) x2 from (by unfold tkV; rw [if_pos (ot36 z14 z4.1 kot0)]))), (fun h => absurd h (ot9 w5)), (fun h => absurd h (ot10 w5)), (fun h => absurd h (ot11 w5)), (fun h => absurd h (ot12 w5)), (fun h => absurd h (ot13 w5)), (fun h => absurd h (ot14 w5)), (fun h => absurd h (ot15 w5)), (fun h => absurd h (ot16 w5)), (fun h => absurd h (ot17 w5)), (fun h => absurd h (ot18 w5)), (fun h => absurd h (ot19 w5)), (fun h => absurd h (ot20 w5)), (fun h => absurd h (ot21 w5)), (fun h => absurd h (ot22 w5)), (fun h => absurd h (ot23 w5))⟩⟩)
                ·
                  subst eg13
                  have z15 : x2.toInt ≠ 0 := hg13
                  first | refine ft_go mi_k118 2 91 [(4, .int ((a 95).getD (i 6657).toNatClampNeg 0)), (3, .ref 104), (0, .ref 0), (1, .int x1), (2, .int x2)] [.int (-12)] i a q r (by rfl) ?_ | refine ko_steps mi_in118 2 _ (91, [(4, .int ((a 95).getD (i 6657).toNatClampNeg 0)), (3, .ref 104), (0, .ref 0), (1, .int x1), (2, .int x2)], [.int (-12)], (0, 0), ks i a q r) (by rfl) ?_
                  have fi_6784 : ((0 : Int) ≤ (i 6784).toInt) ∧ ((i 6784).toInt ≤ 2) := hG.I.1 6784
                  have fi_6912 : ((0 : Int) ≤ (i 6912).toInt) ∧ ((i 6912).toInt ≤ 2) := hG.I.1 6912
                  have fi_7040 : ((0 : Int) ≤ (i 7040).toInt) ∧ ((i 7040).toInt ≤ 2) := hG.I.1 7040
                  have fi_7168 : ((0 : Int) ≤ (i 7168).toInt) ∧ ((i 7168).toInt ≤ 2) := hG.I.1 7168
                  have fi_7296 : ((0 : Int) ≤ (i 7296).toInt) ∧ ((i 7296).toInt ≤ 2) := hG.I.1 7296
                  exact ft_ret mi_k118 (by rfl) (hP (-12) ⟨trivial, ⟨(fun h => absurd (ot6 z2.1 z2.2 z4.1 z4.2 kot0 kot7) h), (fun h => absurd h (ot34 c8 kot1)), (fun h => absurd h (ot35 c8 z10.1 z10.2 kot1)), (fun _ => (show ((-12) : Int32) = tkV ((a 95).getD (i 6657).toNatClampNeg 0) x2 from (by unfold tkV; rw [if_neg (ot37 w12 z15 z4.1 kot0)]))), (fun h => absurd h (ot9 w5)), (fun h => absurd h (ot10 w5)), (fun h => absurd h (ot11 w5)), (fun h => absurd h (ot12 w5)), (fun h => absurd h (ot13 w5)), (fun h => absurd h (ot14 w5)), (fun h => absurd h (ot15 w5)), (fun h => absurd h (ot16 w5)), (fun h => absurd h (ot17 w5)), (fun h => absurd h (ot18 w5)), (fun h => absurd h (ot19 w5)), (fun h => absurd h (ot20 w5)), (fun h => absurd h (ot21 w5)), (fun h => absurd h (ot22 w5)), (fun h => absurd h (ot23 w5))⟩⟩)
              by_cases w16 : ((a 95).getD (i 6657).toNatClampNeg 0).toInt = 1
              ·
                refine ko_eq (x1 := (78, [(4, .int ((a 95).getD (i 6657).toNatClampNeg 0)), (3, .ref 104), (0, .ref 0), (1, .int x1), (2, .int x2)], [.int x2, .int 1], (0, 0), ks i a q r)) (by rw [(kj_eq w16 (by decide) : ((a 95).getD (i 6657).toNatClampNeg 0) = 1)]) ?_
                refine ko_callPI mi_k118.1 (pc := 78) (ls := [(4, .int ((a 95).getD (i 6657).toNatClampNeg 0)), (3, .ref 104), (0, .ref 0), (1, .int x1), (2, .int x2)]) (st := [.int x2, .int 1]) (h := ks i a q r) (i := (.invokestatic 339, 3, 10, 0, 9, 0, 319)) (mi_k118.2 _ _ (by rfl)) (ft_invS mi_pq10 (by rfl)) (cy := mi_c10) mi_pq10 rfl (ke10_l01 hG.I hG.R x2) (by decide) ?_
                intro vg17 hg17
                rcases hg17 with ⟨eg17, hg17⟩ | ⟨eg17, hg17⟩
                ·
                  subst eg17
                  have z18 : (x2.toInt = 1) ∨ (x2.toInt = 0) := hg17
                  first | refine ft_go mi_k118 3 91 [(4, .int ((a 95).getD (i 6657).toNatClampNeg 0)), (3, .ref 104), (0, .ref 0), (1, .int x1), (2, .int x2)] [.int ((a 95).getD (i 6657).toNatClampNeg 0)] i a q r (by rfl) ?_ | refine ko_steps mi_in118 3 _ (91, [(4, .int ((a 95).getD (i 6657).toNatClampNeg 0)), (3, .ref 104), (0, .ref 0), (1, .int x1), (2, .int x2)], [.int ((a 95).getD (i 6657).toNatClampNeg 0)], (0, 0), ks i a q r) (by rfl) ?_
                  have fi_6784 : ((0 : Int) ≤ (i 6784).toInt) ∧ ((i 6784).toInt ≤ 2) := hG.I.1 6784
                  have fi_6912 : ((0 : Int) ≤ (i 6912).toInt) ∧ ((i 6912).toInt ≤ 2) := hG.I.1 6912
                  have fi_7040 : ((0 : Int) ≤ (i 7040).toInt) ∧ ((i 7040).toInt ≤ 2) := hG.I.1 7040
                  have fi_7168 : ((0 : Int) ≤ (i 7168).toInt) ∧ ((i 7168).toInt ≤ 2) := hG.I.1 7168
                  have fi_7296 : ((0 : Int) ≤ (i 7296).toInt) ∧ ((i 7296).toInt ≤ 2) := hG.I.1 7296
                  exact ft_ret mi_k118 (by rfl) (hP ((a 95).getD (i 6657).toNatClampNeg 0) ⟨trivial, ⟨(fun h => absurd (ot6 z2.1 z2.2 z4.1 z4.2 kot0 kot7) h), (fun h => absurd h (ot34 c8 kot1)), (fun h => absurd h (ot35 c8 z10.1 z10.2 kot1)), (fun _ => (show ((a 95).getD (i 6657).toNatClampNeg 0) = tkV ((a 95).getD (i 6657).toNatClampNeg 0) x2 from (by unfold tkV; rw [if_pos (ot43 w16 z18 z4.1 kot0)]))), (fun h => absurd h (ot9 w5)), (fun h => absurd h (ot10 w5)), (fun h => absurd h (ot11 w5)), (fun h => absurd h (ot12 w5)), (fun h => absurd h (ot13 w5)), (fun h => absurd h (ot14 w5)), (fun h => absurd h (ot15 w5)), (fun h => absurd h (ot16 w5)), (fun h => absurd h (ot17 w5)), (fun h => absurd h (ot18 w5)), (fun h => absurd h (ot19 w5)), (fun h => absurd h (ot20 w5)), (fun h => absurd h (ot21 w5)), (fun h => absurd h (ot22 w5)), (fun h => absurd h (ot23 w5))⟩⟩)
                ·
                  subst eg17
                  have z19 : (x2.toInt ≠ 1) ∧ (x2.toInt ≠ 0) := hg17
                  first | refine ft_go mi_k118 2 91 [(4, .int ((a 95).getD (i 6657).toNatClampNeg 0)), (3, .ref 104), (0, .ref 0), (1, .int x1), (2, .int x2)] [.int (-12)] i a q r (by rfl) ?_ | refine ko_steps mi_in118 2 _ (91, [(4, .int ((a 95).getD (i 6657).toNatClampNeg 0)), (3, .ref 104), (0, .ref 0), (1, .int x1), (2, .int x2)], [.int (-12)], (0, 0), ks i a q r) (by rfl) ?_
                  have fi_6784 : ((0 : Int) ≤ (i 6784).toInt) ∧ ((i 6784).toInt ≤ 2) := hG.I.1 6784
                  have fi_6912 : ((0 : Int) ≤ (i 6912).toInt) ∧ ((i 6912).toInt ≤ 2) := hG.I.1 6912
                  have fi_7040 : ((0 : Int) ≤ (i 7040).toInt) ∧ ((i 7040).toInt ≤ 2) := hG.I.1 7040
                  have fi_7168 : ((0 : Int) ≤ (i 7168).toInt) ∧ ((i 7168).toInt ≤ 2) := hG.I.1 7168
                  have fi_7296 : ((0 : Int) ≤ (i 7296).toInt) ∧ ((i 7296).toInt ≤ 2) := hG.I.1 7296
                  exact ft_ret mi_k118 (by rfl) (hP (-12) ⟨trivial, ⟨(fun h => absurd (ot6 z2.1 z2.2 z4.1 z4.2 kot0 kot7) h), (fun h => absurd h (ot34 c8 kot1)), (fun h => absurd h (ot35 c8 z10.1 z10.2 kot1)), (fun _ => (show ((-12) : Int32) = tkV ((a 95).getD (i 6657).toNatClampNeg 0) x2 from (by unfold tkV; rw [if_neg (ot44 w16 z19.1 z19.2 z4.1 kot0)]))), (fun h => absurd h (ot9 w5)), (fun h => absurd h (ot10 w5)), (fun h => absurd h (ot11 w5)), (fun h => absurd h (ot12 w5)), (fun h => absurd h (ot13 w5)), (fun h => absurd h (ot14 w5)), (fun h => absurd h (ot15 w5)), (fun h => absurd h (ot16 w5)), (fun h => absurd h (ot17 w5)), (fun h => absurd h (ot18 w5)), (fun h => absurd h (ot19 w5)), (fun h => absurd h (ot20 w5)), (fun h => absurd h (ot21 w5)), (fun h => absurd h (ot22 w5)), (fun h => absurd h (ot23 w5))⟩⟩)
              by_cases w20 : ((a 95).getD (i 6657).toNatClampNeg 0).toInt = 2
              ·
                refine ko_eq (x1 := (78, [(4, .int ((a 95).getD (i 6657).toNatClampNeg 0)), (3, .ref 104), (0, .ref 0), (1, .int x1), (2, .int x2)], [.int x2, .int 2], (0, 0), ks i a q r)) (by rw [(kj_eq w20 (by decide) : ((a 95).getD (i 6657).toNatClampNeg 0) = 2)]) ?_
                refine ko_callPI mi_k118.1 (pc := 78) (ls := [(4, .int ((a 95).getD (i 6657).toNatClampNeg 0)), (3, .ref 104), (0, .ref 0), (1, .int x1), (2, .int x2)]) (st := [.int x2, .int 2]) (h := ks i a q r) (i := (.invokestatic 339, 3, 10, 0, 9, 0, 319)) (mi_k118.2 _ _ (by rfl)) (ft_invS mi_pq10 (by rfl)) (cy := mi_c10) mi_pq10 rfl (ke10_l02 hG.I hG.R x2) (by decide) ?_
                intro vg21 hg21
                rcases hg21 with ⟨eg21, hg21⟩ | ⟨eg21, hg21⟩
                ·
                  subst eg21
                  have z22 : (x2.toInt = 2) ∨ (x2.toInt = 0) := hg21
                  first | refine ft_go mi_k118 3 91 [(4, .int ((a 95).getD (i 6657).toNatClampNeg 0)), (3, .ref 104), (0, .ref 0), (1, .int x1), (2, .int x2)] [.int ((a 95).getD (i 6657).toNatClampNeg 0)] i a q r (by rfl) ?_ | refine ko_steps mi_in118 3 _ (91, [(4, .int ((a 95).getD (i 6657).toNatClampNeg 0)), (3, .ref 104), (0, .ref 0), (1, .int x1), (2, .int x2)], [.int ((a 95).getD (i 6657).toNatClampNeg 0)], (0, 0), ks i a q r) (by rfl) ?_
                  have fi_6784 : ((0 : Int) ≤ (i 6784).toInt) ∧ ((i 6784).toInt ≤ 2) := hG.I.1 6784
                  have fi_6912 : ((0 : Int) ≤ (i 6912).toInt) ∧ ((i 6912).toInt ≤ 2) := hG.I.1 6912
                  have fi_7040 : ((0 : Int) ≤ (i 7040).toInt) ∧ ((i 7040).toInt ≤ 2) := hG.I.1 7040
                  have fi_7168 : ((0 : Int) ≤ (i 7168).toInt) ∧ ((i 7168).toInt ≤ 2) := hG.I.1 7168
                  have fi_7296 : ((0 : Int) ≤ (i 7296).toInt) ∧ ((i 7296).toInt ≤ 2) := hG.I.1 7296
                  exact ft_ret mi_k118 (by rfl) (hP ((a 95).getD (i 6657).toNatClampNeg 0) ⟨trivial, ⟨(fun h => absurd (ot6 z2.1 z2.2 z4.1 z4.2 kot0 kot7) h), (fun h => absurd h (ot34 c8 kot1)), (fun h => absurd h (ot35 c8 z10.1 z10.2 kot1)), (fun _ => (show ((a 95).getD (i 6657).toNatClampNeg 0) = tkV ((a 95).getD (i 6657).toNatClampNeg 0) x2 from (by unfold tkV; rw [if_pos (ot50 w20 z22 z4.1 kot0)]))), (fun h => absurd h (ot9 w5)), (fun h => absurd h (ot10 w5)), (fun h => absurd h (ot11 w5)), (fun h => absurd h (ot12 w5)), (fun h => absurd h (ot13 w5)), (fun h => absurd h (ot14 w5)), (fun h => absurd h (ot15 w5)), (fun h => absurd h (ot16 w5)), (fun h => absurd h (ot17 w5)), (fun h => absurd h (ot18 w5)), (fun h => absurd h (ot19 w5)), (fun h => absurd h (ot20 w5)), (fun h => absurd h (ot21 w5)), (fun h => absurd h (ot22 w5)), (fun h => absurd h (ot23 w5))⟩⟩)
                ·
                  subst eg21
                  have z23 : (x2.toInt ≠ 2) ∧ (x2.toInt ≠ 0) := hg21
                  first | refine ft_go mi_k118 2 91 [(4, .int ((a 95).getD (i 6657).toNatClampNeg 0)), (3, .ref 104), (0, .ref 0), (1, .int x1), (2, .int x2)] [.int (-12)] i a q r (by rfl) ?_ | refine ko_steps mi_in118 2 _ (91, [(4, .int ((a 95).getD (i 6657).toNatClampNeg 0)), (3, .ref 104), (0, .ref 0), (1, .int x1), (2, .int x2)], [.int (-12)], (0, 0), ks i a q r) (by rfl) ?_
                  have fi_6784 : ((0 : Int) ≤ (i 6784).toInt) ∧ ((i 6784).toInt ≤ 2) := hG.I.1 6784
                  have fi_6912 : ((0 : Int) ≤ (i 6912).toInt) ∧ ((i 6912).toInt ≤ 2) := hG.I.1 6912
                  have fi_7040 : ((0 : Int) ≤ (i 7040).toInt) ∧ ((i 7040).toInt ≤ 2) := hG.I.1 7040
                  have fi_7168 : ((0 : Int) ≤ (i 7168).toInt) ∧ ((i 7168).toInt ≤ 2) := hG.I.1 7168
                  have fi_7296 : ((0 : Int) ≤ (i 7296).toInt) ∧ ((i 7296).toInt ≤ 2) := hG.I.1 7296
                  exact ft_ret mi_k118 (by rfl) (hP (-12) ⟨trivial, ⟨(fun h => absurd (ot6 z2.1 z2.2 z4.1 z4.2 kot0 kot7) h), (fun h => absurd h (ot34 c8 kot1)), (fun h => absurd h (ot35 c8 z10.1 z10.2 kot1)), (fun _ => (show ((-12) : Int32) = tkV ((a 95).getD (i 6657).toNatClampNeg 0) x2 from (by unfold tkV; rw [if_neg (ot51 w20 z23.1 z23.2 z4.1 kot0)]))), (fun h => absurd h (ot9 w5)), (fun h => absurd h (ot10 w5)), (fun h => absurd h (ot11 w5)), (fun h => absurd h (ot12 w5)), (fun h => absurd h (ot13 w5)), (fun h => absurd h (ot14 w5)), (fun h => absurd h (ot15 w5)), (fun h => absurd h (ot16 w5)), (fun h => absurd h (ot17 w5)), (fun h => absurd h (ot18 w5)), (fun h => absurd h (ot19 w5)), (fun h => absurd h (ot20 w5)), (fun h => absurd h (ot21 w5)), (fun h => absurd h (ot22 w5)), (fun h => absurd h (ot23 w5))⟩⟩)
              by_cases w24 : ((a 95).getD (i 6657).toNatClampNeg 0).toInt = 3
              ·
                refine ko_eq (x1 := (78, [(4, .int ((a 95).getD (i 6657).toNatClampNeg 0)), (3, .ref 104), (0, .ref 0), (1, .int x1), (2, .int x2)], [.int x2, .int 3], (0, 0), ks i a q r)) (by rw [(kj_eq w24 (by decide) : ((a 95).getD (i 6657).toNatClampNeg 0) = 3)]) ?_
                refine ko_callPI mi_k118.1 (pc := 78) (ls := [(4, .int ((a 95).getD (i 6657).toNatClampNeg 0)), (3, .ref 104), (0, .ref 0), (1, .int x1), (2, .int x2)]) (st := [.int x2, .int 3]) (h := ks i a q r) (i := (.invokestatic 339, 3, 10, 0, 9, 0, 319)) (mi_k118.2 _ _ (by rfl)) (ft_invS mi_pq10 (by rfl)) (cy := mi_c10) mi_pq10 rfl (ke10_l03 hG.I hG.R x2) (by decide) ?_
                intro vg25 hg25
                rcases hg25 with ⟨eg25, hg25⟩ | ⟨eg25, hg25⟩
                ·
                  subst eg25
                  have z26 : (x2.toInt = 3) ∨ (x2.toInt = 2) ∨ (x2.toInt = 0) := hg25
                  first | refine ft_go mi_k118 3 91 [(4, .int ((a 95).getD (i 6657).toNatClampNeg 0)), (3, .ref 104), (0, .ref 0), (1, .int x1), (2, .int x2)] [.int ((a 95).getD (i 6657).toNatClampNeg 0)] i a q r (by rfl) ?_ | refine ko_steps mi_in118 3 _ (91, [(4, .int ((a 95).getD (i 6657).toNatClampNeg 0)), (3, .ref 104), (0, .ref 0), (1, .int x1), (2, .int x2)], [.int ((a 95).getD (i 6657).toNatClampNeg 0)], (0, 0), ks i a q r) (by rfl) ?_
                  have fi_6784 : ((0 : Int) ≤ (i 6784).toInt) ∧ ((i 6784).toInt ≤ 2) := hG.I.1 6784
                  have fi_6912 : ((0 : Int) ≤ (i 6912).toInt) ∧ ((i 6912).toInt ≤ 2) := hG.I.1 6912
                  have fi_7040 : ((0 : Int) ≤ (i 7040).toInt) ∧ ((i 7040).toInt ≤ 2) := hG.I.1 7040
                  have fi_7168 : ((0 : Int) ≤ (i 7168).toInt) ∧ ((i 7168).toInt ≤ 2) := hG.I.1 7168
                  have fi_7296 : ((0 : Int) ≤ (i 7296).toInt) ∧ ((i 7296).toInt ≤ 2) := hG.I.1 7296
                  exact ft_ret mi_k118 (by rfl) (hP ((a 95).getD (i 6657).toNatClampNeg 0) ⟨trivial, ⟨(fun h => absurd (ot6 z2.1 z2.2 z4.1 z4.2 kot0 kot7) h), (fun h => absurd h (ot34 c8 kot1)), (fun h => absurd h (ot35 c8 z10.1 z10.2 kot1)), (fun _ => (show ((a 95).getD (i 6657).toNatClampNeg 0) = tkV ((a 95).getD (i 6657).toNatClampNeg 0) x2 from (by unfold tkV; rw [if_pos (ot58 w24 z26 z4.1 kot0)]))), (fun h => absurd h (ot9 w5)), (fun h => absurd h (ot10 w5)), (fun h => absurd h (ot11 w5)), (fun h => absurd h (ot12 w5)), (fun h => absurd h (ot13 w5)), (fun h => absurd h (ot14 w5)), (fun h => absurd h (ot15 w5)), (fun h => absurd h (ot16 w5)), (fun h => absurd h (ot17 w5)), (fun h => absurd h (ot18 w5)), (fun h => absurd h (ot19 w5)), (fun h => absurd h (ot20 w5)), (fun h => absurd h (ot21 w5)), (fun h => absurd h (ot22 w5)), (fun h => absurd h (ot23 w5))⟩⟩)
                ·
                  subst eg25
                  have z27 : (x2.toInt ≠ 3) ∧ (x2.toInt ≠ 2) ∧ (x2.toInt ≠ 0) := hg25
                  first | refine ft_go mi_k118 2 91 [(4, .int ((a 95).getD (i 6657).toNatClampNeg 0)), (3, .ref 104), (0, .ref 0), (1, .int x1), (2, .int x2)] [.int (-12)] i a q r (by rfl) ?_ | refine ko_steps mi_in118 2 _ (91, [(4, .int ((a 95).getD (i 6657).toNatClampNeg 0)), (3, .ref 104), (0, .ref 0), (1, .int x1), (2, .int x2)], [.int (-12)], (0, 0), ks i a q r) (by rfl) ?_
                  have fi_6784 : ((0 : Int) ≤ (i 6784).toInt) ∧ ((i 6784).toInt ≤ 2) := hG.I.1 6784
                  have fi_6912 : ((0 : Int) ≤ (i 6912).toInt) ∧ ((i 6912).toInt ≤ 2) := hG.I.1 6912
                  have fi_7040 : ((0 : Int) ≤ (i 7040).toInt) ∧ ((i 7040).toInt ≤ 2) := hG.I.1 7040
                  have fi_7168 : ((0 : Int) ≤ (i 7168).toInt) ∧ ((i 7168).toInt ≤ 2) := hG.I.1 7168
                  have fi_7296 : ((0 : Int) ≤ (i 7296).toInt) ∧ ((i 7296).toInt ≤ 2) := hG.I.1 7296
                  exact ft_ret mi_k118 (by rfl) (hP (-12) ⟨trivial, ⟨(fun h => absurd (ot6 z2.1 z2.2 z4.1 z4.2 kot0 kot7) h), (fun h => absurd h (ot34 c8 kot1)), (fun h => absurd h (ot35 c8 z10.1 z10.2 kot1)), (fun _ => (show ((-12) : Int32) = tkV ((a 95).getD (i 6657).toNatClampNeg 0) x2 from (by unfold tkV; rw [if_neg (ot59 w24 z27.1 z27.2.1 z27.2.2 z4.1 kot0)]))), (fun h => absurd h (ot9 w5)), (fun h => absurd h (ot10 w5)), (fun h => absurd h (ot11 w5)), (fun h => absurd h (ot12 w5)), (fun h => absurd h (ot13 w5)), (fun h => absurd h (ot14 w5)), (fun h => absurd h (ot15 w5)), (fun h => absurd h (ot16 w5)), (fun h => absurd h (ot17 w5)), (fun h => absurd h (ot18 w5)), (fun h => absurd h (ot19 w5)), (fun h => absurd h (ot20 w5)), (fun h => absurd h (ot21 w5)), (fun h => absurd h (ot22 w5)), (fun h => absurd h (ot23 w5))⟩⟩)
              by_cases w28 : ((a 95).getD (i 6657).toNatClampNeg 0).toInt = 4
              ·
                refine ko_eq (x1 := (78, [(4, .int ((a 95).getD (i 6657).toNatClampNeg 0)), (3, .ref 104), (0, .ref 0), (1, .int x1), (2, .int x2)], [.int x2, .int 4], (0, 0), ks i a q r)) (by rw [(kj_eq w28 (by decide) : ((a 95).getD (i 6657).toNatClampNeg 0) = 4)]) ?_
                refine ko_callPI mi_k118.1 (pc := 78) (ls := [(4, .int ((a 95).getD (i 6657).toNatClampNeg 0)), (3, .ref 104), (0, .ref 0), (1, .int x1), (2, .int x2)]) (st := [.int x2, .int 4]) (h := ks i a q r) (i := (.invokestatic 339, 3, 10, 0, 9, 0, 319)) (mi_k118.2 _ _ (by rfl)) (ft_invS mi_pq10 (by rfl)) (cy := mi_c10) mi_pq10 rfl (ke10_l04 hG.I hG.R x2) (by decide) ?_
                intro vg29 hg29
                rcases hg29 with ⟨eg29, hg29⟩ | ⟨eg29, hg29⟩
                ·
                  subst eg29
                  have z30 : (x2.toInt = 4) ∨ (x2.toInt = 1) ∨ (x2.toInt = 0) := hg29
                  first | refine ft_go mi_k118 3 91 [(4, .int ((a 95).getD (i 6657).toNatClampNeg 0)), (3, .ref 104), (0, .ref 0), (1, .int x1), (2, .int x2)] [.int ((a 95).getD (i 6657).toNatClampNeg 0)] i a q r (by rfl) ?_ | refine ko_steps mi_in118 3 _ (91, [(4, .int ((a 95).getD (i 6657).toNatClampNeg 0)), (3, .ref 104), (0, .ref 0), (1, .int x1), (2, .int x2)], [.int ((a 95).getD (i 6657).toNatClampNeg 0)], (0, 0), ks i a q r) (by rfl) ?_
                  have fi_6784 : ((0 : Int) ≤ (i 6784).toInt) ∧ ((i 6784).toInt ≤ 2) := hG.I.1 6784
                  have fi_6912 : ((0 : Int) ≤ (i 6912).toInt) ∧ ((i 6912).toInt ≤ 2) := hG.I.1 6912
                  have fi_7040 : ((0 : Int) ≤ (i 7040).toInt) ∧ ((i 7040).toInt ≤ 2) := hG.I.1 7040
                  have fi_7168 : ((0 : Int) ≤ (i 7168).toInt) ∧ ((i 7168).toInt ≤ 2) := hG.I.1 7168
                  have fi_7296 : ((0 : Int) ≤ (i 7296).toInt) ∧ ((i 7296).toInt ≤ 2) := hG.I.1 7296
                  exact ft_ret mi_k118 (by rfl) (hP ((a 95).getD (i 6657).toNatClampNeg 0) ⟨trivial, ⟨(fun h => absurd (ot6 z2.1 z2.2 z4.1 z4.2 kot0 kot7) h), (fun h => absurd h (ot34 c8 kot1)), (fun h => absurd h (ot35 c8 z10.1 z10.2 kot1)), (fun _ => (show ((a 95).getD (i 6657).toNatClampNeg 0) = tkV ((a 95).getD (i 6657).toNatClampNeg 0) x2 from (by unfold tkV; rw [if_pos (ot66 w28 z30 z4.1 kot0)]))), (fun h => absurd h (ot9 w5)), (fun h => absurd h (ot10 w5)), (fun h => absurd h (ot11 w5)), (fun h => absurd h (ot12 w5)), (fun h => absurd h (ot13 w5)), (fun h => absurd h (ot14 w5)), (fun h => absurd h (ot15 w5)), (fun h => absurd h (ot16 w5)), (fun h => absurd h (ot17 w5)), (fun h => absurd h (ot18 w5)), (fun h => absurd h (ot19 w5)), (fun h => absurd h (ot20 w5)), (fun h => absurd h (ot21 w5)), (fun h => absurd h (ot22 w5)), (fun h => absurd h (ot23 w5))⟩⟩)
                ·
                  subst eg29
                  have z31 : (x2.toInt ≠ 4) ∧ (x2.toInt ≠ 1) ∧ (x2.toInt ≠ 0) := hg29
                  first | refine ft_go mi_k118 2 91 [(4, .int ((a 95).getD (i 6657).toNatClampNeg 0)), (3, .ref 104), (0, .ref 0), (1, .int x1), (2, .int x2)] [.int (-12)] i a q r (by rfl) ?_ | refine ko_steps mi_in118 2 _ (91, [(4, .int ((a 95).getD (i 6657).toNatClampNeg 0)), (3, .ref 104), (0, .ref 0), (1, .int x1), (2, .int x2)], [.int (-12)], (0, 0), ks i a q r) (by rfl) ?_
                  have fi_6784 : ((0 : Int) ≤ (i 6784).toInt) ∧ ((i 6784).toInt ≤ 2) := hG.I.1 6784
                  have fi_6912 : ((0 : Int) ≤ (i 6912).toInt) ∧ ((i 6912).toInt ≤ 2) := hG.I.1 6912
                  have fi_7040 : ((0 : Int) ≤ (i 7040).toInt) ∧ ((i 7040).toInt ≤ 2) := hG.I.1 7040
                  have fi_7168 : ((0 : Int) ≤ (i 7168).toInt) ∧ ((i 7168).toInt ≤ 2) := hG.I.1 7168
                  have fi_7296 : ((0 : Int) ≤ (i 7296).toInt) ∧ ((i 7296).toInt ≤ 2) := hG.I.1 7296
                  exact ft_ret mi_k118 (by rfl) (hP (-12) ⟨trivial, ⟨(fun h => absurd (ot6 z2.1 z2.2 z4.1 z4.2 kot0 kot7) h), (fun h => absurd h (ot34 c8 kot1)), (fun h => absurd h (ot35 c8 z10.1 z10.2 kot1)), (fun _ => (show ((-12) : Int32) = tkV ((a 95).getD (i 6657).toNatClampNeg 0) x2 from (by unfold tkV; rw [if_neg (ot67 w28 z31.1 z31.2.1 z31.2.2 z4.1 kot0)]))), (fun h => absurd h (ot9 w5)), (fun h => absurd h (ot10 w5)), (fun h => absurd h (ot11 w5)), (fun h => absurd h (ot12 w5)), (fun h => absurd h (ot13 w5)), (fun h => absurd h (ot14 w5)), (fun h => absurd h (ot15 w5)), (fun h => absurd h (ot16 w5)), (fun h => absurd h (ot17 w5)), (fun h => absurd h (ot18 w5)), (fun h => absurd h (ot19 w5)), (fun h => absurd h (ot20 w5)), (fun h => absurd h (ot21 w5)), (fun h => absurd h (ot22 w5)), (fun h => absurd h (ot23 w5))⟩⟩)
              by_cases w32 : ((a 95).getD (i 6657).toNatClampNeg 0).toInt = 5
              ·
                refine ko_eq (x1 := (78, [(4, .int ((a 95).getD (i 6657).toNatClampNeg 0)), (3, .ref 104), (0, .ref 0), (1, .int x1), (2, .int x2)], [.int x2, .int 5], (0, 0), ks i a q r)) (by rw [(kj_eq w32 (by decide) : ((a 95).getD (i 6657).toNatClampNeg 0) = 5)]) ?_
                refine ko_callPI mi_k118.1 (pc := 78) (ls := [(4, .int ((a 95).getD (i 6657).toNatClampNeg 0)), (3, .ref 104), (0, .ref 0), (1, .int x1), (2, .int x2)]) (st := [.int x2, .int 5]) (h := ks i a q r) (i := (.invokestatic 339, 3, 10, 0, 9, 0, 319)) (mi_k118.2 _ _ (by rfl)) (ft_invS mi_pq10 (by rfl)) (cy := mi_c10) mi_pq10 rfl (ke10_l05 hG.I hG.R x2) (by decide) ?_
                intro vg33 hg33
                rcases hg33 with ⟨eg33, hg33⟩ | ⟨eg33, hg33⟩
                ·
                  subst eg33
                  have z34 : (x2.toInt = 5) ∨ (x2.toInt = 3) ∨ (x2.toInt = 2) ∨ (x2.toInt = 0) := hg33
                  first | refine ft_go mi_k118 3 91 [(4, .int ((a 95).getD (i 6657).toNatClampNeg 0)), (3, .ref 104), (0, .ref 0), (1, .int x1), (2, .int x2)] [.int ((a 95).getD (i 6657).toNatClampNeg 0)] i a q r (by rfl) ?_ | refine ko_steps mi_in118 3 _ (91, [(4, .int ((a 95).getD (i 6657).toNatClampNeg 0)), (3, .ref 104), (0, .ref 0), (1, .int x1), (2, .int x2)], [.int ((a 95).getD (i 6657).toNatClampNeg 0)], (0, 0), ks i a q r) (by rfl) ?_
                  have fi_6784 : ((0 : Int) ≤ (i 6784).toInt) ∧ ((i 6784).toInt ≤ 2) := hG.I.1 6784
                  have fi_6912 : ((0 : Int) ≤ (i 6912).toInt) ∧ ((i 6912).toInt ≤ 2) := hG.I.1 6912
                  have fi_7040 : ((0 : Int) ≤ (i 7040).toInt) ∧ ((i 7040).toInt ≤ 2) := hG.I.1 7040
                  have fi_7168 : ((0 : Int) ≤ (i 7168).toInt) ∧ ((i 7168).toInt ≤ 2) := hG.I.1 7168
                  have fi_7296 : ((0 : Int) ≤ (i 7296).toInt) ∧ ((i 7296).toInt ≤ 2) := hG.I.1 7296
                  exact ft_ret mi_k118 (by rfl) (hP ((a 95).getD (i 6657).toNatClampNeg 0) ⟨trivial, ⟨(fun h => absurd (ot6 z2.1 z2.2 z4.1 z4.2 kot0 kot7) h), (fun h => absurd h (ot34 c8 kot1)), (fun h => absurd h (ot35 c8 z10.1 z10.2 kot1)), (fun _ => (show ((a 95).getD (i 6657).toNatClampNeg 0) = tkV ((a 95).getD (i 6657).toNatClampNeg 0) x2 from (by unfold tkV; rw [if_pos (ot75 w32 z34 z4.1 kot0)]))), (fun h => absurd h (ot9 w5)), (fun h => absurd h (ot10 w5)), (fun h => absurd h (ot11 w5)), (fun h => absurd h (ot12 w5)), (fun h => absurd h (ot13 w5)), (fun h => absurd h (ot14 w5)), (fun h => absurd h (ot15 w5)), (fun h => absurd h (ot16 w5)), (fun h => absurd h (ot17 w5)), (fun h => absurd h (ot18 w5)), (fun h => absurd h (ot19 w5)), (fun h => absurd h (ot20 w5)), (fun h => absurd h (ot21 w5)), (fun h => absurd h (ot22 w5)), (fun h => absurd h (ot23 w5))⟩⟩)
                ·
                  subst eg33
                  have z35 : (x2.toInt ≠ 5) ∧ (x2.toInt ≠ 3) ∧ (x2.toInt ≠ 2) ∧ (x2.toInt ≠ 0) := hg33
                  first | refine ft_go mi_k118 2 91 [(4, .int ((a 95).getD (i 6657).toNatClampNeg 0)), (3, .ref 104), (0, .ref 0), (1, .int x1), (2, .int x2)] [.int (-12)] i a q r (by rfl) ?_ | refine ko_steps mi_in118 2 _ (91, [(4, .int ((a 95).getD (i 6657).toNatClampNeg 0)), (3, .ref 104), (0, .ref 0), (1, .int x1), (2, .int x2)], [.int (-12)], (0, 0), ks i a q r) (by rfl) ?_
                  have fi_6784 : ((0 : Int) ≤ (i 6784).toInt) ∧ ((i 6784).toInt ≤ 2) := hG.I.1 6784
                  have fi_6912 : ((0 : Int) ≤ (i 6912).toInt) ∧ ((i 6912).toInt ≤ 2) := hG.I.1 6912
                  have fi_7040 : ((0 : Int) ≤ (i 7040).toInt) ∧ ((i 7040).toInt ≤ 2) := hG.I.1 7040
                  have fi_7168 : ((0 : Int) ≤ (i 7168).toInt) ∧ ((i 7168).toInt ≤ 2) := hG.I.1 7168
                  have fi_7296 : ((0 : Int) ≤ (i 7296).toInt) ∧ ((i 7296).toInt ≤ 2) := hG.I.1 7296
                  exact ft_ret mi_k118 (by rfl) (hP (-12) ⟨trivial, ⟨(fun h => absurd (ot6 z2.1 z2.2 z4.1 z4.2 kot0 kot7) h), (fun h => absurd h (ot34 c8 kot1)), (fun h => absurd h (ot35 c8 z10.1 z10.2 kot1)), (fun _ => (show ((-12) : Int32) = tkV ((a 95).getD (i 6657).toNatClampNeg 0) x2 from (by unfold tkV; rw [if_neg (ot76 w32 z35.1 z35.2.1 z35.2.2.1 z35.2.2.2 z4.1 kot0)]))), (fun h => absurd h (ot9 w5)), (fun h => absurd h (ot10 w5)), (fun h => absurd h (ot11 w5)), (fun h => absurd h (ot12 w5)), (fun h => absurd h (ot13 w5)), (fun h => absurd h (ot14 w5)), (fun h => absurd h (ot15 w5)), (fun h => absurd h (ot16 w5)), (fun h => absurd h (ot17 w5)), (fun h => absurd h (ot18 w5)), (fun h => absurd h (ot19 w5)), (fun h => absurd h (ot20 w5)), (fun h => absurd h (ot21 w5)), (fun h => absurd h (ot22 w5)), (fun h => absurd h (ot23 w5))⟩⟩)
              by_cases w36 : ((a 95).getD (i 6657).toNatClampNeg 0).toInt = 6
              ·
                refine ko_eq (x1 := (78, [(4, .int ((a 95).getD (i 6657).toNatClampNeg 0)), (3, .ref 104), (0, .ref 0), (1, .int x1), (2, .int x2)], [.int x2, .int 6], (0, 0), ks i a q r)) (by rw [(kj_eq w36 (by decide) : ((a 95).getD (i 6657).toNatClampNeg 0) = 6)]) ?_
                refine ko_callPI mi_k118.1 (pc := 78) (ls := [(4, .int ((a 95).getD (i 6657).toNatClampNeg 0)), (3, .ref 104), (0, .ref 0), (1, .int x1), (2, .int x2)]) (st := [.int x2, .int 6]) (h := ks i a q r) (i := (.invokestatic 339, 3, 10, 0, 9, 0, 319)) (mi_k118.2 _ _ (by rfl)) (ft_invS mi_pq10 (by rfl)) (cy := mi_c10) mi_pq10 rfl (ke10_l06 hG.I hG.R x2) (by decide) ?_
                intro vg37 hg37
                rcases hg37 with ⟨eg37, hg37⟩ | ⟨eg37, hg37⟩
                ·
                  subst eg37
                  have z38 : (x2.toInt = 6) ∨ (x2.toInt = 0) := hg37
                  first | refine ft_go mi_k118 3 91 [(4, .int ((a 95).getD (i 6657).toNatClampNeg 0)), (3, .ref 104), (0, .ref 0), (1, .int x1), (2, .int x2)] [.int ((a 95).getD (i 6657).toNatClampNeg 0)] i a q r (by rfl) ?_ | refine ko_steps mi_in118 3 _ (91, [(4, .int ((a 95).getD (i 6657).toNatClampNeg 0)), (3, .ref 104), (0, .ref 0), (1, .int x1), (2, .int x2)], [.int ((a 95).getD (i 6657).toNatClampNeg 0)], (0, 0), ks i a q r) (by rfl) ?_
                  have fi_6784 : ((0 : Int) ≤ (i 6784).toInt) ∧ ((i 6784).toInt ≤ 2) := hG.I.1 6784
                  have fi_6912 : ((0 : Int) ≤ (i 6912).toInt) ∧ ((i 6912).toInt ≤ 2) := hG.I.1 6912
                  have fi_7040 : ((0 : Int) ≤ (i 7040).toInt) ∧ ((i 7040).toInt ≤ 2) := hG.I.1 7040
                  have fi_7168 : ((0 : Int) ≤ (i 7168).toInt) ∧ ((i 7168).toInt ≤ 2) := hG.I.1 7168
                  have fi_7296 : ((0 : Int) ≤ (i 7296).toInt) ∧ ((i 7296).toInt ≤ 2) := hG.I.1 7296
                  exact ft_ret mi_k118 (by rfl) (hP ((a 95).getD (i 6657).toNatClampNeg 0) ⟨trivial, ⟨(fun h => absurd (ot6 z2.1 z2.2 z4.1 z4.2 kot0 kot7) h), (fun h => absurd h (ot34 c8 kot1)), (fun h => absurd h (ot35 c8 z10.1 z10.2 kot1)), (fun _ => (show ((a 95).getD (i 6657).toNatClampNeg 0) = tkV ((a 95).getD (i 6657).toNatClampNeg 0) x2 from (by unfold tkV; rw [if_pos (ot82 w36 z38 z4.1 kot0)]))), (fun h => absurd h (ot9 w5)), (fun h => absurd h (ot10 w5)), (fun h => absurd h (ot11 w5)), (fun h => absurd h (ot12 w5)), (fun h => absurd h (ot13 w5)), (fun h => absurd h (ot14 w5)), (fun h => absurd h (ot15 w5)), (fun h => absurd h (ot16 w5)), (fun h => absurd h (ot17 w5)), (fun h => absurd h (ot18 w5)), (fun h => absurd h (ot19 w5)), (fun h => absurd h (ot20 w5)), (fun h => absurd h (ot21 w5)), (fun h => absurd h (ot22 w5)), (fun h => absurd h (ot23 w5))⟩⟩)
                ·
                  subst eg37
                  have z39 : (x2.toInt ≠ 6) ∧ (x2.toInt ≠ 0) := hg37
                  first | refine ft_go mi_k118 2 91 [(4, .int ((a 95).getD (i 6657).toNatClampNeg 0)), (3, .ref 104), (0, .ref 0), (1, .int x1), (2, .int x2)] [.int (-12)] i a q r (by rfl) ?_ | refine ko_steps mi_in118 2 _ (91, [(4, .int ((a 95).getD (i 6657).toNatClampNeg 0)), (3, .ref 104), (0, .ref 0), (1, .int x1), (2, .int x2)], [.int (-12)], (0, 0), ks i a q r) (by rfl) ?_
                  have fi_6784 : ((0 : Int) ≤ (i 6784).toInt) ∧ ((i 6784).toInt ≤ 2) := hG.I.1 6784
                  have fi_6912 : ((0 : Int) ≤ (i 6912).toInt) ∧ ((i 6912).toInt ≤ 2) := hG.I.1 6912
                  have fi_7040 : ((0 : Int) ≤ (i 7040).toInt) ∧ ((i 7040).toInt ≤ 2) := hG.I.1 7040
                  have fi_7168 : ((0 : Int) ≤ (i 7168).toInt) ∧ ((i 7168).toInt ≤ 2) := hG.I.1 7168
                  have fi_7296 : ((0 : Int) ≤ (i 7296).toInt) ∧ ((i 7296).toInt ≤ 2) := hG.I.1 7296
                  exact ft_ret mi_k118 (by rfl) (hP (-12) ⟨trivial, ⟨(fun h => absurd (ot6 z2.1 z2.2 z4.1 z4.2 kot0 kot7) h), (fun h => absurd h (ot34 c8 kot1)), (fun h => absurd h (ot35 c8 z10.1 z10.2 kot1)), (fun _ => (show ((-12) : Int32) = tkV ((a 95).getD (i 6657).toNatClampNeg 0) x2 from (by unfold tkV; rw [if_neg (ot83 w36 z39.1 z39.2 z4.1 kot0)]))), (fun h => absurd h (ot9 w5)), (fun h => absurd h (ot10 w5)), (fun h => absurd h (ot11 w5)), (fun h => absurd h (ot12 w5)), (fun h => absurd h (ot13 w5)), (fun h => absurd h (ot14 w5)), (fun h => absurd h (ot15 w5)), (fun h => absurd h (ot16 w5)), (fun h => absurd h (ot17 w5)), (fun h => absurd h (ot18 w5)), (fun h => absurd h (ot19 w5)), (fun h => absurd h (ot20 w5)), (fun h => absurd h (ot21 w5)), (fun h => absurd h (ot22 w5)), (fun h => absurd h (ot23 w5))⟩⟩)
              by_cases w40 : ((a 95).getD (i 6657).toNatClampNeg 0).toInt = 7
              ·
                refine ko_eq (x1 := (78, [(4, .int ((a 95).getD (i 6657).toNatClampNeg 0)), (3, .ref 104), (0, .ref 0), (1, .int x1), (2, .int x2)], [.int x2, .int 7], (0, 0), ks i a q r)) (by rw [(kj_eq w40 (by decide) : ((a 95).getD (i 6657).toNatClampNeg 0) = 7)]) ?_
                refine ko_callPI mi_k118.1 (pc := 78) (ls := [(4, .int ((a 95).getD (i 6657).toNatClampNeg 0)), (3, .ref 104), (0, .ref 0), (1, .int x1), (2, .int x2)]) (st := [.int x2, .int 7]) (h := ks i a q r) (i := (.invokestatic 339, 3, 10, 0, 9, 0, 319)) (mi_k118.2 _ _ (by rfl)) (ft_invS mi_pq10 (by rfl)) (cy := mi_c10) mi_pq10 rfl (ke10_l07 hG.I hG.R x2) (by decide) ?_
                intro vg41 hg41
                rcases hg41 with ⟨eg41, hg41⟩ | ⟨eg41, hg41⟩
                ·
                  subst eg41
                  have z42 : (x2.toInt = 7) ∨ (x2.toInt = 4) ∨ (x2.toInt = 1) ∨ (x2.toInt = 0) := hg41
                  first | refine ft_go mi_k118 3 91 [(4, .int ((a 95).getD (i 6657).toNatClampNeg 0)), (3, .ref 104), (0, .ref 0), (1, .int x1), (2, .int x2)] [.int ((a 95).getD (i 6657).toNatClampNeg 0)] i a q r (by rfl) ?_ | refine ko_steps mi_in118 3 _ (91, [(4, .int ((a 95).getD (i 6657).toNatClampNeg 0)), (3, .ref 104), (0, .ref 0), (1, .int x1), (2, .int x2)], [.int ((a 95).getD (i 6657).toNatClampNeg 0)], (0, 0), ks i a q r) (by rfl) ?_
                  have fi_6784 : ((0 : Int) ≤ (i 6784).toInt) ∧ ((i 6784).toInt ≤ 2) := hG.I.1 6784
                  have fi_6912 : ((0 : Int) ≤ (i 6912).toInt) ∧ ((i 6912).toInt ≤ 2) := hG.I.1 6912
                  have fi_7040 : ((0 : Int) ≤ (i 7040).toInt) ∧ ((i 7040).toInt ≤ 2) := hG.I.1 7040
                  have fi_7168 : ((0 : Int) ≤ (i 7168).toInt) ∧ ((i 7168).toInt ≤ 2) := hG.I.1 7168
                  have fi_7296 : ((0 : Int) ≤ (i 7296).toInt) ∧ ((i 7296).toInt ≤ 2) := hG.I.1 7296
                  exact ft_ret mi_k118 (by rfl) (hP ((a 95).getD (i 6657).toNatClampNeg 0) ⟨trivial, ⟨(fun h => absurd (ot6 z2.1 z2.2 z4.1 z4.2 kot0 kot7) h), (fun h => absurd h (ot34 c8 kot1)), (fun h => absurd h (ot35 c8 z10.1 z10.2 kot1)), (fun _ => (show ((a 95).getD (i 6657).toNatClampNeg 0) = tkV ((a 95).getD (i 6657).toNatClampNeg 0) x2 from (by unfold tkV; rw [if_pos (ot91 r11.2 w40 z4.1 z4.2 z42 kot0 kot7)]))), (fun h => absurd h (ot9 w5)), (fun h => absurd h (ot10 w5)), (fun h => absurd h (ot11 w5)), (fun h => absurd h (ot12 w5)), (fun h => absurd h (ot13 w5)), (fun h => absurd h (ot14 w5)), (fun h => absurd h (ot15 w5)), (fun h => absurd h (ot16 w5)), (fun h => absurd h (ot17 w5)), (fun h => absurd h (ot18 w5)), (fun h => absurd h (ot19 w5)), (fun h => absurd h (ot20 w5)), (fun h => absurd h (ot21 w5)), (fun h => absurd h (ot22 w5)), (fun h => absurd h (ot23 w5))⟩⟩)
                ·
                  subst eg41
                  have z43 : (x2.toInt ≠ 7) ∧ (x2.toInt ≠ 4) ∧ (x2.toInt ≠ 1) ∧ (x2.toInt ≠ 0) := hg41
                  first | refine ft_go mi_k118 2 91 [(4, .int ((a 95).getD (i 6657).toNatClampNeg 0)), (3, .ref 104), (0, .ref 0), (1, .int x1), (2, .int x2)] [.int (-12)] i a q r (by rfl) ?_ | refine ko_steps mi_in118 2 _ (91, [(4, .int ((a 95).getD (i 6657).toNatClampNeg 0)), (3, .ref 104), (0, .ref 0), (1, .int x1), (2, .int x2)], [.int (-12)], (0, 0), ks i a q r) (by rfl) ?_
                  have fi_6784 : ((0 : Int) ≤ (i 6784).toInt) ∧ ((i 6784).toInt ≤ 2) := hG.I.1 6784
                  have fi_6912 : ((0 : Int) ≤ (i 6912).toInt) ∧ ((i 6912).toInt ≤ 2) := hG.I.1 6912
                  have fi_7040 : ((0 : Int) ≤ (i 7040).toInt) ∧ ((i 7040).toInt ≤ 2) := hG.I.1 7040
                  have fi_7168 : ((0 : Int) ≤ (i 7168).toInt) ∧ ((i 7168).toInt ≤ 2) := hG.I.1 7168
                  have fi_7296 : ((0 : Int) ≤ (i 7296).toInt) ∧ ((i 7296).toInt ≤ 2) := hG.I.1 7296
                  exact ft_ret mi_k118 (by rfl) (hP (-12) ⟨trivial, ⟨(fun h => absurd (ot6 z2.1 z2.2 z4.1 z4.2 kot0 kot7) h), (fun h => absurd h (ot34 c8 kot1)), (fun h => absurd h (ot35 c8 z10.1 z10.2 kot1)), (fun _ => (show ((-12) : Int32) = tkV ((a 95).getD (i 6657).toNatClampNeg 0) x2 from (by unfold tkV; rw [if_neg (ot92 w40 z4.1 z4.2 z43.1 z43.2.1 z43.2.2.1 z43.2.2.2 kot0 kot7)]))), (fun h => absurd h (ot9 w5)), (fun h => absurd h (ot10 w5)), (fun h => absurd h (ot11 w5)), (fun h => absurd h (ot12 w5)), (fun h => absurd h (ot13 w5)), (fun h => absurd h (ot14 w5)), (fun h => absurd h (ot15 w5)), (fun h => absurd h (ot16 w5)), (fun h => absurd h (ot17 w5)), (fun h => absurd h (ot18 w5)), (fun h => absurd h (ot19 w5)), (fun h => absurd h (ot20 w5)), (fun h => absurd h (ot21 w5)), (fun h => absurd h (ot22 w5)), (fun h => absurd h (ot23 w5))⟩⟩)
              exact (ot93 r11.1 r11.2 w12 w16 w20 w24 w28 w32 w36 w40).elim
            ·
              subst eg9
              have fi_6017 : ((0 : Int) ≤ (i 6017).toInt) ∧ ((i 6017).toInt ≤ 50) := hG.I.1 6017
              have z44 : ¬ (((0 : Int) ≤ (i 6657).toInt) ∧ ((i 6657).toInt < (i 6017).toInt)) := hg9
              first | refine ft_go mi_k118 2 60 [(3, .ref 104), (0, .ref 0), (1, .int x1), (2, .int x2)] [.int (-12)] i a q r (by rfl) ?_ | refine ko_steps mi_in118 2 _ (60, [(3, .ref 104), (0, .ref 0), (1, .int x1), (2, .int x2)], [.int (-12)], (0, 0), ks i a q r) (by rfl) ?_
              have fi_6784 : ((0 : Int) ≤ (i 6784).toInt) ∧ ((i 6784).toInt ≤ 2) := hG.I.1 6784
              have fi_6912 : ((0 : Int) ≤ (i 6912).toInt) ∧ ((i 6912).toInt ≤ 2) := hG.I.1 6912
              have fi_7040 : ((0 : Int) ≤ (i 7040).toInt) ∧ ((i 7040).toInt ≤ 2) := hG.I.1 7040
              have fi_7168 : ((0 : Int) ≤ (i 7168).toInt) ∧ ((i 7168).toInt ≤ 2) := hG.I.1 7168
              have fi_7296 : ((0 : Int) ≤ (i 7296).toInt) ∧ ((i 7296).toInt ≤ 2) := hG.I.1 7296
              exact ft_ret mi_k118 (by rfl) (hP (-12) ⟨trivial, ⟨(fun h => absurd (ot6 z2.1 z2.2 z4.1 z4.2 kot0 kot7) h), (fun h => absurd h (ot34 c8 kot1)), (fun _ => (show ((-12) : Int32) = -12 from (by first | rfl | (simp only [sMn, sMx]; done) | (simp only [sMn, sMx]; rfl)))), (fun h => absurd h (ot94 z44)), (fun h => absurd h (ot9 w5)), (fun h => absurd h (ot10 w5)), (fun h => absurd h (ot11 w5)), (fun h => absurd h (ot12 w5)), (fun h => absurd h (ot13 w5)), (fun h => absurd h (ot14 w5)), (fun h => absurd h (ot15 w5)), (fun h => absurd h (ot16 w5)), (fun h => absurd h (ot17 w5)), (fun h => absurd h (ot18 w5)), (fun h => absurd h (ot19 w5)), (fun h => absurd h (ot20 w5)), (fun h => absurd h (ot21 w5)), (fun h => absurd h (ot22 w5)), (fun h => absurd h (ot23 w5))⟩⟩)
        ·
          have c45 : (i 6656).toInt = (0 : Int32).toInt := kd_neF c; clear c
          first | refine ft_go mi_k118 1 35 [(3, .ref 104), (0, .ref 0), (1, .int x1), (2, .int x2)] [.int (-11)] i a q r (by rfl) ?_ | refine ko_steps mi_in118 1 _ (35, [(3, .ref 104), (0, .ref 0), (1, .int x1), (2, .int x2)], [.int (-11)], (0, 0), ks i a q r) (by rfl) ?_
          have fi_6017 : ((0 : Int) ≤ (i 6017).toInt) ∧ ((i 6017).toInt ≤ 50) := hG.I.1 6017
          have fi_6784 : ((0 : Int) ≤ (i 6784).toInt) ∧ ((i 6784).toInt ≤ 2) := hG.I.1 6784
          have fi_6912 : ((0 : Int) ≤ (i 6912).toInt) ∧ ((i 6912).toInt ≤ 2) := hG.I.1 6912
          have fi_7040 : ((0 : Int) ≤ (i 7040).toInt) ∧ ((i 7040).toInt ≤ 2) := hG.I.1 7040
          have fi_7168 : ((0 : Int) ≤ (i 7168).toInt) ∧ ((i 7168).toInt ≤ 2) := hG.I.1 7168
          have fi_7296 : ((0 : Int) ≤ (i 7296).toInt) ∧ ((i 7296).toInt ≤ 2) := hG.I.1 7296
          exact ft_ret mi_k118 (by rfl) (hP (-11) ⟨trivial, ⟨(fun h => absurd (ot6 z2.1 z2.2 z4.1 z4.2 kot0 kot7) h), (fun _ => (show ((-11) : Int32) = -11 from (by first | rfl | (simp only [sMn, sMx]; done) | (simp only [sMn, sMx]; rfl)))), (fun h => absurd h (ot95 c45 fi_6656.1 kot0)), (fun h => absurd h (ot96 c45 kot0)), (fun h => absurd h (ot9 w5)), (fun h => absurd h (ot10 w5)), (fun h => absurd h (ot11 w5)), (fun h => absurd h (ot12 w5)), (fun h => absurd h (ot13 w5)), (fun h => absurd h (ot14 w5)), (fun h => absurd h (ot15 w5)), (fun h => absurd h (ot16 w5)), (fun h => absurd h (ot17 w5)), (fun h => absurd h (ot18 w5)), (fun h => absurd h (ot19 w5)), (fun h => absurd h (ot20 w5)), (fun h => absurd h (ot21 w5)), (fun h => absurd h (ot22 w5)), (fun h => absurd h (ot23 w5))⟩⟩)
      by_cases w46 : x1.toInt = 1
      ·
        refine ko_eq (x1 := (24, [(0, .ref 0), (1, .int x1), (2, .int x2)], [.int 1, .ref 97], (0, 0), ks i a q r)) (by rw [(kj_eq w46 (by decide) : x1 = 1)]) ?_
        have fi_6784 : ((0 : Int) ≤ (i 6784).toInt) ∧ ((i 6784).toInt ≤ 2) := hG.I.1 6784
        first | refine ft_go mi_k118 4 30 [(3, .ref 106), (0, .ref 0), (1, .int x1), (2, .int x2)] [.int (i 6784)] i a q r (by rfl) ?_ | refine ko_steps mi_in118 4 _ (30, [(3, .ref 106), (0, .ref 0), (1, .int x1), (2, .int x2)], [.int (i 6784)], (0, 0), ks i a q r) (by rfl) ?_
        refine ft_if mi_k118 ((i 6784) != 0) 36 33 [(3, .ref 106), (0, .ref 0), (1, .int x1), (2, .int x2)] [] (by rfl) (fun c => ?_) (fun c => ?_)
        ·
          have c47 : (i 6784).toInt ≠ (0 : Int32).toInt := kd_ne c; clear c
          first | refine ft_go mi_k118 3 41 [(3, .ref 106), (0, .ref 0), (1, .int x1), (2, .int x2)] [.int 1, .int (i 6784)] i a q r (by rfl) ?_ | refine ko_steps mi_in118 3 _ (41, [(3, .ref 106), (0, .ref 0), (1, .int x1), (2, .int x2)], [.int 1, .int (i 6784)], (0, 0), ks i a q r) (by rfl) ?_
          refine ft_if mi_k118 ((i 6784) != 1) 58 44 [(3, .ref 106), (0, .ref 0), (1, .int x1), (2, .int x2)] [] (by rfl) (fun c => ?_) (fun c => ?_)
          ·
            have c48 : (i 6784).toInt ≠ (1 : Int32).toInt := kd_ne c; clear c
            first | refine ft_go mi_k118 1 60 [(3, .ref 106), (0, .ref 0), (1, .int x1), (2, .int x2)] [.int (-12)] i a q r (by rfl) ?_ | refine ko_steps mi_in118 1 _ (60, [(3, .ref 106), (0, .ref 0), (1, .int x1), (2, .int x2)], [.int (-12)], (0, 0), ks i a q r) (by rfl) ?_
            have fi_6656 : ((0 : Int) ≤ (i 6656).toInt) ∧ ((i 6656).toInt ≤ 2) := hG.I.1 6656
            have fi_6017 : ((0 : Int) ≤ (i 6017).toInt) ∧ ((i 6017).toInt ≤ 50) := hG.I.1 6017
            have fi_6912 : ((0 : Int) ≤ (i 6912).toInt) ∧ ((i 6912).toInt ≤ 2) := hG.I.1 6912
            have fi_7040 : ((0 : Int) ≤ (i 7040).toInt) ∧ ((i 7040).toInt ≤ 2) := hG.I.1 7040
            have fi_7168 : ((0 : Int) ≤ (i 7168).toInt) ∧ ((i 7168).toInt ≤ 2) := hG.I.1 7168
            have fi_7296 : ((0 : Int) ≤ (i 7296).toInt) ∧ ((i 7296).toInt ≤ 2) := hG.I.1 7296
            exact ft_ret mi_k118 (by rfl) (hP (-12) ⟨trivial, ⟨(fun h => absurd (ot97 w46 z2.2 z4.1 z4.2 kot0 kot7) h), (fun h => absurd h (ot98 w46)), (fun h => absurd h (ot99 w46)), (fun h => absurd h (ot100 w46)), (fun h => absurd h (ot101 c47 fi_6784.1 kot0)), (fun _ => (show ((-12) : Int32) = -12 from (by first | rfl | (simp only [sMn, sMx]; done) | (simp only [sMn, sMx]; rfl)))), (fun h => absurd h (ot102 c47 c48 fi_6784.1 kot0 kot1)), (fun h => absurd h (ot103 w46)), (fun h => absurd h (ot104 w46)), (fun h => absurd h (ot105 w46)), (fun h => absurd h (ot106 w46)), (fun h => absurd h (ot107 w46)), (fun h => absurd h (ot108 w46)), (fun h => absurd h (ot109 w46)), (fun h => absurd h (ot110 w46)), (fun h => absurd h (ot111 w46)), (fun h => absurd h (ot112 w46)), (fun h => absurd h (ot113 w46)), (fun h => absurd h (ot114 w46))⟩⟩)
          ·
            have c49 : (i 6784).toInt = (1 : Int32).toInt := kd_neF c; clear c
            first | refine ft_go mi_k118 4 52 [(3, .ref 106), (0, .ref 0), (1, .int x1), (2, .int x2)] [.int (i 6785), .ref 94] i a q r (by rfl) ?_ | refine ko_steps mi_in118 4 _ (52, [(3, .ref 106), (0, .ref 0), (1, .int x1), (2, .int x2)], [.int (i 6785), .ref 94], (0, 0), ks i a q r) (by rfl) ?_
            refine ko_callPI mi_k118.1 (pc := 52) (ls := [(3, .ref 106), (0, .ref 0), (1, .int x1), (2, .int x2)]) (st := [.int (i 6785), .ref 94]) (h := ks i a q r) (i := (.invokevirtual 301, 3, 8, 0, 9, 0, 304)) (mi_k118.2 _ _ (by rfl)) (ft_invS mi_pq8 (by rfl)) (cy := mi_c8) mi_pq8 rfl (kc8_94 hG.I hG.R (i 6785)) (by decide) ?_
            intro vg50 hg50
            rcases hg50 with ⟨eg50, hg50⟩ | ⟨eg50, hg50⟩
            ·
              subst eg50
              have fi_6017 : ((0 : Int) ≤ (i 6017).toInt) ∧ ((i 6017).toInt ≤ 50) := hG.I.1 6017
              have z51 : ((0 : Int) ≤ (i 6785).toInt) ∧ ((i 6785).toInt < (i 6017).toInt) := hg50
              first | refine ft_go mi_k118 6 72 [(3, .ref 106), (0, .ref 0), (1, .int x1), (2, .int x2)] [.int (i 6785), .ref 95] i a q r (by rfl) ?_ | refine ko_steps mi_in118 6 _ (72, [(3, .ref 106), (0, .ref 0), (1, .int x1), (2, .int x2)], [.int (i 6785), .ref 95], (0, 0), ks i a q r) (by rfl) ?_
              refine ko_iald3 mi_k118.1 (n := 50) (c := 50) (ax := (0, 0, 0, 0, 0)) (mi_k118.2 _ _ (by rfl)) (by rfl) (ksG95 _ _ _ _) (hG.I.2.1 95) rfl (ot28 z51.1) (ot29 fi_6017.2 z51.2) ?_
              have r52 : ((0 : Int) ≤ ((a 95).getD (i 6785).toNatClampNeg 0).toInt) ∧ (((a 95).getD (i 6785).toNatClampNeg 0).toInt ≤ 7) := hG.I.2.2.1 95 ((i 6785).toNatClampNeg)
              first | refine ft_go mi_k118 3 78 [(4, .int ((a 95).getD (i 6785).toNatClampNeg 0)), (3, .ref 106), (0, .ref 0), (1, .int x1), (2, .int x2)] [.int x2, .int ((a 95).getD (i 6785).toNatClampNeg 0)] i a q r (by rfl) ?_ | refine ko_steps mi_in118 3 _ (78, [(4, .int ((a 95).getD (i 6785).toNatClampNeg 0)), (3, .ref 106), (0, .ref 0), (1, .int x1), (2, .int x2)], [.int x2, .int ((a 95).getD (i 6785).toNatClampNeg 0)], (0, 0), ks i a q r) (by rfl) ?_
              by_cases w53 : ((a 95).getD (i 6785).toNatClampNeg 0).toInt = 0
              ·
                refine ko_eq (x1 := (78, [(4, .int ((a 95).getD (i 6785).toNatClampNeg 0)), (3, .ref 106), (0, .ref 0), (1, .int x1), (2, .int x2)], [.int x2, .int 0], (0, 0), ks i a q r)) (by rw [(kj_eq w53 (by decide) : ((a 95).getD (i 6785).toNatClampNeg 0) = 0)]) ?_
                refine ko_callPI mi_k118.1 (pc := 78) (ls := [(4, .int ((a 95).getD (i 6785).toNatClampNeg 0)), (3, .ref 106), (0, .ref 0), (1, .int x1), (2, .int x2)]) (st := [.int x2, .int 0]) (h := ks i a q r) (i := (.invokestatic 339, 3, 10, 0, 9, 0, 319)) (mi_k118.2 _ _ (by rfl)) (ft_invS mi_pq10 (by rfl)) (cy := mi_c10) mi_pq10 rfl (ke10_l00 hG.I hG.R x2) (by decide) ?_
                intro vg54 hg54
                rcases hg54 with ⟨eg54, hg54⟩ | ⟨eg54, hg54⟩
                ·
                  subst eg54
                  have z55 : x2.toInt = 0 := hg54
                  first | refine ft_go mi_k118 3 91 [(4, .int ((a 95).getD (i 6785).toNatClampNeg 0)), (3, .ref 106), (0, .ref 0), (1, .int x1), (2, .int x2)] [.int ((a 95).getD (i 6785).toNatClampNeg 0)] i a q r (by rfl) ?_ | refine ko_steps mi_in118 3 _ (91, [(4, .int ((a 95).getD (i 6785).toNatClampNeg 0)), (3, .ref 106), (0, .ref 0), (1, .int x1), (2, .int x2)], [.int ((a 95).getD (i 6785).toNatClampNeg 0)], (0, 0), ks i a q r) (by rfl) ?_
                  have fi_6656 : ((0 : Int) ≤ (i 6656).toInt) ∧ ((i 6656).toInt ≤ 2) := hG.I.1 6656
                  have fi_6912 : ((0 : Int) ≤ (i 6912).toInt) ∧ ((i 6912).toInt ≤ 2) := hG.I.1 6912
                  have fi_7040 : ((0 : Int) ≤ (i 7040).toInt) ∧ ((i 7040).toInt ≤ 2) := hG.I.1 7040
                  have fi_7168 : ((0 : Int) ≤ (i 7168).toInt) ∧ ((i 7168).toInt ≤ 2) := hG.I.1 7168
                  have fi_7296 : ((0 : Int) ≤ (i 7296).toInt) ∧ ((i 7296).toInt ≤ 2) := hG.I.1 7296
                  exact ft_ret mi_k118 (by rfl) (hP ((a 95).getD (i 6785).toNatClampNeg 0) ⟨trivial, ⟨(fun h => absurd (ot97 w46 z2.2 z4.1 z4.2 kot0 kot7) h), (fun h => absurd h (ot98 w46)), (fun h => absurd h (ot99 w46)), (fun h => absurd h (ot100 w46)), (fun h => absurd h (ot115 c49 kot1)), (fun h => absurd h (ot116 c49 z51.1 z51.2 kot1)), (fun _ => (show ((a 95).getD (i 6785).toNatClampNeg 0) = tkV ((a 95).getD (i 6785).toNatClampNeg 0) x2 from (by unfold tkV; rw [if_pos (ot117 z4.1 z55 kot0)]))), (fun h => absurd h (ot103 w46)), (fun h => absurd h (ot104 w46)), (fun h => absurd h (ot105 w46)), (fun h => absurd h (ot106 w46)), (fun h => absurd h (ot107 w46)), (fun h => absurd h (ot108 w46)), (fun h => absurd h (ot109 w46)), (fun h => absurd h (ot110 w46)), (fun h => absurd h (ot111 w46)), (fun h => absurd h (ot112 w46)), (fun h => absurd h (ot113 w46)), (fun h => absurd h (ot114 w46))⟩⟩)
                ·
                  subst eg54
                  have z56 : x2.toInt ≠ 0 := hg54
                  first | refine ft_go mi_k118 2 91 [(4, .int ((a 95).getD (i 6785).toNatClampNeg 0)), (3, .ref 106), (0, .ref 0), (1, .int x1), (2, .int x2)] [.int (-12)] i a q r (by rfl) ?_ | refine ko_steps mi_in118 2 _ (91, [(4, .int ((a 95).getD (i 6785).toNatClampNeg 0)), (3, .ref 106), (0, .ref 0), (1, .int x1), (2, .int x2)], [.int (-12)], (0, 0), ks i a q r) (by rfl) ?_
                  have fi_6656 : ((0 : Int) ≤ (i 6656).toInt) ∧ ((i 6656).toInt ≤ 2) := hG.I.1 6656
                  have fi_6912 : ((0 : Int) ≤ (i 6912).toInt) ∧ ((i 6912).toInt ≤ 2) := hG.I.1 6912
                  have fi_7040 : ((0 : Int) ≤ (i 7040).toInt) ∧ ((i 7040).toInt ≤ 2) := hG.I.1 7040
                  have fi_7168 : ((0 : Int) ≤ (i 7168).toInt) ∧ ((i 7168).toInt ≤ 2) := hG.I.1 7168
                  have fi_7296 : ((0 : Int) ≤ (i 7296).toInt) ∧ ((i 7296).toInt ≤ 2) := hG.I.1 7296
                  exact ft_ret mi_k118 (by rfl) (hP (-12) ⟨trivial, ⟨(fun h => absurd (ot97 w46 z2.2 z4.1 z4.2 kot0 kot7) h), (fun h => absurd h (ot98 w46)), (fun h => absurd h (ot99 w46)), (fun h => absurd h (ot100 w46)), (fun h => absurd h (ot115 c49 kot1)), (fun h => absurd h (ot116 c49 z51.1 z51.2 kot1)), (fun _ => (show ((-12) : Int32) = tkV ((a 95).getD (i 6785).toNatClampNeg 0) x2 from (by unfold tkV; rw [if_neg (ot118 w53 z4.1 z56 kot0)]))), (fun h => absurd h (ot103 w46)), (fun h => absurd h (ot104 w46)), (fun h => absurd h (ot105 w46)), (fun h => absurd h (ot106 w46)), (fun h => absurd h (ot107 w46)), (fun h => absurd h (ot108 w46)), (fun h => absurd h (ot109 w46)), (fun h => absurd h (ot110 w46)), (fun h => absurd h (ot111 w46)), (fun h => absurd h (ot112 w46)), (fun h => absurd h (ot113 w46)), (fun h => absurd h (ot114 w46))⟩⟩)
              by_cases w57 : ((a 95).getD (i 6785).toNatClampNeg 0).toInt = 1
              ·
                refine ko_eq (x1 := (78, [(4, .int ((a 95).getD (i 6785).toNatClampNeg 0)), (3, .ref 106), (0, .ref 0), (1, .int x1), (2, .int x2)], [.int x2, .int 1], (0, 0), ks i a q r)) (by rw [(kj_eq w57 (by decide) : ((a 95).getD (i 6785).toNatClampNeg 0) = 1)]) ?_
                refine ko_callPI mi_k118.1 (pc := 78) (ls := [(4, .int ((a 95).getD (i 6785).toNatClampNeg 0)), (3, .ref 106), (0, .ref 0), (1, .int x1), (2, .int x2)]) (st := [.int x2, .int 1]) (h := ks i a q r) (i := (.invokestatic 339, 3, 10, 0, 9, 0, 319)) (mi_k118.2 _ _ (by rfl)) (ft_invS mi_pq10 (by rfl)) (cy := mi_c10) mi_pq10 rfl (ke10_l01 hG.I hG.R x2) (by decide) ?_
                intro vg58 hg58
                rcases hg58 with ⟨eg58, hg58⟩ | ⟨eg58, hg58⟩
                ·
                  subst eg58
                  have z59 : (x2.toInt = 1) ∨ (x2.toInt = 0) := hg58
                  first | refine ft_go mi_k118 3 91 [(4, .int ((a 95).getD (i 6785).toNatClampNeg 0)), (3, .ref 106), (0, .ref 0), (1, .int x1), (2, .int x2)] [.int ((a 95).getD (i 6785).toNatClampNeg 0)] i a q r (by rfl) ?_ | refine ko_steps mi_in118 3 _ (91, [(4, .int ((a 95).getD (i 6785).toNatClampNeg 0)), (3, .ref 106), (0, .ref 0), (1, .int x1), (2, .int x2)], [.int ((a 95).getD (i 6785).toNatClampNeg 0)], (0, 0), ks i a q r) (by rfl) ?_
                  have fi_6656 : ((0 : Int) ≤ (i 6656).toInt) ∧ ((i 6656).toInt ≤ 2) := hG.I.1 6656
                  have fi_6912 : ((0 : Int) ≤ (i 6912).toInt) ∧ ((i 6912).toInt ≤ 2) := hG.I.1 6912
                  have fi_7040 : ((0 : Int) ≤ (i 7040).toInt) ∧ ((i 7040).toInt ≤ 2) := hG.I.1 7040
                  have fi_7168 : ((0 : Int) ≤ (i 7168).toInt) ∧ ((i 7168).toInt ≤ 2) := hG.I.1 7168
                  have fi_7296 : ((0 : Int) ≤ (i 7296).toInt) ∧ ((i 7296).toInt ≤ 2) := hG.I.1 7296
                  exact ft_ret mi_k118 (by rfl) (hP ((a 95).getD (i 6785).toNatClampNeg 0) ⟨trivial, ⟨(fun h => absurd (ot97 w46 z2.2 z4.1 z4.2 kot0 kot7) h), (fun h => absurd h (ot98 w46)), (fun h => absurd h (ot99 w46)), (fun h => absurd h (ot100 w46)), (fun h => absurd h (ot115 c49 kot1)), (fun h => absurd h (ot116 c49 z51.1 z51.2 kot1)), (fun _ => (show ((a 95).getD (i 6785).toNatClampNeg 0) = tkV ((a 95).getD (i 6785).toNatClampNeg 0) x2 from (by unfold tkV; rw [if_pos (ot119 w57 z4.1 z59 kot0)]))), (fun h => absurd h (ot103 w46)), (fun h => absurd h (ot104 w46)), (fun h => absurd h (ot105 w46)), (fun h => absurd h (ot106 w46)), (fun h => absurd h (ot107 w46)), (fun h => absurd h (ot108 w46)), (fun h => absurd h (ot109 w46)), (fun h => absurd h (ot110 w46)), (fun h => absurd h (ot111 w46)), (fun h => absurd h (ot112 w46)), (fun h => absurd h (ot113 w46)), (fun h => absurd h (ot114 w46))⟩⟩)
                ·
                  subst eg58
                  have z60 : (x2.toInt ≠ 1) ∧ (x2.toInt ≠ 0) := hg58
                  first | refine ft_go mi_k118 2 91 [(4, .int ((a 95).getD (i 6785).toNatClampNeg 0)), (3, .ref 106), (0, .ref 0), (1, .int x1), (2, .int x2)] [.int (-12)] i a q r (by rfl) ?_ | refine ko_steps mi_in118 2 _ (91, [(4, .int ((a 95).getD (i 6785).toNatClampNeg 0)), (3, .ref 106), (0, .ref 0), (1, .int x1), (2, .int x2)], [.int (-12)], (0, 0), ks i a q r) (by rfl) ?_
                  have fi_6656 : ((0 : Int) ≤ (i 6656).toInt) ∧ ((i 6656).toInt ≤ 2) := hG.I.1 6656
                  have fi_6912 : ((0 : Int) ≤ (i 6912).toInt) ∧ ((i 6912).toInt ≤ 2) := hG.I.1 6912
                  have fi_7040 : ((0 : Int) ≤ (i 7040).toInt) ∧ ((i 7040).toInt ≤ 2) := hG.I.1 7040
                  have fi_7168 : ((0 : Int) ≤ (i 7168).toInt) ∧ ((i 7168).toInt ≤ 2) := hG.I.1 7168
                  have fi_7296 : ((0 : Int) ≤ (i 7296).toInt) ∧ ((i 7296).toInt ≤ 2) := hG.I.1 7296
                  exact ft_ret mi_k118 (by rfl) (hP (-12) ⟨trivial, ⟨(fun h => absurd (ot97 w46 z2.2 z4.1 z4.2 kot0 kot7) h), (fun h => absurd h (ot98 w46)), (fun h => absurd h (ot99 w46)), (fun h => absurd h (ot100 w46)), (fun h => absurd h (ot115 c49 kot1)), (fun h => absurd h (ot116 c49 z51.1 z51.2 kot1)), (fun _ => (show ((-12) : Int32) = tkV ((a 95).getD (i 6785).toNatClampNeg 0) x2 from (by unfold tkV; rw [if_neg (ot120 w57 z4.1 z60.1 z60.2 kot0)]))), (fun h => absurd h (ot103 w46)), (fun h => absurd h (ot104 w46)), (fun h => absurd h (ot105 w46)), (fun h => absurd h (ot106 w46)), (fun h => absurd h (ot107 w46)), (fun h => absurd h (ot108 w46)), (fun h => absurd h (ot109 w46)), (fun h => absurd h (ot110 w46)), (fun h => absurd h (ot111 w46)), (fun h => absurd h (ot112 w46)), (fun h => absurd h (ot113 w46)), (fun h => absurd h (ot114 w46))⟩⟩)
              by_cases w61 : ((a 95).getD (i 6785).toNatClampNeg 0).toInt = 2
              ·
                refine ko_eq (x1 := (78, [(4, .int ((a 95).getD (i 6785).toNatClampNeg 0)), (3, .ref 106), (0, .ref 0), (1, .int x1), (2, .int x2)], [.int x2, .int 2], (0, 0), ks i a q r)) (by rw [(kj_eq w61 (by decide) : ((a 95).getD (i 6785).toNatClampNeg 0) = 2)]) ?_
                refine ko_callPI mi_k118.1 (pc := 78) (ls := [(4, .int ((a 95).getD (i 6785).toNatClampNeg 0)), (3, .ref 106), (0, .ref 0), (1, .int x1), (2, .int x2)]) (st := [.int x2, .int 2]) (h := ks i a q r) (i := (.invokestatic 339, 3, 10, 0, 9, 0, 319)) (mi_k118.2 _ _ (by rfl)) (ft_invS mi_pq10 (by rfl)) (cy := mi_c10) mi_pq10 rfl (ke10_l02 hG.I hG.R x2) (by decide) ?_
                intro vg62 hg62
                rcases hg62 with ⟨eg62, hg62⟩ | ⟨eg62, hg62⟩
                ·
                  subst eg62
                  have z63 : (x2.toInt = 2) ∨ (x2.toInt = 0) := hg62
                  first | refine ft_go mi_k118 3 91 [(4, .int ((a 95).getD (i 6785).toNatClampNeg 0)), (3, .ref 106), (0, .ref 0), (1, .int x1), (2, .int x2)] [.int ((a 95).getD (i 6785).toNatClampNeg 0)] i a q r (by rfl) ?_ | refine ko_steps mi_in118 3 _ (91, [(4, .int ((a 95).getD (i 6785).toNatClampNeg 0)), (3, .ref 106), (0, .ref 0), (1, .int x1), (2, .int x2)], [.int ((a 95).getD (i 6785).toNatClampNeg 0)], (0, 0), ks i a q r) (by rfl) ?_
                  have fi_6656 : ((0 : Int) ≤ (i 6656).toInt) ∧ ((i 6656).toInt ≤ 2) := hG.I.1 6656
                  have fi_6912 : ((0 : Int) ≤ (i 6912).toInt) ∧ ((i 6912).toInt ≤ 2) := hG.I.1 6912
                  have fi_7040 : ((0 : Int) ≤ (i 7040).toInt) ∧ ((i 7040).toInt ≤ 2) := hG.I.1 7040
                  have fi_7168 : ((0 : Int) ≤ (i 7168).toInt) ∧ ((i 7168).toInt ≤ 2) := hG.I.1 7168
                  have fi_7296 : ((0 : Int) ≤ (i 7296).toInt) ∧ ((i 7296).toInt ≤ 2) := hG.I.1 7296
                  exact ft_ret mi_k118 (by rfl) (hP ((a 95).getD (i 6785).toNatClampNeg 0) ⟨trivial, ⟨(fun h => absurd (ot97 w46 z2.2 z4.1 z4.2 kot0 kot7) h), (fun h => absurd h (ot98 w46)), (fun h => absurd h (ot99 w46)), (fun h => absurd h (ot100 w46)), (fun h => absurd h (ot115 c49 kot1)), (fun h => absurd h (ot116 c49 z51.1 z51.2 kot1)), (fun _ => (show ((a 95).getD (i 6785).toNatClampNeg 0) = tkV ((a 95).getD (i 6785).toNatClampNeg 0) x2 from (by unfold tkV; rw [if_pos (ot121 w61 z4.1 z63 kot0)]))), (fun h => absurd h (ot103 w46)), (fun h => absurd h (ot104 w46)), (fun h => absurd h (ot105 w46)), (fun h => absurd h (ot106 w46)), (fun h => absurd h (ot107 w46)), (fun h => absurd h (ot108 w46)), (fun h => absurd h (ot109 w46)), (fun h => absurd h (ot110 w46)), (fun h => absurd h (ot111 w46)), (fun h => absurd h (ot112 w46)), (fun h => absurd h (ot113 w46)), (fun h => absurd h (ot114 w46))⟩⟩)
                ·
                  subst eg62
                  have z64 : (x2.toInt ≠ 2) ∧ (x2.toInt ≠ 0) := hg62
                  first | refine ft_go mi_k118 2 91 [(4, .int ((a 95).getD (i 6785).toNatClampNeg 0)), (3, .ref 106), (0, .ref 0), (1, .int x1), (2, .int x2)] [.int (-12)] i a q r (by rfl) ?_ | refine ko_steps mi_in118 2 _ (91, [(4, .int ((a 95).getD (i 6785).toNatClampNeg 0)), (3, .ref 106), (0, .ref 0), (1, .int x1), (2, .int x2)], [.int (-12)], (0, 0), ks i a q r) (by rfl) ?_
                  have fi_6656 : ((0 : Int) ≤ (i 6656).toInt) ∧ ((i 6656).toInt ≤ 2) := hG.I.1 6656
                  have fi_6912 : ((0 : Int) ≤ (i 6912).toInt) ∧ ((i 6912).toInt ≤ 2) := hG.I.1 6912
                  have fi_7040 : ((0 : Int) ≤ (i 7040).toInt) ∧ ((i 7040).toInt ≤ 2) := hG.I.1 7040
                  have fi_7168 : ((0 : Int) ≤ (i 7168).toInt) ∧ ((i 7168).toInt ≤ 2) := hG.I.1 7168
                  have fi_7296 : ((0 : Int) ≤ (i 7296).toInt) ∧ ((i 7296).toInt ≤ 2) := hG.I.1 7296
                  exact ft_ret mi_k118 (by rfl) (hP (-12) ⟨trivial, ⟨(fun h => absurd (ot97 w46 z2.2 z4.1 z4.2 kot0 kot7) h), (fun h => absurd h (ot98 w46)), (fun h => absurd h (ot99 w46)), (fun h => absurd h (ot100 w46)), (fun h => absurd h (ot115 c49 kot1)), (fun h => absurd h (ot116 c49 z51.1 z51.2 kot1)), (fun _ => (show ((-12) : Int32) = tkV ((a 95).getD (i 6785).toNatClampNeg 0) x2 from (by unfold tkV; rw [if_neg (ot122 w61 z4.1 z64.1 z64.2 kot0)]))), (fun h => absurd h (ot103 w46)), (fun h => absurd h (ot104 w46)), (fun h => absurd h (ot105 w46)), (fun h => absurd h (ot106 w46)), (fun h => absurd h (ot107 w46)), (fun h => absurd h (ot108 w46)), (fun h => absurd h (ot109 w46)), (fun h => absurd h (ot110 w46)), (fun h => absurd h (ot111 w46)), (fun h => absurd h (ot112 w46)), (fun h => absurd h (ot113 w46)), (fun h => absurd h (ot114 w46))⟩⟩)
              by_cases w65 : ((a 95).getD (i 6785).toNatClampNeg 0).toInt = 3
              ·
                refine ko_eq (x1 := (78, [(4, .int ((a 95).getD (i 6785).toNatClampNeg 0)), (3, .ref 106), (0, .ref 0), (1, .int x1), (2, .int x2)], [.int x2, .int 3], (0, 0), ks i a q r)) (by rw [(kj_eq w65 (by decide) : ((a 95).getD (i 6785).toNatClampNeg 0) = 3)]) ?_
                refine ko_callPI mi_k118.1 (pc := 78) (ls := [(4, .int ((a 95).getD (i 6785).toNatClampNeg 0)), (3, .ref 106), (0, .ref 0), (1, .int x1), (2, .int x2)]) (st := [.int x2, .int 3]) (h := ks i a q r) (i := (.invokestatic 339, 3, 10, 0, 9, 0, 319)) (mi_k118.2 _ _ (by rfl)) (ft_invS mi_pq10 (by rfl)) (cy := mi_c10) mi_pq10 rfl (ke10_l03 hG.I hG.R x2) (by decide) ?_
                intro vg66 hg66
                rcases hg66 with ⟨eg66, hg66⟩ | ⟨eg66, hg66⟩
                ·
                  subst eg66
                  have z67 : (x2.toInt = 3) ∨ (x2.toInt = 2) ∨ (x2.toInt = 0) := hg66
                  first | refine ft_go mi_k118 3 91 [(4, .int ((a 95).getD (i 6785).toNatClampNeg 0)), (3, .ref 106), (0, .ref 0), (1, .int x1), (2, .int x2)] [.int ((a 95).getD (i 6785).toNatClampNeg 0)] i a q r (by rfl) ?_ | refine ko_steps mi_in118 3 _ (91, [(4, .int ((a 95).getD (i 6785).toNatClampNeg 0)), (3, .ref 106), (0, .ref 0), (1, .int x1), (2, .int x2)], [.int ((a 95).getD (i 6785).toNatClampNeg 0)], (0, 0), ks i a q r) (by rfl) ?_
                  have fi_6656 : ((0 : Int) ≤ (i 6656).toInt) ∧ ((i 6656).toInt ≤ 2) := hG.I.1 6656
                  have fi_6912 : ((0 : Int) ≤ (i 6912).toInt) ∧ ((i 6912).toInt ≤ 2) := hG.I.1 6912
                  have fi_7040 : ((0 : Int) ≤ (i 7040).toInt) ∧ ((i 7040).toInt ≤ 2) := hG.I.1 7040
                  have fi_7168 : ((0 : Int) ≤ (i 7168).toInt) ∧ ((i 7168).toInt ≤ 2) := hG.I.1 7168
                  have fi_7296 : ((0 : Int) ≤ (i 7296).toInt) ∧ ((i 7296).toInt ≤ 2) := hG.I.1 7296
                  exact ft_ret mi_k118 (by rfl) (hP ((a 95).getD (i 6785).toNatClampNeg 0) ⟨trivial, ⟨(fun h => absurd (ot97 w46 z2.2 z4.1 z4.2 kot0 kot7) h), (fun h => absurd h (ot98 w46)), (fun h => absurd h (ot99 w46)), (fun h => absurd h (ot100 w46)), (fun h => absurd h (ot115 c49 kot1)), (fun h => absurd h (ot116 c49 z51.1 z51.2 kot1)), (fun _ => (show ((a 95).getD (i 6785).toNatClampNeg 0) = tkV ((a 95).getD (i 6785).toNatClampNeg 0) x2 from (by unfold tkV; rw [if_pos (ot123 w65 z4.1 z67 kot0)]))), (fun h => absurd h (ot103 w46)), (fun h => absurd h (ot104 w46)), (fun h => absurd h (ot105 w46)), (fun h => absurd h (ot106 w46)), (fun h => absurd h (ot107 w46)), (fun h => absurd h (ot108 w46)), (fun h => absurd h (ot109 w46)), (fun h => absurd h (ot110 w46)), (fun h => absurd h (ot111 w46)), (fun h => absurd h (ot112 w46)), (fun h => absurd h (ot113 w46)), (fun h => absurd h (ot114 w46))⟩⟩)
                ·
                  subst eg66
                  have z68 : (x2.toInt ≠ 3) ∧ (x2.toInt ≠ 2) ∧ (x2.toInt ≠ 0) := hg66
                  first | refine ft_go mi_k118 2 91 [(4, .int ((a 95).getD (i 6785).toNatClampNeg 0)), (3, .ref 106), (0, .ref 0), (1, .int x1), (2, .int x2)] [.int (-12)] i a q r (by rfl) ?_ | refine ko_steps mi_in118 2 _ (91, [(4, .int ((a 95).getD (i 6785).toNatClampNeg 0)), (3, .ref 106), (0, .ref 0), (1, .int x1), (2, .int x2)], [.int (-12)], (0, 0), ks i a q r) (by rfl) ?_
                  have fi_6656 : ((0 : Int) ≤ (i 6656).toInt) ∧ ((i 6656).toInt ≤ 2) := hG.I.1 6656
                  have fi_6912 : ((0 : Int) ≤ (i 6912).toInt) ∧ ((i 6912).toInt ≤ 2) := hG.I.1 6912
                  have fi_7040 : ((0 : Int) ≤ (i 7040).toInt) ∧ ((i 7040).toInt ≤ 2) := hG.I.1 7040
                  have fi_7168 : ((0 : Int) ≤ (i 7168).toInt) ∧ ((i 7168).toInt ≤ 2) := hG.I.1 7168
                  have fi_7296 : ((0 : Int) ≤ (i 7296).toInt) ∧ ((i 7296).toInt ≤ 2) := hG.I.1 7296
                  exact ft_ret mi_k118 (by rfl) (hP (-12) ⟨trivial, ⟨(fun h => absurd (ot97 w46 z2.2 z4.1 z4.2 kot0 kot7) h), (fun h => absurd h (ot98 w46)), (fun h => absurd h (ot99 w46)), (fun h => absurd h (ot100 w46)), (fun h => absurd h (ot115 c49 kot1)), (fun h => absurd h (ot116 c49 z51.1 z51.2 kot1)), (fun _ => (show ((-12) : Int32) = tkV ((a 95).getD (i 6785).toNatClampNeg 0) x2 from (by unfold tkV; rw [if_neg (ot124 w65 z4.1 z68.1 z68.2.1 z68.2.2 kot0)]))), (fun h => absurd h (ot103 w46)), (fun h => absurd h (ot104 w46)), (fun h => absurd h (ot105 w46)), (fun h => absurd h (ot106 w46)), (fun h => absurd h (ot107 w46)), (fun h => absurd h (ot108 w46)), (fun h => absurd h (ot109 w46)), (fun h => absurd h (ot110 w46)), (fun h => absurd h (ot111 w46)), (fun h => absurd h (ot112 w46)), (fun h => absurd h (ot113 w46)), (fun h => absurd h (ot114 w46))⟩⟩)
              by_cases w69 : ((a 95).getD (i 6785).toNatClampNeg 0).toInt = 4
              ·
                refine ko_eq (x1 := (78, [(4, .int ((a 95).getD (i 6785).toNatClampNeg 0)), (3, .ref 106), (0, .ref 0), (1, .int x1), (2, .int x2)], [.int x2, .int 4], (0, 0), ks i a q r)) (by rw [(kj_eq w69 (by decide) : ((a 95).getD (i 6785).toNatClampNeg 0) = 4)]) ?_
                refine ko_callPI mi_k118.1 (pc := 78) (ls := [(4, .int ((a 95).getD (i 6785).toNatClampNeg 0)), (3, .ref 106), (0, .ref 0), (1, .int x1), (2, .int x2)]) (st := [.int x2, .int 4]) (h := ks i a q r) (i := (.invokestatic 339, 3, 10, 0, 9, 0, 319)) (mi_k118.2 _ _ (by rfl)) (ft_invS mi_pq10 (by rfl)) (cy := mi_c10) mi_pq10 rfl (ke10_l04 hG.I hG.R x2) (by decide) ?_
                intro vg70 hg70
                rcases hg70 with ⟨eg70, hg70⟩ | ⟨eg70, hg70⟩
                ·
                  subst eg70
                  have z71 : (x2.toInt = 4) ∨ (x2.toInt = 1) ∨ (x2.toInt = 0) := hg70
                  first | refine ft_go mi_k118 3 91 [(4, .int ((a 95).getD (i 6785).toNatClampNeg 0)), (3, .ref 106), (0, .ref 0), (1, .int x1), (2, .int x2)] [.int ((a 95).getD (i 6785).toNatClampNeg 0)] i a q r (by rfl) ?_ | refine ko_steps mi_in118 3 _ (91, [(4, .int ((a 95).getD (i 6785).toNatClampNeg 0)), (3, .ref 106), (0, .ref 0), (1, .int x1), (2, .int x2)], [.int ((a 95).getD (i 6785).toNatClampNeg 0)], (0, 0), ks i a q r) (by rfl) ?_
                  have fi_6656 : ((0 : Int) ≤ (i 6656).toInt) ∧ ((i 6656).toInt ≤ 2) := hG.I.1 6656
                  have fi_6912 : ((0 : Int) ≤ (i 6912).toInt) ∧ ((i 6912).toInt ≤ 2) := hG.I.1 6912
                  have fi_7040 : ((0 : Int) ≤ (i 7040).toInt) ∧ ((i 7040).toInt ≤ 2) := hG.I.1 7040
                  have fi_7168 : ((0 : Int) ≤ (i 7168).toInt) ∧ ((i 7168).toInt ≤ 2) := hG.I.1 7168
                  have fi_7296 : ((0 : Int) ≤ (i 7296).toInt) ∧ ((i 7296).toInt ≤ 2) := hG.I.1 7296
                  exact ft_ret mi_k118 (by rfl) (hP ((a 95).getD (i 6785).toNatClampNeg 0) ⟨trivial, ⟨(fun h => absurd (ot97 w46 z2.2 z4.1 z4.2 kot0 kot7) h), (fun h => absurd h (ot98 w46)), (fun h => absurd h (ot99 w46)), (fun h => absurd h (ot100 w46)), (fun h => absurd h (ot115 c49 kot1)), (fun h => absurd h (ot116 c49 z51.1 z51.2 kot1)), (fun _ => (show ((a 95).getD (i 6785).toNatClampNeg 0) = tkV ((a 95).getD (i 6785).toNatClampNeg 0) x2 from (by unfold tkV; rw [if_pos (ot125 w69 z4.1 z71 kot0)]))), (fun h => absurd h (ot103 w46)), (fun h => absurd h (ot104 w46)), (fun h => absurd h (ot105 w46)), (fun h => absurd h (ot106 w46)), (fun h => absurd h (ot107 w46)), (fun h => absurd h (ot108 w46)), (fun h => absurd h (ot109 w46)), (fun h => absurd h (ot110 w46)), (fun h => absurd h (ot111 w46)), (fun h => absurd h (ot112 w46)), (fun h => absurd h (ot113 w46)), (fun h => absurd h (ot114 w46))⟩⟩)
                ·
                  subst eg70
                  have z72 : (x2.toInt ≠ 4) ∧ (x2.toInt ≠ 1) ∧ (x2.toInt ≠ 0) := hg70
                  first | refine ft_go mi_k118 2 91 [(4, .int ((a 95).getD (i 6785).toNatClampNeg 0)), (3, .ref 106), (0, .ref 0), (1, .int x1), (2, .int x2)] [.int (-12)] i a q r (by rfl) ?_ | refine ko_steps mi_in118 2 _ (91, [(4, .int ((a 95).getD (i 6785).toNatClampNeg 0)), (3, .ref 106), (0, .ref 0), (1, .int x1), (2, .int x2)], [.int (-12)], (0, 0), ks i a q r) (by rfl) ?_
                  have fi_6656 : ((0 : Int) ≤ (i 6656).toInt) ∧ ((i 6656).toInt ≤ 2) := hG.I.1 6656
                  have fi_6912 : ((0 : Int) ≤ (i 6912).toInt) ∧ ((i 6912).toInt ≤ 2) := hG.I.1 6912
                  have fi_7040 : ((0 : Int) ≤ (i 7040).toInt) ∧ ((i 7040).toInt ≤ 2) := hG.I.1 7040
                  have fi_7168 : ((0 : Int) ≤ (i 7168).toInt) ∧ ((i 7168).toInt ≤ 2) := hG.I.1 7168
                  have fi_7296 : ((0 : Int) ≤ (i 7296).toInt) ∧ ((i 7296).toInt ≤ 2) := hG.I.1 7296
                  exact ft_ret mi_k118 (by rfl) (hP (-12) ⟨trivial, ⟨(fun h => absurd (ot97 w46 z2.2 z4.1 z4.2 kot0 kot7) h), (fun h => absurd h (ot98 w46)), (fun h => absurd h (ot99 w46)), (fun h => absurd h (ot100 w46)), (fun h => absurd h (ot115 c49 kot1)), (fun h => absurd h (ot116 c49 z51.1 z51.2 kot1)), (fun _ => (show ((-12) : Int32) = tkV ((a 95).getD (i 6785).toNatClampNeg 0) x2 from (by unfold tkV; rw [if_neg (ot126 w69 z4.1 z72.1 z72.2.1 z72.2.2 kot0)]))), (fun h => absurd h (ot103 w46)), (fun h => absurd h (ot104 w46)), (fun h => absurd h (ot105 w46)), (fun h => absurd h (ot106 w46)), (fun h => absurd h (ot107 w46)), (fun h => absurd h (ot108 w46)), (fun h => absurd h (ot109 w46)), (fun h => absurd h (ot110 w46)), (fun h => absurd h (ot111 w46)), (fun h => absurd h (ot112 w46)), (fun h => absurd h (ot113 w46)), (fun h => absurd h (ot114 w46))⟩⟩)
              by_cases w73 : ((a 95).getD (i 6785).toNatClampNeg 0).toInt = 5
              ·
                refine ko_eq (x1 := (78, [(4, .int ((a 95).getD (i 6785).toNatClampNeg 0)), (3, .ref 106), (0, .ref 0), (1, .int x1), (2, .int x2)], [.int x2, .int 5], (0, 0), ks i a q r)) (by rw [(kj_eq w73 (by decide) : ((a 95).getD (i 6785).toNatClampNeg 0) = 5)]) ?_
                refine ko_callPI mi_k118.1 (pc := 78) (ls := [(4, .int ((a 95).getD (i 6785).toNatClampNeg 0)), (3, .ref 106), (0, .ref 0), (1, .int x1), (2, .int x2)]) (st := [.int x2, .int 5]) (h := ks i a q r) (i := (.invokestatic 339, 3, 10, 0, 9, 0, 319)) (mi_k118.2 _ _ (by rfl)) (ft_invS mi_pq10 (by rfl)) (cy := mi_c10) mi_pq10 rfl (ke10_l05 hG.I hG.R x2) (by decide) ?_
                intro vg74 hg74
                rcases hg74 with ⟨eg74, hg74⟩ | ⟨eg74, hg74⟩
                ·
                  subst eg74
                  have z75 : (x2.toInt = 5) ∨ (x2.toInt = 3) ∨ (x2.toInt = 2) ∨ (x2.toInt = 0) := hg74
                  first | refine ft_go mi_k118 3 91 [(4, .int ((a 95).getD (i 6785).toNatClampNeg 0)), (3, .ref 106), (0, .ref 0), (1, .int x1), (2, .int x2)] [.int ((a 95).getD (i 6785).toNatClampNeg 0)] i a q r (by rfl) ?_ | refine ko_steps mi_in118 3 _ (91, [(4, .int ((a 95).getD (i 6785).toNatClampNeg 0)), (3, .ref 106), (0, .ref 0), (1, .int x1), (2, .int x2)], [.int ((a 95).getD (i 6785).toNatClampNeg 0)], (0, 0), ks i a q r) (by rfl) ?_
                  have fi_6656 : ((0 : Int) ≤ (i 6656).toInt) ∧ ((i 6656).toInt ≤ 2) := hG.I.1 6656
                  have fi_6912 : ((0 : Int) ≤ (i 6912).toInt) ∧ ((i 6912).toInt ≤ 2) := hG.I.1 6912
                  have fi_7040 : ((0 : Int) ≤ (i 7040).toInt) ∧ ((i 7040).toInt ≤ 2) := hG.I.1 7040
                  have fi_7168 : ((0 : Int) ≤ (i 7168).toInt) ∧ ((i 7168).toInt ≤ 2) := hG.I.1 7168
                  have fi_7296 : ((0 : Int) ≤ (i 7296).toInt) ∧ ((i 7296).toInt ≤ 2) := hG.I.1 7296
                  exact ft_ret mi_k118 (by rfl) (hP ((a 95).getD (i 6785).toNatClampNeg 0) ⟨trivial, ⟨(fun h => absurd (ot97 w46 z2.2 z4.1 z4.2 kot0 kot7) h), (fun h => absurd h (ot98 w46)), (fun h => absurd h (ot99 w46)), (fun h => absurd h (ot100 w46)), (fun h => absurd h (ot115 c49 kot1)), (fun h => absurd h (ot116 c49 z51.1 z51.2 kot1)), (fun _ => (show ((a 95).getD (i 6785).toNatClampNeg 0) = tkV ((a 95).getD (i 6785).toNatClampNeg 0) x2 from (by unfold tkV; rw [if_pos (ot127 w73 z4.1 z75 kot0)]))), (fun h => absurd h (ot103 w46)), (fun h => absurd h (ot104 w46)), (fun h => absurd h (ot105 w46)), (fun h => absurd h (ot106 w46)), (fun h => absurd h (ot107 w46)), (fun h => absurd h (ot108 w46)), (fun h => absurd h (ot109 w46)), (fun h => absurd h (ot110 w46)), (fun h => absurd h (ot111 w46)), (fun h => absurd h (ot112 w46)), (fun h => absurd h (ot113 w46)), (fun h => absurd h (ot114 w46))⟩⟩)
                ·
                  subst eg74
                  have z76 : (x2.toInt ≠ 5) ∧ (x2.toInt ≠ 3) ∧ (x2.toInt ≠ 2) ∧ (x2.toInt ≠ 0) := hg74
                  first | refine ft_go mi_k118 2 91 [(4, .int ((a 95).getD (i 6785).toNatClampNeg 0)), (3, .ref 106), (0, .ref 0), (1, .int x1), (2, .int x2)] [.int (-12)] i a q r (by rfl) ?_ | refine ko_steps mi_in118 2 _ (91, [(4, .int ((a 95).getD (i 6785).toNatClampNeg 0)), (3, .ref 106), (0, .ref 0), (1, .int x1), (2, .int x2)], [.int (-12)], (0, 0), ks i a q r) (by rfl) ?_
                  have fi_6656 : ((0 : Int) ≤ (i 6656).toInt) ∧ ((i 6656).toInt ≤ 2) := hG.I.1 6656
                  have fi_6912 : ((0 : Int) ≤ (i 6912).toInt) ∧ ((i 6912).toInt ≤ 2) := hG.I.1 6912
                  have fi_7040 : ((0 : Int) ≤ (i 7040).toInt) ∧ ((i 7040).toInt ≤ 2) := hG.I.1 7040
                  have fi_7168 : ((0 : Int) ≤ (i 7168).toInt) ∧ ((i 7168).toInt ≤ 2) := hG.I.1 7168
                  have fi_7296 : ((0 : Int) ≤ (i 7296).toInt) ∧ ((i 7296).toInt ≤ 2) := hG.I.1 7296
                  exact ft_ret mi_k118 (by rfl) (hP (-12) ⟨trivial, ⟨(fun h => absurd (ot97 w46 z2.2 z4.1 z4.2 kot0 kot7) h), (fun h => absurd h (ot98 w46)), (fun h => absurd h (ot99 w46)), (fun h => absurd h (ot100 w46)), (fun h => absurd h (ot115 c49 kot1)), (fun h => absurd h (ot116 c49 z51.1 z51.2 kot1)), (fun _ => (show ((-12) : Int32) = tkV ((a 95).getD (i 6785).toNatClampNeg 0) x2 from (by unfold tkV; rw [if_neg (ot128 w73 z4.1 z76.1 z76.2.1 z76.2.2.1 z76.2.2.2 kot0)]))), (fun h => absurd h (ot103 w46)), (fun h => absurd h (ot104 w46)), (fun h => absurd h (ot105 w46)), (fun h => absurd h (ot106 w46)), (fun h => absurd h (ot107 w46)), (fun h => absurd h (ot108 w46)), (fun h => absurd h (ot109 w46)), (fun h => absurd h (ot110 w46)), (fun h => absurd h (ot111 w46)), (fun h => absurd h (ot112 w46)), (fun h => absurd h (ot113 w46)), (fun h => absurd h (ot114 w46))⟩⟩)
              by_cases w77 : ((a 95).getD (i 6785).toNatClampNeg 0).toInt = 6
              ·
                refine ko_eq (x1 := (78, [(4, .int ((a 95).getD (i 6785).toNatClampNeg 0)), (3, .ref 106), (0, .ref 0), (1, .int x1), (2, .int x2)], [.int x2, .int 6], (0, 0), ks i a q r)) (by rw [(kj_eq w77 (by decide) : ((a 95).getD (i 6785).toNatClampNeg 0) = 6)]) ?_
                refine ko_callPI mi_k118.1 (pc := 78) (ls := [(4, .int ((a 95).getD (i 6785).toNatClampNeg 0)), (3, .ref 106), (0, .ref 0), (1, .int x1), (2, .int x2)]) (st := [.int x2, .int 6]) (h := ks i a q r) (i := (.invokestatic 339, 3, 10, 0, 9, 0, 319)) (mi_k118.2 _ _ (by rfl)) (ft_invS mi_pq10 (by rfl)) (cy := mi_c10) mi_pq10 rfl (ke10_l06 hG.I hG.R x2) (by decide) ?_
                intro vg78 hg78
                rcases hg78 with ⟨eg78, hg78⟩ | ⟨eg78, hg78⟩
                ·
                  subst eg78
                  have z79 : (x2.toInt = 6) ∨ (x2.toInt = 0) := hg78
                  first | refine ft_go mi_k118 3 91 [(4, .int ((a 95).getD (i 6785).toNatClampNeg 0)), (3, .ref 106), (0, .ref 0), (1, .int x1), (2, .int x2)] [.int ((a 95).getD (i 6785).toNatClampNeg 0)] i a q r (by rfl) ?_ | refine ko_steps mi_in118 3 _ (91, [(4, .int ((a 95).getD (i 6785).toNatClampNeg 0)), (3, .ref 106), (0, .ref 0), (1, .int x1), (2, .int x2)], [.int ((a 95).getD (i 6785).toNatClampNeg 0)], (0, 0), ks i a q r) (by rfl) ?_
                  have fi_6656 : ((0 : Int) ≤ (i 6656).toInt) ∧ ((i 6656).toInt ≤ 2) := hG.I.1 6656
                  have fi_6912 : ((0 : Int) ≤ (i 6912).toInt) ∧ ((i 6912).toInt ≤ 2) := hG.I.1 6912
                  have fi_7040 : ((0 : Int) ≤ (i 7040).toInt) ∧ ((i 7040).toInt ≤ 2) := hG.I.1 7040
                  have fi_7168 : ((0 : Int) ≤ (i 7168).toInt) ∧ ((i 7168).toInt ≤ 2) := hG.I.1 7168
                  have fi_7296 : ((0 : Int) ≤ (i 7296).toInt) ∧ ((i 7296).toInt ≤ 2) := hG.I.1 7296
                  exact ft_ret mi_k118 (by rfl) (hP ((a 95).getD (i 6785).toNatClampNeg 0) ⟨trivial, ⟨(fun h => absurd (ot97 w46 z2.2 z4.1 z4.2 kot0 kot7) h), (fun h => absurd h (ot98 w46)), (fun h => absurd h (ot99 w46)), (fun h => absurd h (ot100 w46)), (fun h => absurd h (ot115 c49 kot1)), (fun h => absurd h (ot116 c49 z51.1 z51.2 kot1)), (fun _ => (show ((a 95).getD (i 6785).toNatClampNeg 0) = tkV ((a 95).getD (i 6785).toNatClampNeg 0) x2 from (by unfold tkV; rw [if_pos (ot129 w77 z4.1 z79 kot0)]))), (fun h => absurd h (ot103 w46)), (fun h => absurd h (ot104 w46)), (fun h => absurd h (ot105 w46)), (fun h => absurd h (ot106 w46)), (fun h => absurd h (ot107 w46)), (fun h => absurd h (ot108 w46)), (fun h => absurd h (ot109 w46)), (fun h => absurd h (ot110 w46)), (fun h => absurd h (ot111 w46)), (fun h => absurd h (ot112 w46)), (fun h => absurd h (ot113 w46)), (fun h => absurd h (ot114 w46))⟩⟩)
                ·
                  subst eg78
                  have z80 : (x2.toInt ≠ 6) ∧ (x2.toInt ≠ 0) := hg78
                  first | refine ft_go mi_k118 2 91 [(4, .int ((a 95).getD (i 6785).toNatClampNeg 0)), (3, .ref 106), (0, .ref 0), (1, .int x1), (2, .int x2)] [.int (-12)] i a q r (by rfl) ?_ | refine ko_steps mi_in118 2 _ (91, [(4, .int ((a 95).getD (i 6785).toNatClampNeg 0)), (3, .ref 106), (0, .ref 0), (1, .int x1), (2, .int x2)], [.int (-12)], (0, 0), ks i a q r) (by rfl) ?_
                  have fi_6656 : ((0 : Int) ≤ (i 6656).toInt) ∧ ((i 6656).toInt ≤ 2) := hG.I.1 6656
                  have fi_6912 : ((0 : Int) ≤ (i 6912).toInt) ∧ ((i 6912).toInt ≤ 2) := hG.I.1 6912
                  have fi_7040 : ((0 : Int) ≤ (i 7040).toInt) ∧ ((i 7040).toInt ≤ 2) := hG.I.1 7040
                  have fi_7168 : ((0 : Int) ≤ (i 7168).toInt) ∧ ((i 7168).toInt ≤ 2) := hG.I.1 7168
                  have fi_7296 : ((0 : Int) ≤ (i 7296).toInt) ∧ ((i 7296).toInt ≤ 2) := hG.I.1 7296
                  exact ft_ret mi_k118 (by rfl) (hP (-12) ⟨trivial, ⟨(fun h => absurd (ot97 w46 z2.2 z4.1 z4.2 kot0 kot7) h), (fun h => absurd h (ot98 w46)), (fun h => absurd h (ot99 w46)), (fun h => absurd h (ot100 w46)), (fun h => absurd h (ot115 c49 kot1)), (fun h => absurd h (ot116 c49 z51.1 z51.2 kot1)), (fun _ => (show ((-12) : Int32) = tkV ((a 95).getD (i 6785).toNatClampNeg 0) x2 from (by unfold tkV; rw [if_neg (ot130 w77 z4.1 z80.1 z80.2 kot0)]))), (fun h => absurd h (ot103 w46)), (fun h => absurd h (ot104 w46)), (fun h => absurd h (ot105 w46)), (fun h => absurd h (ot106 w46)), (fun h => absurd h (ot107 w46)), (fun h => absurd h (ot108 w46)), (fun h => absurd h (ot109 w46)), (fun h => absurd h (ot110 w46)), (fun h => absurd h (ot111 w46)), (fun h => absurd h (ot112 w46)), (fun h => absurd h (ot113 w46)), (fun h => absurd h (ot114 w46))⟩⟩)
              by_cases w81 : ((a 95).getD (i 6785).toNatClampNeg 0).toInt = 7
              ·
                refine ko_eq (x1 := (78, [(4, .int ((a 95).getD (i 6785).toNatClampNeg 0)), (3, .ref 106), (0, .ref 0), (1, .int x1), (2, .int x2)], [.int x2, .int 7], (0, 0), ks i a q r)) (by rw [(kj_eq w81 (by decide) : ((a 95).getD (i 6785).toNatClampNeg 0) = 7)]) ?_
                refine ko_callPI mi_k118.1 (pc := 78) (ls := [(4, .int ((a 95).getD (i 6785).toNatClampNeg 0)), (3, .ref 106), (0, .ref 0), (1, .int x1), (2, .int x2)]) (st := [.int x2, .int 7]) (h := ks i a q r) (i := (.invokestatic 339, 3, 10, 0, 9, 0, 319)) (mi_k118.2 _ _ (by rfl)) (ft_invS mi_pq10 (by rfl)) (cy := mi_c10) mi_pq10 rfl (ke10_l07 hG.I hG.R x2) (by decide) ?_
                intro vg82 hg82
                rcases hg82 with ⟨eg82, hg82⟩ | ⟨eg82, hg82⟩
                ·
                  subst eg82
                  have z83 : (x2.toInt = 7) ∨ (x2.toInt = 4) ∨ (x2.toInt = 1) ∨ (x2.toInt = 0) := hg82
                  first | refine ft_go mi_k118 3 91 [(4, .int ((a 95).getD (i 6785).toNatClampNeg 0)), (3, .ref 106), (0, .ref 0), (1, .int x1), (2, .int x2)] [.int ((a 95).getD (i 6785).toNatClampNeg 0)] i a q r (by rfl) ?_ | refine ko_steps mi_in118 3 _ (91, [(4, .int ((a 95).getD (i 6785).toNatClampNeg 0)), (3, .ref 106), (0, .ref 0), (1, .int x1), (2, .int x2)], [.int ((a 95).getD (i 6785).toNatClampNeg 0)], (0, 0), ks i a q r) (by rfl) ?_
                  have fi_6656 : ((0 : Int) ≤ (i 6656).toInt) ∧ ((i 6656).toInt ≤ 2) := hG.I.1 6656
                  have fi_6912 : ((0 : Int) ≤ (i 6912).toInt) ∧ ((i 6912).toInt ≤ 2) := hG.I.1 6912
                  have fi_7040 : ((0 : Int) ≤ (i 7040).toInt) ∧ ((i 7040).toInt ≤ 2) := hG.I.1 7040
                  have fi_7168 : ((0 : Int) ≤ (i 7168).toInt) ∧ ((i 7168).toInt ≤ 2) := hG.I.1 7168
                  have fi_7296 : ((0 : Int) ≤ (i 7296).toInt) ∧ ((i 7296).toInt ≤ 2) := hG.I.1 7296
                  exact ft_ret mi_k118 (by rfl) (hP ((a 95).getD (i 6785).toNatClampNeg 0) ⟨trivial, ⟨(fun h => absurd (ot97 w46 z2.2 z4.1 z4.2 kot0 kot7) h), (fun h => absurd h (ot98 w46)), (fun h => absurd h (ot99 w46)), (fun h => absurd h (ot100 w46)), (fun h => absurd h (ot115 c49 kot1)), (fun h => absurd h (ot116 c49 z51.1 z51.2 kot1)), (fun _ => (show ((a 95).getD (i 6785).toNatClampNeg 0) = tkV ((a 95).getD (i 6785).toNatClampNeg 0) x2 from (by unfold tkV; rw [if_pos (ot91 r52.2 w81 z4.1 z4.2 z83 kot0 kot7)]))), (fun h => absurd h (ot103 w46)), (fun h => absurd h (ot104 w46)), (fun h => absurd h (ot105 w46)), (fun h => absurd h (ot106 w46)), (fun h => absurd h (ot107 w46)), (fun h => absurd h (ot108 w46)), (fun h => absurd h (ot109 w46)), (fun h => absurd h (ot110 w46)), (fun h => absurd h (ot111 w46)), (fun h => absurd h (ot112 w46)), (fun h => absurd h (ot113 w46)), (fun h => absurd h (ot114 w46))⟩⟩)
                ·
                  subst eg82
                  have z84 : (x2.toInt ≠ 7) ∧ (x2.toInt ≠ 4) ∧ (x2.toInt ≠ 1) ∧ (x2.toInt ≠ 0) := hg82
                  first | refine ft_go mi_k118 2 91 [(4, .int ((a 95).getD (i 6785).toNatClampNeg 0)), (3, .ref 106), (0, .ref 0), (1, .int x1), (2, .int x2)] [.int (-12)] i a q r (by rfl) ?_ | refine ko_steps mi_in118 2 _ (91, [(4, .int ((a 95).getD (i 6785).toNatClampNeg 0)), (3, .ref 106), (0, .ref 0), (1, .int x1), (2, .int x2)], [.int (-12)], (0, 0), ks i a q r) (by rfl) ?_
                  have fi_6656 : ((0 : Int) ≤ (i 6656).toInt) ∧ ((i 6656).toInt ≤ 2) := hG.I.1 6656
                  have fi_6912 : ((0 : Int) ≤ (i 6912).toInt) ∧ ((i 6912).toInt ≤ 2) := hG.I.1 6912
                  have fi_7040 : ((0 : Int) ≤ (i 7040).toInt) ∧ ((i 7040).toInt ≤ 2) := hG.I.1 7040
                  have fi_7168 : ((0 : Int) ≤ (i 7168).toInt) ∧ ((i 7168).toInt ≤ 2) := hG.I.1 7168
                  have fi_7296 : ((0 : Int) ≤ (i 7296).toInt) ∧ ((i 7296).toInt ≤ 2) := hG.I.1 7296
                  exact ft_ret mi_k118 (by rfl) (hP (-12) ⟨trivial, ⟨(fun h => absurd (ot97 w46 z2.2 z4.1 z4.2 kot0 kot7) h), (fun h => absurd h (ot98 w46)), (fun h => absurd h (ot99 w46)), (fun h => absurd h (ot100 w46)), (fun h => absurd h (ot115 c49 kot1)), (fun h => absurd h (ot116 c49 z51.1 z51.2 kot1)), (fun _ => (show ((-12) : Int32) = tkV ((a 95).getD (i 6785).toNatClampNeg 0) x2 from (by unfold tkV; rw [if_neg (ot92 w81 z4.1 z4.2 z84.1 z84.2.1 z84.2.2.1 z84.2.2.2 kot0 kot7)]))), (fun h => absurd h (ot103 w46)), (fun h => absurd h (ot104 w46)), (fun h => absurd h (ot105 w46)), (fun h => absurd h (ot106 w46)), (fun h => absurd h (ot107 w46)), (fun h => absurd h (ot108 w46)), (fun h => absurd h (ot109 w46)), (fun h => absurd h (ot110 w46)), (fun h => absurd h (ot111 w46)), (fun h => absurd h (ot112 w46)), (fun h => absurd h (ot113 w46)), (fun h => absurd h (ot114 w46))⟩⟩)
              exact (ot93 r52.1 r52.2 w53 w57 w61 w65 w69 w73 w77 w81).elim
            ·
              subst eg50
              have fi_6017 : ((0 : Int) ≤ (i 6017).toInt) ∧ ((i 6017).toInt ≤ 50) := hG.I.1 6017
              have z85 : ¬ (((0 : Int) ≤ (i 6785).toInt) ∧ ((i 6785).toInt < (i 6017).toInt)) := hg50
              first | refine ft_go mi_k118 2 60 [(3, .ref 106), (0, .ref 0), (1, .int x1), (2, .int x2)] [.int (-12)] i a q r (by rfl) ?_ | refine ko_steps mi_in118 2 _ (60, [(3, .ref 106), (0, .ref 0), (1, .int x1), (2, .int x2)], [.int (-12)], (0, 0), ks i a q r) (by rfl) ?_
              have fi_6656 : ((0 : Int) ≤ (i 6656).toInt) ∧ ((i 6656).toInt ≤ 2) := hG.I.1 6656
              have fi_6912 : ((0 : Int) ≤ (i 6912).toInt) ∧ ((i 6912).toInt ≤ 2) := hG.I.1 6912
              have fi_7040 : ((0 : Int) ≤ (i 7040).toInt) ∧ ((i 7040).toInt ≤ 2) := hG.I.1 7040
              have fi_7168 : ((0 : Int) ≤ (i 7168).toInt) ∧ ((i 7168).toInt ≤ 2) := hG.I.1 7168
              have fi_7296 : ((0 : Int) ≤ (i 7296).toInt) ∧ ((i 7296).toInt ≤ 2) := hG.I.1 7296
              exact ft_ret mi_k118 (by rfl) (hP (-12) ⟨trivial, ⟨(fun h => absurd (ot97 w46 z2.2 z4.1 z4.2 kot0 kot7) h), (fun h => absurd h (ot98 w46)), (fun h => absurd h (ot99 w46)), (fun h => absurd h (ot100 w46)), (fun h => absurd h (ot115 c49 kot1)), (fun _ => (show ((-12) : Int32) = -12 from (by first | rfl | (simp only [sMn, sMx]; done) | (simp only [sMn, sMx]; rfl)))), (fun h => absurd h (ot131 z85)), (fun h => absurd h (ot103 w46)), (fun h => absurd h (ot104 w46)), (fun h => absurd h (ot105 w46)), (fun h => absurd h (ot106 w46)), (fun h => absurd h (ot107 w46)), (fun h => absurd h (ot108 w46)), (fun h => absurd h (ot109 w46)), (fun h => absurd h (ot110 w46)), (fun h => absurd h (ot111 w46)), (fun h => absurd h (ot112 w46)), (fun h => absurd h (ot113 w46)), (fun h => absurd h (ot114 w46))⟩⟩)
        ·
          have c86 : (i 6784).toInt = (0 : Int32).toInt := kd_neF c; clear c
          first | refine ft_go mi_k118 1 35 [(3, .ref 106), (0, .ref 0), (1, .int x1), (2, .int x2)] [.int (-11)] i a q r (by rfl) ?_ | refine ko_steps mi_in118 1 _ (35, [(3, .ref 106), (0, .ref 0), (1, .int x1), (2, .int x2)], [.int (-11)], (0, 0), ks i a q r) (by rfl) ?_
          have fi_6656 : ((0 : Int) ≤ (i 6656).toInt) ∧ ((i 6656).toInt ≤ 2) := hG.I.1 6656
          have fi_6017 : ((0 : Int) ≤ (i 6017).toInt) ∧ ((i 6017).toInt ≤ 50) := hG.I.1 6017
          have fi_6912 : ((0 : Int) ≤ (i 6912).toInt) ∧ ((i 6912).toInt ≤ 2) := hG.I.1 6912
          have fi_7040 : ((0 : Int) ≤ (i 7040).toInt) ∧ ((i 7040).toInt ≤ 2) := hG.I.1 7040
          have fi_7168 : ((0 : Int) ≤ (i 7168).toInt) ∧ ((i 7168).toInt ≤ 2) := hG.I.1 7168
          have fi_7296 : ((0 : Int) ≤ (i 7296).toInt) ∧ ((i 7296).toInt ≤ 2) := hG.I.1 7296
          exact ft_ret mi_k118 (by rfl) (hP (-11) ⟨trivial, ⟨(fun h => absurd (ot97 w46 z2.2 z4.1 z4.2 kot0 kot7) h), (fun h => absurd h (ot98 w46)), (fun h => absurd h (ot99 w46)), (fun h => absurd h (ot100 w46)), (fun _ => (show ((-11) : Int32) = -11 from (by first | rfl | (simp only [sMn, sMx]; done) | (simp only [sMn, sMx]; rfl)))), (fun h => absurd h (ot132 c86 fi_6784.1 kot0)), (fun h => absurd h (ot133 c86 kot0)), (fun h => absurd h (ot103 w46)), (fun h => absurd h (ot104 w46)), (fun h => absurd h (ot105 w46)), (fun h => absurd h (ot106 w46)), (fun h => absurd h (ot107 w46)), (fun h => absurd h (ot108 w46)), (fun h => absurd h (ot109 w46)), (fun h => absurd h (ot110 w46)), (fun h => absurd h (ot111 w46)), (fun h => absurd h (ot112 w46)), (fun h => absurd h (ot113 w46)), (fun h => absurd h (ot114 w46))⟩⟩)
      by_cases w87 : x1.toInt = 2
      ·
        refine ko_eq (x1 := (24, [(0, .ref 0), (1, .int x1), (2, .int x2)], [.int 2, .ref 97], (0, 0), ks i a q r)) (by rw [(kj_eq w87 (by decide) : x1 = 2)]) ?_
        have fi_6912 : ((0 : Int) ≤ (i 6912).toInt) ∧ ((i 6912).toInt ≤ 2) := hG.I.1 6912
        first | refine ft_go mi_k118 4 30 [(3, .ref 108), (0, .ref 0), (1, .int x1), (2, .int x2)] [.int (i 6912)] i a q r (by rfl) ?_ | refine ko_steps mi_in118 4 _ (30, [(3, .ref 108), (0, .ref 0), (1, .int x1), (2, .int x2)], [.int (i 6912)], (0, 0), ks i a q r) (by rfl) ?_
        refine ft_if mi_k118 ((i 6912) != 0) 36 33 [(3, .ref 108), (0, .ref 0), (1, .int x1), (2, .int x2)] [] (by rfl) (fun c => ?_) (fun c => ?_)
        ·
          have c88 : (i 6912).toInt ≠ (0 : Int32).toInt := kd_ne c; clear c
          first | refine ft_go mi_k118 3 41 [(3, .ref 108), (0, .ref 0), (1, .int x1), (2, .int x2)] [.int 1, .int (i 6912)] i a q r (by rfl) ?_ | refine ko_steps mi_in118 3 _ (41, [(3, .ref 108), (0, .ref 0), (1, .int x1), (2, .int x2)], [.int 1, .int (i 6912)], (0, 0), ks i a q r) (by rfl) ?_
          refine ft_if mi_k118 ((i 6912) != 1) 58 44 [(3, .ref 108), (0, .ref 0), (1, .int x1), (2, .int x2)] [] (by rfl) (fun c => ?_) (fun c => ?_)
          ·
            have c89 : (i 6912).toInt ≠ (1 : Int32).toInt := kd_ne c; clear c
            first | refine ft_go mi_k118 1 60 [(3, .ref 108), (0, .ref 0), (1, .int x1), (2, .int x2)] [.int (-12)] i a q r (by rfl) ?_ | refine ko_steps mi_in118 1 _ (60, [(3, .ref 108), (0, .ref 0), (1, .int x1), (2, .int x2)], [.int (-12)], (0, 0), ks i a q r) (by rfl) ?_
            have fi_6656 : ((0 : Int) ≤ (i 6656).toInt) ∧ ((i 6656).toInt ≤ 2) := hG.I.1 6656
            have fi_6017 : ((0 : Int) ≤ (i 6017).toInt) ∧ ((i 6017).toInt ≤ 50) := hG.I.1 6017
            have fi_6784 : ((0 : Int) ≤ (i 6784).toInt) ∧ ((i 6784).toInt ≤ 2) := hG.I.1 6784
            have fi_7040 : ((0 : Int) ≤ (i 7040).toInt) ∧ ((i 7040).toInt ≤ 2) := hG.I.1 7040
            have fi_7168 : ((0 : Int) ≤ (i 7168).toInt) ∧ ((i 7168).toInt ≤ 2) := hG.I.1 7168
            have fi_7296 : ((0 : Int) ≤ (i 7296).toInt) ∧ ((i 7296).toInt ≤ 2) := hG.I.1 7296
            exact ft_ret mi_k118 (by rfl) (hP (-12) ⟨trivial, ⟨(fun h => absurd (ot134 w87 z2.2 z4.1 z4.2 kot0 kot7) h), (fun h => absurd h (ot135 w87)), (fun h => absurd h (ot136 w87)), (fun h => absurd h (ot137 w87)), (fun h => absurd h (ot138 w87)), (fun h => absurd h (ot139 w87)), (fun h => absurd h (ot140 w87)), (fun h => absurd h (ot141 c88 fi_6912.1 kot0)), (fun _ => (show ((-12) : Int32) = -12 from (by first | rfl | (simp only [sMn, sMx]; done) | (simp only [sMn, sMx]; rfl)))), (fun h => absurd h (ot142 c88 c89 fi_6912.1 kot0 kot1)), (fun h => absurd h (ot143 w87)), (fun h => absurd h (ot144 w87)), (fun h => absurd h (ot145 w87)), (fun h => absurd h (ot146 w87)), (fun h => absurd h (ot147 w87)), (fun h => absurd h (ot148 w87)), (fun h => absurd h (ot149 w87)), (fun h => absurd h (ot150 w87)), (fun h => absurd h (ot151 w87))⟩⟩)
          ·
            have c90 : (i 6912).toInt = (1 : Int32).toInt := kd_neF c; clear c
            first | refine ft_go mi_k118 4 52 [(3, .ref 108), (0, .ref 0), (1, .int x1), (2, .int x2)] [.int (i 6913), .ref 94] i a q r (by rfl) ?_ | refine ko_steps mi_in118 4 _ (52, [(3, .ref 108), (0, .ref 0), (1, .int x1), (2, .int x2)], [.int (i 6913), .ref 94], (0, 0), ks i a q r) (by rfl) ?_
            refine ko_callPI mi_k118.1 (pc := 52) (ls := [(3, .ref 108), (0, .ref 0), (1, .int x1), (2, .int x2)]) (st := [.int (i 6913), .ref 94]) (h := ks i a q r) (i := (.invokevirtual 301, 3, 8, 0, 9, 0, 304)) (mi_k118.2 _ _ (by rfl)) (ft_invS mi_pq8 (by rfl)) (cy := mi_c8) mi_pq8 rfl (kc8_94 hG.I hG.R (i 6913)) (by decide) ?_
            intro vg91 hg91
            rcases hg91 with ⟨eg91, hg91⟩ | ⟨eg91, hg91⟩
            ·
              subst eg91
              have fi_6017 : ((0 : Int) ≤ (i 6017).toInt) ∧ ((i 6017).toInt ≤ 50) := hG.I.1 6017
              have z92 : ((0 : Int) ≤ (i 6913).toInt) ∧ ((i 6913).toInt < (i 6017).toInt) := hg91
              first | refine ft_go mi_k118 6 72 [(3, .ref 108), (0, .ref 0), (1, .int x1), (2, .int x2)] [.int (i 6913), .ref 95] i a q r (by rfl) ?_ | refine ko_steps mi_in118 6 _ (72, [(3, .ref 108), (0, .ref 0), (1, .int x1), (2, .int x2)], [.int (i 6913), .ref 95], (0, 0), ks i a q r) (by rfl) ?_
              refine ko_iald3 mi_k118.1 (n := 50) (c := 50) (ax := (0, 0, 0, 0, 0)) (mi_k118.2 _ _ (by rfl)) (by rfl) (ksG95 _ _ _ _) (hG.I.2.1 95) rfl (ot28 z92.1) (ot29 fi_6017.2 z92.2) ?_
              have r93 : ((0 : Int) ≤ ((a 95).getD (i 6913).toNatClampNeg 0).toInt) ∧ (((a 95).getD (i 6913).toNatClampNeg 0).toInt ≤ 7) := hG.I.2.2.1 95 ((i 6913).toNatClampNeg)
              first | refine ft_go mi_k118 3 78 [(4, .int ((a 95).getD (i 6913).toNatClampNeg 0)), (3, .ref 108), (0, .ref 0), (1, .int x1), (2, .int x2)] [.int x2, .int ((a 95).getD (i 6913).toNatClampNeg 0)] i a q r (by rfl) ?_ | refine ko_steps mi_in118 3 _ (78, [(4, .int ((a 95).getD (i 6913).toNatClampNeg 0)), (3, .ref 108), (0, .ref 0), (1, .int x1), (2, .int x2)], [.int x2, .int ((a 95).getD (i 6913).toNatClampNeg 0)], (0, 0), ks i a q r) (by rfl) ?_
              by_cases w94 : ((a 95).getD (i 6913).toNatClampNeg 0).toInt = 0
              ·
                refine ko_eq (x1 := (78, [(4, .int ((a 95).getD (i 6913).toNatClampNeg 0)), (3, .ref 108), (0, .ref 0), (1, .int x1), (2, .int x2)], [.int x2, .int 0], (0, 0), ks i a q r)) (by rw [(kj_eq w94 (by decide) : ((a 95).getD (i 6913).toNatClampNeg 0) = 0)]) ?_
                refine ko_callPI mi_k118.1 (pc := 78) (ls := [(4, .int ((a 95).getD (i 6913).toNatClampNeg 0)), (3, .ref 108), (0, .ref 0), (1, .int x1), (2, .int x2)]) (st := [.int x2, .int 0]) (h := ks i a q r) (i := (.invokestatic 339, 3, 10, 0, 9, 0, 319)) (mi_k118.2 _ _ (by rfl)) (ft_invS mi_pq10 (by rfl)) (cy := mi_c10) mi_pq10 rfl (ke10_l00 hG.I hG.R x2) (by decide) ?_
                intro vg95 hg95
                rcases hg95 with ⟨eg95, hg95⟩ | ⟨eg95, hg95⟩
                ·
                  subst eg95
                  have z96 : x2.toInt = 0 := hg95
                  first | refine ft_go mi_k118 3 91 [(4, .int ((a 95).getD (i 6913).toNatClampNeg 0)), (3, .ref 108), (0, .ref 0), (1, .int x1), (2, .int x2)] [.int ((a 95).getD (i 6913).toNatClampNeg 0)] i a q r (by rfl) ?_ | refine ko_steps mi_in118 3 _ (91, [(4, .int ((a 95).getD (i 6913).toNatClampNeg 0)), (3, .ref 108), (0, .ref 0), (1, .int x1), (2, .int x2)], [.int ((a 95).getD (i 6913).toNatClampNeg 0)], (0, 0), ks i a q r) (by rfl) ?_
                  have fi_6656 : ((0 : Int) ≤ (i 6656).toInt) ∧ ((i 6656).toInt ≤ 2) := hG.I.1 6656
                  have fi_6784 : ((0 : Int) ≤ (i 6784).toInt) ∧ ((i 6784).toInt ≤ 2) := hG.I.1 6784
                  have fi_7040 : ((0 : Int) ≤ (i 7040).toInt) ∧ ((i 7040).toInt ≤ 2) := hG.I.1 7040
                  have fi_7168 : ((0 : Int) ≤ (i 7168).toInt) ∧ ((i 7168).toInt ≤ 2) := hG.I.1 7168
                  have fi_7296 : ((0 : Int) ≤ (i 7296).toInt) ∧ ((i 7296).toInt ≤ 2) := hG.I.1 7296
                  exact ft_ret mi_k118 (by rfl) (hP ((a 95).getD (i 6913).toNatClampNeg 0) ⟨trivial, ⟨(fun h => absurd (ot134 w87 z2.2 z4.1 z4.2 kot0 kot7) h), (fun h => absurd h (ot135 w87)), (fun h => absurd h (ot136 w87)), (fun h => absurd h (ot137 w87)), (fun h => absurd h (ot138 w87)), (fun h => absurd h (ot139 w87)), (fun h => absurd h (ot140 w87)), (fun h => absurd h (ot152 c90 kot1)), (fun h => absurd h (ot153 c90 z92.1 z92.2 kot1)), (fun _ => (show ((a 95).getD (i 6913).toNatClampNeg 0) = tkV ((a 95).getD (i 6913).toNatClampNeg 0) x2 from (by unfold tkV; rw [if_pos (ot117 z4.1 z96 kot0)]))), (fun h => absurd h (ot143 w87)), (fun h => absurd h (ot144 w87)), (fun h => absurd h (ot145 w87)), (fun h => absurd h (ot146 w87)), (fun h => absurd h (ot147 w87)), (fun h => absurd h (ot148 w87)), (fun h => absurd h (ot149 w87)), (fun h => absurd h (ot150 w87)), (fun h => absurd h (ot151 w87))⟩⟩)
                ·
                  subst eg95
                  have z97 : x2.toInt ≠ 0 := hg95
                  first | refine ft_go mi_k118 2 91 [(4, .int ((a 95).getD (i 6913).toNatClampNeg 0)), (3, .ref 108), (0, .ref 0), (1, .int x1), (2, .int x2)] [.int (-12)] i a q r (by rfl) ?_ | refine ko_steps mi_in118 2 _ (91, [(4, .int ((a 95).getD (i 6913).toNatClampNeg 0)), (3, .ref 108), (0, .ref 0), (1, .int x1), (2, .int x2)], [.int (-12)], (0, 0), ks i a q r) (by rfl) ?_
                  have fi_6656 : ((0 : Int) ≤ (i 6656).toInt) ∧ ((i 6656).toInt ≤ 2) := hG.I.1 6656
                  have fi_6784 : ((0 : Int) ≤ (i 6784).toInt) ∧ ((i 6784).toInt ≤ 2) := hG.I.1 6784
                  have fi_7040 : ((0 : Int) ≤ (i 7040).toInt) ∧ ((i 7040).toInt ≤ 2) := hG.I.1 7040
                  have fi_7168 : ((0 : Int) ≤ (i 7168).toInt) ∧ ((i 7168).toInt ≤ 2) := hG.I.1 7168
                  have fi_7296 : ((0 : Int) ≤ (i 7296).toInt) ∧ ((i 7296).toInt ≤ 2) := hG.I.1 7296
                  exact ft_ret mi_k118 (by rfl) (hP (-12) ⟨trivial, ⟨(fun h => absurd (ot134 w87 z2.2 z4.1 z4.2 kot0 kot7) h), (fun h => absurd h (ot135 w87)), (fun h => absurd h (ot136 w87)), (fun h => absurd h (ot137 w87)), (fun h => absurd h (ot138 w87)), (fun h => absurd h (ot139 w87)), (fun h => absurd h (ot140 w87)), (fun h => absurd h (ot152 c90 kot1)), (fun h => absurd h (ot153 c90 z92.1 z92.2 kot1)), (fun _ => (show ((-12) : Int32) = tkV ((a 95).getD (i 6913).toNatClampNeg 0) x2 from (by unfold tkV; rw [if_neg (ot118 w94 z4.1 z97 kot0)]))), (fun h => absurd h (ot143 w87)), (fun h => absurd h (ot144 w87)), (fun h => absurd h (ot145 w87)), (fun h => absurd h (ot146 w87)), (fun h => absurd h (ot147 w87)), (fun h => absurd h (ot148 w87)), (fun h => absurd h (ot149 w87)), (fun h => absurd h (ot150 w87)), (fun h => absurd h (ot151 w87))⟩⟩)
              by_cases w98 : ((a 95).getD (i 6913).toNatClampNeg 0).toInt = 1
              ·
                refine ko_eq (x1 := (78, [(4, .int ((a 95).getD (i 6913).toNatClampNeg 0)), (3, .ref 108), (0, .ref 0), (1, .int x1), (2, .int x2)], [.int x2, .int 1], (0, 0), ks i a q r)) (by rw [(kj_eq w98 (by decide) : ((a 95).getD (i 6913).toNatClampNeg 0) = 1)]) ?_
                refine ko_callPI mi_k118.1 (pc := 78) (ls := [(4, .int ((a 95).getD (i 6913).toNatClampNeg 0)), (3, .ref 108), (0, .ref 0), (1, .int x1), (2, .int x2)]) (st := [.int x2, .int 1]) (h := ks i a q r) (i := (.invokestatic 339, 3, 10, 0, 9, 0, 319)) (mi_k118.2 _ _ (by rfl)) (ft_invS mi_pq10 (by rfl)) (cy := mi_c10) mi_pq10 rfl (ke10_l01 hG.I hG.R x2) (by decide) ?_
                intro vg99 hg99
                rcases hg99 with ⟨eg99, hg99⟩ | ⟨eg99, hg99⟩
                ·
                  subst eg99
                  have z100 : (x2.toInt = 1) ∨ (x2.toInt = 0) := hg99
                  first | refine ft_go mi_k118 3 91 [(4, .int ((a 95).getD (i 6913).toNatClampNeg 0)), (3, .ref 108), (0, .ref 0), (1, .int x1), (2, .int x2)] [.int ((a 95).getD (i 6913).toNatClampNeg 0)] i a q r (by rfl) ?_ | refine ko_steps mi_in118 3 _ (91, [(4, .int ((a 95).getD (i 6913).toNatClampNeg 0)), (3, .ref 108), (0, .ref 0), (1, .int x1), (2, .int x2)], [.int ((a 95).getD (i 6913).toNatClampNeg 0)], (0, 0), ks i a q r) (by rfl) ?_
                  have fi_6656 : ((0 : Int) ≤ (i 6656).toInt) ∧ ((i 6656).toInt ≤ 2) := hG.I.1 6656
                  have fi_6784 : ((0 : Int) ≤ (i 6784).toInt) ∧ ((i 6784).toInt ≤ 2) := hG.I.1 6784
                  have fi_7040 : ((0 : Int) ≤ (i 7040).toInt) ∧ ((i 7040).toInt ≤ 2) := hG.I.1 7040
                  have fi_7168 : ((0 : Int) ≤ (i 7168).toInt) ∧ ((i 7168).toInt ≤ 2) := hG.I.1 7168
                  have fi_7296 : ((0 : Int) ≤ (i 7296).toInt) ∧ ((i 7296).toInt ≤ 2) := hG.I.1 7296
                  exact ft_ret mi_k118 (by rfl) (hP ((a 95).getD (i 6913).toNatClampNeg 0) ⟨trivial, ⟨(fun h => absurd (ot134 w87 z2.2 z4.1 z4.2 kot0 kot7) h), (fun h => absurd h (ot135 w87)), (fun h => absurd h (ot136 w87)), (fun h => absurd h (ot137 w87)), (fun h => absurd h (ot138 w87)), (fun h => absurd h (ot139 w87)), (fun h => absurd h (ot140 w87)), (fun h => absurd h (ot152 c90 kot1)), (fun h => absurd h (ot153 c90 z92.1 z92.2 kot1)), (fun _ => (show ((a 95).getD (i 6913).toNatClampNeg 0) = tkV ((a 95).getD (i 6913).toNatClampNeg 0) x2 from (by unfold tkV; rw [if_pos (ot43 w98 z100 z4.1 kot0)]))), (fun h => absurd h (ot143 w87)), (fun h => absurd h (ot144 w87)), (fun h => absurd h (ot145 w87)), (fun h => absurd h (ot146 w87)), (fun h => absurd h (ot147 w87)), (fun h => absurd h (ot148 w87)), (fun h => absurd h (ot149 w87)), (fun h => absurd h (ot150 w87)), (fun h => absurd h (ot151 w87))⟩⟩)
                ·
                  subst eg99
                  have z101 : (x2.toInt ≠ 1) ∧ (x2.toInt ≠ 0) := hg99
                  first | refine ft_go mi_k118 2 91 [(4, .int ((a 95).getD (i 6913).toNatClampNeg 0)), (3, .ref 108), (0, .ref 0), (1, .int x1), (2, .int x2)] [.int (-12)] i a q r (by rfl) ?_ | refine ko_steps mi_in118 2 _ (91, [(4, .int ((a 95).getD (i 6913).toNatClampNeg 0)), (3, .ref 108), (0, .ref 0), (1, .int x1), (2, .int x2)], [.int (-12)], (0, 0), ks i a q r) (by rfl) ?_
                  have fi_6656 : ((0 : Int) ≤ (i 6656).toInt) ∧ ((i 6656).toInt ≤ 2) := hG.I.1 6656
                  have fi_6784 : ((0 : Int) ≤ (i 6784).toInt) ∧ ((i 6784).toInt ≤ 2) := hG.I.1 6784
                  have fi_7040 : ((0 : Int) ≤ (i 7040).toInt) ∧ ((i 7040).toInt ≤ 2) := hG.I.1 7040
                  have fi_7168 : ((0 : Int) ≤ (i 7168).toInt) ∧ ((i 7168).toInt ≤ 2) := hG.I.1 7168
                  have fi_7296 : ((0 : Int) ≤ (i 7296).toInt) ∧ ((i 7296).toInt ≤ 2) := hG.I.1 7296
                  exact ft_ret mi_k118 (by rfl) (hP (-12) ⟨trivial, ⟨(fun h => absurd (ot134 w87 z2.2 z4.1 z4.2 kot0 kot7) h), (fun h => absurd h (ot135 w87)), (fun h => absurd h (ot136 w87)), (fun h => absurd h (ot137 w87)), (fun h => absurd h (ot138 w87)), (fun h => absurd h (ot139 w87)), (fun h => absurd h (ot140 w87)), (fun h => absurd h (ot152 c90 kot1)), (fun h => absurd h (ot153 c90 z92.1 z92.2 kot1)), (fun _ => (show ((-12) : Int32) = tkV ((a 95).getD (i 6913).toNatClampNeg 0) x2 from (by unfold tkV; rw [if_neg (ot44 w98 z101.1 z101.2 z4.1 kot0)]))), (fun h => absurd h (ot143 w87)), (fun h => absurd h (ot144 w87)), (fun h => absurd h (ot145 w87)), (fun h => absurd h (ot146 w87)), (fun h => absurd h (ot147 w87)), (fun h => absurd h (ot148 w87)), (fun h => absurd h (ot149 w87)), (fun h => absurd h (ot150 w87)), (fun h => absurd h (ot151 w87))⟩⟩)
              by_cases w102 : ((a 95).getD (i 6913).toNatClampNeg 0).toInt = 2
              ·
                refine ko_eq (x1 := (78, [(4, .int ((a 95).getD (i 6913).toNatClampNeg 0)), (3, .ref 108), (0, .ref 0), (1, .int x1), (2, .int x2)], [.int x2, .int 2], (0, 0), ks i a q r)) (by rw [(kj_eq w102 (by decide) : ((a 95).getD (i 6913).toNatClampNeg 0) = 2)]) ?_
                refine ko_callPI mi_k118.1 (pc := 78) (ls := [(4, .int ((a 95).getD (i 6913).toNatClampNeg 0)), (3, .ref 108), (0, .ref 0), (1, .int x1), (2, .int x2)]) (st := [.int x2, .int 2]) (h := ks i a q r) (i := (.invokestatic 339, 3, 10, 0, 9, 0, 319)) (mi_k118.2 _ _ (by rfl)) (ft_invS mi_pq10 (by rfl)) (cy := mi_c10) mi_pq10 rfl (ke10_l02 hG.I hG.R x2) (by decide) ?_
                intro vg103 hg103
                rcases hg103 with ⟨eg103, hg103⟩ | ⟨eg103, hg103⟩
                ·
                  subst eg103
                  have z104 : (x2.toInt = 2) ∨ (x2.toInt = 0) := hg103
                  first | refine ft_go mi_k118 3 91 [(4, .int ((a 95).getD (i 6913).toNatClampNeg 0)), (3, .ref 108), (0, .ref 0), (1, .int x1), (2, .int x2)] [.int ((a 95).getD (i 6913).toNatClampNeg 0)] i a q r (by rfl) ?_ | refine ko_steps mi_in118 3 _ (91, [(4, .int ((a 95).getD (i 6913).toNatClampNeg 0)), (3, .ref 108), (0, .ref 0), (1, .int x1), (2, .int x2)], [.int ((a 95).getD (i 6913).toNatClampNeg 0)], (0, 0), ks i a q r) (by rfl) ?_
                  have fi_6656 : ((0 : Int) ≤ (i 6656).toInt) ∧ ((i 6656).toInt ≤ 2) := hG.I.1 6656
                  have fi_6784 : ((0 : Int) ≤ (i 6784).toInt) ∧ ((i 6784).toInt ≤ 2) := hG.I.1 6784
                  have fi_7040 : ((0 : Int) ≤ (i 7040).toInt) ∧ ((i 7040).toInt ≤ 2) := hG.I.1 7040
                  have fi_7168 : ((0 : Int) ≤ (i 7168).toInt) ∧ ((i 7168).toInt ≤ 2) := hG.I.1 7168
                  have fi_7296 : ((0 : Int) ≤ (i 7296).toInt) ∧ ((i 7296).toInt ≤ 2) := hG.I.1 7296
                  exact ft_ret mi_k118 (by rfl) (hP ((a 95).getD (i 6913).toNatClampNeg 0) ⟨trivial, ⟨(fun h => absurd (ot134 w87 z2.2 z4.1 z4.2 kot0 kot7) h), (fun h => absurd h (ot135 w87)), (fun h => absurd h (ot136 w87)), (fun h => absurd h (ot137 w87)), (fun h => absurd h (ot138 w87)), (fun h => absurd h (ot139 w87)), (fun h => absurd h (ot140 w87)), (fun h => absurd h (ot152 c90 kot1)), (fun h => absurd h (ot153 c90 z92.1 z92.2 kot1)), (fun _ => (show ((a 95).getD (i 6913).toNatClampNeg 0) = tkV ((a 95).getD (i 6913).toNatClampNeg 0) x2 from (by unfold tkV; rw [if_pos (ot50 w102 z104 z4.1 kot0)]))), (fun h => absurd h (ot143 w87)), (fun h => absurd h (ot144 w87)), (fun h => absurd h (ot145 w87)), (fun h => absurd h (ot146 w87)), (fun h => absurd h (ot147 w87)), (fun h => absurd h (ot148 w87)), (fun h => absurd h (ot149 w87)), (fun h => absurd h (ot150 w87)), (fun h => absurd h (ot151 w87))⟩⟩)
                ·
                  subst eg103
                  have z105 : (x2.toInt ≠ 2) ∧ (x2.toInt ≠ 0) := hg103
                  first | refine ft_go mi_k118 2 91 [(4, .int ((a 95).getD (i 6913).toNatClampNeg 0)), (3, .ref 108), (0, .ref 0), (1, .int x1), (2, .int x2)] [.int (-12)] i a q r (by rfl) ?_ | refine ko_steps mi_in118 2 _ (91, [(4, .int ((a 95).getD (i 6913).toNatClampNeg 0)), (3, .ref 108), (0, .ref 0), (1, .int x1), (2, .int x2)], [.int (-12)], (0, 0), ks i a q r) (by rfl) ?_
                  have fi_6656 : ((0 : Int) ≤ (i 6656).toInt) ∧ ((i 6656).toInt ≤ 2) := hG.I.1 6656
                  have fi_6784 : ((0 : Int) ≤ (i 6784).toInt) ∧ ((i 6784).toInt ≤ 2) := hG.I.1 6784
                  have fi_7040 : ((0 : Int) ≤ (i 7040).toInt) ∧ ((i 7040).toInt ≤ 2) := hG.I.1 7040
                  have fi_7168 : ((0 : Int) ≤ (i 7168).toInt) ∧ ((i 7168).toInt ≤ 2) := hG.I.1 7168
                  have fi_7296 : ((0 : Int) ≤ (i 7296).toInt) ∧ ((i 7296).toInt ≤ 2) := hG.I.1 7296
                  exact ft_ret mi_k118 (by rfl) (hP (-12) ⟨trivial, ⟨(fun h => absurd (ot134 w87 z2.2 z4.1 z4.2 kot0 kot7) h), (fun h => absurd h (ot135 w87)), (fun h => absurd h (ot136 w87)), (fun h => absurd h (ot137 w87)), (fun h => absurd h (ot138 w87)), (fun h => absurd h (ot139 w87)), (fun h => absurd h (ot140 w87)), (fun h => absurd h (ot152 c90 kot1)), (fun h => absurd h (ot153 c90 z92.1 z92.2 kot1)), (fun _ => (show ((-12) : Int32) = tkV ((a 95).getD (i 6913).toNatClampNeg 0) x2 from (by unfold tkV; rw [if_neg (ot51 w102 z105.1 z105.2 z4.1 kot0)]))), (fun h => absurd h (ot143 w87)), (fun h => absurd h (ot144 w87)), (fun h => absurd h (ot145 w87)), (fun h => absurd h (ot146 w87)), (fun h => absurd h (ot147 w87)), (fun h => absurd h (ot148 w87)), (fun h => absurd h (ot149 w87)), (fun h => absurd h (ot150 w87)), (fun h => absurd h (ot151 w87))⟩⟩)
              by_cases w106 : ((a 95).getD (i 6913).toNatClampNeg 0).toInt = 3
              ·
                refine ko_eq (x1 := (78, [(4, .int ((a 95).getD (i 6913).toNatClampNeg 0)), (3, .ref 108), (0, .ref 0), (1, .int x1), (2, .int x2)], [.int x2, .int 3], (0, 0), ks i a q r)) (by rw [(kj_eq w106 (by decide) : ((a 95).getD (i 6913).toNatClampNeg 0) = 3)]) ?_
                refine ko_callPI mi_k118.1 (pc := 78) (ls := [(4, .int ((a 95).getD (i 6913).toNatClampNeg 0)), (3, .ref 108), (0, .ref 0), (1, .int x1), (2, .int x2)]) (st := [.int x2, .int 3]) (h := ks i a q r) (i := (.invokestatic 339, 3, 10, 0, 9, 0, 319)) (mi_k118.2 _ _ (by rfl)) (ft_invS mi_pq10 (by rfl)) (cy := mi_c10) mi_pq10 rfl (ke10_l03 hG.I hG.R x2) (by decide) ?_
                intro vg107 hg107
                rcases hg107 with ⟨eg107, hg107⟩ | ⟨eg107, hg107⟩
                ·
                  subst eg107
                  have z108 : (x2.toInt = 3) ∨ (x2.toInt = 2) ∨ (x2.toInt = 0) := hg107
                  first | refine ft_go mi_k118 3 91 [(4, .int ((a 95).getD (i 6913).toNatClampNeg 0)), (3, .ref 108), (0, .ref 0), (1, .int x1), (2, .int x2)] [.int ((a 95).getD (i 6913).toNatClampNeg 0)] i a q r (by rfl) ?_ | refine ko_steps mi_in118 3 _ (91, [(4, .int ((a 95).getD (i 6913).toNatClampNeg 0)), (3, .ref 108), (0, .ref 0), (1, .int x1), (2, .int x2)], [.int ((a 95).getD (i 6913).toNatClampNeg 0)], (0, 0), ks i a q r) (by rfl) ?_
                  have fi_6656 : ((0 : Int) ≤ (i 6656).toInt) ∧ ((i 6656).toInt ≤ 2) := hG.I.1 6656
                  have fi_6784 : ((0 : Int) ≤ (i 6784).toInt) ∧ ((i 6784).toInt ≤ 2) := hG.I.1 6784
                  have fi_7040 : ((0 : Int) ≤ (i 7040).toInt) ∧ ((i 7040).toInt ≤ 2) := hG.I.1 7040
                  have fi_7168 : ((0 : Int) ≤ (i 7168).toInt) ∧ ((i 7168).toInt ≤ 2) := hG.I.1 7168
                  have fi_7296 : ((0 : Int) ≤ (i 7296).toInt) ∧ ((i 7296).toInt ≤ 2) := hG.I.1 7296
                  exact ft_ret mi_k118 (by rfl) (hP ((a 95).getD (i 6913).toNatClampNeg 0) ⟨trivial, ⟨(fun h => absurd (ot134 w87 z2.2 z4.1 z4.2 kot0 kot7) h), (fun h => absurd h (ot135 w87)), (fun h => absurd h (ot136 w87)), (fun h => absurd h (ot137 w87)), (fun h => absurd h (ot138 w87)), (fun h => absurd h (ot139 w87)), (fun h => absurd h (ot140 w87)), (fun h => absurd h (ot152 c90 kot1)), (fun h => absurd h (ot153 c90 z92.1 z92.2 kot1)), (fun _ => (show ((a 95).getD (i 6913).toNatClampNeg 0) = tkV ((a 95).getD (i 6913).toNatClampNeg 0) x2 from (by unfold tkV; rw [if_pos (ot58 w106 z108 z4.1 kot0)]))), (fun h => absurd h (ot143 w87)), (fun h => absurd h (ot144 w87)), (fun h => absurd h (ot145 w87)), (fun h => absurd h (ot146 w87)), (fun h => absurd h (ot147 w87)), (fun h => absurd h (ot148 w87)), (fun h => absurd h (ot149 w87)), (fun h => absurd h (ot150 w87)), (fun h => absurd h (ot151 w87))⟩⟩)
                ·
                  subst eg107
                  have z109 : (x2.toInt ≠ 3) ∧ (x2.toInt ≠ 2) ∧ (x2.toInt ≠ 0) := hg107
                  first | refine ft_go mi_k118 2 91 [(4, .int ((a 95).getD (i 6913).toNatClampNeg 0)), (3, .ref 108), (0, .ref 0), (1, .int x1), (2, .int x2)] [.int (-12)] i a q r (by rfl) ?_ | refine ko_steps mi_in118 2 _ (91, [(4, .int ((a 95).getD (i 6913).toNatClampNeg 0)), (3, .ref 108), (0, .ref 0), (1, .int x1), (2, .int x2)], [.int (-12)], (0, 0), ks i a q r) (by rfl) ?_
                  have fi_6656 : ((0 : Int) ≤ (i 6656).toInt) ∧ ((i 6656).toInt ≤ 2) := hG.I.1 6656
                  have fi_6784 : ((0 : Int) ≤ (i 6784).toInt) ∧ ((i 6784).toInt ≤ 2) := hG.I.1 6784
                  have fi_7040 : ((0 : Int) ≤ (i 7040).toInt) ∧ ((i 7040).toInt ≤ 2) := hG.I.1 7040
                  have fi_7168 : ((0 : Int) ≤ (i 7168).toInt) ∧ ((i 7168).toInt ≤ 2) := hG.I.1 7168
                  have fi_7296 : ((0 : Int) ≤ (i 7296).toInt) ∧ ((i 7296).toInt ≤ 2) := hG.I.1 7296
                  exact ft_ret mi_k118 (by rfl) (hP (-12) ⟨trivial, ⟨(fun h => absurd (ot134 w87 z2.2 z4.1 z4.2 kot0 kot7) h), (fun h => absurd h (ot135 w87)), (fun h => absurd h (ot136 w87)), (fun h => absurd h (ot137 w87)), (fun h => absurd h (ot138 w87)), (fun h => absurd h (ot139 w87)), (fun h => absurd h (ot140 w87)), (fun h => absurd h (ot152 c90 kot1)), (fun h => absurd h (ot153 c90 z92.1 z92.2 kot1)), (fun _ => (show ((-12) : Int32) = tkV ((a 95).getD (i 6913).toNatClampNeg 0) x2 from (by unfold tkV; rw [if_neg (ot59 w106 z109.1 z109.2.1 z109.2.2 z4.1 kot0)]))), (fun h => absurd h (ot143 w87)), (fun h => absurd h (ot144 w87)), (fun h => absurd h (ot145 w87)), (fun h => absurd h (ot146 w87)), (fun h => absurd h (ot147 w87)), (fun h => absurd h (ot148 w87)), (fun h => absurd h (ot149 w87)), (fun h => absurd h (ot150 w87)), (fun h => absurd h (ot151 w87))⟩⟩)
              by_cases w110 : ((a 95).getD (i 6913).toNatClampNeg 0).toInt = 4
              ·
                refine ko_eq (x1 := (78, [(4, .int ((a 95).getD (i 6913).toNatClampNeg 0)), (3, .ref 108), (0, .ref 0), (1, .int x1), (2, .int x2)], [.int x2, .int 4], (0, 0), ks i a q r)) (by rw [(kj_eq w110 (by decide) : ((a 95).getD (i 6913).toNatClampNeg 0) = 4)]) ?_
                refine ko_callPI mi_k118.1 (pc := 78) (ls := [(4, .int ((a 95).getD (i 6913).toNatClampNeg 0)), (3, .ref 108), (0, .ref 0), (1, .int x1), (2, .int x2)]) (st := [.int x2, .int 4]) (h := ks i a q r) (i := (.invokestatic 339, 3, 10, 0, 9, 0, 319)) (mi_k118.2 _ _ (by rfl)) (ft_invS mi_pq10 (by rfl)) (cy := mi_c10) mi_pq10 rfl (ke10_l04 hG.I hG.R x2) (by decide) ?_
                intro vg111 hg111
                rcases hg111 with ⟨eg111, hg111⟩ | ⟨eg111, hg111⟩
                ·
                  subst eg111
                  have z112 : (x2.toInt = 4) ∨ (x2.toInt = 1) ∨ (x2.toInt = 0) := hg111
                  first | refine ft_go mi_k118 3 91 [(4, .int ((a 95).getD (i 6913).toNatClampNeg 0)), (3, .ref 108), (0, .ref 0), (1, .int x1), (2, .int x2)] [.int ((a 95).getD (i 6913).toNatClampNeg 0)] i a q r (by rfl) ?_ | refine ko_steps mi_in118 3 _ (91, [(4, .int ((a 95).getD (i 6913).toNatClampNeg 0)), (3, .ref 108), (0, .ref 0), (1, .int x1), (2, .int x2)], [.int ((a 95).getD (i 6913).toNatClampNeg 0)], (0, 0), ks i a q r) (by rfl) ?_
                  have fi_6656 : ((0 : Int) ≤ (i 6656).toInt) ∧ ((i 6656).toInt ≤ 2) := hG.I.1 6656
                  have fi_6784 : ((0 : Int) ≤ (i 6784).toInt) ∧ ((i 6784).toInt ≤ 2) := hG.I.1 6784
                  have fi_7040 : ((0 : Int) ≤ (i 7040).toInt) ∧ ((i 7040).toInt ≤ 2) := hG.I.1 7040
                  have fi_7168 : ((0 : Int) ≤ (i 7168).toInt) ∧ ((i 7168).toInt ≤ 2) := hG.I.1 7168
                  have fi_7296 : ((0 : Int) ≤ (i 7296).toInt) ∧ ((i 7296).toInt ≤ 2) := hG.I.1 7296
                  exact ft_ret mi_k118 (by rfl) (hP ((a 95).getD (i 6913).toNatClampNeg 0) ⟨trivial, ⟨(fun h => absurd (ot134 w87 z2.2 z4.1 z4.2 kot0 kot7) h), (fun h => absurd h (ot135 w87)), (fun h => absurd h (ot136 w87)), (fun h => absurd h (ot137 w87)), (fun h => absurd h (ot138 w87)), (fun h => absurd h (ot139 w87)), (fun h => absurd h (ot140 w87)), (fun h => absurd h (ot152 c90 kot1)), (fun h => absurd h (ot153 c90 z92.1 z92.2 kot1)), (fun _ => (show ((a 95).getD (i 6913).toNatClampNeg 0) = tkV ((a 95).getD (i 6913).toNatClampNeg 0) x2 from (by unfold tkV; rw [if_pos (ot66 w110 z112 z4.1 kot0)]))), (fun h => absurd h (ot143 w87)), (fun h => absurd h (ot144 w87)), (fun h => absurd h (ot145 w87)), (fun h => absurd h (ot146 w87)), (fun h => absurd h (ot147 w87)), (fun h => absurd h (ot148 w87)), (fun h => absurd h (ot149 w87)), (fun h => absurd h (ot150 w87)), (fun h => absurd h (ot151 w87))⟩⟩)
                ·
                  subst eg111
                  have z113 : (x2.toInt ≠ 4) ∧ (x2.toInt ≠ 1) ∧ (x2.toInt ≠ 0) := hg111
                  first | refine ft_go mi_k118 2 91 [(4, .int ((a 95).getD (i 6913).toNatClampNeg 0)), (3, .ref 108), (0, .ref 0), (1, .int x1), (2, .int x2)] [.int (-12)] i a q r (by rfl) ?_ | refine ko_steps mi_in118 2 _ (91, [(4, .int ((a 95).getD (i 6913).toNatClampNeg 0)), (3, .ref 108), (0, .ref 0), (1, .int x1), (2, .int x2)], [.int (-12)], (0, 0), ks i a q r) (by rfl) ?_
                  have fi_6656 : ((0 : Int) ≤ (i 6656).toInt) ∧ ((i 6656).toInt ≤ 2) := hG.I.1 6656
                  have fi_6784 : ((0 : Int) ≤ (i 6784).toInt) ∧ ((i 6784).toInt ≤ 2) := hG.I.1 6784
                  have fi_7040 : ((0 : Int) ≤ (i 7040).toInt) ∧ ((i 7040).toInt ≤ 2) := hG.I.1 7040
                  have fi_7168 : ((0 : Int) ≤ (i 7168).toInt) ∧ ((i 7168).toInt ≤ 2) := hG.I.1 7168
                  have fi_7296 : ((0 : Int) ≤ (i 7296).toInt) ∧ ((i 7296).toInt ≤ 2) := hG.I.1 7296
                  exact ft_ret mi_k118 (by rfl) (hP (-12) ⟨trivial, ⟨(fun h => absurd (ot134 w87 z2.2 z4.1 z4.2 kot0 kot7) h), (fun h => absurd h (ot135 w87)), (fun h => absurd h (ot136 w87)), (fun h => absurd h (ot137 w87)), (fun h => absurd h (ot138 w87)), (fun h => absurd h (ot139 w87)), (fun h => absurd h (ot140 w87)), (fun h => absurd h (ot152 c90 kot1)), (fun h => absurd h (ot153 c90 z92.1 z92.2 kot1)), (fun _ => (show ((-12) : Int32) = tkV ((a 95).getD (i 6913).toNatClampNeg 0) x2 from (by unfold tkV; rw [if_neg (ot67 w110 z113.1 z113.2.1 z113.2.2 z4.1 kot0)]))), (fun h => absurd h (ot143 w87)), (fun h => absurd h (ot144 w87)), (fun h => absurd h (ot145 w87)), (fun h => absurd h (ot146 w87)), (fun h => absurd h (ot147 w87)), (fun h => absurd h (ot148 w87)), (fun h => absurd h (ot149 w87)), (fun h => absurd h (ot150 w87)), (fun h => absurd h (ot151 w87))⟩⟩)
              by_cases w114 : ((a 95).getD (i 6913).toNatClampNeg 0).toInt = 5
              ·
                refine ko_eq (x1 := (78, [(4, .int ((a 95).getD (i 6913).toNatClampNeg 0)), (3, .ref 108), (0, .ref 0), (1, .int x1), (2, .int x2)], [.int x2, .int 5], (0, 0), ks i a q r)) (by rw [(kj_eq w114 (by decide) : ((a 95).getD (i 6913).toNatClampNeg 0) = 5)]) ?_
                refine ko_callPI mi_k118.1 (pc := 78) (ls := [(4, .int ((a 95).getD (i 6913).toNatClampNeg 0)), (3, .ref 108), (0, .ref 0), (1, .int x1), (2, .int x2)]) (st := [.int x2, .int 5]) (h := ks i a q r) (i := (.invokestatic 339, 3, 10, 0, 9, 0, 319)) (mi_k118.2 _ _ (by rfl)) (ft_invS mi_pq10 (by rfl)) (cy := mi_c10) mi_pq10 rfl (ke10_l05 hG.I hG.R x2) (by decide) ?_
                intro vg115 hg115
                rcases hg115 with ⟨eg115, hg115⟩ | ⟨eg115, hg115⟩
                ·
                  subst eg115
                  have z116 : (x2.toInt = 5) ∨ (x2.toInt = 3) ∨ (x2.toInt = 2) ∨ (x2.toInt = 0) := hg115
                  first | refine ft_go mi_k118 3 91 [(4, .int ((a 95).getD (i 6913).toNatClampNeg 0)), (3, .ref 108), (0, .ref 0), (1, .int x1), (2, .int x2)] [.int ((a 95).getD (i 6913).toNatClampNeg 0)] i a q r (by rfl) ?_ | refine ko_steps mi_in118 3 _ (91, [(4, .int ((a 95).getD (i 6913).toNatClampNeg 0)), (3, .ref 108), (0, .ref 0), (1, .int x1), (2, .int x2)], [.int ((a 95).getD (i 6913).toNatClampNeg 0)], (0, 0), ks i a q r) (by rfl) ?_
                  have fi_6656 : ((0 : Int) ≤ (i 6656).toInt) ∧ ((i 6656).toInt ≤ 2) := hG.I.1 6656
                  have fi_6784 : ((0 : Int) ≤ (i 6784).toInt) ∧ ((i 6784).toInt ≤ 2) := hG.I.1 6784
                  have fi_7040 : ((0 : Int) ≤ (i 7040).toInt) ∧ ((i 7040).toInt ≤ 2) := hG.I.1 7040
                  have fi_7168 : ((0 : Int) ≤ (i 7168).toInt) ∧ ((i 7168).toInt ≤ 2) := hG.I.1 7168
                  have fi_7296 : ((0 : Int) ≤ (i 7296).toInt) ∧ ((i 7296).toInt ≤ 2) := hG.I.1 7296
                  exact ft_ret mi_k118 (by rfl) (hP ((a 95).getD (i 6913).toNatClampNeg 0) ⟨trivial, ⟨(fun h => absurd (ot134 w87 z2.2 z4.1 z4.2 kot0 kot7) h), (fun h => absurd h (ot135 w87)), (fun h => absurd h (ot136 w87)), (fun h => absurd h (ot137 w87)), (fun h => absurd h (ot138 w87)), (fun h => absurd h (ot139 w87)), (fun h => absurd h (ot140 w87)), (fun h => absurd h (ot152 c90 kot1)), (fun h => absurd h (ot153 c90 z92.1 z92.2 kot1)), (fun _ => (show ((a 95).getD (i 6913).toNatClampNeg 0) = tkV ((a 95).getD (i 6913).toNatClampNeg 0) x2 from (by unfold tkV; rw [if_pos (ot75 w114 z116 z4.1 kot0)]))), (fun h => absurd h (ot143 w87)), (fun h => absurd h (ot144 w87)), (fun h => absurd h (ot145 w87)), (fun h => absurd h (ot146 w87)), (fun h => absurd h (ot147 w87)), (fun h => absurd h (ot148 w87)), (fun h => absurd h (ot149 w87)), (fun h => absurd h (ot150 w87)), (fun h => absurd h (ot151 w87))⟩⟩)
                ·
                  subst eg115
                  have z117 : (x2.toInt ≠ 5) ∧ (x2.toInt ≠ 3) ∧ (x2.toInt ≠ 2) ∧ (x2.toInt ≠ 0) := hg115
                  first | refine ft_go mi_k118 2 91 [(4, .int ((a 95).getD (i 6913).toNatClampNeg 0)), (3, .ref 108), (0, .ref 0), (1, .int x1), (2, .int x2)] [.int (-12)] i a q r (by rfl) ?_ | refine ko_steps mi_in118 2 _ (91, [(4, .int ((a 95).getD (i 6913).toNatClampNeg 0)), (3, .ref 108), (0, .ref 0), (1, .int x1), (2, .int x2)], [.int (-12)], (0, 0), ks i a q r) (by rfl) ?_
                  have fi_6656 : ((0 : Int) ≤ (i 6656).toInt) ∧ ((i 6656).toInt ≤ 2) := hG.I.1 6656
                  have fi_6784 : ((0 : Int) ≤ (i 6784).toInt) ∧ ((i 6784).toInt ≤ 2) := hG.I.1 6784
                  have fi_7040 : ((0 : Int) ≤ (i 7040).toInt) ∧ ((i 7040).toInt ≤ 2) := hG.I.1 7040
                  have fi_7168 : ((0 : Int) ≤ (i 7168).toInt) ∧ ((i 7168).toInt ≤ 2) := hG.I.1 7168
                  have fi_7296 : ((0 : Int) ≤ (i 7296).toInt) ∧ ((i 7296).toInt ≤ 2) := hG.I.1 7296
                  exact ft_ret mi_k118 (by rfl) (hP (-12) ⟨trivial, ⟨(fun h => absurd (ot134 w87 z2.2 z4.1 z4.2 kot0 kot7) h), (fun h => absurd h (ot135 w87)), (fun h => absurd h (ot136 w87)), (fun h => absurd h (ot137 w87)), (fun h => absurd h (ot138 w87)), (fun h => absurd h (ot139 w87)), (fun h => absurd h (ot140 w87)), (fun h => absurd h (ot152 c90 kot1)), (fun h => absurd h (ot153 c90 z92.1 z92.2 kot1)), (fun _ => (show ((-12) : Int32) = tkV ((a 95).getD (i 6913).toNatClampNeg 0) x2 from (by unfold tkV; rw [if_neg (ot76 w114 z117.1 z117.2.1 z117.2.2.1 z117.2.2.2 z4.1 kot0)]))), (fun h => absurd h (ot143 w87)), (fun h => absurd h (ot144 w87)), (fun h => absurd h (ot145 w87)), (fun h => absurd h (ot146 w87)), (fun h => absurd h (ot147 w87)), (fun h => absurd h (ot148 w87)), (fun h => absurd h (ot149 w87)), (fun h => absurd h (ot150 w87)), (fun h => absurd h (ot151 w87))⟩⟩)
              by_cases w118 : ((a 95).getD (i 6913).toNatClampNeg 0).toInt = 6
              ·
                refine ko_eq (x1 := (78, [(4, .int ((a 95).getD (i 6913).toNatClampNeg 0)), (3, .ref 108), (0, .ref 0), (1, .int x1), (2, .int x2)], [.int x2, .int 6], (0, 0), ks i a q r)) (by rw [(kj_eq w118 (by decide) : ((a 95).getD (i 6913).toNatClampNeg 0) = 6)]) ?_
                refine ko_callPI mi_k118.1 (pc := 78) (ls := [(4, .int ((a 95).getD (i 6913).toNatClampNeg 0)), (3, .ref 108), (0, .ref 0), (1, .int x1), (2, .int x2)]) (st := [.int x2, .int 6]) (h := ks i a q r) (i := (.invokestatic 339, 3, 10, 0, 9, 0, 319)) (mi_k118.2 _ _ (by rfl)) (ft_invS mi_pq10 (by rfl)) (cy := mi_c10) mi_pq10 rfl (ke10_l06 hG.I hG.R x2) (by decide) ?_
                intro vg119 hg119
                rcases hg119 with ⟨eg119, hg119⟩ | ⟨eg119, hg119⟩
                ·
                  subst eg119
                  have z120 : (x2.toInt = 6) ∨ (x2.toInt = 0) := hg119
                  first | refine ft_go mi_k118 3 91 [(4, .int ((a 95).getD (i 6913).toNatClampNeg 0)), (3, .ref 108), (0, .ref 0), (1, .int x1), (2, .int x2)] [.int ((a 95).getD (i 6913).toNatClampNeg 0)] i a q r (by rfl) ?_ | refine ko_steps mi_in118 3 _ (91, [(4, .int ((a 95).getD (i 6913).toNatClampNeg 0)), (3, .ref 108), (0, .ref 0), (1, .int x1), (2, .int x2)], [.int ((a 95).getD (i 6913).toNatClampNeg 0)], (0, 0), ks i a q r) (by rfl) ?_
                  have fi_6656 : ((0 : Int) ≤ (i 6656).toInt) ∧ ((i 6656).toInt ≤ 2) := hG.I.1 6656
                  have fi_6784 : ((0 : Int) ≤ (i 6784).toInt) ∧ ((i 6784).toInt ≤ 2) := hG.I.1 6784
                  have fi_7040 : ((0 : Int) ≤ (i 7040).toInt) ∧ ((i 7040).toInt ≤ 2) := hG.I.1 7040
                  have fi_7168 : ((0 : Int) ≤ (i 7168).toInt) ∧ ((i 7168).toInt ≤ 2) := hG.I.1 7168
                  have fi_7296 : ((0 : Int) ≤ (i 7296).toInt) ∧ ((i 7296).toInt ≤ 2) := hG.I.1 7296
                  exact ft_ret mi_k118 (by rfl) (hP ((a 95).getD (i 6913).toNatClampNeg 0) ⟨trivial, ⟨(fun h => absurd (ot134 w87 z2.2 z4.1 z4.2 kot0 kot7) h), (fun h => absurd h (ot135 w87)), (fun h => absurd h (ot136 w87)), (fun h => absurd h (ot137 w87)), (fun h => absurd h (ot138 w87)), (fun h => absurd h (ot139 w87)), (fun h => absurd h (ot140 w87)), (fun h => absurd h (ot152 c90 kot1)), (fun h => absurd h (ot153 c90 z92.1 z92.2 kot1)), (fun _ => (show ((a 95).getD (i 6913).toNatClampNeg 0) = tkV ((a 95).getD (i 6913).toNatClampNeg 0) x2 from (by unfold tkV; rw [if_pos (ot82 w118 z120 z4.1 kot0)]))), (fun h => absurd h (ot143 w87)), (fun h => absurd h (ot144 w87)), (fun h => absurd h (ot145 w87)), (fun h => absurd h (ot146 w87)), (fun h => absurd h (ot147 w87)), (fun h => absurd h (ot148 w87)), (fun h => absurd h (ot149 w87)), (fun h => absurd h (ot150 w87)), (fun h => absurd h (ot151 w87))⟩⟩)
                ·
                  subst eg119
                  have z121 : (x2.toInt ≠ 6) ∧ (x2.toInt ≠ 0) := hg119
                  first | refine ft_go mi_k118 2 91 [(4, .int ((a 95).getD (i 6913).toNatClampNeg 0)), (3, .ref 108), (0, .ref 0), (1, .int x1), (2, .int x2)] [.int (-12)] i a q r (by rfl) ?_ | refine ko_steps mi_in118 2 _ (91, [(4, .int ((a 95).getD (i 6913).toNatClampNeg 0)), (3, .ref 108), (0, .ref 0), (1, .int x1), (2, .int x2)], [.int (-12)], (0, 0), ks i a q r) (by rfl) ?_
                  have fi_6656 : ((0 : Int) ≤ (i 6656).toInt) ∧ ((i 6656).toInt ≤ 2) := hG.I.1 6656
                  have fi_6784 : ((0 : Int) ≤ (i 6784).toInt) ∧ ((i 6784).toInt ≤ 2) := hG.I.1 6784
                  have fi_7040 : ((0 : Int) ≤ (i 7040).toInt) ∧ ((i 7040).toInt ≤ 2) := hG.I.1 7040
                  have fi_7168 : ((0 : Int) ≤ (i 7168).toInt) ∧ ((i 7168).toInt ≤ 2) := hG.I.1 7168
                  have fi_7296 : ((0 : Int) ≤ (i 7296).toInt) ∧ ((i 7296).toInt ≤ 2) := hG.I.1 7296
                  exact ft_ret mi_k118 (by rfl) (hP (-12) ⟨trivial, ⟨(fun h => absurd (ot134 w87 z2.2 z4.1 z4.2 kot0 kot7) h), (fun h => absurd h (ot135 w87)), (fun h => absurd h (ot136 w87)), (fun h => absurd h (ot137 w87)), (fun h => absurd h (ot138 w87)), (fun h => absurd h (ot139 w87)), (fun h => absurd h (ot140 w87)), (fun h => absurd h (ot152 c90 kot1)), (fun h => absurd h (ot153 c90 z92.1 z92.2 kot1)), (fun _ => (show ((-12) : Int32) = tkV ((a 95).getD (i 6913).toNatClampNeg 0) x2 from (by unfold tkV; rw [if_neg (ot83 w118 z121.1 z121.2 z4.1 kot0)]))), (fun h => absurd h (ot143 w87)), (fun h => absurd h (ot144 w87)), (fun h => absurd h (ot145 w87)), (fun h => absurd h (ot146 w87)), (fun h => absurd h (ot147 w87)), (fun h => absurd h (ot148 w87)), (fun h => absurd h (ot149 w87)), (fun h => absurd h (ot150 w87)), (fun h => absurd h (ot151 w87))⟩⟩)
              by_cases w122 : ((a 95).getD (i 6913).toNatClampNeg 0).toInt = 7
              ·
                refine ko_eq (x1 := (78, [(4, .int ((a 95).getD (i 6913).toNatClampNeg 0)), (3, .ref 108), (0, .ref 0), (1, .int x1), (2, .int x2)], [.int x2, .int 7], (0, 0), ks i a q r)) (by rw [(kj_eq w122 (by decide) : ((a 95).getD (i 6913).toNatClampNeg 0) = 7)]) ?_
                refine ko_callPI mi_k118.1 (pc := 78) (ls := [(4, .int ((a 95).getD (i 6913).toNatClampNeg 0)), (3, .ref 108), (0, .ref 0), (1, .int x1), (2, .int x2)]) (st := [.int x2, .int 7]) (h := ks i a q r) (i := (.invokestatic 339, 3, 10, 0, 9, 0, 319)) (mi_k118.2 _ _ (by rfl)) (ft_invS mi_pq10 (by rfl)) (cy := mi_c10) mi_pq10 rfl (ke10_l07 hG.I hG.R x2) (by decide) ?_
                intro vg123 hg123
                rcases hg123 with ⟨eg123, hg123⟩ | ⟨eg123, hg123⟩
                ·
                  subst eg123
                  have z124 : (x2.toInt = 7) ∨ (x2.toInt = 4) ∨ (x2.toInt = 1) ∨ (x2.toInt = 0) := hg123
                  first | refine ft_go mi_k118 3 91 [(4, .int ((a 95).getD (i 6913).toNatClampNeg 0)), (3, .ref 108), (0, .ref 0), (1, .int x1), (2, .int x2)] [.int ((a 95).getD (i 6913).toNatClampNeg 0)] i a q r (by rfl) ?_ | refine ko_steps mi_in118 3 _ (91, [(4, .int ((a 95).getD (i 6913).toNatClampNeg 0)), (3, .ref 108), (0, .ref 0), (1, .int x1), (2, .int x2)], [.int ((a 95).getD (i 6913).toNatClampNeg 0)], (0, 0), ks i a q r) (by rfl) ?_
                  have fi_6656 : ((0 : Int) ≤ (i 6656).toInt) ∧ ((i 6656).toInt ≤ 2) := hG.I.1 6656
                  have fi_6784 : ((0 : Int) ≤ (i 6784).toInt) ∧ ((i 6784).toInt ≤ 2) := hG.I.1 6784
                  have fi_7040 : ((0 : Int) ≤ (i 7040).toInt) ∧ ((i 7040).toInt ≤ 2) := hG.I.1 7040
                  have fi_7168 : ((0 : Int) ≤ (i 7168).toInt) ∧ ((i 7168).toInt ≤ 2) := hG.I.1 7168
                  have fi_7296 : ((0 : Int) ≤ (i 7296).toInt) ∧ ((i 7296).toInt ≤ 2) := hG.I.1 7296
                  exact ft_ret mi_k118 (by rfl) (hP ((a 95).getD (i 6913).toNatClampNeg 0) ⟨trivial, ⟨(fun h => absurd (ot134 w87 z2.2 z4.1 z4.2 kot0 kot7) h), (fun h => absurd h (ot135 w87)), (fun h => absurd h (ot136 w87)), (fun h => absurd h (ot137 w87)), (fun h => absurd h (ot138 w87)), (fun h => absurd h (ot139 w87)), (fun h => absurd h (ot140 w87)), (fun h => absurd h (ot152 c90 kot1)), (fun h => absurd h (ot153 c90 z92.1 z92.2 kot1)), (fun _ => (show ((a 95).getD (i 6913).toNatClampNeg 0) = tkV ((a 95).getD (i 6913).toNatClampNeg 0) x2 from (by unfold tkV; rw [if_pos (ot154 r93.2 w122 z124 z4.1 z4.2 kot0 kot7)]))), (fun h => absurd h (ot143 w87)), (fun h => absurd h (ot144 w87)), (fun h => absurd h (ot145 w87)), (fun h => absurd h (ot146 w87)), (fun h => absurd h (ot147 w87)), (fun h => absurd h (ot148 w87)), (fun h => absurd h (ot149 w87)), (fun h => absurd h (ot150 w87)), (fun h => absurd h (ot151 w87))⟩⟩)
                ·
                  subst eg123
                  have z125 : (x2.toInt ≠ 7) ∧ (x2.toInt ≠ 4) ∧ (x2.toInt ≠ 1) ∧ (x2.toInt ≠ 0) := hg123
                  first | refine ft_go mi_k118 2 91 [(4, .int ((a 95).getD (i 6913).toNatClampNeg 0)), (3, .ref 108), (0, .ref 0), (1, .int x1), (2, .int x2)] [.int (-12)] i a q r (by rfl) ?_ | refine ko_steps mi_in118 2 _ (91, [(4, .int ((a 95).getD (i 6913).toNatClampNeg 0)), (3, .ref 108), (0, .ref 0), (1, .int x1), (2, .int x2)], [.int (-12)], (0, 0), ks i a q r) (by rfl) ?_
                  have fi_6656 : ((0 : Int) ≤ (i 6656).toInt) ∧ ((i 6656).toInt ≤ 2) := hG.I.1 6656
                  have fi_6784 : ((0 : Int) ≤ (i 6784).toInt) ∧ ((i 6784).toInt ≤ 2) := hG.I.1 6784
                  have fi_7040 : ((0 : Int) ≤ (i 7040).toInt) ∧ ((i 7040).toInt ≤ 2) := hG.I.1 7040
                  have fi_7168 : ((0 : Int) ≤ (i 7168).toInt) ∧ ((i 7168).toInt ≤ 2) := hG.I.1 7168
                  have fi_7296 : ((0 : Int) ≤ (i 7296).toInt) ∧ ((i 7296).toInt ≤ 2) := hG.I.1 7296
                  exact ft_ret mi_k118 (by rfl) (hP (-12) ⟨trivial, ⟨(fun h => absurd (ot134 w87 z2.2 z4.1 z4.2 kot0 kot7) h), (fun h => absurd h (ot135 w87)), (fun h => absurd h (ot136 w87)), (fun h => absurd h (ot137 w87)), (fun h => absurd h (ot138 w87)), (fun h => absurd h (ot139 w87)), (fun h => absurd h (ot140 w87)), (fun h => absurd h (ot152 c90 kot1)), (fun h => absurd h (ot153 c90 z92.1 z92.2 kot1)), (fun _ => (show ((-12) : Int32) = tkV ((a 95).getD (i 6913).toNatClampNeg 0) x2 from (by unfold tkV; rw [if_neg (ot155 w122 z125.1 z125.2.1 z125.2.2.1 z125.2.2.2 z4.1 z4.2 kot0 kot7)]))), (fun h => absurd h (ot143 w87)), (fun h => absurd h (ot144 w87)), (fun h => absurd h (ot145 w87)), (fun h => absurd h (ot146 w87)), (fun h => absurd h (ot147 w87)), (fun h => absurd h (ot148 w87)), (fun h => absurd h (ot149 w87)), (fun h => absurd h (ot150 w87)), (fun h => absurd h (ot151 w87))⟩⟩)
              exact (ot156 r93.1 r93.2 w102 w106 w110 w114 w118 w122 w94 w98).elim
            ·
              subst eg91
              have fi_6017 : ((0 : Int) ≤ (i 6017).toInt) ∧ ((i 6017).toInt ≤ 50) := hG.I.1 6017
              have z126 : ¬ (((0 : Int) ≤ (i 6913).toInt) ∧ ((i 6913).toInt < (i 6017).toInt)) := hg91
              first | refine ft_go mi_k118 2 60 [(3, .ref 108), (0, .ref 0), (1, .int x1), (2, .int x2)] [.int (-12)] i a q r (by rfl) ?_ | refine ko_steps mi_in118 2 _ (60, [(3, .ref 108), (0, .ref 0), (1, .int x1), (2, .int x2)], [.int (-12)], (0, 0), ks i a q r) (by rfl) ?_
              have fi_6656 : ((0 : Int) ≤ (i 6656).toInt) ∧ ((i 6656).toInt ≤ 2) := hG.I.1 6656
              have fi_6784 : ((0 : Int) ≤ (i 6784).toInt) ∧ ((i 6784).toInt ≤ 2) := hG.I.1 6784
              have fi_7040 : ((0 : Int) ≤ (i 7040).toInt) ∧ ((i 7040).toInt ≤ 2) := hG.I.1 7040
              have fi_7168 : ((0 : Int) ≤ (i 7168).toInt) ∧ ((i 7168).toInt ≤ 2) := hG.I.1 7168
              have fi_7296 : ((0 : Int) ≤ (i 7296).toInt) ∧ ((i 7296).toInt ≤ 2) := hG.I.1 7296
              exact ft_ret mi_k118 (by rfl) (hP (-12) ⟨trivial, ⟨(fun h => absurd (ot134 w87 z2.2 z4.1 z4.2 kot0 kot7) h), (fun h => absurd h (ot135 w87)), (fun h => absurd h (ot136 w87)), (fun h => absurd h (ot137 w87)), (fun h => absurd h (ot138 w87)), (fun h => absurd h (ot139 w87)), (fun h => absurd h (ot140 w87)), (fun h => absurd h (ot152 c90 kot1)), (fun _ => (show ((-12) : Int32) = -12 from (by first | rfl | (simp only [sMn, sMx]; done) | (simp only [sMn, sMx]; rfl)))), (fun h => absurd h (ot157 z126)), (fun h => absurd h (ot143 w87)), (fun h => absurd h (ot144 w87)), (fun h => absurd h (ot145 w87)), (fun h => absurd h (ot146 w87)), (fun h => absurd h (ot147 w87)), (fun h => absurd h (ot148 w87)), (fun h => absurd h (ot149 w87)), (fun h => absurd h (ot150 w87)), (fun h => absurd h (ot151 w87))⟩⟩)
        ·
          have c127 : (i 6912).toInt = (0 : Int32).toInt := kd_neF c; clear c
          first | refine ft_go mi_k118 1 35 [(3, .ref 108), (0, .ref 0), (1, .int x1), (2, .int x2)] [.int (-11)] i a q r (by rfl) ?_ | refine ko_steps mi_in118 1 _ (35, [(3, .ref 108), (0, .ref 0), (1, .int x1), (2, .int x2)], [.int (-11)], (0, 0), ks i a q r) (by rfl) ?_
          have fi_6656 : ((0 : Int) ≤ (i 6656).toInt) ∧ ((i 6656).toInt ≤ 2) := hG.I.1 6656
          have fi_6017 : ((0 : Int) ≤ (i 6017).toInt) ∧ ((i 6017).toInt ≤ 50) := hG.I.1 6017
          have fi_6784 : ((0 : Int) ≤ (i 6784).toInt) ∧ ((i 6784).toInt ≤ 2) := hG.I.1 6784
          have fi_7040 : ((0 : Int) ≤ (i 7040).toInt) ∧ ((i 7040).toInt ≤ 2) := hG.I.1 7040
          have fi_7168 : ((0 : Int) ≤ (i 7168).toInt) ∧ ((i 7168).toInt ≤ 2) := hG.I.1 7168
          have fi_7296 : ((0 : Int) ≤ (i 7296).toInt) ∧ ((i 7296).toInt ≤ 2) := hG.I.1 7296
          exact ft_ret mi_k118 (by rfl) (hP (-11) ⟨trivial, ⟨(fun h => absurd (ot134 w87 z2.2 z4.1 z4.2 kot0 kot7) h), (fun h => absurd h (ot135 w87)), (fun h => absurd h (ot136 w87)), (fun h => absurd h (ot137 w87)), (fun h => absurd h (ot138 w87)), (fun h => absurd h (ot139 w87)), (fun h => absurd h (ot140 w87)), (fun _ => (show ((-11) : Int32) = -11 from (by first | rfl | (simp only [sMn, sMx]; done) | (simp only [sMn, sMx]; rfl)))), (fun h => absurd h (ot158 c127 fi_6912.1 kot0)), (fun h => absurd h (ot159 c127 kot0)), (fun h => absurd h (ot143 w87)), (fun h => absurd h (ot144 w87)), (fun h => absurd h (ot145 w87)), (fun h => absurd h (ot146 w87)), (fun h => absurd h (ot147 w87)), (fun h => absurd h (ot148 w87)), (fun h => absurd h (ot149 w87)), (fun h => absurd h (ot150 w87)), (fun h => absurd h (ot151 w87))⟩⟩)
      by_cases w128 : x1.toInt = 3
      ·
        refine ko_eq (x1 := (24, [(0, .ref 0), (1, .int x1), (2, .int x2)], [.int 3, .ref 97], (0, 0), ks i a q r)) (by rw [(kj_eq w128 (by decide) : x1 = 3)]) ?_
        have fi_7040 : ((0 : Int) ≤ (i 7040).toInt) ∧ ((i 7040).toInt ≤ 2) := hG.I.1 7040
        first | refine ft_go mi_k118 4 30 [(3, .ref 110), (0, .ref 0), (1, .int x1), (2, .int x2)] [.int (i 7040)] i a q r (by rfl) ?_ | refine ko_steps mi_in118 4 _ (30, [(3, .ref 110), (0, .ref 0), (1, .int x1), (2, .int x2)], [.int (i 7040)], (0, 0), ks i a q r) (by rfl) ?_
        refine ft_if mi_k118 ((i 7040) != 0) 36 33 [(3, .ref 110), (0, .ref 0), (1, .int x1), (2, .int x2)] [] (by rfl) (fun c => ?_) (fun c => ?_)
        ·
          have c129 : (i 7040).toInt ≠ (0 : Int32).toInt := kd_ne c; clear c
          first | refine ft_go mi_k118 3 41 [(3, .ref 110), (0, .ref 0), (1, .int x1), (2, .int x2)] [.int 1, .int (i 7040)] i a q r (by rfl) ?_ | refine ko_steps mi_in118 3 _ (41, [(3, .ref 110), (0, .ref 0), (1, .int x1), (2, .int x2)], [.int 1, .int (i 7040)], (0, 0), ks i a q r) (by rfl) ?_
          refine ft_if mi_k118 ((i 7040) != 1) 58 44 [(3, .ref 110), (0, .ref 0), (1, .int x1), (2, .int x2)] [] (by rfl) (fun c => ?_) (fun c => ?_)
          ·
            have c130 : (i 7040).toInt ≠ (1 : Int32).toInt := kd_ne c; clear c
            first | refine ft_go mi_k118 1 60 [(3, .ref 110), (0, .ref 0), (1, .int x1), (2, .int x2)] [.int (-12)] i a q r (by rfl) ?_ | refine ko_steps mi_in118 1 _ (60, [(3, .ref 110), (0, .ref 0), (1, .int x1), (2, .int x2)], [.int (-12)], (0, 0), ks i a q r) (by rfl) ?_
            have fi_6656 : ((0 : Int) ≤ (i 6656).toInt) ∧ ((i 6656).toInt ≤ 2) := hG.I.1 6656
            have fi_6017 : ((0 : Int) ≤ (i 6017).toInt) ∧ ((i 6017).toInt ≤ 50) := hG.I.1 6017
            have fi_6784 : ((0 : Int) ≤ (i 6784).toInt) ∧ ((i 6784).toInt ≤ 2) := hG.I.1 6784
            have fi_6912 : ((0 : Int) ≤ (i 6912).toInt) ∧ ((i 6912).toInt ≤ 2) := hG.I.1 6912
            have fi_7168 : ((0 : Int) ≤ (i 7168).toInt) ∧ ((i 7168).toInt ≤ 2) := hG.I.1 7168
            have fi_7296 : ((0 : Int) ≤ (i 7296).toInt) ∧ ((i 7296).toInt ≤ 2) := hG.I.1 7296
            exact ft_ret mi_k118 (by rfl) (hP (-12) ⟨trivial, ⟨(fun h => absurd (ot160 w128 z2.2 z4.1 z4.2 kot0 kot7) h), (fun h => absurd h (ot161 w128)), (fun h => absurd h (ot162 w128)), (fun h => absurd h (ot163 w128)), (fun h => absurd h (ot164 w128)), (fun h => absurd h (ot165 w128)), (fun h => absurd h (ot166 w128)), (fun h => absurd h (ot167 w128)), (fun h => absurd h (ot168 w128)), (fun h => absurd h (ot169 w128)), (fun h => absurd h (ot170 c129 fi_7040.1 kot0)), (fun _ => (show ((-12) : Int32) = -12 from (by first | rfl | (simp only [sMn, sMx]; done) | (simp only [sMn, sMx]; rfl)))), (fun h => absurd h (ot171 c129 c130 fi_7040.1 kot0 kot1)), (fun h => absurd h (ot172 w128)), (fun h => absurd h (ot173 w128)), (fun h => absurd h (ot174 w128)), (fun h => absurd h (ot175 w128)), (fun h => absurd h (ot176 w128)), (fun h => absurd h (ot177 w128))⟩⟩)
          ·
            have c131 : (i 7040).toInt = (1 : Int32).toInt := kd_neF c; clear c
            first | refine ft_go mi_k118 4 52 [(3, .ref 110), (0, .ref 0), (1, .int x1), (2, .int x2)] [.int (i 7041), .ref 94] i a q r (by rfl) ?_ | refine ko_steps mi_in118 4 _ (52, [(3, .ref 110), (0, .ref 0), (1, .int x1), (2, .int x2)], [.int (i 7041), .ref 94], (0, 0), ks i a q r) (by rfl) ?_
            refine ko_callPI mi_k118.1 (pc := 52) (ls := [(3, .ref 110), (0, .ref 0), (1, .int x1), (2, .int x2)]) (st := [.int (i 7041), .ref 94]) (h := ks i a q r) (i := (.invokevirtual 301, 3, 8, 0, 9, 0, 304)) (mi_k118.2 _ _ (by rfl)) (ft_invS mi_pq8 (by rfl)) (cy := mi_c8) mi_pq8 rfl (kc8_94 hG.I hG.R (i 7041)) (by decide) ?_
            intro vg132 hg132
            rcases hg132 with ⟨eg132, hg132⟩ | ⟨eg132, hg132⟩
            ·
              subst eg132
              have fi_6017 : ((0 : Int) ≤ (i 6017).toInt) ∧ ((i 6017).toInt ≤ 50) := hG.I.1 6017
              have z133 : ((0 : Int) ≤ (i 7041).toInt) ∧ ((i 7041).toInt < (i 6017).toInt) := hg132
              first | refine ft_go mi_k118 6 72 [(3, .ref 110), (0, .ref 0), (1, .int x1), (2, .int x2)] [.int (i 7041), .ref 95] i a q r (by rfl) ?_ | refine ko_steps mi_in118 6 _ (72, [(3, .ref 110), (0, .ref 0), (1, .int x1), (2, .int x2)], [.int (i 7041), .ref 95], (0, 0), ks i a q r) (by rfl) ?_
              refine ko_iald3 mi_k118.1 (n := 50) (c := 50) (ax := (0, 0, 0, 0, 0)) (mi_k118.2 _ _ (by rfl)) (by rfl) (ksG95 _ _ _ _) (hG.I.2.1 95) rfl (ot28 z133.1) (ot29 fi_6017.2 z133.2) ?_
              have r134 : ((0 : Int) ≤ ((a 95).getD (i 7041).toNatClampNeg 0).toInt) ∧ (((a 95).getD (i 7041).toNatClampNeg 0).toInt ≤ 7) := hG.I.2.2.1 95 ((i 7041).toNatClampNeg)
              first | refine ft_go mi_k118 3 78 [(4, .int ((a 95).getD (i 7041).toNatClampNeg 0)), (3, .ref 110), (0, .ref 0), (1, .int x1), (2, .int x2)] [.int x2, .int ((a 95).getD (i 7041).toNatClampNeg 0)] i a q r (by rfl) ?_ | refine ko_steps mi_in118 3 _ (78, [(4, .int ((a 95).getD (i 7041).toNatClampNeg 0)), (3, .ref 110), (0, .ref 0), (1, .int x1), (2, .int x2)], [.int x2, .int ((a 95).getD (i 7041).toNatClampNeg 0)], (0, 0), ks i a q r) (by rfl) ?_
              by_cases w135 : ((a 95).getD (i 7041).toNatClampNeg 0).toInt = 0
              ·
                refine ko_eq (x1 := (78, [(4, .int ((a 95).getD (i 7041).toNatClampNeg 0)), (3, .ref 110), (0, .ref 0), (1, .int x1), (2, .int x2)], [.int x2, .int 0], (0, 0), ks i a q r)) (by rw [(kj_eq w135 (by decide) : ((a 95).getD (i 7041).toNatClampNeg 0) = 0)]) ?_
                refine ko_callPI mi_k118.1 (pc := 78) (ls := [(4, .int ((a 95).getD (i 7041).toNatClampNeg 0)), (3, .ref 110), (0, .ref 0), (1, .int x1), (2, .int x2)]) (st := [.int x2, .int 0]) (h := ks i a q r) (i := (.invokestatic 339, 3, 10, 0, 9, 0, 319)) (mi_k118.2 _ _ (by rfl)) (ft_invS mi_pq10 (by rfl)) (cy := mi_c10) mi_pq10 rfl (ke10_l00 hG.I hG.R x2) (by decide) ?_
                intro vg136 hg136
                rcases hg136 with ⟨eg136, hg136⟩ | ⟨eg136, hg136⟩
                ·
                  subst eg136
                  have z137 : x2.toInt = 0 := hg136
                  first | refine ft_go mi_k118 3 91 [(4, .int ((a 95).getD (i 7041).toNatClampNeg 0)), (3, .ref 110), (0, .ref 0), (1, .int x1), (2, .int x2)] [.int ((a 95).getD (i 7041).toNatClampNeg 0)] i a q r (by rfl) ?_ | refine ko_steps mi_in118 3 _ (91, [(4, .int ((a 95).getD (i 7041).toNatClampNeg 0)), (3, .ref 110), (0, .ref 0), (1, .int x1), (2, .int x2)], [.int ((a 95).getD (i 7041).toNatClampNeg 0)], (0, 0), ks i a q r) (by rfl) ?_
                  have fi_6656 : ((0 : Int) ≤ (i 6656).toInt) ∧ ((i 6656).toInt ≤ 2) := hG.I.1 6656
                  have fi_6784 : ((0 : Int) ≤ (i 6784).toInt) ∧ ((i 6784).toInt ≤ 2) := hG.I.1 6784
                  have fi_6912 : ((0 : Int) ≤ (i 6912).toInt) ∧ ((i 6912).toInt ≤ 2) := hG.I.1 6912
                  have fi_7168 : ((0 : Int) ≤ (i 7168).toInt) ∧ ((i 7168).toInt ≤ 2) := hG.I.1 7168
                  have fi_7296 : ((0 : Int) ≤ (i 7296).toInt) ∧ ((i 7296).toInt ≤ 2) := hG.I.1 7296
                  exact ft_ret mi_k118 (by rfl) (hP ((a 95).getD (i 7041).toNatClampNeg 0) ⟨trivial, ⟨(fun h => absurd (ot160 w128 z2.2 z4.1 z4.2 kot0 kot7) h), (fun h => absurd h (ot161 w128)), (fun h => absurd h (ot162 w128)), (fun h => absurd h (ot163 w128)), (fun h => absurd h (ot164 w128)), (fun h => absurd h (ot165 w128)), (fun h => absurd h (ot166 w128)), (fun h => absurd h (ot167 w128)), (fun h => absurd h (ot168 w128)), (fun h => absurd h (ot169 w128)), (fun h => absurd h (ot178 c131 kot1)), (fun h => absurd h (ot179 c131 z133.1 z133.2 kot1)), (fun _ => (show ((a 95).getD (i 7041).toNatClampNeg 0) = tkV ((a 95).getD (i 7041).toNatClampNeg 0) x2 from (by unfold tkV; rw [if_pos (ot36 z137 z4.1 kot0)]))), (fun h => absurd h (ot172 w128)), (fun h => absurd h (ot173 w128)), (fun h => absurd h (ot174 w128)), (fun h => absurd h (ot175 w128)), (fun h => absurd h (ot176 w128)), (fun h => absurd h (ot177 w128))⟩⟩)
                ·
                  subst eg136
                  have z138 : x2.toInt ≠ 0 := hg136
                  first | refine ft_go mi_k118 2 91 [(4, .int ((a 95).getD (i 7041).toNatClampNeg 0)), (3, .ref 110), (0, .ref 0), (1, .int x1), (2, .int x2)] [.int (-12)] i a q r (by rfl) ?_ | refine ko_steps mi_in118 2 _ (91, [(4, .int ((a 95).getD (i 7041).toNatClampNeg 0)), (3, .ref 110), (0, .ref 0), (1, .int x1), (2, .int x2)], [.int (-12)], (0, 0), ks i a q r) (by rfl) ?_
                  have fi_6656 : ((0 : Int) ≤ (i 6656).toInt) ∧ ((i 6656).toInt ≤ 2) := hG.I.1 6656
                  have fi_6784 : ((0 : Int) ≤ (i 6784).toInt) ∧ ((i 6784).toInt ≤ 2) := hG.I.1 6784
                  have fi_6912 : ((0 : Int) ≤ (i 6912).toInt) ∧ ((i 6912).toInt ≤ 2) := hG.I.1 6912
                  have fi_7168 : ((0 : Int) ≤ (i 7168).toInt) ∧ ((i 7168).toInt ≤ 2) := hG.I.1 7168
                  have fi_7296 : ((0 : Int) ≤ (i 7296).toInt) ∧ ((i 7296).toInt ≤ 2) := hG.I.1 7296
                  exact ft_ret mi_k118 (by rfl) (hP (-12) ⟨trivial, ⟨(fun h => absurd (ot160 w128 z2.2 z4.1 z4.2 kot0 kot7) h), (fun h => absurd h (ot161 w128)), (fun h => absurd h (ot162 w128)), (fun h => absurd h (ot163 w128)), (fun h => absurd h (ot164 w128)), (fun h => absurd h (ot165 w128)), (fun h => absurd h (ot166 w128)), (fun h => absurd h (ot167 w128)), (fun h => absurd h (ot168 w128)), (fun h => absurd h (ot169 w128)), (fun h => absurd h (ot178 c131 kot1)), (fun h => absurd h (ot179 c131 z133.1 z133.2 kot1)), (fun _ => (show ((-12) : Int32) = tkV ((a 95).getD (i 7041).toNatClampNeg 0) x2 from (by unfold tkV; rw [if_neg (ot37 w135 z138 z4.1 kot0)]))), (fun h => absurd h (ot172 w128)), (fun h => absurd h (ot173 w128)), (fun h => absurd h (ot174 w128)), (fun h => absurd h (ot175 w128)), (fun h => absurd h (ot176 w128)), (fun h => absurd h (ot177 w128))⟩⟩)
              by_cases w139 : ((a 95).getD (i 7041).toNatClampNeg 0).toInt = 1
              ·
                refine ko_eq (x1 := (78, [(4, .int ((a 95).getD (i 7041).toNatClampNeg 0)), (3, .ref 110), (0, .ref 0), (1, .int x1), (2, .int x2)], [.int x2, .int 1], (0, 0), ks i a q r)) (by rw [(kj_eq w139 (by decide) : ((a 95).getD (i 7041).toNatClampNeg 0) = 1)]) ?_
                refine ko_callPI mi_k118.1 (pc := 78) (ls := [(4, .int ((a 95).getD (i 7041).toNatClampNeg 0)), (3, .ref 110), (0, .ref 0), (1, .int x1), (2, .int x2)]) (st := [.int x2, .int 1]) (h := ks i a q r) (i := (.invokestatic 339, 3, 10, 0, 9, 0, 319)) (mi_k118.2 _ _ (by rfl)) (ft_invS mi_pq10 (by rfl)) (cy := mi_c10) mi_pq10 rfl (ke10_l01 hG.I hG.R x2) (by decide) ?_
                intro vg140 hg140
                rcases hg140 with ⟨eg140, hg140⟩ | ⟨eg140, hg140⟩
                ·
                  subst eg140
                  have z141 : (x2.toInt = 1) ∨ (x2.toInt = 0) := hg140
                  first | refine ft_go mi_k118 3 91 [(4, .int ((a 95).getD (i 7041).toNatClampNeg 0)), (3, .ref 110), (0, .ref 0), (1, .int x1), (2, .int x2)] [.int ((a 95).getD (i 7041).toNatClampNeg 0)] i a q r (by rfl) ?_ | refine ko_steps mi_in118 3 _ (91, [(4, .int ((a 95).getD (i 7041).toNatClampNeg 0)), (3, .ref 110), (0, .ref 0), (1, .int x1), (2, .int x2)], [.int ((a 95).getD (i 7041).toNatClampNeg 0)], (0, 0), ks i a q r) (by rfl) ?_
                  have fi_6656 : ((0 : Int) ≤ (i 6656).toInt) ∧ ((i 6656).toInt ≤ 2) := hG.I.1 6656
                  have fi_6784 : ((0 : Int) ≤ (i 6784).toInt) ∧ ((i 6784).toInt ≤ 2) := hG.I.1 6784
                  have fi_6912 : ((0 : Int) ≤ (i 6912).toInt) ∧ ((i 6912).toInt ≤ 2) := hG.I.1 6912
                  have fi_7168 : ((0 : Int) ≤ (i 7168).toInt) ∧ ((i 7168).toInt ≤ 2) := hG.I.1 7168
                  have fi_7296 : ((0 : Int) ≤ (i 7296).toInt) ∧ ((i 7296).toInt ≤ 2) := hG.I.1 7296
                  exact ft_ret mi_k118 (by rfl) (hP ((a 95).getD (i 7041).toNatClampNeg 0) ⟨trivial, ⟨(fun h => absurd (ot160 w128 z2.2 z4.1 z4.2 kot0 kot7) h), (fun h => absurd h (ot161 w128)), (fun h => absurd h (ot162 w128)), (fun h => absurd h (ot163 w128)), (fun h => absurd h (ot164 w128)), (fun h => absurd h (ot165 w128)), (fun h => absurd h (ot166 w128)), (fun h => absurd h (ot167 w128)), (fun h => absurd h (ot168 w128)), (fun h => absurd h (ot169 w128)), (fun h => absurd h (ot178 c131 kot1)), (fun h => absurd h (ot179 c131 z133.1 z133.2 kot1)), (fun _ => (show ((a 95).getD (i 7041).toNatClampNeg 0) = tkV ((a 95).getD (i 7041).toNatClampNeg 0) x2 from (by unfold tkV; rw [if_pos (ot43 w139 z141 z4.1 kot0)]))), (fun h => absurd h (ot172 w128)), (fun h => absurd h (ot173 w128)), (fun h => absurd h (ot174 w128)), (fun h => absurd h (ot175 w128)), (fun h => absurd h (ot176 w128)), (fun h => absurd h (ot177 w128))⟩⟩)
                ·
                  subst eg140
                  have z142 : (x2.toInt ≠ 1) ∧ (x2.toInt ≠ 0) := hg140
                  first | refine ft_go mi_k118 2 91 [(4, .int ((a 95).getD (i 7041).toNatClampNeg 0)), (3, .ref 110), (0, .ref 0), (1, .int x1), (2, .int x2)] [.int (-12)] i a q r (by rfl) ?_ | refine ko_steps mi_in118 2 _ (91, [(4, .int ((a 95).getD (i 7041).toNatClampNeg 0)), (3, .ref 110), (0, .ref 0), (1, .int x1), (2, .int x2)], [.int (-12)], (0, 0), ks i a q r) (by rfl) ?_
                  have fi_6656 : ((0 : Int) ≤ (i 6656).toInt) ∧ ((i 6656).toInt ≤ 2) := hG.I.1 6656
                  have fi_6784 : ((0 : Int) ≤ (i 6784).toInt) ∧ ((i 6784).toInt ≤ 2) := hG.I.1 6784
                  have fi_6912 : ((0 : Int) ≤ (i 6912).toInt) ∧ ((i 6912).toInt ≤ 2) := hG.I.1 6912
                  have fi_7168 : ((0 : Int) ≤ (i 7168).toInt) ∧ ((i 7168).toInt ≤ 2) := hG.I.1 7168
                  have fi_7296 : ((0 : Int) ≤ (i 7296).toInt) ∧ ((i 7296).toInt ≤ 2) := hG.I.1 7296
                  exact ft_ret mi_k118 (by rfl) (hP (-12) ⟨trivial, ⟨(fun h => absurd (ot160 w128 z2.2 z4.1 z4.2 kot0 kot7) h), (fun h => absurd h (ot161 w128)), (fun h => absurd h (ot162 w128)), (fun h => absurd h (ot163 w128)), (fun h => absurd h (ot164 w128)), (fun h => absurd h (ot165 w128)), (fun h => absurd h (ot166 w128)), (fun h => absurd h (ot167 w128)), (fun h => absurd h (ot168 w128)), (fun h => absurd h (ot169 w128)), (fun h => absurd h (ot178 c131 kot1)), (fun h => absurd h (ot179 c131 z133.1 z133.2 kot1)), (fun _ => (show ((-12) : Int32) = tkV ((a 95).getD (i 7041).toNatClampNeg 0) x2 from (by unfold tkV; rw [if_neg (ot44 w139 z142.1 z142.2 z4.1 kot0)]))), (fun h => absurd h (ot172 w128)), (fun h => absurd h (ot173 w128)), (fun h => absurd h (ot174 w128)), (fun h => absurd h (ot175 w128)), (fun h => absurd h (ot176 w128)), (fun h => absurd h (ot177 w128))⟩⟩)
              by_cases w143 : ((a 95).getD (i 7041).toNatClampNeg 0).toInt = 2
              ·
                refine ko_eq (x1 := (78, [(4, .int ((a 95).getD (i 7041).toNatClampNeg 0)), (3, .ref 110), (0, .ref 0), (1, .int x1), (2, .int x2)], [.int x2, .int 2], (0, 0), ks i a q r)) (by rw [(kj_eq w143 (by decide) : ((a 95).getD (i 7041).toNatClampNeg 0) = 2)]) ?_
                refine ko_callPI mi_k118.1 (pc := 78) (ls := [(4, .int ((a 95).getD (i 7041).toNatClampNeg 0)), (3, .ref 110), (0, .ref 0), (1, .int x1), (2, .int x2)]) (st := [.int x2, .int 2]) (h := ks i a q r) (i := (.invokestatic 339, 3, 10, 0, 9, 0, 319)) (mi_k118.2 _ _ (by rfl)) (ft_invS mi_pq10 (by rfl)) (cy := mi_c10) mi_pq10 rfl (ke10_l02 hG.I hG.R x2) (by decide) ?_
                intro vg144 hg144
                rcases hg144 with ⟨eg144, hg144⟩ | ⟨eg144, hg144⟩
                ·
                  subst eg144
                  have z145 : (x2.toInt = 2) ∨ (x2.toInt = 0) := hg144
                  first | refine ft_go mi_k118 3 91 [(4, .int ((a 95).getD (i 7041).toNatClampNeg 0)), (3, .ref 110), (0, .ref 0), (1, .int x1), (2, .int x2)] [.int ((a 95).getD (i 7041).toNatClampNeg 0)] i a q r (by rfl) ?_ | refine ko_steps mi_in118 3 _ (91, [(4, .int ((a 95).getD (i 7041).toNatClampNeg 0)), (3, .ref 110), (0, .ref 0), (1, .int x1), (2, .int x2)], [.int ((a 95).getD (i 7041).toNatClampNeg 0)], (0, 0), ks i a q r) (by rfl) ?_
                  have fi_6656 : ((0 : Int) ≤ (i 6656).toInt) ∧ ((i 6656).toInt ≤ 2) := hG.I.1 6656
                  have fi_6784 : ((0 : Int) ≤ (i 6784).toInt) ∧ ((i 6784).toInt ≤ 2) := hG.I.1 6784
                  have fi_6912 : ((0 : Int) ≤ (i 6912).toInt) ∧ ((i 6912).toInt ≤ 2) := hG.I.1 6912
                  have fi_7168 : ((0 : Int) ≤ (i 7168).toInt) ∧ ((i 7168).toInt ≤ 2) := hG.I.1 7168
                  have fi_7296 : ((0 : Int) ≤ (i 7296).toInt) ∧ ((i 7296).toInt ≤ 2) := hG.I.1 7296
                  exact ft_ret mi_k118 (by rfl) (hP ((a 95).getD (i 7041).toNatClampNeg 0) ⟨trivial, ⟨(fun h => absurd (ot160 w128 z2.2 z4.1 z4.2 kot0 kot7) h), (fun h => absurd h (ot161 w128)), (fun h => absurd h (ot162 w128)), (fun h => absurd h (ot163 w128)), (fun h => absurd h (ot164 w128)), (fun h => absurd h (ot165 w128)), (fun h => absurd h (ot166 w128)), (fun h => absurd h (ot167 w128)), (fun h => absurd h (ot168 w128)), (fun h => absurd h (ot169 w128)), (fun h => absurd h (ot178 c131 kot1)), (fun h => absurd h (ot179 c131 z133.1 z133.2 kot1)), (fun _ => (show ((a 95).getD (i 7041).toNatClampNeg 0) = tkV ((a 95).getD (i 7041).toNatClampNeg 0) x2 from (by unfold tkV; rw [if_pos (ot50 w143 z145 z4.1 kot0)]))), (fun h => absurd h (ot172 w128)), (fun h => absurd h (ot173 w128)), (fun h => absurd h (ot174 w128)), (fun h => absurd h (ot175 w128)), (fun h => absurd h (ot176 w128)), (fun h => absurd h (ot177 w128))⟩⟩)
                ·
                  subst eg144
                  have z146 : (x2.toInt ≠ 2) ∧ (x2.toInt ≠ 0) := hg144
                  first | refine ft_go mi_k118 2 91 [(4, .int ((a 95).getD (i 7041).toNatClampNeg 0)), (3, .ref 110), (0, .ref 0), (1, .int x1), (2, .int x2)] [.int (-12)] i a q r (by rfl) ?_ | refine ko_steps mi_in118 2 _ (91, [(4, .int ((a 95).getD (i 7041).toNatClampNeg 0)), (3, .ref 110), (0, .ref 0), (1, .int x1), (2, .int x2)], [.int (-12)], (0, 0), ks i a q r) (by rfl) ?_
                  have fi_6656 : ((0 : Int) ≤ (i 6656).toInt) ∧ ((i 6656).toInt ≤ 2) := hG.I.1 6656
                  have fi_6784 : ((0 : Int) ≤ (i 6784).toInt) ∧ ((i 6784).toInt ≤ 2) := hG.I.1 6784
                  have fi_6912 : ((0 : Int) ≤ (i 6912).toInt) ∧ ((i 6912).toInt ≤ 2) := hG.I.1 6912
                  have fi_7168 : ((0 : Int) ≤ (i 7168).toInt) ∧ ((i 7168).toInt ≤ 2) := hG.I.1 7168
                  have fi_7296 : ((0 : Int) ≤ (i 7296).toInt) ∧ ((i 7296).toInt ≤ 2) := hG.I.1 7296
                  exact ft_ret mi_k118 (by rfl) (hP (-12) ⟨trivial, ⟨(fun h => absurd (ot160 w128 z2.2 z4.1 z4.2 kot0 kot7) h), (fun h => absurd h (ot161 w128)), (fun h => absurd h (ot162 w128)), (fun h => absurd h (ot163 w128)), (fun h => absurd h (ot164 w128)), (fun h => absurd h (ot165 w128)), (fun h => absurd h (ot166 w128)), (fun h => absurd h (ot167 w128)), (fun h => absurd h (ot168 w128)), (fun h => absurd h (ot169 w128)), (fun h => absurd h (ot178 c131 kot1)), (fun h => absurd h (ot179 c131 z133.1 z133.2 kot1)), (fun _ => (show ((-12) : Int32) = tkV ((a 95).getD (i 7041).toNatClampNeg 0) x2 from (by unfold tkV; rw [if_neg (ot51 w143 z146.1 z146.2 z4.1 kot0)]))), (fun h => absurd h (ot172 w128)), (fun h => absurd h (ot173 w128)), (fun h => absurd h (ot174 w128)), (fun h => absurd h (ot175 w128)), (fun h => absurd h (ot176 w128)), (fun h => absurd h (ot177 w128))⟩⟩)
              by_cases w147 : ((a 95).getD (i 7041).toNatClampNeg 0).toInt = 3
              ·
                refine ko_eq (x1 := (78, [(4, .int ((a 95).getD (i 7041).toNatClampNeg 0)), (3, .ref 110), (0, .ref 0), (1, .int x1), (2, .int x2)], [.int x2, .int 3], (0, 0), ks i a q r)) (by rw [(kj_eq w147 (by decide) : ((a 95).getD (i 7041).toNatClampNeg 0) = 3)]) ?_
                refine ko_callPI mi_k118.1 (pc := 78) (ls := [(4, .int ((a 95).getD (i 7041).toNatClampNeg 0)), (3, .ref 110), (0, .ref 0), (1, .int x1), (2, .int x2)]) (st := [.int x2, .int 3]) (h := ks i a q r) (i := (.invokestatic 339, 3, 10, 0, 9, 0, 319)) (mi_k118.2 _ _ (by rfl)) (ft_invS mi_pq10 (by rfl)) (cy := mi_c10) mi_pq10 rfl (ke10_l03 hG.I hG.R x2) (by decide) ?_
                intro vg148 hg148
                rcases hg148 with ⟨eg148, hg148⟩ | ⟨eg148, hg148⟩
                ·
                  subst eg148
                  have z149 : (x2.toInt = 3) ∨ (x2.toInt = 2) ∨ (x2.toInt = 0) := hg148
                  first | refine ft_go mi_k118 3 91 [(4, .int ((a 95).getD (i 7041).toNatClampNeg 0)), (3, .ref 110), (0, .ref 0), (1, .int x1), (2, .int x2)] [.int ((a 95).getD (i 7041).toNatClampNeg 0)] i a q r (by rfl) ?_ | refine ko_steps mi_in118 3 _ (91, [(4, .int ((a 95).getD (i 7041).toNatClampNeg 0)), (3, .ref 110), (0, .ref 0), (1, .int x1), (2, .int x2)], [.int ((a 95).getD (i 7041).toNatClampNeg 0)], (0, 0), ks i a q r) (by rfl) ?_
                  have fi_6656 : ((0 : Int) ≤ (i 6656).toInt) ∧ ((i 6656).toInt ≤ 2) := hG.I.1 6656
                  have fi_6784 : ((0 : Int) ≤ (i 6784).toInt) ∧ ((i 6784).toInt ≤ 2) := hG.I.1 6784
                  have fi_6912 : ((0 : Int) ≤ (i 6912).toInt) ∧ ((i 6912).toInt ≤ 2) := hG.I.1 6912
                  have fi_7168 : ((0 : Int) ≤ (i 7168).toInt) ∧ ((i 7168).toInt ≤ 2) := hG.I.1 7168
                  have fi_7296 : ((0 : Int) ≤ (i 7296).toInt) ∧ ((i 7296).toInt ≤ 2) := hG.I.1 7296
                  exact ft_ret mi_k118 (by rfl) (hP ((a 95).getD (i 7041).toNatClampNeg 0) ⟨trivial, ⟨(fun h => absurd (ot160 w128 z2.2 z4.1 z4.2 kot0 kot7) h), (fun h => absurd h (ot161 w128)), (fun h => absurd h (ot162 w128)), (fun h => absurd h (ot163 w128)), (fun h => absurd h (ot164 w128)), (fun h => absurd h (ot165 w128)), (fun h => absurd h (ot166 w128)), (fun h => absurd h (ot167 w128)), (fun h => absurd h (ot168 w128)), (fun h => absurd h (ot169 w128)), (fun h => absurd h (ot178 c131 kot1)), (fun h => absurd h (ot179 c131 z133.1 z133.2 kot1)), (fun _ => (show ((a 95).getD (i 7041).toNatClampNeg 0) = tkV ((a 95).getD (i 7041).toNatClampNeg 0) x2 from (by unfold tkV; rw [if_pos (ot58 w147 z149 z4.1 kot0)]))), (fun h => absurd h (ot172 w128)), (fun h => absurd h (ot173 w128)), (fun h => absurd h (ot174 w128)), (fun h => absurd h (ot175 w128)), (fun h => absurd h (ot176 w128)), (fun h => absurd h (ot177 w128))⟩⟩)
                ·
                  subst eg148
                  have z150 : (x2.toInt ≠ 3) ∧ (x2.toInt ≠ 2) ∧ (x2.toInt ≠ 0) := hg148
                  first | refine ft_go mi_k118 2 91 [(4, .int ((a 95).getD (i 7041).toNatClampNeg 0)), (3, .ref 110), (0, .ref 0), (1, .int x1), (2, .int x2)] [.int (-12)] i a q r (by rfl) ?_ | refine ko_steps mi_in118 2 _ (91, [(4, .int ((a 95).getD (i 7041).toNatClampNeg 0)), (3, .ref 110), (0, .ref 0), (1, .int x1), (2, .int x2)], [.int (-12)], (0, 0), ks i a q r) (by rfl) ?_
                  have fi_6656 : ((0 : Int) ≤ (i 6656).toInt) ∧ ((i 6656).toInt ≤ 2) := hG.I.1 6656
                  have fi_6784 : ((0 : Int) ≤ (i 6784).toInt) ∧ ((i 6784).toInt ≤ 2) := hG.I.1 6784
                  have fi_6912 : ((0 : Int) ≤ (i 6912).toInt) ∧ ((i 6912).toInt ≤ 2) := hG.I.1 6912
                  have fi_7168 : ((0 : Int) ≤ (i 7168).toInt) ∧ ((i 7168).toInt ≤ 2) := hG.I.1 7168
                  have fi_7296 : ((0 : Int) ≤ (i 7296).toInt) ∧ ((i 7296).toInt ≤ 2) := hG.I.1 7296
                  exact ft_ret mi_k118 (by rfl) (hP (-12) ⟨trivial, ⟨(fun h => absurd (ot160 w128 z2.2 z4.1 z4.2 kot0 kot7) h), (fun h => absurd h (ot161 w128)), (fun h => absurd h (ot162 w128)), (fun h => absurd h (ot163 w128)), (fun h => absurd h (ot164 w128)), (fun h => absurd h (ot165 w128)), (fun h => absurd h (ot166 w128)), (fun h => absurd h (ot167 w128)), (fun h => absurd h (ot168 w128)), (fun h => absurd h (ot169 w128)), (fun h => absurd h (ot178 c131 kot1)), (fun h => absurd h (ot179 c131 z133.1 z133.2 kot1)), (fun _ => (show ((-12) : Int32) = tkV ((a 95).getD (i 7041).toNatClampNeg 0) x2 from (by unfold tkV; rw [if_neg (ot59 w147 z150.1 z150.2.1 z150.2.2 z4.1 kot0)]))), (fun h => absurd h (ot172 w128)), (fun h => absurd h (ot173 w128)), (fun h => absurd h (ot174 w128)), (fun h => absurd h (ot175 w128)), (fun h => absurd h (ot176 w128)), (fun h => absurd h (ot177 w128))⟩⟩)
              by_cases w151 : ((a 95).getD (i 7041).toNatClampNeg 0).toInt = 4
              ·
                refine ko_eq (x1 := (78, [(4, .int ((a 95).getD (i 7041).toNatClampNeg 0)), (3, .ref 110), (0, .ref 0), (1, .int x1), (2, .int x2)], [.int x2, .int 4], (0, 0), ks i a q r)) (by rw [(kj_eq w151 (by decide) : ((a 95).getD (i 7041).toNatClampNeg 0) = 4)]) ?_
                refine ko_callPI mi_k118.1 (pc := 78) (ls := [(4, .int ((a 95).getD (i 7041).toNatClampNeg 0)), (3, .ref 110), (0, .ref 0), (1, .int x1), (2, .int x2)]) (st := [.int x2, .int 4]) (h := ks i a q r) (i := (.invokestatic 339, 3, 10, 0, 9, 0, 319)) (mi_k118.2 _ _ (by rfl)) (ft_invS mi_pq10 (by rfl)) (cy := mi_c10) mi_pq10 rfl (ke10_l04 hG.I hG.R x2) (by decide) ?_
                intro vg152 hg152
                rcases hg152 with ⟨eg152, hg152⟩ | ⟨eg152, hg152⟩
                ·
                  subst eg152
                  have z153 : (x2.toInt = 4) ∨ (x2.toInt = 1) ∨ (x2.toInt = 0) := hg152
                  first | refine ft_go mi_k118 3 91 [(4, .int ((a 95).getD (i 7041).toNatClampNeg 0)), (3, .ref 110), (0, .ref 0), (1, .int x1), (2, .int x2)] [.int ((a 95).getD (i 7041).toNatClampNeg 0)] i a q r (by rfl) ?_ | refine ko_steps mi_in118 3 _ (91, [(4, .int ((a 95).getD (i 7041).toNatClampNeg 0)), (3, .ref 110), (0, .ref 0), (1, .int x1), (2, .int x2)], [.int ((a 95).getD (i 7041).toNatClampNeg 0)], (0, 0), ks i a q r) (by rfl) ?_
                  have fi_6656 : ((0 : Int) ≤ (i 6656).toInt) ∧ ((i 6656).toInt ≤ 2) := hG.I.1 6656
                  have fi_6784 : ((0 : Int) ≤ (i 6784).toInt) ∧ ((i 6784).toInt ≤ 2) := hG.I.1 6784
                  have fi_6912 : ((0 : Int) ≤ (i 6912).toInt) ∧ ((i 6912).toInt ≤ 2) := hG.I.1 6912
                  have fi_7168 : ((0 : Int) ≤ (i 7168).toInt) ∧ ((i 7168).toInt ≤ 2) := hG.I.1 7168
                  have fi_7296 : ((0 : Int) ≤ (i 7296).toInt) ∧ ((i 7296).toInt ≤ 2) := hG.I.1 7296
                  exact ft_ret mi_k118 (by rfl) (hP ((a 95).getD (i 7041).toNatClampNeg 0) ⟨trivial, ⟨(fun h => absurd (ot160 w128 z2.2 z4.1 z4.2 kot0 kot7) h), (fun h => absurd h (ot161 w128)), (fun h => absurd h (ot162 w128)), (fun h => absurd h (ot163 w128)), (fun h => absurd h (ot164 w128)), (fun h => absurd h (ot165 w128)), (fun h => absurd h (ot166 w128)), (fun h => absurd h (ot167 w128)), (fun h => absurd h (ot168 w128)), (fun h => absurd h (ot169 w128)), (fun h => absurd h (ot178 c131 kot1)), (fun h => absurd h (ot179 c131 z133.1 z133.2 kot1)), (fun _ => (show ((a 95).getD (i 7041).toNatClampNeg 0) = tkV ((a 95).getD (i 7041).toNatClampNeg 0) x2 from (by unfold tkV; rw [if_pos (ot66 w151 z153 z4.1 kot0)]))), (fun h => absurd h (ot172 w128)), (fun h => absurd h (ot173 w128)), (fun h => absurd h (ot174 w128)), (fun h => absurd h (ot175 w128)), (fun h => absurd h (ot176 w128)), (fun h => absurd h (ot177 w128))⟩⟩)
                ·
                  subst eg152
                  have z154 : (x2.toInt ≠ 4) ∧ (x2.toInt ≠ 1) ∧ (x2.toInt ≠ 0) := hg152
                  first | refine ft_go mi_k118 2 91 [(4, .int ((a 95).getD (i 7041).toNatClampNeg 0)), (3, .ref 110), (0, .ref 0), (1, .int x1), (2, .int x2)] [.int (-12)] i a q r (by rfl) ?_ | refine ko_steps mi_in118 2 _ (91, [(4, .int ((a 95).getD (i 7041).toNatClampNeg 0)), (3, .ref 110), (0, .ref 0), (1, .int x1), (2, .int x2)], [.int (-12)], (0, 0), ks i a q r) (by rfl) ?_
                  have fi_6656 : ((0 : Int) ≤ (i 6656).toInt) ∧ ((i 6656).toInt ≤ 2) := hG.I.1 6656
                  have fi_6784 : ((0 : Int) ≤ (i 6784).toInt) ∧ ((i 6784).toInt ≤ 2) := hG.I.1 6784
                  have fi_6912 : ((0 : Int) ≤ (i 6912).toInt) ∧ ((i 6912).toInt ≤ 2) := hG.I.1 6912
                  have fi_7168 : ((0 : Int) ≤ (i 7168).toInt) ∧ ((i 7168).toInt ≤ 2) := hG.I.1 7168
                  have fi_7296 : ((0 : Int) ≤ (i 7296).toInt) ∧ ((i 7296).toInt ≤ 2) := hG.I.1 7296
                  exact ft_ret mi_k118 (by rfl) (hP (-12) ⟨trivial, ⟨(fun h => absurd (ot160 w128 z2.2 z4.1 z4.2 kot0 kot7) h), (fun h => absurd h (ot161 w128)), (fun h => absurd h (ot162 w128)), (fun h => absurd h (ot163 w128)), (fun h => absurd h (ot164 w128)), (fun h => absurd h (ot165 w128)), (fun h => absurd h (ot166 w128)), (fun h => absurd h (ot167 w128)), (fun h => absurd h (ot168 w128)), (fun h => absurd h (ot169 w128)), (fun h => absurd h (ot178 c131 kot1)), (fun h => absurd h (ot179 c131 z133.1 z133.2 kot1)), (fun _ => (show ((-12) : Int32) = tkV ((a 95).getD (i 7041).toNatClampNeg 0) x2 from (by unfold tkV; rw [if_neg (ot67 w151 z154.1 z154.2.1 z154.2.2 z4.1 kot0)]))), (fun h => absurd h (ot172 w128)), (fun h => absurd h (ot173 w128)), (fun h => absurd h (ot174 w128)), (fun h => absurd h (ot175 w128)), (fun h => absurd h (ot176 w128)), (fun h => absurd h (ot177 w128))⟩⟩)
              by_cases w155 : ((a 95).getD (i 7041).toNatClampNeg 0).toInt = 5
              ·
                refine ko_eq (x1 := (78, [(4, .int ((a 95).getD (i 7041).toNatClampNeg 0)), (3, .ref 110), (0, .ref 0), (1, .int x1), (2, .int x2)], [.int x2, .int 5], (0, 0), ks i a q r)) (by rw [(kj_eq w155 (by decide) : ((a 95).getD (i 7041).toNatClampNeg 0) = 5)]) ?_
                refine ko_callPI mi_k118.1 (pc := 78) (ls := [(4, .int ((a 95).getD (i 7041).toNatClampNeg 0)), (3, .ref 110), (0, .ref 0), (1, .int x1), (2, .int x2)]) (st := [.int x2, .int 5]) (h := ks i a q r) (i := (.invokestatic 339, 3, 10, 0, 9, 0, 319)) (mi_k118.2 _ _ (by rfl)) (ft_invS mi_pq10 (by rfl)) (cy := mi_c10) mi_pq10 rfl (ke10_l05 hG.I hG.R x2) (by decide) ?_
                intro vg156 hg156
                rcases hg156 with ⟨eg156, hg156⟩ | ⟨eg156, hg156⟩
                ·
                  subst eg156
                  have z157 : (x2.toInt = 5) ∨ (x2.toInt = 3) ∨ (x2.toInt = 2) ∨ (x2.toInt = 0) := hg156
                  first | refine ft_go mi_k118 3 91 [(4, .int ((a 95).getD (i 7041).toNatClampNeg 0)), (3, .ref 110), (0, .ref 0), (1, .int x1), (2, .int x2)] [.int ((a 95).getD (i 7041).toNatClampNeg 0)] i a q r (by rfl) ?_ | refine ko_steps mi_in118 3 _ (91, [(4, .int ((a 95).getD (i 7041).toNatClampNeg 0)), (3, .ref 110), (0, .ref 0), (1, .int x1), (2, .int x2)], [.int ((a 95).getD (i 7041).toNatClampNeg 0)], (0, 0), ks i a q r) (by rfl) ?_
                  have fi_6656 : ((0 : Int) ≤ (i 6656).toInt) ∧ ((i 6656).toInt ≤ 2) := hG.I.1 6656
                  have fi_6784 : ((0 : Int) ≤ (i 6784).toInt) ∧ ((i 6784).toInt ≤ 2) := hG.I.1 6784
                  have fi_6912 : ((0 : Int) ≤ (i 6912).toInt) ∧ ((i 6912).toInt ≤ 2) := hG.I.1 6912
                  have fi_7168 : ((0 : Int) ≤ (i 7168).toInt) ∧ ((i 7168).toInt ≤ 2) := hG.I.1 7168
                  have fi_7296 : ((0 : Int) ≤ (i 7296).toInt) ∧ ((i 7296).toInt ≤ 2) := hG.I.1 7296
                  exact ft_ret mi_k118 (by rfl) (hP ((a 95).getD (i 7041).toNatClampNeg 0) ⟨trivial, ⟨(fun h => absurd (ot160 w128 z2.2 z4.1 z4.2 kot0 kot7) h), (fun h => absurd h (ot161 w128)), (fun h => absurd h (ot162 w128)), (fun h => absurd h (ot163 w128)), (fun h => absurd h (ot164 w128)), (fun h => absurd h (ot165 w128)), (fun h => absurd h (ot166 w128)), (fun h => absurd h (ot167 w128)), (fun h => absurd h (ot168 w128)), (fun h => absurd h (ot169 w128)), (fun h => absurd h (ot178 c131 kot1)), (fun h => absurd h (ot179 c131 z133.1 z133.2 kot1)), (fun _ => (show ((a 95).getD (i 7041).toNatClampNeg 0) = tkV ((a 95).getD (i 7041).toNatClampNeg 0) x2 from (by unfold tkV; rw [if_pos (ot75 w155 z157 z4.1 kot0)]))), (fun h => absurd h (ot172 w128)), (fun h => absurd h (ot173 w128)), (fun h => absurd h (ot174 w128)), (fun h => absurd h (ot175 w128)), (fun h => absurd h (ot176 w128)), (fun h => absurd h (ot177 w128))⟩⟩)
                ·
                  subst eg156
                  have z158 : (x2.toInt ≠ 5) ∧ (x2.toInt ≠ 3) ∧ (x2.toInt ≠ 2) ∧ (x2.toInt ≠ 0) := hg156
                  first | refine ft_go mi_k118 2 91 [(4, .int ((a 95).getD (i 7041).toNatClampNeg 0)), (3, .ref 110), (0, .ref 0), (1, .int x1), (2, .int x2)] [.int (-12)] i a q r (by rfl) ?_ | refine ko_steps mi_in118 2 _ (91, [(4, .int ((a 95).getD (i 7041).toNatClampNeg 0)), (3, .ref 110), (0, .ref 0), (1, .int x1), (2, .int x2)], [.int (-12)], (0, 0), ks i a q r) (by rfl) ?_
                  have fi_6656 : ((0 : Int) ≤ (i 6656).toInt) ∧ ((i 6656).toInt ≤ 2) := hG.I.1 6656
                  have fi_6784 : ((0 : Int) ≤ (i 6784).toInt) ∧ ((i 6784).toInt ≤ 2) := hG.I.1 6784
                  have fi_6912 : ((0 : Int) ≤ (i 6912).toInt) ∧ ((i 6912).toInt ≤ 2) := hG.I.1 6912
                  have fi_7168 : ((0 : Int) ≤ (i 7168).toInt) ∧ ((i 7168).toInt ≤ 2) := hG.I.1 7168
                  have fi_7296 : ((0 : Int) ≤ (i 7296).toInt) ∧ ((i 7296).toInt ≤ 2) := hG.I.1 7296
                  exact ft_ret mi_k118 (by rfl) (hP (-12) ⟨trivial, ⟨(fun h => absurd (ot160 w128 z2.2 z4.1 z4.2 kot0 kot7) h), (fun h => absurd h (ot161 w128)), (fun h => absurd h (ot162 w128)), (fun h => absurd h (ot163 w128)), (fun h => absurd h (ot164 w128)), (fun h => absurd h (ot165 w128)), (fun h => absurd h (ot166 w128)), (fun h => absurd h (ot167 w128)), (fun h => absurd h (ot168 w128)), (fun h => absurd h (ot169 w128)), (fun h => absurd h (ot178 c131 kot1)), (fun h => absurd h (ot179 c131 z133.1 z133.2 kot1)), (fun _ => (show ((-12) : Int32) = tkV ((a 95).getD (i 7041).toNatClampNeg 0) x2 from (by unfold tkV; rw [if_neg (ot76 w155 z158.1 z158.2.1 z158.2.2.1 z158.2.2.2 z4.1 kot0)]))), (fun h => absurd h (ot172 w128)), (fun h => absurd h (ot173 w128)), (fun h => absurd h (ot174 w128)), (fun h => absurd h (ot175 w128)), (fun h => absurd h (ot176 w128)), (fun h => absurd h (ot177 w128))⟩⟩)
              by_cases w159 : ((a 95).getD (i 7041).toNatClampNeg 0).toInt = 6
              ·
                refine ko_eq (x1 := (78, [(4, .int ((a 95).getD (i 7041).toNatClampNeg 0)), (3, .ref 110), (0, .ref 0), (1, .int x1), (2, .int x2)], [.int x2, .int 6], (0, 0), ks i a q r)) (by rw [(kj_eq w159 (by decide) : ((a 95).getD (i 7041).toNatClampNeg 0) = 6)]) ?_
                refine ko_callPI mi_k118.1 (pc := 78) (ls := [(4, .int ((a 95).getD (i 7041).toNatClampNeg 0)), (3, .ref 110), (0, .ref 0), (1, .int x1), (2, .int x2)]) (st := [.int x2, .int 6]) (h := ks i a q r) (i := (.invokestatic 339, 3, 10, 0, 9, 0, 319)) (mi_k118.2 _ _ (by rfl)) (ft_invS mi_pq10 (by rfl)) (cy := mi_c10) mi_pq10 rfl (ke10_l06 hG.I hG.R x2) (by decide) ?_
                intro vg160 hg160
                rcases hg160 with ⟨eg160, hg160⟩ | ⟨eg160, hg160⟩
                ·
                  subst eg160
                  have z161 : (x2.toInt = 6) ∨ (x2.toInt = 0) := hg160
                  first | refine ft_go mi_k118 3 91 [(4, .int ((a 95).getD (i 7041).toNatClampNeg 0)), (3, .ref 110), (0, .ref 0), (1, .int x1), (2, .int x2)] [.int ((a 95).getD (i 7041).toNatClampNeg 0)] i a q r (by rfl) ?_ | refine ko_steps mi_in118 3 _ (91, [(4, .int ((a 95).getD (i 7041).toNatClampNeg 0)), (3, .ref 110), (0, .ref 0), (1, .int x1), (2, .int x2)], [.int ((a 95).getD (i 7041).toNatClampNeg 0)], (0, 0), ks i a q r) (by rfl) ?_
                  have fi_6656 : ((0 : Int) ≤ (i 6656).toInt) ∧ ((i 6656).toInt ≤ 2) := hG.I.1 6656
                  have fi_6784 : ((0 : Int) ≤ (i 6784).toInt) ∧ ((i 6784).toInt ≤ 2) := hG.I.1 6784
                  have fi_6912 : ((0 : Int) ≤ (i 6912).toInt) ∧ ((i 6912).toInt ≤ 2) := hG.I.1 6912
                  have fi_7168 : ((0 : Int) ≤ (i 7168).toInt) ∧ ((i 7168).toInt ≤ 2) := hG.I.1 7168
                  have fi_7296 : ((0 : Int) ≤ (i 7296).toInt) ∧ ((i 7296).toInt ≤ 2) := hG.I.1 7296
                  exact ft_ret mi_k118 (by rfl) (hP ((a 95).getD (i 7041).toNatClampNeg 0) ⟨trivial, ⟨(fun h => absurd (ot160 w128 z2.2 z4.1 z4.2 kot0 kot7) h), (fun h => absurd h (ot161 w128)), (fun h => absurd h (ot162 w128)), (fun h => absurd h (ot163 w128)), (fun h => absurd h (ot164 w128)), (fun h => absurd h (ot165 w128)), (fun h => absurd h (ot166 w128)), (fun h => absurd h (ot167 w128)), (fun h => absurd h (ot168 w128)), (fun h => absurd h (ot169 w128)), (fun h => absurd h (ot178 c131 kot1)), (fun h => absurd h (ot179 c131 z133.1 z133.2 kot1)), (fun _ => (show ((a 95).getD (i 7041).toNatClampNeg 0) = tkV ((a 95).getD (i 7041).toNatClampNeg 0) x2 from (by unfold tkV; rw [if_pos (ot82 w159 z161 z4.1 kot0)]))), (fun h => absurd h (ot172 w128)), (fun h => absurd h (ot173 w128)), (fun h => absurd h (ot174 w128)), (fun h => absurd h (ot175 w128)), (fun h => absurd h (ot176 w128)), (fun h => absurd h (ot177 w128))⟩⟩)
                ·
                  subst eg160
                  have z162 : (x2.toInt ≠ 6) ∧ (x2.toInt ≠ 0) := hg160
                  first | refine ft_go mi_k118 2 91 [(4, .int ((a 95).getD (i 7041).toNatClampNeg 0)), (3, .ref 110), (0, .ref 0), (1, .int x1), (2, .int x2)] [.int (-12)] i a q r (by rfl) ?_ | refine ko_steps mi_in118 2 _ (91, [(4, .int ((a 95).getD (i 7041).toNatClampNeg 0)), (3, .ref 110), (0, .ref 0), (1, .int x1), (2, .int x2)], [.int (-12)], (0, 0), ks i a q r) (by rfl) ?_
                  have fi_6656 : ((0 : Int) ≤ (i 6656).toInt) ∧ ((i 6656).toInt ≤ 2) := hG.I.1 6656
                  have fi_6784 : ((0 : Int) ≤ (i 6784).toInt) ∧ ((i 6784).toInt ≤ 2) := hG.I.1 6784
                  have fi_6912 : ((0 : Int) ≤ (i 6912).toInt) ∧ ((i 6912).toInt ≤ 2) := hG.I.1 6912
                  have fi_7168 : ((0 : Int) ≤ (i 7168).toInt) ∧ ((i 7168).toInt ≤ 2) := hG.I.1 7168
                  have fi_7296 : ((0 : Int) ≤ (i 7296).toInt) ∧ ((i 7296).toInt ≤ 2) := hG.I.1 7296
                  exact ft_ret mi_k118 (by rfl) (hP (-12) ⟨trivial, ⟨(fun h => absurd (ot160 w128 z2.2 z4.1 z4.2 kot0 kot7) h), (fun h => absurd h (ot161 w128)), (fun h => absurd h (ot162 w128)), (fun h => absurd h (ot163 w128)), (fun h => absurd h (ot164 w128)), (fun h => absurd h (ot165 w128)), (fun h => absurd h (ot166 w128)), (fun h => absurd h (ot167 w128)), (fun h => absurd h (ot168 w128)), (fun h => absurd h (ot169 w128)), (fun h => absurd h (ot178 c131 kot1)), (fun h => absurd h (ot179 c131 z133.1 z133.2 kot1)), (fun _ => (show ((-12) : Int32) = tkV ((a 95).getD (i 7041).toNatClampNeg 0) x2 from (by unfold tkV; rw [if_neg (ot83 w159 z162.1 z162.2 z4.1 kot0)]))), (fun h => absurd h (ot172 w128)), (fun h => absurd h (ot173 w128)), (fun h => absurd h (ot174 w128)), (fun h => absurd h (ot175 w128)), (fun h => absurd h (ot176 w128)), (fun h => absurd h (ot177 w128))⟩⟩)
              by_cases w163 : ((a 95).getD (i 7041).toNatClampNeg 0).toInt = 7
              ·
                refine ko_eq (x1 := (78, [(4, .int ((a 95).getD (i 7041).toNatClampNeg 0)), (3, .ref 110), (0, .ref 0), (1, .int x1), (2, .int x2)], [.int x2, .int 7], (0, 0), ks i a q r)) (by rw [(kj_eq w163 (by decide) : ((a 95).getD (i 7041).toNatClampNeg 0) = 7)]) ?_
                refine ko_callPI mi_k118.1 (pc := 78) (ls := [(4, .int ((a 95).getD (i 7041).toNatClampNeg 0)), (3, .ref 110), (0, .ref 0), (1, .int x1), (2, .int x2)]) (st := [.int x2, .int 7]) (h := ks i a q r) (i := (.invokestatic 339, 3, 10, 0, 9, 0, 319)) (mi_k118.2 _ _ (by rfl)) (ft_invS mi_pq10 (by rfl)) (cy := mi_c10) mi_pq10 rfl (ke10_l07 hG.I hG.R x2) (by decide) ?_
                intro vg164 hg164
                rcases hg164 with ⟨eg164, hg164⟩ | ⟨eg164, hg164⟩
                ·
                  subst eg164
                  have z165 : (x2.toInt = 7) ∨ (x2.toInt = 4) ∨ (x2.toInt = 1) ∨ (x2.toInt = 0) := hg164
                  first | refine ft_go mi_k118 3 91 [(4, .int ((a 95).getD (i 7041).toNatClampNeg 0)), (3, .ref 110), (0, .ref 0), (1, .int x1), (2, .int x2)] [.int ((a 95).getD (i 7041).toNatClampNeg 0)] i a q r (by rfl) ?_ | refine ko_steps mi_in118 3 _ (91, [(4, .int ((a 95).getD (i 7041).toNatClampNeg 0)), (3, .ref 110), (0, .ref 0), (1, .int x1), (2, .int x2)], [.int ((a 95).getD (i 7041).toNatClampNeg 0)], (0, 0), ks i a q r) (by rfl) ?_
                  have fi_6656 : ((0 : Int) ≤ (i 6656).toInt) ∧ ((i 6656).toInt ≤ 2) := hG.I.1 6656
                  have fi_6784 : ((0 : Int) ≤ (i 6784).toInt) ∧ ((i 6784).toInt ≤ 2) := hG.I.1 6784
                  have fi_6912 : ((0 : Int) ≤ (i 6912).toInt) ∧ ((i 6912).toInt ≤ 2) := hG.I.1 6912
                  have fi_7168 : ((0 : Int) ≤ (i 7168).toInt) ∧ ((i 7168).toInt ≤ 2) := hG.I.1 7168
                  have fi_7296 : ((0 : Int) ≤ (i 7296).toInt) ∧ ((i 7296).toInt ≤ 2) := hG.I.1 7296
                  exact ft_ret mi_k118 (by rfl) (hP ((a 95).getD (i 7041).toNatClampNeg 0) ⟨trivial, ⟨(fun h => absurd (ot160 w128 z2.2 z4.1 z4.2 kot0 kot7) h), (fun h => absurd h (ot161 w128)), (fun h => absurd h (ot162 w128)), (fun h => absurd h (ot163 w128)), (fun h => absurd h (ot164 w128)), (fun h => absurd h (ot165 w128)), (fun h => absurd h (ot166 w128)), (fun h => absurd h (ot167 w128)), (fun h => absurd h (ot168 w128)), (fun h => absurd h (ot169 w128)), (fun h => absurd h (ot178 c131 kot1)), (fun h => absurd h (ot179 c131 z133.1 z133.2 kot1)), (fun _ => (show ((a 95).getD (i 7041).toNatClampNeg 0) = tkV ((a 95).getD (i 7041).toNatClampNeg 0) x2 from (by unfold tkV; rw [if_pos (ot154 r134.2 w163 z165 z4.1 z4.2 kot0 kot7)]))), (fun h => absurd h (ot172 w128)), (fun h => absurd h (ot173 w128)), (fun h => absurd h (ot174 w128)), (fun h => absurd h (ot175 w128)), (fun h => absurd h (ot176 w128)), (fun h => absurd h (ot177 w128))⟩⟩)
                ·
                  subst eg164
                  have z166 : (x2.toInt ≠ 7) ∧ (x2.toInt ≠ 4) ∧ (x2.toInt ≠ 1) ∧ (x2.toInt ≠ 0) := hg164
                  first | refine ft_go mi_k118 2 91 [(4, .int ((a 95).getD (i 7041).toNatClampNeg 0)), (3, .ref 110), (0, .ref 0), (1, .int x1), (2, .int x2)] [.int (-12)] i a q r (by rfl) ?_ | refine ko_steps mi_in118 2 _ (91, [(4, .int ((a 95).getD (i 7041).toNatClampNeg 0)), (3, .ref 110), (0, .ref 0), (1, .int x1), (2, .int x2)], [.int (-12)], (0, 0), ks i a q r) (by rfl) ?_
                  have fi_6656 : ((0 : Int) ≤ (i 6656).toInt) ∧ ((i 6656).toInt ≤ 2) := hG.I.1 6656
                  have fi_6784 : ((0 : Int) ≤ (i 6784).toInt) ∧ ((i 6784).toInt ≤ 2) := hG.I.1 6784
                  have fi_6912 : ((0 : Int) ≤ (i 6912).toInt) ∧ ((i 6912).toInt ≤ 2) := hG.I.1 6912
                  have fi_7168 : ((0 : Int) ≤ (i 7168).toInt) ∧ ((i 7168).toInt ≤ 2) := hG.I.1 7168
                  have fi_7296 : ((0 : Int) ≤ (i 7296).toInt) ∧ ((i 7296).toInt ≤ 2) := hG.I.1 7296
                  exact ft_ret mi_k118 (by rfl) (hP (-12) ⟨trivial, ⟨(fun h => absurd (ot160 w128 z2.2 z4.1 z4.2 kot0 kot7) h), (fun h => absurd h (ot161 w128)), (fun h => absurd h (ot162 w128)), (fun h => absurd h (ot163 w128)), (fun h => absurd h (ot164 w128)), (fun h => absurd h (ot165 w128)), (fun h => absurd h (ot166 w128)), (fun h => absurd h (ot167 w128)), (fun h => absurd h (ot168 w128)), (fun h => absurd h (ot169 w128)), (fun h => absurd h (ot178 c131 kot1)), (fun h => absurd h (ot179 c131 z133.1 z133.2 kot1)), (fun _ => (show ((-12) : Int32) = tkV ((a 95).getD (i 7041).toNatClampNeg 0) x2 from (by unfold tkV; rw [if_neg (ot155 w163 z166.1 z166.2.1 z166.2.2.1 z166.2.2.2 z4.1 z4.2 kot0 kot7)]))), (fun h => absurd h (ot172 w128)), (fun h => absurd h (ot173 w128)), (fun h => absurd h (ot174 w128)), (fun h => absurd h (ot175 w128)), (fun h => absurd h (ot176 w128)), (fun h => absurd h (ot177 w128))⟩⟩)
              exact (ot93 r134.1 r134.2 w135 w139 w143 w147 w151 w155 w159 w163).elim
            ·
              subst eg132
              have fi_6017 : ((0 : Int) ≤ (i 6017).toInt) ∧ ((i 6017).toInt ≤ 50) := hG.I.1 6017
              have z167 : ¬ (((0 : Int) ≤ (i 7041).toInt) ∧ ((i 7041).toInt < (i 6017).toInt)) := hg132
              first | refine ft_go mi_k118 2 60 [(3, .ref 110), (0, .ref 0), (1, .int x1), (2, .int x2)] [.int (-12)] i a q r (by rfl) ?_ | refine ko_steps mi_in118 2 _ (60, [(3, .ref 110), (0, .ref 0), (1, .int x1), (2, .int x2)], [.int (-12)], (0, 0), ks i a q r) (by rfl) ?_
              have fi_6656 : ((0 : Int) ≤ (i 6656).toInt) ∧ ((i 6656).toInt ≤ 2) := hG.I.1 6656
              have fi_6784 : ((0 : Int) ≤ (i 6784).toInt) ∧ ((i 6784).toInt ≤ 2) := hG.I.1 6784
              have fi_6912 : ((0 : Int) ≤ (i 6912).toInt) ∧ ((i 6912).toInt ≤ 2) := hG.I.1 6912
              have fi_7168 : ((0 : Int) ≤ (i 7168).toInt) ∧ ((i 7168).toInt ≤ 2) := hG.I.1 7168
              have fi_7296 : ((0 : Int) ≤ (i 7296).toInt) ∧ ((i 7296).toInt ≤ 2) := hG.I.1 7296
              exact ft_ret mi_k118 (by rfl) (hP (-12) ⟨trivial, ⟨(fun h => absurd (ot160 w128 z2.2 z4.1 z4.2 kot0 kot7) h), (fun h => absurd h (ot161 w128)), (fun h => absurd h (ot162 w128)), (fun h => absurd h (ot163 w128)), (fun h => absurd h (ot164 w128)), (fun h => absurd h (ot165 w128)), (fun h => absurd h (ot166 w128)), (fun h => absurd h (ot167 w128)), (fun h => absurd h (ot168 w128)), (fun h => absurd h (ot169 w128)), (fun h => absurd h (ot178 c131 kot1)), (fun _ => (show ((-12) : Int32) = -12 from (by first | rfl | (simp only [sMn, sMx]; done) | (simp only [sMn, sMx]; rfl)))), (fun h => absurd h (ot180 z167)), (fun h => absurd h (ot172 w128)), (fun h => absurd h (ot173 w128)), (fun h => absurd h (ot174 w128)), (fun h => absurd h (ot175 w128)), (fun h => absurd h (ot176 w128)), (fun h => absurd h (ot177 w128))⟩⟩)
        ·
          have c168 : (i 7040).toInt = (0 : Int32).toInt := kd_neF c; clear c
          first | refine ft_go mi_k118 1 35 [(3, .ref 110), (0, .ref 0), (1, .int x1), (2, .int x2)] [.int (-11)] i a q r (by rfl) ?_ | refine ko_steps mi_in118 1 _ (35, [(3, .ref 110), (0, .ref 0), (1, .int x1), (2, .int x2)], [.int (-11)], (0, 0), ks i a q r) (by rfl) ?_
          have fi_6656 : ((0 : Int) ≤ (i 6656).toInt) ∧ ((i 6656).toInt ≤ 2) := hG.I.1 6656
          have fi_6017 : ((0 : Int) ≤ (i 6017).toInt) ∧ ((i 6017).toInt ≤ 50) := hG.I.1 6017
          have fi_6784 : ((0 : Int) ≤ (i 6784).toInt) ∧ ((i 6784).toInt ≤ 2) := hG.I.1 6784
          have fi_6912 : ((0 : Int) ≤ (i 6912).toInt) ∧ ((i 6912).toInt ≤ 2) := hG.I.1 6912
          have fi_7168 : ((0 : Int) ≤ (i 7168).toInt) ∧ ((i 7168).toInt ≤ 2) := hG.I.1 7168
          have fi_7296 : ((0 : Int) ≤ (i 7296).toInt) ∧ ((i 7296).toInt ≤ 2) := hG.I.1 7296
          exact ft_ret mi_k118 (by rfl) (hP (-11) ⟨trivial, ⟨(fun h => absurd (ot160 w128 z2.2 z4.1 z4.2 kot0 kot7) h), (fun h => absurd h (ot161 w128)), (fun h => absurd h (ot162 w128)), (fun h => absurd h (ot163 w128)), (fun h => absurd h (ot164 w128)), (fun h => absurd h (ot165 w128)), (fun h => absurd h (ot166 w128)), (fun h => absurd h (ot167 w128)), (fun h => absurd h (ot168 w128)), (fun h => absurd h (ot169 w128)), (fun _ => (show ((-11) : Int32) = -11 from (by first | rfl | (simp only [sMn, sMx]; done) | (simp only [sMn, sMx]; rfl)))), (fun h => absurd h (ot181 c168 fi_7040.1 kot0)), (fun h => absurd h (ot182 c168 kot0)), (fun h => absurd h (ot172 w128)), (fun h => absurd h (ot173 w128)), (fun h => absurd h (ot174 w128)), (fun h => absurd h (ot175 w128)), (fun h => absurd h (ot176 w128)), (fun h => absurd h (ot177 w128))⟩⟩)
      by_cases w169 : x1.toInt = 4
      ·
        refine ko_eq (x1 := (24, [(0, .ref 0), (1, .int x1), (2, .int x2)], [.int 4, .ref 97], (0, 0), ks i a q r)) (by rw [(kj_eq w169 (by decide) : x1 = 4)]) ?_
        have fi_7168 : ((0 : Int) ≤ (i 7168).toInt) ∧ ((i 7168).toInt ≤ 2) := hG.I.1 7168
        first | refine ft_go mi_k118 4 30 [(3, .ref 112), (0, .ref 0), (1, .int x1), (2, .int x2)] [.int (i 7168)] i a q r (by rfl) ?_ | refine ko_steps mi_in118 4 _ (30, [(3, .ref 112), (0, .ref 0), (1, .int x1), (2, .int x2)], [.int (i 7168)], (0, 0), ks i a q r) (by rfl) ?_
        refine ft_if mi_k118 ((i 7168) != 0) 36 33 [(3, .ref 112), (0, .ref 0), (1, .int x1), (2, .int x2)] [] (by rfl) (fun c => ?_) (fun c => ?_)
        ·
          have c170 : (i 7168).toInt ≠ (0 : Int32).toInt := kd_ne c; clear c
          first | refine ft_go mi_k118 3 41 [(3, .ref 112), (0, .ref 0), (1, .int x1), (2, .int x2)] [.int 1, .int (i 7168)] i a q r (by rfl) ?_ | refine ko_steps mi_in118 3 _ (41, [(3, .ref 112), (0, .ref 0), (1, .int x1), (2, .int x2)], [.int 1, .int (i 7168)], (0, 0), ks i a q r) (by rfl) ?_
          refine ft_if mi_k118 ((i 7168) != 1) 58 44 [(3, .ref 112), (0, .ref 0), (1, .int x1), (2, .int x2)] [] (by rfl) (fun c => ?_) (fun c => ?_)
          ·
            have c171 : (i 7168).toInt ≠ (1 : Int32).toInt := kd_ne c; clear c
            first | refine ft_go mi_k118 1 60 [(3, .ref 112), (0, .ref 0), (1, .int x1), (2, .int x2)] [.int (-12)] i a q r (by rfl) ?_ | refine ko_steps mi_in118 1 _ (60, [(3, .ref 112), (0, .ref 0), (1, .int x1), (2, .int x2)], [.int (-12)], (0, 0), ks i a q r) (by rfl) ?_
            have fi_6656 : ((0 : Int) ≤ (i 6656).toInt) ∧ ((i 6656).toInt ≤ 2) := hG.I.1 6656
            have fi_6017 : ((0 : Int) ≤ (i 6017).toInt) ∧ ((i 6017).toInt ≤ 50) := hG.I.1 6017
            have fi_6784 : ((0 : Int) ≤ (i 6784).toInt) ∧ ((i 6784).toInt ≤ 2) := hG.I.1 6784
            have fi_6912 : ((0 : Int) ≤ (i 6912).toInt) ∧ ((i 6912).toInt ≤ 2) := hG.I.1 6912
            have fi_7040 : ((0 : Int) ≤ (i 7040).toInt) ∧ ((i 7040).toInt ≤ 2) := hG.I.1 7040
            have fi_7296 : ((0 : Int) ≤ (i 7296).toInt) ∧ ((i 7296).toInt ≤ 2) := hG.I.1 7296
            exact ft_ret mi_k118 (by rfl) (hP (-12) ⟨trivial, ⟨(fun h => absurd (ot183 w169 z2.2 z4.1 z4.2 kot0 kot7) h), (fun h => absurd h (ot184 w169)), (fun h => absurd h (ot185 w169)), (fun h => absurd h (ot186 w169)), (fun h => absurd h (ot187 w169)), (fun h => absurd h (ot188 w169)), (fun h => absurd h (ot189 w169)), (fun h => absurd h (ot190 w169)), (fun h => absurd h (ot191 w169)), (fun h => absurd h (ot192 w169)), (fun h => absurd h (ot193 w169)), (fun h => absurd h (ot194 w169)), (fun h => absurd h (ot195 w169)), (fun h => absurd h (ot196 c170 fi_7168.1 kot0)), (fun _ => (show ((-12) : Int32) = -12 from (by first | rfl | (simp only [sMn, sMx]; done) | (simp only [sMn, sMx]; rfl)))), (fun h => absurd h (ot197 c170 c171 fi_7168.1 kot0 kot1)), (fun h => absurd h (ot198 w169)), (fun h => absurd h (ot199 w169)), (fun h => absurd h (ot200 w169))⟩⟩)
          ·
            have c172 : (i 7168).toInt = (1 : Int32).toInt := kd_neF c; clear c
            first | refine ft_go mi_k118 4 52 [(3, .ref 112), (0, .ref 0), (1, .int x1), (2, .int x2)] [.int (i 7169), .ref 94] i a q r (by rfl) ?_ | refine ko_steps mi_in118 4 _ (52, [(3, .ref 112), (0, .ref 0), (1, .int x1), (2, .int x2)], [.int (i 7169), .ref 94], (0, 0), ks i a q r) (by rfl) ?_
            refine ko_callPI mi_k118.1 (pc := 52) (ls := [(3, .ref 112), (0, .ref 0), (1, .int x1), (2, .int x2)]) (st := [.int (i 7169), .ref 94]) (h := ks i a q r) (i := (.invokevirtual 301, 3, 8, 0, 9, 0, 304)) (mi_k118.2 _ _ (by rfl)) (ft_invS mi_pq8 (by rfl)) (cy := mi_c8) mi_pq8 rfl (kc8_94 hG.I hG.R (i 7169)) (by decide) ?_
            intro vg173 hg173
            rcases hg173 with ⟨eg173, hg173⟩ | ⟨eg173, hg173⟩
            ·
              subst eg173
              have fi_6017 : ((0 : Int) ≤ (i 6017).toInt) ∧ ((i 6017).toInt ≤ 50) := hG.I.1 6017
              have z174 : ((0 : Int) ≤ (i 7169).toInt) ∧ ((i 7169).toInt < (i 6017).toInt) := hg173
              first | refine ft_go mi_k118 6 72 [(3, .ref 112), (0, .ref 0), (1, .int x1), (2, .int x2)] [.int (i 7169), .ref 95] i a q r (by rfl) ?_ | refine ko_steps mi_in118 6 _ (72, [(3, .ref 112), (0, .ref 0), (1, .int x1), (2, .int x2)], [.int (i 7169), .ref 95], (0, 0), ks i a q r) (by rfl) ?_
              refine ko_iald3 mi_k118.1 (n := 50) (c := 50) (ax := (0, 0, 0, 0, 0)) (mi_k118.2 _ _ (by rfl)) (by rfl) (ksG95 _ _ _ _) (hG.I.2.1 95) rfl (ot28 z174.1) (ot29 fi_6017.2 z174.2) ?_
              have r175 : ((0 : Int) ≤ ((a 95).getD (i 7169).toNatClampNeg 0).toInt) ∧ (((a 95).getD (i 7169).toNatClampNeg 0).toInt ≤ 7) := hG.I.2.2.1 95 ((i 7169).toNatClampNeg)
              first | refine ft_go mi_k118 3 78 [(4, .int ((a 95).getD (i 7169).toNatClampNeg 0)), (3, .ref 112), (0, .ref 0), (1, .int x1), (2, .int x2)] [.int x2, .int ((a 95).getD (i 7169).toNatClampNeg 0)] i a q r (by rfl) ?_ | refine ko_steps mi_in118 3 _ (78, [(4, .int ((a 95).getD (i 7169).toNatClampNeg 0)), (3, .ref 112), (0, .ref 0), (1, .int x1), (2, .int x2)], [.int x2, .int ((a 95).getD (i 7169).toNatClampNeg 0)], (0, 0), ks i a q r) (by rfl) ?_
              by_cases w176 : ((a 95).getD (i 7169).toNatClampNeg 0).toInt = 0
              ·
                refine ko_eq (x1 := (78, [(4, .int ((a 95).getD (i 7169).toNatClampNeg 0)), (3, .ref 112), (0, .ref 0), (1, .int x1), (2, .int x2)], [.int x2, .int 0], (0, 0), ks i a q r)) (by rw [(kj_eq w176 (by decide) : ((a 95).getD (i 7169).toNatClampNeg 0) = 0)]) ?_
                refine ko_callPI mi_k118.1 (pc := 78) (ls := [(4, .int ((a 95).getD (i 7169).toNatClampNeg 0)), (3, .ref 112), (0, .ref 0), (1, .int x1), (2, .int x2)]) (st := [.int x2, .int 0]) (h := ks i a q r) (i := (.invokestatic 339, 3, 10, 0, 9, 0, 319)) (mi_k118.2 _ _ (by rfl)) (ft_invS mi_pq10 (by rfl)) (cy := mi_c10) mi_pq10 rfl (ke10_l00 hG.I hG.R x2) (by decide) ?_
                intro vg177 hg177
                rcases hg177 with ⟨eg177, hg177⟩ | ⟨eg177, hg177⟩
                ·
                  subst eg177
                  have z178 : x2.toInt = 0 := hg177
                  first | refine ft_go mi_k118 3 91 [(4, .int ((a 95).getD (i 7169).toNatClampNeg 0)), (3, .ref 112), (0, .ref 0), (1, .int x1), (2, .int x2)] [.int ((a 95).getD (i 7169).toNatClampNeg 0)] i a q r (by rfl) ?_ | refine ko_steps mi_in118 3 _ (91, [(4, .int ((a 95).getD (i 7169).toNatClampNeg 0)), (3, .ref 112), (0, .ref 0), (1, .int x1), (2, .int x2)], [.int ((a 95).getD (i 7169).toNatClampNeg 0)], (0, 0), ks i a q r) (by rfl) ?_
                  have fi_6656 : ((0 : Int) ≤ (i 6656).toInt) ∧ ((i 6656).toInt ≤ 2) := hG.I.1 6656
                  have fi_6784 : ((0 : Int) ≤ (i 6784).toInt) ∧ ((i 6784).toInt ≤ 2) := hG.I.1 6784
                  have fi_6912 : ((0 : Int) ≤ (i 6912).toInt) ∧ ((i 6912).toInt ≤ 2) := hG.I.1 6912
                  have fi_7040 : ((0 : Int) ≤ (i 7040).toInt) ∧ ((i 7040).toInt ≤ 2) := hG.I.1 7040
                  have fi_7296 : ((0 : Int) ≤ (i 7296).toInt) ∧ ((i 7296).toInt ≤ 2) := hG.I.1 7296
                  exact ft_ret mi_k118 (by rfl) (hP ((a 95).getD (i 7169).toNatClampNeg 0) ⟨trivial, ⟨(fun h => absurd (ot183 w169 z2.2 z4.1 z4.2 kot0 kot7) h), (fun h => absurd h (ot184 w169)), (fun h => absurd h (ot185 w169)), (fun h => absurd h (ot186 w169)), (fun h => absurd h (ot187 w169)), (fun h => absurd h (ot188 w169)), (fun h => absurd h (ot189 w169)), (fun h => absurd h (ot190 w169)), (fun h => absurd h (ot191 w169)), (fun h => absurd h (ot192 w169)), (fun h => absurd h (ot193 w169)), (fun h => absurd h (ot194 w169)), (fun h => absurd h (ot195 w169)), (fun h => absurd h (ot201 c172 kot1)), (fun h => absurd h (ot202 c172 z174.1 z174.2 kot1)), (fun _ => (show ((a 95).getD (i 7169).toNatClampNeg 0) = tkV ((a 95).getD (i 7169).toNatClampNeg 0) x2 from (by unfold tkV; rw [if_pos (ot36 z178 z4.1 kot0)]))), (fun h => absurd h (ot198 w169)), (fun h => absurd h (ot199 w169)), (fun h => absurd h (ot200 w169))⟩⟩)
                ·
                  subst eg177
                  have z179 : x2.toInt ≠ 0 := hg177
                  first | refine ft_go mi_k118 2 91 [(4, .int ((a 95).getD (i 7169).toNatClampNeg 0)), (3, .ref 112), (0, .ref 0), (1, .int x1), (2, .int x2)] [.int (-12)] i a q r (by rfl) ?_ | refine ko_steps mi_in118 2 _ (91, [(4, .int ((a 95).getD (i 7169).toNatClampNeg 0)), (3, .ref 112), (0, .ref 0), (1, .int x1), (2, .int x2)], [.int (-12)], (0, 0), ks i a q r) (by rfl) ?_
                  have fi_6656 : ((0 : Int) ≤ (i 6656).toInt) ∧ ((i 6656).toInt ≤ 2) := hG.I.1 6656
                  have fi_6784 : ((0 : Int) ≤ (i 6784).toInt) ∧ ((i 6784).toInt ≤ 2) := hG.I.1 6784
                  have fi_6912 : ((0 : Int) ≤ (i 6912).toInt) ∧ ((i 6912).toInt ≤ 2) := hG.I.1 6912
                  have fi_7040 : ((0 : Int) ≤ (i 7040).toInt) ∧ ((i 7040).toInt ≤ 2) := hG.I.1 7040
                  have fi_7296 : ((0 : Int) ≤ (i 7296).toInt) ∧ ((i 7296).toInt ≤ 2) := hG.I.1 7296
                  exact ft_ret mi_k118 (by rfl) (hP (-12) ⟨trivial, ⟨(fun h => absurd (ot183 w169 z2.2 z4.1 z4.2 kot0 kot7) h), (fun h => absurd h (ot184 w169)), (fun h => absurd h (ot185 w169)), (fun h => absurd h (ot186 w169)), (fun h => absurd h (ot187 w169)), (fun h => absurd h (ot188 w169)), (fun h => absurd h (ot189 w169)), (fun h => absurd h (ot190 w169)), (fun h => absurd h (ot191 w169)), (fun h => absurd h (ot192 w169)), (fun h => absurd h (ot193 w169)), (fun h => absurd h (ot194 w169)), (fun h => absurd h (ot195 w169)), (fun h => absurd h (ot201 c172 kot1)), (fun h => absurd h (ot202 c172 z174.1 z174.2 kot1)), (fun _ => (show ((-12) : Int32) = tkV ((a 95).getD (i 7169).toNatClampNeg 0) x2 from (by unfold tkV; rw [if_neg (ot37 w176 z179 z4.1 kot0)]))), (fun h => absurd h (ot198 w169)), (fun h => absurd h (ot199 w169)), (fun h => absurd h (ot200 w169))⟩⟩)
              by_cases w180 : ((a 95).getD (i 7169).toNatClampNeg 0).toInt = 1
              ·
                refine ko_eq (x1 := (78, [(4, .int ((a 95).getD (i 7169).toNatClampNeg 0)), (3, .ref 112), (0, .ref 0), (1, .int x1), (2, .int x2)], [.int x2, .int 1], (0, 0), ks i a q r)) (by rw [(kj_eq w180 (by decide) : ((a 95).getD (i 7169).toNatClampNeg 0) = 1)]) ?_
                refine ko_callPI mi_k118.1 (pc := 78) (ls := [(4, .int ((a 95).getD (i 7169).toNatClampNeg 0)), (3, .ref 112), (0, .ref 0), (1, .int x1), (2, .int x2)]) (st := [.int x2, .int 1]) (h := ks i a q r) (i := (.invokestatic 339, 3, 10, 0, 9, 0, 319)) (mi_k118.2 _ _ (by rfl)) (ft_invS mi_pq10 (by rfl)) (cy := mi_c10) mi_pq10 rfl (ke10_l01 hG.I hG.R x2) (by decide) ?_
                intro vg181 hg181
                rcases hg181 with ⟨eg181, hg181⟩ | ⟨eg181, hg181⟩
                ·
                  subst eg181
                  have z182 : (x2.toInt = 1) ∨ (x2.toInt = 0) := hg181
                  first | refine ft_go mi_k118 3 91 [(4, .int ((a 95).getD (i 7169).toNatClampNeg 0)), (3, .ref 112), (0, .ref 0), (1, .int x1), (2, .int x2)] [.int ((a 95).getD (i 7169).toNatClampNeg 0)] i a q r (by rfl) ?_ | refine ko_steps mi_in118 3 _ (91, [(4, .int ((a 95).getD (i 7169).toNatClampNeg 0)), (3, .ref 112), (0, .ref 0), (1, .int x1), (2, .int x2)], [.int ((a 95).getD (i 7169).toNatClampNeg 0)], (0, 0), ks i a q r) (by rfl) ?_
                  have fi_6656 : ((0 : Int) ≤ (i 6656).toInt) ∧ ((i 6656).toInt ≤ 2) := hG.I.1 6656
                  have fi_6784 : ((0 : Int) ≤ (i 6784).toInt) ∧ ((i 6784).toInt ≤ 2) := hG.I.1 6784
                  have fi_6912 : ((0 : Int) ≤ (i 6912).toInt) ∧ ((i 6912).toInt ≤ 2) := hG.I.1 6912
                  have fi_7040 : ((0 : Int) ≤ (i 7040).toInt) ∧ ((i 7040).toInt ≤ 2) := hG.I.1 7040
                  have fi_7296 : ((0 : Int) ≤ (i 7296).toInt) ∧ ((i 7296).toInt ≤ 2) := hG.I.1 7296
                  exact ft_ret mi_k118 (by rfl) (hP ((a 95).getD (i 7169).toNatClampNeg 0) ⟨trivial, ⟨(fun h => absurd (ot183 w169 z2.2 z4.1 z4.2 kot0 kot7) h), (fun h => absurd h (ot184 w169)), (fun h => absurd h (ot185 w169)), (fun h => absurd h (ot186 w169)), (fun h => absurd h (ot187 w169)), (fun h => absurd h (ot188 w169)), (fun h => absurd h (ot189 w169)), (fun h => absurd h (ot190 w169)), (fun h => absurd h (ot191 w169)), (fun h => absurd h (ot192 w169)), (fun h => absurd h (ot193 w169)), (fun h => absurd h (ot194 w169)), (fun h => absurd h (ot195 w169)), (fun h => absurd h (ot201 c172 kot1)), (fun h => absurd h (ot202 c172 z174.1 z174.2 kot1)), (fun _ => (show ((a 95).getD (i 7169).toNatClampNeg 0) = tkV ((a 95).getD (i 7169).toNatClampNeg 0) x2 from (by unfold tkV; rw [if_pos (ot43 w180 z182 z4.1 kot0)]))), (fun h => absurd h (ot198 w169)), (fun h => absurd h (ot199 w169)), (fun h => absurd h (ot200 w169))⟩⟩)
                ·
                  subst eg181
                  have z183 : (x2.toInt ≠ 1) ∧ (x2.toInt ≠ 0) := hg181
                  first | refine ft_go mi_k118 2 91 [(4, .int ((a 95).getD (i 7169).toNatClampNeg 0)), (3, .ref 112), (0, .ref 0), (1, .int x1), (2, .int x2)] [.int (-12)] i a q r (by rfl) ?_ | refine ko_steps mi_in118 2 _ (91, [(4, .int ((a 95).getD (i 7169).toNatClampNeg 0)), (3, .ref 112), (0, .ref 0), (1, .int x1), (2, .int x2)], [.int (-12)], (0, 0), ks i a q r) (by rfl) ?_
                  have fi_6656 : ((0 : Int) ≤ (i 6656).toInt) ∧ ((i 6656).toInt ≤ 2) := hG.I.1 6656
                  have fi_6784 : ((0 : Int) ≤ (i 6784).toInt) ∧ ((i 6784).toInt ≤ 2) := hG.I.1 6784
                  have fi_6912 : ((0 : Int) ≤ (i 6912).toInt) ∧ ((i 6912).toInt ≤ 2) := hG.I.1 6912
                  have fi_7040 : ((0 : Int) ≤ (i 7040).toInt) ∧ ((i 7040).toInt ≤ 2) := hG.I.1 7040
                  have fi_7296 : ((0 : Int) ≤ (i 7296).toInt) ∧ ((i 7296).toInt ≤ 2) := hG.I.1 7296
                  exact ft_ret mi_k118 (by rfl) (hP (-12) ⟨trivial, ⟨(fun h => absurd (ot183 w169 z2.2 z4.1 z4.2 kot0 kot7) h), (fun h => absurd h (ot184 w169)), (fun h => absurd h (ot185 w169)), (fun h => absurd h (ot186 w169)), (fun h => absurd h (ot187 w169)), (fun h => absurd h (ot188 w169)), (fun h => absurd h (ot189 w169)), (fun h => absurd h (ot190 w169)), (fun h => absurd h (ot191 w169)), (fun h => absurd h (ot192 w169)), (fun h => absurd h (ot193 w169)), (fun h => absurd h (ot194 w169)), (fun h => absurd h (ot195 w169)), (fun h => absurd h (ot201 c172 kot1)), (fun h => absurd h (ot202 c172 z174.1 z174.2 kot1)), (fun _ => (show ((-12) : Int32) = tkV ((a 95).getD (i 7169).toNatClampNeg 0) x2 from (by unfold tkV; rw [if_neg (ot44 w180 z183.1 z183.2 z4.1 kot0)]))), (fun h => absurd h (ot198 w169)), (fun h => absurd h (ot199 w169)), (fun h => absurd h (ot200 w169))⟩⟩)
              by_cases w184 : ((a 95).getD (i 7169).toNatClampNeg 0).toInt = 2
              ·
                refine ko_eq (x1 := (78, [(4, .int ((a 95).getD (i 7169).toNatClampNeg 0)), (3, .ref 112), (0, .ref 0), (1, .int x1), (2, .int x2)], [.int x2, .int 2], (0, 0), ks i a q r)) (by rw [(kj_eq w184 (by decide) : ((a 95).getD (i 7169).toNatClampNeg 0) = 2)]) ?_
                refine ko_callPI mi_k118.1 (pc := 78) (ls := [(4, .int ((a 95).getD (i 7169).toNatClampNeg 0)), (3, .ref 112), (0, .ref 0), (1, .int x1), (2, .int x2)]) (st := [.int x2, .int 2]) (h := ks i a q r) (i := (.invokestatic 339, 3, 10, 0, 9, 0, 319)) (mi_k118.2 _ _ (by rfl)) (ft_invS mi_pq10 (by rfl)) (cy := mi_c10) mi_pq10 rfl (ke10_l02 hG.I hG.R x2) (by decide) ?_
                intro vg185 hg185
                rcases hg185 with ⟨eg185, hg185⟩ | ⟨eg185, hg185⟩
                ·
                  subst eg185
                  have z186 : (x2.toInt = 2) ∨ (x2.toInt = 0) := hg185
                  first | refine ft_go mi_k118 3 91 [(4, .int ((a 95).getD (i 7169).toNatClampNeg 0)), (3, .ref 112), (0, .ref 0), (1, .int x1), (2, .int x2)] [.int ((a 95).getD (i 7169).toNatClampNeg 0)] i a q r (by rfl) ?_ | refine ko_steps mi_in118 3 _ (91, [(4, .int ((a 95).getD (i 7169).toNatClampNeg 0)), (3, .ref 112), (0, .ref 0), (1, .int x1), (2, .int x2)], [.int ((a 95).getD (i 7169).toNatClampNeg 0)], (0, 0), ks i a q r) (by rfl) ?_
                  have fi_6656 : ((0 : Int) ≤ (i 6656).toInt) ∧ ((i 6656).toInt ≤ 2) := hG.I.1 6656
                  have fi_6784 : ((0 : Int) ≤ (i 6784).toInt) ∧ ((i 6784).toInt ≤ 2) := hG.I.1 6784
                  have fi_6912 : ((0 : Int) ≤ (i 6912).toInt) ∧ ((i 6912).toInt ≤ 2) := hG.I.1 6912
                  have fi_7040 : ((0 : Int) ≤ (i 7040).toInt) ∧ ((i 7040).toInt ≤ 2) := hG.I.1 7040
                  have fi_7296 : ((0 : Int) ≤ (i 7296).toInt) ∧ ((i 7296).toInt ≤ 2) := hG.I.1 7296
                  exact ft_ret mi_k118 (by rfl) (hP ((a 95).getD (i 7169).toNatClampNeg 0) ⟨trivial, ⟨(fun h => absurd (ot183 w169 z2.2 z4.1 z4.2 kot0 kot7) h), (fun h => absurd h (ot184 w169)), (fun h => absurd h (ot185 w169)), (fun h => absurd h (ot186 w169)), (fun h => absurd h (ot187 w169)), (fun h => absurd h (ot188 w169)), (fun h => absurd h (ot189 w169)), (fun h => absurd h (ot190 w169)), (fun h => absurd h (ot191 w169)), (fun h => absurd h (ot192 w169)), (fun h => absurd h (ot193 w169)), (fun h => absurd h (ot194 w169)), (fun h => absurd h (ot195 w169)), (fun h => absurd h (ot201 c172 kot1)), (fun h => absurd h (ot202 c172 z174.1 z174.2 kot1)), (fun _ => (show ((a 95).getD (i 7169).toNatClampNeg 0) = tkV ((a 95).getD (i 7169).toNatClampNeg 0) x2 from (by unfold tkV; rw [if_pos (ot50 w184 z186 z4.1 kot0)]))), (fun h => absurd h (ot198 w169)), (fun h => absurd h (ot199 w169)), (fun h => absurd h (ot200 w169))⟩⟩)
                ·
                  subst eg185
                  have z187 : (x2.toInt ≠ 2) ∧ (x2.toInt ≠ 0) := hg185
                  first | refine ft_go mi_k118 2 91 [(4, .int ((a 95).getD (i 7169).toNatClampNeg 0)), (3, .ref 112), (0, .ref 0), (1, .int x1), (2, .int x2)] [.int (-12)] i a q r (by rfl) ?_ | refine ko_steps mi_in118 2 _ (91, [(4, .int ((a 95).getD (i 7169).toNatClampNeg 0)), (3, .ref 112), (0, .ref 0), (1, .int x1), (2, .int x2)], [.int (-12)], (0, 0), ks i a q r) (by rfl) ?_
                  have fi_6656 : ((0 : Int) ≤ (i 6656).toInt) ∧ ((i 6656).toInt ≤ 2) := hG.I.1 6656
                  have fi_6784 : ((0 : Int) ≤ (i 6784).toInt) ∧ ((i 6784).toInt ≤ 2) := hG.I.1 6784
                  have fi_6912 : ((0 : Int) ≤ (i 6912).toInt) ∧ ((i 6912).toInt ≤ 2) := hG.I.1 6912
                  have fi_7040 : ((0 : Int) ≤ (i 7040).toInt) ∧ ((i 7040).toInt ≤ 2) := hG.I.1 7040
                  have fi_7296 : ((0 : Int) ≤ (i 7296).toInt) ∧ ((i 7296).toInt ≤ 2) := hG.I.1 7296
                  exact ft_ret mi_k118 (by rfl) (hP (-12) ⟨trivial, ⟨(fun h => absurd (ot183 w169 z2.2 z4.1 z4.2 kot0 kot7) h), (fun h => absurd h (ot184 w169)), (fun h => absurd h (ot185 w169)), (fun h => absurd h (ot186 w169)), (fun h => absurd h (ot187 w169)), (fun h => absurd h (ot188 w169)), (fun h => absurd h (ot189 w169)), (fun h => absurd h (ot190 w169)), (fun h => absurd h (ot191 w169)), (fun h => absurd h (ot192 w169)), (fun h => absurd h (ot193 w169)), (fun h => absurd h (ot194 w169)), (fun h => absurd h (ot195 w169)), (fun h => absurd h (ot201 c172 kot1)), (fun h => absurd h (ot202 c172 z174.1 z174.2 kot1)), (fun _ => (show ((-12) : Int32) = tkV ((a 95).getD (i 7169).toNatClampNeg 0) x2 from (by unfold tkV; rw [if_neg (ot51 w184 z187.1 z187.2 z4.1 kot0)]))), (fun h => absurd h (ot198 w169)), (fun h => absurd h (ot199 w169)), (fun h => absurd h (ot200 w169))⟩⟩)
              by_cases w188 : ((a 95).getD (i 7169).toNatClampNeg 0).toInt = 3
              ·
                refine ko_eq (x1 := (78, [(4, .int ((a 95).getD (i 7169).toNatClampNeg 0)), (3, .ref 112), (0, .ref 0), (1, .int x1), (2, .int x2)], [.int x2, .int 3], (0, 0), ks i a q r)) (by rw [(kj_eq w188 (by decide) : ((a 95).getD (i 7169).toNatClampNeg 0) = 3)]) ?_
                refine ko_callPI mi_k118.1 (pc := 78) (ls := [(4, .int ((a 95).getD (i 7169).toNatClampNeg 0)), (3, .ref 112), (0, .ref 0), (1, .int x1), (2, .int x2)]) (st := [.int x2, .int 3]) (h := ks i a q r) (i := (.invokestatic 339, 3, 10, 0, 9, 0, 319)) (mi_k118.2 _ _ (by rfl)) (ft_invS mi_pq10 (by rfl)) (cy := mi_c10) mi_pq10 rfl (ke10_l03 hG.I hG.R x2) (by decide) ?_
                intro vg189 hg189
                rcases hg189 with ⟨eg189, hg189⟩ | ⟨eg189, hg189⟩
                ·
                  subst eg189
                  have z190 : (x2.toInt = 3) ∨ (x2.toInt = 2) ∨ (x2.toInt = 0) := hg189
                  first | refine ft_go mi_k118 3 91 [(4, .int ((a 95).getD (i 7169).toNatClampNeg 0)), (3, .ref 112), (0, .ref 0), (1, .int x1), (2, .int x2)] [.int ((a 95).getD (i 7169).toNatClampNeg 0)] i a q r (by rfl) ?_ | refine ko_steps mi_in118 3 _ (91, [(4, .int ((a 95).getD (i 7169).toNatClampNeg 0)), (3, .ref 112), (0, .ref 0), (1, .int x1), (2, .int x2)], [.int ((a 95).getD (i 7169).toNatClampNeg 0)], (0, 0), ks i a q r) (by rfl) ?_
                  have fi_6656 : ((0 : Int) ≤ (i 6656).toInt) ∧ ((i 6656).toInt ≤ 2) := hG.I.1 6656
                  have fi_6784 : ((0 : Int) ≤ (i 6784).toInt) ∧ ((i 6784).toInt ≤ 2) := hG.I.1 6784
                  have fi_6912 : ((0 : Int) ≤ (i 6912).toInt) ∧ ((i 6912).toInt ≤ 2) := hG.I.1 6912
                  have fi_7040 : ((0 : Int) ≤ (i 7040).toInt) ∧ ((i 7040).toInt ≤ 2) := hG.I.1 7040
                  have fi_7296 : ((0 : Int) ≤ (i 7296).toInt) ∧ ((i 7296).toInt ≤ 2) := hG.I.1 7296
                  exact ft_ret mi_k118 (by rfl) (hP ((a 95).getD (i 7169).toNatClampNeg 0) ⟨trivial, ⟨(fun h => absurd (ot183 w169 z2.2 z4.1 z4.2 kot0 kot7) h), (fun h => absurd h (ot184 w169)), (fun h => absurd h (ot185 w169)), (fun h => absurd h (ot186 w169)), (fun h => absurd h (ot187 w169)), (fun h => absurd h (ot188 w169)), (fun h => absurd h (ot189 w169)), (fun h => absurd h (ot190 w169)), (fun h => absurd h (ot191 w169)), (fun h => absurd h (ot192 w169)), (fun h => absurd h (ot193 w169)), (fun h => absurd h (ot194 w169)), (fun h => absurd h (ot195 w169)), (fun h => absurd h (ot201 c172 kot1)), (fun h => absurd h (ot202 c172 z174.1 z174.2 kot1)), (fun _ => (show ((a 95).getD (i 7169).toNatClampNeg 0) = tkV ((a 95).getD (i 7169).toNatClampNeg 0) x2 from (by unfold tkV; rw [if_pos (ot58 w188 z190 z4.1 kot0)]))), (fun h => absurd h (ot198 w169)), (fun h => absurd h (ot199 w169)), (fun h => absurd h (ot200 w169))⟩⟩)
                ·
                  subst eg189
                  have z191 : (x2.toInt ≠ 3) ∧ (x2.toInt ≠ 2) ∧ (x2.toInt ≠ 0) := hg189
                  first | refine ft_go mi_k118 2 91 [(4, .int ((a 95).getD (i 7169).toNatClampNeg 0)), (3, .ref 112), (0, .ref 0), (1, .int x1), (2, .int x2)] [.int (-12)] i a q r (by rfl) ?_ | refine ko_steps mi_in118 2 _ (91, [(4, .int ((a 95).getD (i 7169).toNatClampNeg 0)), (3, .ref 112), (0, .ref 0), (1, .int x1), (2, .int x2)], [.int (-12)], (0, 0), ks i a q r) (by rfl) ?_
                  have fi_6656 : ((0 : Int) ≤ (i 6656).toInt) ∧ ((i 6656).toInt ≤ 2) := hG.I.1 6656
                  have fi_6784 : ((0 : Int) ≤ (i 6784).toInt) ∧ ((i 6784).toInt ≤ 2) := hG.I.1 6784
                  have fi_6912 : ((0 : Int) ≤ (i 6912).toInt) ∧ ((i 6912).toInt ≤ 2) := hG.I.1 6912
                  have fi_7040 : ((0 : Int) ≤ (i 7040).toInt) ∧ ((i 7040).toInt ≤ 2) := hG.I.1 7040
                  have fi_7296 : ((0 : Int) ≤ (i 7296).toInt) ∧ ((i 7296).toInt ≤ 2) := hG.I.1 7296
                  exact ft_ret mi_k118 (by rfl) (hP (-12) ⟨trivial, ⟨(fun h => absurd (ot183 w169 z2.2 z4.1 z4.2 kot0 kot7) h), (fun h => absurd h (ot184 w169)), (fun h => absurd h (ot185 w169)), (fun h => absurd h (ot186 w169)), (fun h => absurd h (ot187 w169)), (fun h => absurd h (ot188 w169)), (fun h => absurd h (ot189 w169)), (fun h => absurd h (ot190 w169)), (fun h => absurd h (ot191 w169)), (fun h => absurd h (ot192 w169)), (fun h => absurd h (ot193 w169)), (fun h => absurd h (ot194 w169)), (fun h => absurd h (ot195 w169)), (fun h => absurd h (ot201 c172 kot1)), (fun h => absurd h (ot202 c172 z174.1 z174.2 kot1)), (fun _ => (show ((-12) : Int32) = tkV ((a 95).getD (i 7169).toNatClampNeg 0) x2 from (by unfold tkV; rw [if_neg (ot59 w188 z191.1 z191.2.1 z191.2.2 z4.1 kot0)]))), (fun h => absurd h (ot198 w169)), (fun h => absurd h (ot199 w169)), (fun h => absurd h (ot200 w169))⟩⟩)
              by_cases w192 : ((a 95).getD (i 7169).toNatClampNeg 0).toInt = 4
              ·
                refine ko_eq (x1 := (78, [(4, .int ((a 95).getD (i 7169).toNatClampNeg 0)), (3, .ref 112), (0, .ref 0), (1, .int x1), (2, .int x2)], [.int x2, .int 4], (0, 0), ks i a q r)) (by rw [(kj_eq w192 (by decide) : ((a 95).getD (i 7169).toNatClampNeg 0) = 4)]) ?_
                refine ko_callPI mi_k118.1 (pc := 78) (ls := [(4, .int ((a 95).getD (i 7169).toNatClampNeg 0)), (3, .ref 112), (0, .ref 0), (1, .int x1), (2, .int x2)]) (st := [.int x2, .int 4]) (h := ks i a q r) (i := (.invokestatic 339, 3, 10, 0, 9, 0, 319)) (mi_k118.2 _ _ (by rfl)) (ft_invS mi_pq10 (by rfl)) (cy := mi_c10) mi_pq10 rfl (ke10_l04 hG.I hG.R x2) (by decide) ?_
                intro vg193 hg193
                rcases hg193 with ⟨eg193, hg193⟩ | ⟨eg193, hg193⟩
                ·
                  subst eg193
                  have z194 : (x2.toInt = 4) ∨ (x2.toInt = 1) ∨ (x2.toInt = 0) := hg193
                  first | refine ft_go mi_k118 3 91 [(4, .int ((a 95).getD (i 7169).toNatClampNeg 0)), (3, .ref 112), (0, .ref 0), (1, .int x1), (2, .int x2)] [.int ((a 95).getD (i 7169).toNatClampNeg 0)] i a q r (by rfl) ?_ | refine ko_steps mi_in118 3 _ (91, [(4, .int ((a 95).getD (i 7169).toNatClampNeg 0)), (3, .ref 112), (0, .ref 0), (1, .int x1), (2, .int x2)], [.int ((a 95).getD (i 7169).toNatClampNeg 0)], (0, 0), ks i a q r) (by rfl) ?_
                  have fi_6656 : ((0 : Int) ≤ (i 6656).toInt) ∧ ((i 6656).toInt ≤ 2) := hG.I.1 6656
                  have fi_6784 : ((0 : Int) ≤ (i 6784).toInt) ∧ ((i 6784).toInt ≤ 2) := hG.I.1 6784
                  have fi_6912 : ((0 : Int) ≤ (i 6912).toInt) ∧ ((i 6912).toInt ≤ 2) := hG.I.1 6912
                  have fi_7040 : ((0 : Int) ≤ (i 7040).toInt) ∧ ((i 7040).toInt ≤ 2) := hG.I.1 7040
                  have fi_7296 : ((0 : Int) ≤ (i 7296).toInt) ∧ ((i 7296).toInt ≤ 2) := hG.I.1 7296
                  exact ft_ret mi_k118 (by rfl) (hP ((a 95).getD (i 7169).toNatClampNeg 0) ⟨trivial, ⟨(fun h => absurd (ot183 w169 z2.2 z4.1 z4.2 kot0 kot7) h), (fun h => absurd h (ot184 w169)), (fun h => absurd h (ot185 w169)), (fun h => absurd h (ot186 w169)), (fun h => absurd h (ot187 w169)), (fun h => absurd h (ot188 w169)), (fun h => absurd h (ot189 w169)), (fun h => absurd h (ot190 w169)), (fun h => absurd h (ot191 w169)), (fun h => absurd h (ot192 w169)), (fun h => absurd h (ot193 w169)), (fun h => absurd h (ot194 w169)), (fun h => absurd h (ot195 w169)), (fun h => absurd h (ot201 c172 kot1)), (fun h => absurd h (ot202 c172 z174.1 z174.2 kot1)), (fun _ => (show ((a 95).getD (i 7169).toNatClampNeg 0) = tkV ((a 95).getD (i 7169).toNatClampNeg 0) x2 from (by unfold tkV; rw [if_pos (ot66 w192 z194 z4.1 kot0)]))), (fun h => absurd h (ot198 w169)), (fun h => absurd h (ot199 w169)), (fun h => absurd h (ot200 w169))⟩⟩)
                ·
                  subst eg193
                  have z195 : (x2.toInt ≠ 4) ∧ (x2.toInt ≠ 1) ∧ (x2.toInt ≠ 0) := hg193
                  first | refine ft_go mi_k118 2 91 [(4, .int ((a 95).getD (i 7169).toNatClampNeg 0)), (3, .ref 112), (0, .ref 0), (1, .int x1), (2, .int x2)] [.int (-12)] i a q r (by rfl) ?_ | refine ko_steps mi_in118 2 _ (91, [(4, .int ((a 95).getD (i 7169).toNatClampNeg 0)), (3, .ref 112), (0, .ref 0), (1, .int x1), (2, .int x2)], [.int (-12)], (0, 0), ks i a q r) (by rfl) ?_
                  have fi_6656 : ((0 : Int) ≤ (i 6656).toInt) ∧ ((i 6656).toInt ≤ 2) := hG.I.1 6656
                  have fi_6784 : ((0 : Int) ≤ (i 6784).toInt) ∧ ((i 6784).toInt ≤ 2) := hG.I.1 6784
                  have fi_6912 : ((0 : Int) ≤ (i 6912).toInt) ∧ ((i 6912).toInt ≤ 2) := hG.I.1 6912
                  have fi_7040 : ((0 : Int) ≤ (i 7040).toInt) ∧ ((i 7040).toInt ≤ 2) := hG.I.1 7040
                  have fi_7296 : ((0 : Int) ≤ (i 7296).toInt) ∧ ((i 7296).toInt ≤ 2) := hG.I.1 7296
                  exact ft_ret mi_k118 (by rfl) (hP (-12) ⟨trivial, ⟨(fun h => absurd (ot183 w169 z2.2 z4.1 z4.2 kot0 kot7) h), (fun h => absurd h (ot184 w169)), (fun h => absurd h (ot185 w169)), (fun h => absurd h (ot186 w169)), (fun h => absurd h (ot187 w169)), (fun h => absurd h (ot188 w169)), (fun h => absurd h (ot189 w169)), (fun h => absurd h (ot190 w169)), (fun h => absurd h (ot191 w169)), (fun h => absurd h (ot192 w169)), (fun h => absurd h (ot193 w169)), (fun h => absurd h (ot194 w169)), (fun h => absurd h (ot195 w169)), (fun h => absurd h (ot201 c172 kot1)), (fun h => absurd h (ot202 c172 z174.1 z174.2 kot1)), (fun _ => (show ((-12) : Int32) = tkV ((a 95).getD (i 7169).toNatClampNeg 0) x2 from (by unfold tkV; rw [if_neg (ot67 w192 z195.1 z195.2.1 z195.2.2 z4.1 kot0)]))), (fun h => absurd h (ot198 w169)), (fun h => absurd h (ot199 w169)), (fun h => absurd h (ot200 w169))⟩⟩)
              by_cases w196 : ((a 95).getD (i 7169).toNatClampNeg 0).toInt = 5
              ·
                refine ko_eq (x1 := (78, [(4, .int ((a 95).getD (i 7169).toNatClampNeg 0)), (3, .ref 112), (0, .ref 0), (1, .int x1), (2, .int x2)], [.int x2, .int 5], (0, 0), ks i a q r)) (by rw [(kj_eq w196 (by decide) : ((a 95).getD (i 7169).toNatClampNeg 0) = 5)]) ?_
                refine ko_callPI mi_k118.1 (pc := 78) (ls := [(4, .int ((a 95).getD (i 7169).toNatClampNeg 0)), (3, .ref 112), (0, .ref 0), (1, .int x1), (2, .int x2)]) (st := [.int x2, .int 5]) (h := ks i a q r) (i := (.invokestatic 339, 3, 10, 0, 9, 0, 319)) (mi_k118.2 _ _ (by rfl)) (ft_invS mi_pq10 (by rfl)) (cy := mi_c10) mi_pq10 rfl (ke10_l05 hG.I hG.R x2) (by decide) ?_
                intro vg197 hg197
                rcases hg197 with ⟨eg197, hg197⟩ | ⟨eg197, hg197⟩
                ·
                  subst eg197
                  have z198 : (x2.toInt = 5) ∨ (x2.toInt = 3) ∨ (x2.toInt = 2) ∨ (x2.toInt = 0) := hg197
                  first | refine ft_go mi_k118 3 91 [(4, .int ((a 95).getD (i 7169).toNatClampNeg 0)), (3, .ref 112), (0, .ref 0), (1, .int x1), (2, .int x2)] [.int ((a 95).getD (i 7169).toNatClampNeg 0)] i a q r (by rfl) ?_ | refine ko_steps mi_in118 3 _ (91, [(4, .int ((a 95).getD (i 7169).toNatClampNeg 0)), (3, .ref 112), (0, .ref 0), (1, .int x1), (2, .int x2)], [.int ((a 95).getD (i 7169).toNatClampNeg 0)], (0, 0), ks i a q r) (by rfl) ?_
                  have fi_6656 : ((0 : Int) ≤ (i 6656).toInt) ∧ ((i 6656).toInt ≤ 2) := hG.I.1 6656
                  have fi_6784 : ((0 : Int) ≤ (i 6784).toInt) ∧ ((i 6784).toInt ≤ 2) := hG.I.1 6784
                  have fi_6912 : ((0 : Int) ≤ (i 6912).toInt) ∧ ((i 6912).toInt ≤ 2) := hG.I.1 6912
                  have fi_7040 : ((0 : Int) ≤ (i 7040).toInt) ∧ ((i 7040).toInt ≤ 2) := hG.I.1 7040
                  have fi_7296 : ((0 : Int) ≤ (i 7296).toInt) ∧ ((i 7296).toInt ≤ 2) := hG.I.1 7296
                  exact ft_ret mi_k118 (by rfl) (hP ((a 95).getD (i 7169).toNatClampNeg 0) ⟨trivial, ⟨(fun h => absurd (ot183 w169 z2.2 z4.1 z4.2 kot0 kot7) h), (fun h => absurd h (ot184 w169)), (fun h => absurd h (ot185 w169)), (fun h => absurd h (ot186 w169)), (fun h => absurd h (ot187 w169)), (fun h => absurd h (ot188 w169)), (fun h => absurd h (ot189 w169)), (fun h => absurd h (ot190 w169)), (fun h => absurd h (ot191 w169)), (fun h => absurd h (ot192 w169)), (fun h => absurd h (ot193 w169)), (fun h => absurd h (ot194 w169)), (fun h => absurd h (ot195 w169)), (fun h => absurd h (ot201 c172 kot1)), (fun h => absurd h (ot202 c172 z174.1 z174.2 kot1)), (fun _ => (show ((a 95).getD (i 7169).toNatClampNeg 0) = tkV ((a 95).getD (i 7169).toNatClampNeg 0) x2 from (by unfold tkV; rw [if_pos (ot75 w196 z198 z4.1 kot0)]))), (fun h => absurd h (ot198 w169)), (fun h => absurd h (ot199 w169)), (fun h => absurd h (ot200 w169))⟩⟩)
                ·
                  subst eg197
                  have z199 : (x2.toInt ≠ 5) ∧ (x2.toInt ≠ 3) ∧ (x2.toInt ≠ 2) ∧ (x2.toInt ≠ 0) := hg197
                  first | refine ft_go mi_k118 2 91 [(4, .int ((a 95).getD (i 7169).toNatClampNeg 0)), (3, .ref 112), (0, .ref 0), (1, .int x1), (2, .int x2)] [.int (-12)] i a q r (by rfl) ?_ | refine ko_steps mi_in118 2 _ (91, [(4, .int ((a 95).getD (i 7169).toNatClampNeg 0)), (3, .ref 112), (0, .ref 0), (1, .int x1), (2, .int x2)], [.int (-12)], (0, 0), ks i a q r) (by rfl) ?_
                  have fi_6656 : ((0 : Int) ≤ (i 6656).toInt) ∧ ((i 6656).toInt ≤ 2) := hG.I.1 6656
                  have fi_6784 : ((0 : Int) ≤ (i 6784).toInt) ∧ ((i 6784).toInt ≤ 2) := hG.I.1 6784
                  have fi_6912 : ((0 : Int) ≤ (i 6912).toInt) ∧ ((i 6912).toInt ≤ 2) := hG.I.1 6912
                  have fi_7040 : ((0 : Int) ≤ (i 7040).toInt) ∧ ((i 7040).toInt ≤ 2) := hG.I.1 7040
                  have fi_7296 : ((0 : Int) ≤ (i 7296).toInt) ∧ ((i 7296).toInt ≤ 2) := hG.I.1 7296
                  exact ft_ret mi_k118 (by rfl) (hP (-12) ⟨trivial, ⟨(fun h => absurd (ot183 w169 z2.2 z4.1 z4.2 kot0 kot7) h), (fun h => absurd h (ot184 w169)), (fun h => absurd h (ot185 w169)), (fun h => absurd h (ot186 w169)), (fun h => absurd h (ot187 w169)), (fun h => absurd h (ot188 w169)), (fun h => absurd h (ot189 w169)), (fun h => absurd h (ot190 w169)), (fun h => absurd h (ot191 w169)), (fun h => absurd h (ot192 w169)), (fun h => absurd h (ot193 w169)), (fun h => absurd h (ot194 w169)), (fun h => absurd h (ot195 w169)), (fun h => absurd h (ot201 c172 kot1)), (fun h => absurd h (ot202 c172 z174.1 z174.2 kot1)), (fun _ => (show ((-12) : Int32) = tkV ((a 95).getD (i 7169).toNatClampNeg 0) x2 from (by unfold tkV; rw [if_neg (ot76 w196 z199.1 z199.2.1 z199.2.2.1 z199.2.2.2 z4.1 kot0)]))), (fun h => absurd h (ot198 w169)), (fun h => absurd h (ot199 w169)), (fun h => absurd h (ot200 w169))⟩⟩)
              by_cases w200 : ((a 95).getD (i 7169).toNatClampNeg 0).toInt = 6
              ·
                refine ko_eq (x1 := (78, [(4, .int ((a 95).getD (i 7169).toNatClampNeg 0)), (3, .ref 112), (0, .ref 0), (1, .int x1), (2, .int x2)], [.int x2, .int 6], (0, 0), ks i a q r)) (by rw [(kj_eq w200 (by decide) : ((a 95).getD (i 7169).toNatClampNeg 0) = 6)]) ?_
                refine ko_callPI mi_k118.1 (pc := 78) (ls := [(4, .int ((a 95).getD (i 7169).toNatClampNeg 0)), (3, .ref 112), (0, .ref 0), (1, .int x1), (2, .int x2)]) (st := [.int x2, .int 6]) (h := ks i a q r) (i := (.invokestatic 339, 3, 10, 0, 9, 0, 319)) (mi_k118.2 _ _ (by rfl)) (ft_invS mi_pq10 (by rfl)) (cy := mi_c10) mi_pq10 rfl (ke10_l06 hG.I hG.R x2) (by decide) ?_
                intro vg201 hg201
                rcases hg201 with ⟨eg201, hg201⟩ | ⟨eg201, hg201⟩
                ·
                  subst eg201
                  have z202 : (x2.toInt = 6) ∨ (x2.toInt = 0) := hg201
                  first | refine ft_go mi_k118 3 91 [(4, .int ((a 95).getD (i 7169).toNatClampNeg 0)), (3, .ref 112), (0, .ref 0), (1, .int x1), (2, .int x2)] [.int ((a 95).getD (i 7169).toNatClampNeg 0)] i a q r (by rfl) ?_ | refine ko_steps mi_in118 3 _ (91, [(4, .int ((a 95).getD (i 7169).toNatClampNeg 0)), (3, .ref 112), (0, .ref 0), (1, .int x1), (2, .int x2)], [.int ((a 95).getD (i 7169).toNatClampNeg 0)], (0, 0), ks i a q r) (by rfl) ?_
                  have fi_6656 : ((0 : Int) ≤ (i 6656).toInt) ∧ ((i 6656).toInt ≤ 2) := hG.I.1 6656
                  have fi_6784 : ((0 : Int) ≤ (i 6784).toInt) ∧ ((i 6784).toInt ≤ 2) := hG.I.1 6784
                  have fi_6912 : ((0 : Int) ≤ (i 6912).toInt) ∧ ((i 6912).toInt ≤ 2) := hG.I.1 6912
                  have fi_7040 : ((0 : Int) ≤ (i 7040).toInt) ∧ ((i 7040).toInt ≤ 2) := hG.I.1 7040
                  have fi_7296 : ((0 : Int) ≤ (i 7296).toInt) ∧ ((i 7296).toInt ≤ 2) := hG.I.1 7296
                  exact ft_ret mi_k118 (by rfl) (hP ((a 95).getD (i 7169).toNatClampNeg 0) ⟨trivial, ⟨(fun h => absurd (ot183 w169 z2.2 z4.1 z4.2 kot0 kot7) h), (fun h => absurd h (ot184 w169)), (fun h => absurd h (ot185 w169)), (fun h => absurd h (ot186 w169)), (fun h => absurd h (ot187 w169)), (fun h => absurd h (ot188 w169)), (fun h => absurd h (ot189 w169)), (fun h => absurd h (ot190 w169)), (fun h => absurd h (ot191 w169)), (fun h => absurd h (ot192 w169)), (fun h => absurd h (ot193 w169)), (fun h => absurd h (ot194 w169)), (fun h => absurd h (ot195 w169)), (fun h => absurd h (ot201 c172 kot1)), (fun h => absurd h (ot202 c172 z174.1 z174.2 kot1)), (fun _ => (show ((a 95).getD (i 7169).toNatClampNeg 0) = tkV ((a 95).getD (i 7169).toNatClampNeg 0) x2 from (by unfold tkV; rw [if_pos (ot82 w200 z202 z4.1 kot0)]))), (fun h => absurd h (ot198 w169)), (fun h => absurd h (ot199 w169)), (fun h => absurd h (ot200 w169))⟩⟩)
                ·
                  subst eg201
                  have z203 : (x2.toInt ≠ 6) ∧ (x2.toInt ≠ 0) := hg201
                  first | refine ft_go mi_k118 2 91 [(4, .int ((a 95).getD (i 7169).toNatClampNeg 0)), (3, .ref 112), (0, .ref 0), (1, .int x1), (2, .int x2)] [.int (-12)] i a q r (by rfl) ?_ | refine ko_steps mi_in118 2 _ (91, [(4, .int ((a 95).getD (i 7169).toNatClampNeg 0)), (3, .ref 112), (0, .ref 0), (1, .int x1), (2, .int x2)], [.int (-12)], (0, 0), ks i a q r) (by rfl) ?_
                  have fi_6656 : ((0 : Int) ≤ (i 6656).toInt) ∧ ((i 6656).toInt ≤ 2) := hG.I.1 6656
                  have fi_6784 : ((0 : Int) ≤ (i 6784).toInt) ∧ ((i 6784).toInt ≤ 2) := hG.I.1 6784
                  have fi_6912 : ((0 : Int) ≤ (i 6912).toInt) ∧ ((i 6912).toInt ≤ 2) := hG.I.1 6912
                  have fi_7040 : ((0 : Int) ≤ (i 7040).toInt) ∧ ((i 7040).toInt ≤ 2) := hG.I.1 7040
                  have fi_7296 : ((0 : Int) ≤ (i 7296).toInt) ∧ ((i 7296).toInt ≤ 2) := hG.I.1 7296
                  exact ft_ret mi_k118 (by rfl) (hP (-12) ⟨trivial, ⟨(fun h => absurd (ot183 w169 z2.2 z4.1 z4.2 kot0 kot7) h), (fun h => absurd h (ot184 w169)), (fun h => absurd h (ot185 w169)), (fun h => absurd h (ot186 w169)), (fun h => absurd h (ot187 w169)), (fun h => absurd h (ot188 w169)), (fun h => absurd h (ot189 w169)), (fun h => absurd h (ot190 w169)), (fun h => absurd h (ot191 w169)), (fun h => absurd h (ot192 w169)), (fun h => absurd h (ot193 w169)), (fun h => absurd h (ot194 w169)), (fun h => absurd h (ot195 w169)), (fun h => absurd h (ot201 c172 kot1)), (fun h => absurd h (ot202 c172 z174.1 z174.2 kot1)), (fun _ => (show ((-12) : Int32) = tkV ((a 95).getD (i 7169).toNatClampNeg 0) x2 from (by unfold tkV; rw [if_neg (ot83 w200 z203.1 z203.2 z4.1 kot0)]))), (fun h => absurd h (ot198 w169)), (fun h => absurd h (ot199 w169)), (fun h => absurd h (ot200 w169))⟩⟩)
              by_cases w204 : ((a 95).getD (i 7169).toNatClampNeg 0).toInt = 7
              ·
                refine ko_eq (x1 := (78, [(4, .int ((a 95).getD (i 7169).toNatClampNeg 0)), (3, .ref 112), (0, .ref 0), (1, .int x1), (2, .int x2)], [.int x2, .int 7], (0, 0), ks i a q r)) (by rw [(kj_eq w204 (by decide) : ((a 95).getD (i 7169).toNatClampNeg 0) = 7)]) ?_
                refine ko_callPI mi_k118.1 (pc := 78) (ls := [(4, .int ((a 95).getD (i 7169).toNatClampNeg 0)), (3, .ref 112), (0, .ref 0), (1, .int x1), (2, .int x2)]) (st := [.int x2, .int 7]) (h := ks i a q r) (i := (.invokestatic 339, 3, 10, 0, 9, 0, 319)) (mi_k118.2 _ _ (by rfl)) (ft_invS mi_pq10 (by rfl)) (cy := mi_c10) mi_pq10 rfl (ke10_l07 hG.I hG.R x2) (by decide) ?_
                intro vg205 hg205
                rcases hg205 with ⟨eg205, hg205⟩ | ⟨eg205, hg205⟩
                ·
                  subst eg205
                  have z206 : (x2.toInt = 7) ∨ (x2.toInt = 4) ∨ (x2.toInt = 1) ∨ (x2.toInt = 0) := hg205
                  first | refine ft_go mi_k118 3 91 [(4, .int ((a 95).getD (i 7169).toNatClampNeg 0)), (3, .ref 112), (0, .ref 0), (1, .int x1), (2, .int x2)] [.int ((a 95).getD (i 7169).toNatClampNeg 0)] i a q r (by rfl) ?_ | refine ko_steps mi_in118 3 _ (91, [(4, .int ((a 95).getD (i 7169).toNatClampNeg 0)), (3, .ref 112), (0, .ref 0), (1, .int x1), (2, .int x2)], [.int ((a 95).getD (i 7169).toNatClampNeg 0)], (0, 0), ks i a q r) (by rfl) ?_
                  have fi_6656 : ((0 : Int) ≤ (i 6656).toInt) ∧ ((i 6656).toInt ≤ 2) := hG.I.1 6656
                  have fi_6784 : ((0 : Int) ≤ (i 6784).toInt) ∧ ((i 6784).toInt ≤ 2) := hG.I.1 6784
                  have fi_6912 : ((0 : Int) ≤ (i 6912).toInt) ∧ ((i 6912).toInt ≤ 2) := hG.I.1 6912
                  have fi_7040 : ((0 : Int) ≤ (i 7040).toInt) ∧ ((i 7040).toInt ≤ 2) := hG.I.1 7040
                  have fi_7296 : ((0 : Int) ≤ (i 7296).toInt) ∧ ((i 7296).toInt ≤ 2) := hG.I.1 7296
                  exact ft_ret mi_k118 (by rfl) (hP ((a 95).getD (i 7169).toNatClampNeg 0) ⟨trivial, ⟨(fun h => absurd (ot183 w169 z2.2 z4.1 z4.2 kot0 kot7) h), (fun h => absurd h (ot184 w169)), (fun h => absurd h (ot185 w169)), (fun h => absurd h (ot186 w169)), (fun h => absurd h (ot187 w169)), (fun h => absurd h (ot188 w169)), (fun h => absurd h (ot189 w169)), (fun h => absurd h (ot190 w169)), (fun h => absurd h (ot191 w169)), (fun h => absurd h (ot192 w169)), (fun h => absurd h (ot193 w169)), (fun h => absurd h (ot194 w169)), (fun h => absurd h (ot195 w169)), (fun h => absurd h (ot201 c172 kot1)), (fun h => absurd h (ot202 c172 z174.1 z174.2 kot1)), (fun _ => (show ((a 95).getD (i 7169).toNatClampNeg 0) = tkV ((a 95).getD (i 7169).toNatClampNeg 0) x2 from (by unfold tkV; rw [if_pos (ot154 r175.2 w204 z206 z4.1 z4.2 kot0 kot7)]))), (fun h => absurd h (ot198 w169)), (fun h => absurd h (ot199 w169)), (fun h => absurd h (ot200 w169))⟩⟩)
                ·
                  subst eg205
                  have z207 : (x2.toInt ≠ 7) ∧ (x2.toInt ≠ 4) ∧ (x2.toInt ≠ 1) ∧ (x2.toInt ≠ 0) := hg205
                  first | refine ft_go mi_k118 2 91 [(4, .int ((a 95).getD (i 7169).toNatClampNeg 0)), (3, .ref 112), (0, .ref 0), (1, .int x1), (2, .int x2)] [.int (-12)] i a q r (by rfl) ?_ | refine ko_steps mi_in118 2 _ (91, [(4, .int ((a 95).getD (i 7169).toNatClampNeg 0)), (3, .ref 112), (0, .ref 0), (1, .int x1), (2, .int x2)], [.int (-12)], (0, 0), ks i a q r) (by rfl) ?_
                  have fi_6656 : ((0 : Int) ≤ (i 6656).toInt) ∧ ((i 6656).toInt ≤ 2) := hG.I.1 6656
                  have fi_6784 : ((0 : Int) ≤ (i 6784).toInt) ∧ ((i 6784).toInt ≤ 2) := hG.I.1 6784
                  have fi_6912 : ((0 : Int) ≤ (i 6912).toInt) ∧ ((i 6912).toInt ≤ 2) := hG.I.1 6912
                  have fi_7040 : ((0 : Int) ≤ (i 7040).toInt) ∧ ((i 7040).toInt ≤ 2) := hG.I.1 7040
                  have fi_7296 : ((0 : Int) ≤ (i 7296).toInt) ∧ ((i 7296).toInt ≤ 2) := hG.I.1 7296
                  exact ft_ret mi_k118 (by rfl) (hP (-12) ⟨trivial, ⟨(fun h => absurd (ot183 w169 z2.2 z4.1 z4.2 kot0 kot7) h), (fun h => absurd h (ot184 w169)), (fun h => absurd h (ot185 w169)), (fun h => absurd h (ot186 w169)), (fun h => absurd h (ot187 w169)), (fun h => absurd h (ot188 w169)), (fun h => absurd h (ot189 w169)), (fun h => absurd h (ot190 w169)), (fun h => absurd h (ot191 w169)), (fun h => absurd h (ot192 w169)), (fun h => absurd h (ot193 w169)), (fun h => absurd h (ot194 w169)), (fun h => absurd h (ot195 w169)), (fun h => absurd h (ot201 c172 kot1)), (fun h => absurd h (ot202 c172 z174.1 z174.2 kot1)), (fun _ => (show ((-12) : Int32) = tkV ((a 95).getD (i 7169).toNatClampNeg 0) x2 from (by unfold tkV; rw [if_neg (ot155 w204 z207.1 z207.2.1 z207.2.2.1 z207.2.2.2 z4.1 z4.2 kot0 kot7)]))), (fun h => absurd h (ot198 w169)), (fun h => absurd h (ot199 w169)), (fun h => absurd h (ot200 w169))⟩⟩)
              exact (ot93 r175.1 r175.2 w176 w180 w184 w188 w192 w196 w200 w204).elim
            ·
              subst eg173
              have fi_6017 : ((0 : Int) ≤ (i 6017).toInt) ∧ ((i 6017).toInt ≤ 50) := hG.I.1 6017
              have z208 : ¬ (((0 : Int) ≤ (i 7169).toInt) ∧ ((i 7169).toInt < (i 6017).toInt)) := hg173
              first | refine ft_go mi_k118 2 60 [(3, .ref 112), (0, .ref 0), (1, .int x1), (2, .int x2)] [.int (-12)] i a q r (by rfl) ?_ | refine ko_steps mi_in118 2 _ (60, [(3, .ref 112), (0, .ref 0), (1, .int x1), (2, .int x2)], [.int (-12)], (0, 0), ks i a q r) (by rfl) ?_
              have fi_6656 : ((0 : Int) ≤ (i 6656).toInt) ∧ ((i 6656).toInt ≤ 2) := hG.I.1 6656
              have fi_6784 : ((0 : Int) ≤ (i 6784).toInt) ∧ ((i 6784).toInt ≤ 2) := hG.I.1 6784
              have fi_6912 : ((0 : Int) ≤ (i 6912).toInt) ∧ ((i 6912).toInt ≤ 2) := hG.I.1 6912
              have fi_7040 : ((0 : Int) ≤ (i 7040).toInt) ∧ ((i 7040).toInt ≤ 2) := hG.I.1 7040
              have fi_7296 : ((0 : Int) ≤ (i 7296).toInt) ∧ ((i 7296).toInt ≤ 2) := hG.I.1 7296
              exact ft_ret mi_k118 (by rfl) (hP (-12) ⟨trivial, ⟨(fun h => absurd (ot183 w169 z2.2 z4.1 z4.2 kot0 kot7) h), (fun h => absurd h (ot184 w169)), (fun h => absurd h (ot185 w169)), (fun h => absurd h (ot186 w169)), (fun h => absurd h (ot187 w169)), (fun h => absurd h (ot188 w169)), (fun h => absurd h (ot189 w169)), (fun h => absurd h (ot190 w169)), (fun h => absurd h (ot191 w169)), (fun h => absurd h (ot192 w169)), (fun h => absurd h (ot193 w169)), (fun h => absurd h (ot194 w169)), (fun h => absurd h (ot195 w169)), (fun h => absurd h (ot201 c172 kot1)), (fun _ => (show ((-12) : Int32) = -12 from (by first | rfl | (simp only [sMn, sMx]; done) | (simp only [sMn, sMx]; rfl)))), (fun h => absurd h (ot203 z208)), (fun h => absurd h (ot198 w169)), (fun h => absurd h (ot199 w169)), (fun h => absurd h (ot200 w169))⟩⟩)
        ·
          have c209 : (i 7168).toInt = (0 : Int32).toInt := kd_neF c; clear c
          first | refine ft_go mi_k118 1 35 [(3, .ref 112), (0, .ref 0), (1, .int x1), (2, .int x2)] [.int (-11)] i a q r (by rfl) ?_ | refine ko_steps mi_in118 1 _ (35, [(3, .ref 112), (0, .ref 0), (1, .int x1), (2, .int x2)], [.int (-11)], (0, 0), ks i a q r) (by rfl) ?_
          have fi_6656 : ((0 : Int) ≤ (i 6656).toInt) ∧ ((i 6656).toInt ≤ 2) := hG.I.1 6656
          have fi_6017 : ((0 : Int) ≤ (i 6017).toInt) ∧ ((i 6017).toInt ≤ 50) := hG.I.1 6017
          have fi_6784 : ((0 : Int) ≤ (i 6784).toInt) ∧ ((i 6784).toInt ≤ 2) := hG.I.1 6784
          have fi_6912 : ((0 : Int) ≤ (i 6912).toInt) ∧ ((i 6912).toInt ≤ 2) := hG.I.1 6912
          have fi_7040 : ((0 : Int) ≤ (i 7040).toInt) ∧ ((i 7040).toInt ≤ 2) := hG.I.1 7040
          have fi_7296 : ((0 : Int) ≤ (i 7296).toInt) ∧ ((i 7296).toInt ≤ 2) := hG.I.1 7296
          exact ft_ret mi_k118 (by rfl) (hP (-11) ⟨trivial, ⟨(fun h => absurd (ot183 w169 z2.2 z4.1 z4.2 kot0 kot7) h), (fun h => absurd h (ot184 w169)), (fun h => absurd h (ot185 w169)), (fun h => absurd h (ot186 w169)), (fun h => absurd h (ot187 w169)), (fun h => absurd h (ot188 w169)), (fun h => absurd h (ot189 w169)), (fun h => absurd h (ot190 w169)), (fun h => absurd h (ot191 w169)), (fun h => absurd h (ot192 w169)), (fun h => absurd h (ot193 w169)), (fun h => absurd h (ot194 w169)), (fun h => absurd h (ot195 w169)), (fun _ => (show ((-11) : Int32) = -11 from (by first | rfl | (simp only [sMn, sMx]; done) | (simp only [sMn, sMx]; rfl)))), (fun h => absurd h (ot204 c209 fi_7168.1 kot0)), (fun h => absurd h (ot205 c209 kot0)), (fun h => absurd h (ot198 w169)), (fun h => absurd h (ot199 w169)), (fun h => absurd h (ot200 w169))⟩⟩)
      by_cases w210 : x1.toInt = 5
      ·
        refine ko_eq (x1 := (24, [(0, .ref 0), (1, .int x1), (2, .int x2)], [.int 5, .ref 97], (0, 0), ks i a q r)) (by rw [(kj_eq w210 (by decide) : x1 = 5)]) ?_
        have fi_7296 : ((0 : Int) ≤ (i 7296).toInt) ∧ ((i 7296).toInt ≤ 2) := hG.I.1 7296
        first | refine ft_go mi_k118 4 30 [(3, .ref 114), (0, .ref 0), (1, .int x1), (2, .int x2)] [.int (i 7296)] i a q r (by rfl) ?_ | refine ko_steps mi_in118 4 _ (30, [(3, .ref 114), (0, .ref 0), (1, .int x1), (2, .int x2)], [.int (i 7296)], (0, 0), ks i a q r) (by rfl) ?_
        refine ft_if mi_k118 ((i 7296) != 0) 36 33 [(3, .ref 114), (0, .ref 0), (1, .int x1), (2, .int x2)] [] (by rfl) (fun c => ?_) (fun c => ?_)
        ·
          have c211 : (i 7296).toInt ≠ (0 : Int32).toInt := kd_ne c; clear c
          first | refine ft_go mi_k118 3 41 [(3, .ref 114), (0, .ref 0), (1, .int x1), (2, .int x2)] [.int 1, .int (i 7296)] i a q r (by rfl) ?_ | refine ko_steps mi_in118 3 _ (41, [(3, .ref 114), (0, .ref 0), (1, .int x1), (2, .int x2)], [.int 1, .int (i 7296)], (0, 0), ks i a q r) (by rfl) ?_
          refine ft_if mi_k118 ((i 7296) != 1) 58 44 [(3, .ref 114), (0, .ref 0), (1, .int x1), (2, .int x2)] [] (by rfl) (fun c => ?_) (fun c => ?_)
          ·
            have c212 : (i 7296).toInt ≠ (1 : Int32).toInt := kd_ne c; clear c
            first | refine ft_go mi_k118 1 60 [(3, .ref 114), (0, .ref 0), (1, .int x1), (2, .int x2)] [.int (-12)] i a q r (by rfl) ?_ | refine ko_steps mi_in118 1 _ (60, [(3, .ref 114), (0, .ref 0), (1, .int x1), (2, .int x2)], [.int (-12)], (0, 0), ks i a q r) (by rfl) ?_
            have fi_6656 : ((0 : Int) ≤ (i 6656).toInt) ∧ ((i 6656).toInt ≤ 2) := hG.I.1 6656
            have fi_6017 : ((0 : Int) ≤ (i 6017).toInt) ∧ ((i 6017).toInt ≤ 50) := hG.I.1 6017
            have fi_6784 : ((0 : Int) ≤ (i 6784).toInt) ∧ ((i 6784).toInt ≤ 2) := hG.I.1 6784
            have fi_6912 : ((0 : Int) ≤ (i 6912).toInt) ∧ ((i 6912).toInt ≤ 2) := hG.I.1 6912
            have fi_7040 : ((0 : Int) ≤ (i 7040).toInt) ∧ ((i 7040).toInt ≤ 2) := hG.I.1 7040
            have fi_7168 : ((0 : Int) ≤ (i 7168).toInt) ∧ ((i 7168).toInt ≤ 2) := hG.I.1 7168
            exact ft_ret mi_k118 (by rfl) (hP (-12) ⟨trivial, ⟨(fun h => absurd (ot206 w210 z2.2 z4.1 z4.2 kot0 kot7) h), (fun h => absurd h (ot207 w210)), (fun h => absurd h (ot208 w210)), (fun h => absurd h (ot209 w210)), (fun h => absurd h (ot210 w210)), (fun h => absurd h (ot211 w210)), (fun h => absurd h (ot212 w210)), (fun h => absurd h (ot213 w210)), (fun h => absurd h (ot214 w210)), (fun h => absurd h (ot215 w210)), (fun h => absurd h (ot216 w210)), (fun h => absurd h (ot217 w210)), (fun h => absurd h (ot218 w210)), (fun h => absurd h (ot219 w210)), (fun h => absurd h (ot220 w210)), (fun h => absurd h (ot221 w210)), (fun h => absurd h (ot222 c211 fi_7296.1 kot0)), (fun _ => (show ((-12) : Int32) = -12 from (by first | rfl | (simp only [sMn, sMx]; done) | (simp only [sMn, sMx]; rfl)))), (fun h => absurd h (ot223 c211 c212 fi_7296.1 kot0 kot1))⟩⟩)
          ·
            have c213 : (i 7296).toInt = (1 : Int32).toInt := kd_neF c; clear c
            first | refine ft_go mi_k118 4 52 [(3, .ref 114), (0, .ref 0), (1, .int x1), (2, .int x2)] [.int (i 7297), .ref 94] i a q r (by rfl) ?_ | refine ko_steps mi_in118 4 _ (52, [(3, .ref 114), (0, .ref 0), (1, .int x1), (2, .int x2)], [.int (i 7297), .ref 94], (0, 0), ks i a q r) (by rfl) ?_
            refine ko_callPI mi_k118.1 (pc := 52) (ls := [(3, .ref 114), (0, .ref 0), (1, .int x1), (2, .int x2)]) (st := [.int (i 7297), .ref 94]) (h := ks i a q r) (i := (.invokevirtual 301, 3, 8, 0, 9, 0, 304)) (mi_k118.2 _ _ (by rfl)) (ft_invS mi_pq8 (by rfl)) (cy := mi_c8) mi_pq8 rfl (kc8_94 hG.I hG.R (i 7297)) (by decide) ?_
            intro vg214 hg214
            rcases hg214 with ⟨eg214, hg214⟩ | ⟨eg214, hg214⟩
            ·
              subst eg214
              have fi_6017 : ((0 : Int) ≤ (i 6017).toInt) ∧ ((i 6017).toInt ≤ 50) := hG.I.1 6017
              have z215 : ((0 : Int) ≤ (i 7297).toInt) ∧ ((i 7297).toInt < (i 6017).toInt) := hg214
              first | refine ft_go mi_k118 6 72 [(3, .ref 114), (0, .ref 0), (1, .int x1), (2, .int x2)] [.int (i 7297), .ref 95] i a q r (by rfl) ?_ | refine ko_steps mi_in118 6 _ (72, [(3, .ref 114), (0, .ref 0), (1, .int x1), (2, .int x2)], [.int (i 7297), .ref 95], (0, 0), ks i a q r) (by rfl) ?_
              refine ko_iald3 mi_k118.1 (n := 50) (c := 50) (ax := (0, 0, 0, 0, 0)) (mi_k118.2 _ _ (by rfl)) (by rfl) (ksG95 _ _ _ _) (hG.I.2.1 95) rfl (ot28 z215.1) (ot29 fi_6017.2 z215.2) ?_
              have r216 : ((0 : Int) ≤ ((a 95).getD (i 7297).toNatClampNeg 0).toInt) ∧ (((a 95).getD (i 7297).toNatClampNeg 0).toInt ≤ 7) := hG.I.2.2.1 95 ((i 7297).toNatClampNeg)
              first | refine ft_go mi_k118 3 78 [(4, .int ((a 95).getD (i 7297).toNatClampNeg 0)), (3, .ref 114), (0, .ref 0), (1, .int x1), (2, .int x2)] [.int x2, .int ((a 95).getD (i 7297).toNatClampNeg 0)] i a q r (by rfl) ?_ | refine ko_steps mi_in118 3 _ (78, [(4, .int ((a 95).getD (i 7297).toNatClampNeg 0)), (3, .ref 114), (0, .ref 0), (1, .int x1), (2, .int x2)], [.int x2, .int ((a 95).getD (i 7297).toNatClampNeg 0)], (0, 0), ks i a q r) (by rfl) ?_
              by_cases w217 : ((a 95).getD (i 7297).toNatClampNeg 0).toInt = 0
              ·
                refine ko_eq (x1 := (78, [(4, .int ((a 95).getD (i 7297).toNatClampNeg 0)), (3, .ref 114), (0, .ref 0), (1, .int x1), (2, .int x2)], [.int x2, .int 0], (0, 0), ks i a q r)) (by rw [(kj_eq w217 (by decide) : ((a 95).getD (i 7297).toNatClampNeg 0) = 0)]) ?_
                refine ko_callPI mi_k118.1 (pc := 78) (ls := [(4, .int ((a 95).getD (i 7297).toNatClampNeg 0)), (3, .ref 114), (0, .ref 0), (1, .int x1), (2, .int x2)]) (st := [.int x2, .int 0]) (h := ks i a q r) (i := (.invokestatic 339, 3, 10, 0, 9, 0, 319)) (mi_k118.2 _ _ (by rfl)) (ft_invS mi_pq10 (by rfl)) (cy := mi_c10) mi_pq10 rfl (ke10_l00 hG.I hG.R x2) (by decide) ?_
                intro vg218 hg218
                rcases hg218 with ⟨eg218, hg218⟩ | ⟨eg218, hg218⟩
                ·
                  subst eg218
                  have z219 : x2.toInt = 0 := hg218
                  first | refine ft_go mi_k118 3 91 [(4, .int ((a 95).getD (i 7297).toNatClampNeg 0)), (3, .ref 114), (0, .ref 0), (1, .int x1), (2, .int x2)] [.int ((a 95).getD (i 7297).toNatClampNeg 0)] i a q r (by rfl) ?_ | refine ko_steps mi_in118 3 _ (91, [(4, .int ((a 95).getD (i 7297).toNatClampNeg 0)), (3, .ref 114), (0, .ref 0), (1, .int x1), (2, .int x2)], [.int ((a 95).getD (i 7297).toNatClampNeg 0)], (0, 0), ks i a q r) (by rfl) ?_
                  have fi_6656 : ((0 : Int) ≤ (i 6656).toInt) ∧ ((i 6656).toInt ≤ 2) := hG.I.1 6656
                  have fi_6784 : ((0 : Int) ≤ (i 6784).toInt) ∧ ((i 6784).toInt ≤ 2) := hG.I.1 6784
                  have fi_6912 : ((0 : Int) ≤ (i 6912).toInt) ∧ ((i 6912).toInt ≤ 2) := hG.I.1 6912
                  have fi_7040 : ((0 : Int) ≤ (i 7040).toInt) ∧ ((i 7040).toInt ≤ 2) := hG.I.1 7040
                  have fi_7168 : ((0 : Int) ≤ (i 7168).toInt) ∧ ((i 7168).toInt ≤ 2) := hG.I.1 7168
                  exact ft_ret mi_k118 (by rfl) (hP ((a 95).getD (i 7297).toNatClampNeg 0) ⟨trivial, ⟨(fun h => absurd (ot206 w210 z2.2 z4.1 z4.2 kot0 kot7) h), (fun h => absurd h (ot207 w210)), (fun h => absurd h (ot208 w210)), (fun h => absurd h (ot209 w210)), (fun h => absurd h (ot210 w210)), (fun h => absurd h (ot211 w210)), (fun h => absurd h (ot212 w210)), (fun h => absurd h (ot213 w210)), (fun h => absurd h (ot214 w210)), (fun h => absurd h (ot215 w210)), (fun h => absurd h (ot216 w210)), (fun h => absurd h (ot217 w210)), (fun h => absurd h (ot218 w210)), (fun h => absurd h (ot219 w210)), (fun h => absurd h (ot220 w210)), (fun h => absurd h (ot221 w210)), (fun h => absurd h (ot224 c213 kot1)), (fun h => absurd h (ot225 c213 z215.1 z215.2 kot1)), (fun _ => (show ((a 95).getD (i 7297).toNatClampNeg 0) = tkV ((a 95).getD (i 7297).toNatClampNeg 0) x2 from (by unfold tkV; rw [if_pos (ot36 z219 z4.1 kot0)])))⟩⟩)
                ·
                  subst eg218
                  have z220 : x2.toInt ≠ 0 := hg218
                  first | refine ft_go mi_k118 2 91 [(4, .int ((a 95).getD (i 7297).toNatClampNeg 0)), (3, .ref 114), (0, .ref 0), (1, .int x1), (2, .int x2)] [.int (-12)] i a q r (by rfl) ?_ | refine ko_steps mi_in118 2 _ (91, [(4, .int ((a 95).getD (i 7297).toNatClampNeg 0)), (3, .ref 114), (0, .ref 0), (1, .int x1), (2, .int x2)], [.int (-12)], (0, 0), ks i a q r) (by rfl) ?_
                  have fi_6656 : ((0 : Int) ≤ (i 6656).toInt) ∧ ((i 6656).toInt ≤ 2) := hG.I.1 6656
                  have fi_6784 : ((0 : Int) ≤ (i 6784).toInt) ∧ ((i 6784).toInt ≤ 2) := hG.I.1 6784
                  have fi_6912 : ((0 : Int) ≤ (i 6912).toInt) ∧ ((i 6912).toInt ≤ 2) := hG.I.1 6912
                  have fi_7040 : ((0 : Int) ≤ (i 7040).toInt) ∧ ((i 7040).toInt ≤ 2) := hG.I.1 7040
                  have fi_7168 : ((0 : Int) ≤ (i 7168).toInt) ∧ ((i 7168).toInt ≤ 2) := hG.I.1 7168
                  exact ft_ret mi_k118 (by rfl) (hP (-12) ⟨trivial, ⟨(fun h => absurd (ot206 w210 z2.2 z4.1 z4.2 kot0 kot7) h), (fun h => absurd h (ot207 w210)), (fun h => absurd h (ot208 w210)), (fun h => absurd h (ot209 w210)), (fun h => absurd h (ot210 w210)), (fun h => absurd h (ot211 w210)), (fun h => absurd h (ot212 w210)), (fun h => absurd h (ot213 w210)), (fun h => absurd h (ot214 w210)), (fun h => absurd h (ot215 w210)), (fun h => absurd h (ot216 w210)), (fun h => absurd h (ot217 w210)), (fun h => absurd h (ot218 w210)), (fun h => absurd h (ot219 w210)), (fun h => absurd h (ot220 w210)), (fun h => absurd h (ot221 w210)), (fun h => absurd h (ot224 c213 kot1)), (fun h => absurd h (ot225 c213 z215.1 z215.2 kot1)), (fun _ => (show ((-12) : Int32) = tkV ((a 95).getD (i 7297).toNatClampNeg 0) x2 from (by unfold tkV; rw [if_neg (ot37 w217 z220 z4.1 kot0)])))⟩⟩)
              by_cases w221 : ((a 95).getD (i 7297).toNatClampNeg 0).toInt = 1
              ·
                refine ko_eq (x1 := (78, [(4, .int ((a 95).getD (i 7297).toNatClampNeg 0)), (3, .ref 114), (0, .ref 0), (1, .int x1), (2, .int x2)], [.int x2, .int 1], (0, 0), ks i a q r)) (by rw [(kj_eq w221 (by decide) : ((a 95).getD (i 7297).toNatClampNeg 0) = 1)]) ?_
                refine ko_callPI mi_k118.1 (pc := 78) (ls := [(4, .int ((a 95).getD (i 7297).toNatClampNeg 0)), (3, .ref 114), (0, .ref 0), (1, .int x1), (2, .int x2)]) (st := [.int x2, .int 1]) (h := ks i a q r) (i := (.invokestatic 339, 3, 10, 0, 9, 0, 319)) (mi_k118.2 _ _ (by rfl)) (ft_invS mi_pq10 (by rfl)) (cy := mi_c10) mi_pq10 rfl (ke10_l01 hG.I hG.R x2) (by decide) ?_
                intro vg222 hg222
                rcases hg222 with ⟨eg222, hg222⟩ | ⟨eg222, hg222⟩
                ·
                  subst eg222
                  have z223 : (x2.toInt = 1) ∨ (x2.toInt = 0) := hg222
                  first | refine ft_go mi_k118 3 91 [(4, .int ((a 95).getD (i 7297).toNatClampNeg 0)), (3, .ref 114), (0, .ref 0), (1, .int x1), (2, .int x2)] [.int ((a 95).getD (i 7297).toNatClampNeg 0)] i a q r (by rfl) ?_ | refine ko_steps mi_in118 3 _ (91, [(4, .int ((a 95).getD (i 7297).toNatClampNeg 0)), (3, .ref 114), (0, .ref 0), (1, .int x1), (2, .int x2)], [.int ((a 95).getD (i 7297).toNatClampNeg 0)], (0, 0), ks i a q r) (by rfl) ?_
                  have fi_6656 : ((0 : Int) ≤ (i 6656).toInt) ∧ ((i 6656).toInt ≤ 2) := hG.I.1 6656
                  have fi_6784 : ((0 : Int) ≤ (i 6784).toInt) ∧ ((i 6784).toInt ≤ 2) := hG.I.1 6784
                  have fi_6912 : ((0 : Int) ≤ (i 6912).toInt) ∧ ((i 6912).toInt ≤ 2) := hG.I.1 6912
                  have fi_7040 : ((0 : Int) ≤ (i 7040).toInt) ∧ ((i 7040).toInt ≤ 2) := hG.I.1 7040
                  have fi_7168 : ((0 : Int) ≤ (i 7168).toInt) ∧ ((i 7168).toInt ≤ 2) := hG.I.1 7168
                  exact ft_ret mi_k118 (by rfl) (hP ((a 95).getD (i 7297).toNatClampNeg 0) ⟨trivial, ⟨(fun h => absurd (ot206 w210 z2.2 z4.1 z4.2 kot0 kot7) h), (fun h => absurd h (ot207 w210)), (fun h => absurd h (ot208 w210)), (fun h => absurd h (ot209 w210)), (fun h => absurd h (ot210 w210)), (fun h => absurd h (ot211 w210)), (fun h => absurd h (ot212 w210)), (fun h => absurd h (ot213 w210)), (fun h => absurd h (ot214 w210)), (fun h => absurd h (ot215 w210)), (fun h => absurd h (ot216 w210)), (fun h => absurd h (ot217 w210)), (fun h => absurd h (ot218 w210)), (fun h => absurd h (ot219 w210)), (fun h => absurd h (ot220 w210)), (fun h => absurd h (ot221 w210)), (fun h => absurd h (ot224 c213 kot1)), (fun h => absurd h (ot225 c213 z215.1 z215.2 kot1)), (fun _ => (show ((a 95).getD (i 7297).toNatClampNeg 0) = tkV ((a 95).getD (i 7297).toNatClampNeg 0) x2 from (by unfold tkV; rw [if_pos (ot43 w221 z223 z4.1 kot0)])))⟩⟩)
                ·
                  subst eg222
                  have z224 : (x2.toInt ≠ 1) ∧ (x2.toInt ≠ 0) := hg222
                  first | refine ft_go mi_k118 2 91 [(4, .int ((a 95).getD (i 7297).toNatClampNeg 0)), (3, .ref 114), (0, .ref 0), (1, .int x1), (2, .int x2)] [.int (-12)] i a q r (by rfl) ?_ | refine ko_steps mi_in118 2 _ (91, [(4, .int ((a 95).getD (i 7297).toNatClampNeg 0)), (3, .ref 114), (0, .ref 0), (1, .int x1), (2, .int x2)], [.int (-12)], (0, 0), ks i a q r) (by rfl) ?_
                  have fi_6656 : ((0 : Int) ≤ (i 6656).toInt) ∧ ((i 6656).toInt ≤ 2) := hG.I.1 6656
                  have fi_6784 : ((0 : Int) ≤ (i 6784).toInt) ∧ ((i 6784).toInt ≤ 2) := hG.I.1 6784
                  have fi_6912 : ((0 : Int) ≤ (i 6912).toInt) ∧ ((i 6912).toInt ≤ 2) := hG.I.1 6912
                  have fi_7040 : ((0 : Int) ≤ (i 7040).toInt) ∧ ((i 7040).toInt ≤ 2) := hG.I.1 7040
                  have fi_7168 : ((0 : Int) ≤ (i 7168).toInt) ∧ ((i 7168).toInt ≤ 2) := hG.I.1 7168
                  exact ft_ret mi_k118 (by rfl) (hP (-12) ⟨trivial, ⟨(fun h => absurd (ot206 w210 z2.2 z4.1 z4.2 kot0 kot7) h), (fun h => absurd h (ot207 w210)), (fun h => absurd h (ot208 w210)), (fun h => absurd h (ot209 w210)), (fun h => absurd h (ot210 w210)), (fun h => absurd h (ot211 w210)), (fun h => absurd h (ot212 w210)), (fun h => absurd h (ot213 w210)), (fun h => absurd h (ot214 w210)), (fun h => absurd h (ot215 w210)), (fun h => absurd h (ot216 w210)), (fun h => absurd h (ot217 w210)), (fun h => absurd h (ot218 w210)), (fun h => absurd h (ot219 w210)), (fun h => absurd h (ot220 w210)), (fun h => absurd h (ot221 w210)), (fun h => absurd h (ot224 c213 kot1)), (fun h => absurd h (ot225 c213 z215.1 z215.2 kot1)), (fun _ => (show ((-12) : Int32) = tkV ((a 95).getD (i 7297).toNatClampNeg 0) x2 from (by unfold tkV; rw [if_neg (ot44 w221 z224.1 z224.2 z4.1 kot0)])))⟩⟩)
              by_cases w225 : ((a 95).getD (i 7297).toNatClampNeg 0).toInt = 2
              ·
                refine ko_eq (x1 := (78, [(4, .int ((a 95).getD (i 7297).toNatClampNeg 0)), (3, .ref 114), (0, .ref 0), (1, .int x1), (2, .int x2)], [.int x2, .int 2], (0, 0), ks i a q r)) (by rw [(kj_eq w225 (by decide) : ((a 95).getD (i 7297).toNatClampNeg 0) = 2)]) ?_
                refine ko_callPI mi_k118.1 (pc := 78) (ls := [(4, .int ((a 95).getD (i 7297).toNatClampNeg 0)), (3, .ref 114), (0, .ref 0), (1, .int x1), (2, .int x2)]) (st := [.int x2, .int 2]) (h := ks i a q r) (i := (.invokestatic 339, 3, 10, 0, 9, 0, 319)) (mi_k118.2 _ _ (by rfl)) (ft_invS mi_pq10 (by rfl)) (cy := mi_c10) mi_pq10 rfl (ke10_l02 hG.I hG.R x2) (by decide) ?_
                intro vg226 hg226
                rcases hg226 with ⟨eg226, hg226⟩ | ⟨eg226, hg226⟩
                ·
                  subst eg226
                  have z227 : (x2.toInt = 2) ∨ (x2.toInt = 0) := hg226
                  first | refine ft_go mi_k118 3 91 [(4, .int ((a 95).getD (i 7297).toNatClampNeg 0)), (3, .ref 114), (0, .ref 0), (1, .int x1), (2, .int x2)] [.int ((a 95).getD (i 7297).toNatClampNeg 0)] i a q r (by rfl) ?_ | refine ko_steps mi_in118 3 _ (91, [(4, .int ((a 95).getD (i 7297).toNatClampNeg 0)), (3, .ref 114), (0, .ref 0), (1, .int x1), (2, .int x2)], [.int ((a 95).getD (i 7297).toNatClampNeg 0)], (0, 0), ks i a q r) (by rfl) ?_
                  have fi_6656 : ((0 : Int) ≤ (i 6656).toInt) ∧ ((i 6656).toInt ≤ 2) := hG.I.1 6656
                  have fi_6784 : ((0 : Int) ≤ (i 6784).toInt) ∧ ((i 6784).toInt ≤ 2) := hG.I.1 6784
                  have fi_6912 : ((0 : Int) ≤ (i 6912).toInt) ∧ ((i 6912).toInt ≤ 2) := hG.I.1 6912
                  have fi_7040 : ((0 : Int) ≤ (i 7040).toInt) ∧ ((i 7040).toInt ≤ 2) := hG.I.1 7040
                  have fi_7168 : ((0 : Int) ≤ (i 7168).toInt) ∧ ((i 7168).toInt ≤ 2) := hG.I.1 7168
                  exact ft_ret mi_k118 (by rfl) (hP ((a 95).getD (i 7297).toNatClampNeg 0) ⟨trivial, ⟨(fun h => absurd (ot206 w210 z2.2 z4.1 z4.2 kot0 kot7) h), (fun h => absurd h (ot207 w210)), (fun h => absurd h (ot208 w210)), (fun h => absurd h (ot209 w210)), (fun h => absurd h (ot210 w210)), (fun h => absurd h (ot211 w210)), (fun h => absurd h (ot212 w210)), (fun h => absurd h (ot213 w210)), (fun h => absurd h (ot214 w210)), (fun h => absurd h (ot215 w210)), (fun h => absurd h (ot216 w210)), (fun h => absurd h (ot217 w210)), (fun h => absurd h (ot218 w210)), (fun h => absurd h (ot219 w210)), (fun h => absurd h (ot220 w210)), (fun h => absurd h (ot221 w210)), (fun h => absurd h (ot224 c213 kot1)), (fun h => absurd h (ot225 c213 z215.1 z215.2 kot1)), (fun _ => (show ((a 95).getD (i 7297).toNatClampNeg 0) = tkV ((a 95).getD (i 7297).toNatClampNeg 0) x2 from (by unfold tkV; rw [if_pos (ot50 w225 z227 z4.1 kot0)])))⟩⟩)
                ·
                  subst eg226
                  have z228 : (x2.toInt ≠ 2) ∧ (x2.toInt ≠ 0) := hg226
                  first | refine ft_go mi_k118 2 91 [(4, .int ((a 95).getD (i 7297).toNatClampNeg 0)), (3, .ref 114), (0, .ref 0), (1, .int x1), (2, .int x2)] [.int (-12)] i a q r (by rfl) ?_ | refine ko_steps mi_in118 2 _ (91, [(4, .int ((a 95).getD (i 7297).toNatClampNeg 0)), (3, .ref 114), (0, .ref 0), (1, .int x1), (2, .int x2)], [.int (-12)], (0, 0), ks i a q r) (by rfl) ?_
                  have fi_6656 : ((0 : Int) ≤ (i 6656).toInt) ∧ ((i 6656).toInt ≤ 2) := hG.I.1 6656
                  have fi_6784 : ((0 : Int) ≤ (i 6784).toInt) ∧ ((i 6784).toInt ≤ 2) := hG.I.1 6784
                  have fi_6912 : ((0 : Int) ≤ (i 6912).toInt) ∧ ((i 6912).toInt ≤ 2) := hG.I.1 6912
                  have fi_7040 : ((0 : Int) ≤ (i 7040).toInt) ∧ ((i 7040).toInt ≤ 2) := hG.I.1 7040
                  have fi_7168 : ((0 : Int) ≤ (i 7168).toInt) ∧ ((i 7168).toInt ≤ 2) := hG.I.1 7168
                  exact ft_ret mi_k118 (by rfl) (hP (-12) ⟨trivial, ⟨(fun h => absurd (ot206 w210 z2.2 z4.1 z4.2 kot0 kot7) h), (fun h => absurd h (ot207 w210)), (fun h => absurd h (ot208 w210)), (fun h => absurd h (ot209 w210)), (fun h => absurd h (ot210 w210)), (fun h => absurd h (ot211 w210)), (fun h => absurd h (ot212 w210)), (fun h => absurd h (ot213 w210)), (fun h => absurd h (ot214 w210)), (fun h => absurd h (ot215 w210)), (fun h => absurd h (ot216 w210)), (fun h => absurd h (ot217 w210)), (fun h => absurd h (ot218 w210)), (fun h => absurd h (ot219 w210)), (fun h => absurd h (ot220 w210)), (fun h => absurd h (ot221 w210)), (fun h => absurd h (ot224 c213 kot1)), (fun h => absurd h (ot225 c213 z215.1 z215.2 kot1)), (fun _ => (show ((-12) : Int32) = tkV ((a 95).getD (i 7297).toNatClampNeg 0) x2 from (by unfold tkV; rw [if_neg (ot51 w225 z228.1 z228.2 z4.1 kot0)])))⟩⟩)
              by_cases w229 : ((a 95).getD (i 7297).toNatClampNeg 0).toInt = 3
              ·
                refine ko_eq (x1 := (78, [(4, .int ((a 95).getD (i 7297).toNatClampNeg 0)), (3, .ref 114), (0, .ref 0), (1, .int x1), (2, .int x2)], [.int x2, .int 3], (0, 0), ks i a q r)) (by rw [(kj_eq w229 (by decide) : ((a 95).getD (i 7297).toNatClampNeg 0) = 3)]) ?_
                refine ko_callPI mi_k118.1 (pc := 78) (ls := [(4, .int ((a 95).getD (i 7297).toNatClampNeg 0)), (3, .ref 114), (0, .ref 0), (1, .int x1), (2, .int x2)]) (st := [.int x2, .int 3]) (h := ks i a q r) (i := (.invokestatic 339, 3, 10, 0, 9, 0, 319)) (mi_k118.2 _ _ (by rfl)) (ft_invS mi_pq10 (by rfl)) (cy := mi_c10) mi_pq10 rfl (ke10_l03 hG.I hG.R x2) (by decide) ?_
                intro vg230 hg230
                rcases hg230 with ⟨eg230, hg230⟩ | ⟨eg230, hg230⟩
                ·
                  subst eg230
                  have z231 : (x2.toInt = 3) ∨ (x2.toInt = 2) ∨ (x2.toInt = 0) := hg230
                  first | refine ft_go mi_k118 3 91 [(4, .int ((a 95).getD (i 7297).toNatClampNeg 0)), (3, .ref 114), (0, .ref 0), (1, .int x1), (2, .int x2)] [.int ((a 95).getD (i 7297).toNatClampNeg 0)] i a q r (by rfl) ?_ | refine ko_steps mi_in118 3 _ (91, [(4, .int ((a 95).getD (i 7297).toNatClampNeg 0)), (3, .ref 114), (0, .ref 0), (1, .int x1), (2, .int x2)], [.int ((a 95).getD (i 7297).toNatClampNeg 0)], (0, 0), ks i a q r) (by rfl) ?_
                  have fi_6656 : ((0 : Int) ≤ (i 6656).toInt) ∧ ((i 6656).toInt ≤ 2) := hG.I.1 6656
                  have fi_6784 : ((0 : Int) ≤ (i 6784).toInt) ∧ ((i 6784).toInt ≤ 2) := hG.I.1 6784
                  have fi_6912 : ((0 : Int) ≤ (i 6912).toInt) ∧ ((i 6912).toInt ≤ 2) := hG.I.1 6912
                  have fi_7040 : ((0 : Int) ≤ (i 7040).toInt) ∧ ((i 7040).toInt ≤ 2) := hG.I.1 7040
                  have fi_7168 : ((0 : Int) ≤ (i 7168).toInt) ∧ ((i 7168).toInt ≤ 2) := hG.I.1 7168
                  exact ft_ret mi_k118 (by rfl) (hP ((a 95).getD (i 7297).toNatClampNeg 0) ⟨trivial, ⟨(fun h => absurd (ot206 w210 z2.2 z4.1 z4.2 kot0 kot7) h), (fun h => absurd h (ot207 w210)), (fun h => absurd h (ot208 w210)), (fun h => absurd h (ot209 w210)), (fun h => absurd h (ot210 w210)), (fun h => absurd h (ot211 w210)), (fun h => absurd h (ot212 w210)), (fun h => absurd h (ot213 w210)), (fun h => absurd h (ot214 w210)), (fun h => absurd h (ot215 w210)), (fun h => absurd h (ot216 w210)), (fun h => absurd h (ot217 w210)), (fun h => absurd h (ot218 w210)), (fun h => absurd h (ot219 w210)), (fun h => absurd h (ot220 w210)), (fun h => absurd h (ot221 w210)), (fun h => absurd h (ot224 c213 kot1)), (fun h => absurd h (ot225 c213 z215.1 z215.2 kot1)), (fun _ => (show ((a 95).getD (i 7297).toNatClampNeg 0) = tkV ((a 95).getD (i 7297).toNatClampNeg 0) x2 from (by unfold tkV; rw [if_pos (ot58 w229 z231 z4.1 kot0)])))⟩⟩)
                ·
                  subst eg230
                  have z232 : (x2.toInt ≠ 3) ∧ (x2.toInt ≠ 2) ∧ (x2.toInt ≠ 0) := hg230
                  first | refine ft_go mi_k118 2 91 [(4, .int ((a 95).getD (i 7297).toNatClampNeg 0)), (3, .ref 114), (0, .ref 0), (1, .int x1), (2, .int x2)] [.int (-12)] i a q r (by rfl) ?_ | refine ko_steps mi_in118 2 _ (91, [(4, .int ((a 95).getD (i 7297).toNatClampNeg 0)), (3, .ref 114), (0, .ref 0), (1, .int x1), (2, .int x2)], [.int (-12)], (0, 0), ks i a q r) (by rfl) ?_
                  have fi_6656 : ((0 : Int) ≤ (i 6656).toInt) ∧ ((i 6656).toInt ≤ 2) := hG.I.1 6656
                  have fi_6784 : ((0 : Int) ≤ (i 6784).toInt) ∧ ((i 6784).toInt ≤ 2) := hG.I.1 6784
                  have fi_6912 : ((0 : Int) ≤ (i 6912).toInt) ∧ ((i 6912).toInt ≤ 2) := hG.I.1 6912
                  have fi_7040 : ((0 : Int) ≤ (i 7040).toInt) ∧ ((i 7040).toInt ≤ 2) := hG.I.1 7040
                  have fi_7168 : ((0 : Int) ≤ (i 7168).toInt) ∧ ((i 7168).toInt ≤ 2) := hG.I.1 7168
                  exact ft_ret mi_k118 (by rfl) (hP (-12) ⟨trivial, ⟨(fun h => absurd (ot206 w210 z2.2 z4.1 z4.2 kot0 kot7) h), (fun h => absurd h (ot207 w210)), (fun h => absurd h (ot208 w210)), (fun h => absurd h (ot209 w210)), (fun h => absurd h (ot210 w210)), (fun h => absurd h (ot211 w210)), (fun h => absurd h (ot212 w210)), (fun h => absurd h (ot213 w210)), (fun h => absurd h (ot214 w210)), (fun h => absurd h (ot215 w210)), (fun h => absurd h (ot216 w210)), (fun h => absurd h (ot217 w210)), (fun h => absurd h (ot218 w210)), (fun h => absurd h (ot219 w210)), (fun h => absurd h (ot220 w210)), (fun h => absurd h (ot221 w210)), (fun h => absurd h (ot224 c213 kot1)), (fun h => absurd h (ot225 c213 z215.1 z215.2 kot1)), (fun _ => (show ((-12) : Int32) = tkV ((a 95).getD (i 7297).toNatClampNeg 0) x2 from (by unfold tkV; rw [if_neg (ot59 w229 z232.1 z232.2.1 z232.2.2 z4.1 kot0)])))⟩⟩)
              by_cases w233 : ((a 95).getD (i 7297).toNatClampNeg 0).toInt = 4
              ·
                refine ko_eq (x1 := (78, [(4, .int ((a 95).getD (i 7297).toNatClampNeg 0)), (3, .ref 114), (0, .ref 0), (1, .int x1), (2, .int x2)], [.int x2, .int 4], (0, 0), ks i a q r)) (by rw [(kj_eq w233 (by decide) : ((a 95).getD (i 7297).toNatClampNeg 0) = 4)]) ?_
                refine ko_callPI mi_k118.1 (pc := 78) (ls := [(4, .int ((a 95).getD (i 7297).toNatClampNeg 0)), (3, .ref 114), (0, .ref 0), (1, .int x1), (2, .int x2)]) (st := [.int x2, .int 4]) (h := ks i a q r) (i := (.invokestatic 339, 3, 10, 0, 9, 0, 319)) (mi_k118.2 _ _ (by rfl)) (ft_invS mi_pq10 (by rfl)) (cy := mi_c10) mi_pq10 rfl (ke10_l04 hG.I hG.R x2) (by decide) ?_
                intro vg234 hg234
                rcases hg234 with ⟨eg234, hg234⟩ | ⟨eg234, hg234⟩
                ·
                  subst eg234
                  have z235 : (x2.toInt = 4) ∨ (x2.toInt = 1) ∨ (x2.toInt = 0) := hg234
                  first | refine ft_go mi_k118 3 91 [(4, .int ((a 95).getD (i 7297).toNatClampNeg 0)), (3, .ref 114), (0, .ref 0), (1, .int x1), (2, .int x2)] [.int ((a 95).getD (i 7297).toNatClampNeg 0)] i a q r (by rfl) ?_ | refine ko_steps mi_in118 3 _ (91, [(4, .int ((a 95).getD (i 7297).toNatClampNeg 0)), (3, .ref 114), (0, .ref 0), (1, .int x1), (2, .int x2)], [.int ((a 95).getD (i 7297).toNatClampNeg 0)], (0, 0), ks i a q r) (by rfl) ?_
                  have fi_6656 : ((0 : Int) ≤ (i 6656).toInt) ∧ ((i 6656).toInt ≤ 2) := hG.I.1 6656
                  have fi_6784 : ((0 : Int) ≤ (i 6784).toInt) ∧ ((i 6784).toInt ≤ 2) := hG.I.1 6784
                  have fi_6912 : ((0 : Int) ≤ (i 6912).toInt) ∧ ((i 6912).toInt ≤ 2) := hG.I.1 6912
                  have fi_7040 : ((0 : Int) ≤ (i 7040).toInt) ∧ ((i 7040).toInt ≤ 2) := hG.I.1 7040
                  have fi_7168 : ((0 : Int) ≤ (i 7168).toInt) ∧ ((i 7168).toInt ≤ 2) := hG.I.1 7168
                  exact ft_ret mi_k118 (by rfl) (hP ((a 95).getD (i 7297).toNatClampNeg 0) ⟨trivial, ⟨(fun h => absurd (ot206 w210 z2.2 z4.1 z4.2 kot0 kot7) h), (fun h => absurd h (ot207 w210)), (fun h => absurd h (ot208 w210)), (fun h => absurd h (ot209 w210)), (fun h => absurd h (ot210 w210)), (fun h => absurd h (ot211 w210)), (fun h => absurd h (ot212 w210)), (fun h => absurd h (ot213 w210)), (fun h => absurd h (ot214 w210)), (fun h => absurd h (ot215 w210)), (fun h => absurd h (ot216 w210)), (fun h => absurd h (ot217 w210)), (fun h => absurd h (ot218 w210)), (fun h => absurd h (ot219 w210)), (fun h => absurd h (ot220 w210)), (fun h => absurd h (ot221 w210)), (fun h => absurd h (ot224 c213 kot1)), (fun h => absurd h (ot225 c213 z215.1 z215.2 kot1)), (fun _ => (show ((a 95).getD (i 7297).toNatClampNeg 0) = tkV ((a 95).getD (i 7297).toNatClampNeg 0) x2 from (by unfold tkV; rw [if_pos (ot66 w233 z235 z4.1 kot0)])))⟩⟩)
                ·
                  subst eg234
                  have z236 : (x2.toInt ≠ 4) ∧ (x2.toInt ≠ 1) ∧ (x2.toInt ≠ 0) := hg234
                  first | refine ft_go mi_k118 2 91 [(4, .int ((a 95).getD (i 7297).toNatClampNeg 0)), (3, .ref 114), (0, .ref 0), (1, .int x1), (2, .int x2)] [.int (-12)] i a q r (by rfl) ?_ | refine ko_steps mi_in118 2 _ (91, [(4, .int ((a 95).getD (i 7297).toNatClampNeg 0)), (3, .ref 114), (0, .ref 0), (1, .int x1), (2, .int x2)], [.int (-12)], (0, 0), ks i a q r) (by rfl) ?_
                  have fi_6656 : ((0 : Int) ≤ (i 6656).toInt) ∧ ((i 6656).toInt ≤ 2) := hG.I.1 6656
                  have fi_6784 : ((0 : Int) ≤ (i 6784).toInt) ∧ ((i 6784).toInt ≤ 2) := hG.I.1 6784
                  have fi_6912 : ((0 : Int) ≤ (i 6912).toInt) ∧ ((i 6912).toInt ≤ 2) := hG.I.1 6912
                  have fi_7040 : ((0 : Int) ≤ (i 7040).toInt) ∧ ((i 7040).toInt ≤ 2) := hG.I.1 7040
                  have fi_7168 : ((0 : Int) ≤ (i 7168).toInt) ∧ ((i 7168).toInt ≤ 2) := hG.I.1 7168
                  exact ft_ret mi_k118 (by rfl) (hP (-12) ⟨trivial, ⟨(fun h => absurd (ot206 w210 z2.2 z4.1 z4.2 kot0 kot7) h), (fun h => absurd h (ot207 w210)), (fun h => absurd h (ot208 w210)), (fun h => absurd h (ot209 w210)), (fun h => absurd h (ot210 w210)), (fun h => absurd h (ot211 w210)), (fun h => absurd h (ot212 w210)), (fun h => absurd h (ot213 w210)), (fun h => absurd h (ot214 w210)), (fun h => absurd h (ot215 w210)), (fun h => absurd h (ot216 w210)), (fun h => absurd h (ot217 w210)), (fun h => absurd h (ot218 w210)), (fun h => absurd h (ot219 w210)), (fun h => absurd h (ot220 w210)), (fun h => absurd h (ot221 w210)), (fun h => absurd h (ot224 c213 kot1)), (fun h => absurd h (ot225 c213 z215.1 z215.2 kot1)), (fun _ => (show ((-12) : Int32) = tkV ((a 95).getD (i 7297).toNatClampNeg 0) x2 from (by unfold tkV; rw [if_neg (ot67 w233 z236.1 z236.2.1 z236.2.2 z4.1 kot0)])))⟩⟩)
              by_cases w237 : ((a 95).getD (i 7297).toNatClampNeg 0).toInt = 5
              ·
                refine ko_eq (x1 := (78, [(4, .int ((a 95).getD (i 7297).toNatClampNeg 0)), (3, .ref 114), (0, .ref 0), (1, .int x1), (2, .int x2)], [.int x2, .int 5], (0, 0), ks i a q r)) (by rw [(kj_eq w237 (by decide) : ((a 95).getD (i 7297).toNatClampNeg 0) = 5)]) ?_
                refine ko_callPI mi_k118.1 (pc := 78) (ls := [(4, .int ((a 95).getD (i 7297).toNatClampNeg 0)), (3, .ref 114), (0, .ref 0), (1, .int x1), (2, .int x2)]) (st := [.int x2, .int 5]) (h := ks i a q r) (i := (.invokestatic 339, 3, 10, 0, 9, 0, 319)) (mi_k118.2 _ _ (by rfl)) (ft_invS mi_pq10 (by rfl)) (cy := mi_c10) mi_pq10 rfl (ke10_l05 hG.I hG.R x2) (by decide) ?_
                intro vg238 hg238
                rcases hg238 with ⟨eg238, hg238⟩ | ⟨eg238, hg238⟩
                ·
                  subst eg238
                  have z239 : (x2.toInt = 5) ∨ (x2.toInt = 3) ∨ (x2.toInt = 2) ∨ (x2.toInt = 0) := hg238
                  first | refine ft_go mi_k118 3 91 [(4, .int ((a 95).getD (i 7297).toNatClampNeg 0)), (3, .ref 114), (0, .ref 0), (1, .int x1), (2, .int x2)] [.int ((a 95).getD (i 7297).toNatClampNeg 0)] i a q r (by rfl) ?_ | refine ko_steps mi_in118 3 _ (91, [(4, .int ((a 95).getD (i 7297).toNatClampNeg 0)), (3, .ref 114), (0, .ref 0), (1, .int x1), (2, .int x2)], [.int ((a 95).getD (i 7297).toNatClampNeg 0)], (0, 0), ks i a q r) (by rfl) ?_
                  have fi_6656 : ((0 : Int) ≤ (i 6656).toInt) ∧ ((i 6656).toInt ≤ 2) := hG.I.1 6656
                  have fi_6784 : ((0 : Int) ≤ (i 6784).toInt) ∧ ((i 6784).toInt ≤ 2) := hG.I.1 6784
                  have fi_6912 : ((0 : Int) ≤ (i 6912).toInt) ∧ ((i 6912).toInt ≤ 2) := hG.I.1 6912
                  have fi_7040 : ((0 : Int) ≤ (i 7040).toInt) ∧ ((i 7040).toInt ≤ 2) := hG.I.1 7040
                  have fi_7168 : ((0 : Int) ≤ (i 7168).toInt) ∧ ((i 7168).toInt ≤ 2) := hG.I.1 7168
                  exact ft_ret mi_k118 (by rfl) (hP ((a 95).getD (i 7297).toNatClampNeg 0) ⟨trivial, ⟨(fun h => absurd (ot206 w210 z2.2 z4.1 z4.2 kot0 kot7) h), (fun h => absurd h (ot207 w210)), (fun h => absurd h (ot208 w210)), (fun h => absurd h (ot209 w210)), (fun h => absurd h (ot210 w210)), (fun h => absurd h (ot211 w210)), (fun h => absurd h (ot212 w210)), (fun h => absurd h (ot213 w210)), (fun h => absurd h (ot214 w210)), (fun h => absurd h (ot215 w210)), (fun h => absurd h (ot216 w210)), (fun h => absurd h (ot217 w210)), (fun h => absurd h (ot218 w210)), (fun h => absurd h (ot219 w210)), (fun h => absurd h (ot220 w210)), (fun h => absurd h (ot221 w210)), (fun h => absurd h (ot224 c213 kot1)), (fun h => absurd h (ot225 c213 z215.1 z215.2 kot1)), (fun _ => (show ((a 95).getD (i 7297).toNatClampNeg 0) = tkV ((a 95).getD (i 7297).toNatClampNeg 0) x2 from (by unfold tkV; rw [if_pos (ot75 w237 z239 z4.1 kot0)])))⟩⟩)
                ·
                  subst eg238
                  have z240 : (x2.toInt ≠ 5) ∧ (x2.toInt ≠ 3) ∧ (x2.toInt ≠ 2) ∧ (x2.toInt ≠ 0) := hg238
                  first | refine ft_go mi_k118 2 91 [(4, .int ((a 95).getD (i 7297).toNatClampNeg 0)), (3, .ref 114), (0, .ref 0), (1, .int x1), (2, .int x2)] [.int (-12)] i a q r (by rfl) ?_ | refine ko_steps mi_in118 2 _ (91, [(4, .int ((a 95).getD (i 7297).toNatClampNeg 0)), (3, .ref 114), (0, .ref 0), (1, .int x1), (2, .int x2)], [.int (-12)], (0, 0), ks i a q r) (by rfl) ?_
                  have fi_6656 : ((0 : Int) ≤ (i 6656).toInt) ∧ ((i 6656).toInt ≤ 2) := hG.I.1 6656
                  have fi_6784 : ((0 : Int) ≤ (i 6784).toInt) ∧ ((i 6784).toInt ≤ 2) := hG.I.1 6784
                  have fi_6912 : ((0 : Int) ≤ (i 6912).toInt) ∧ ((i 6912).toInt ≤ 2) := hG.I.1 6912
                  have fi_7040 : ((0 : Int) ≤ (i 7040).toInt) ∧ ((i 7040).toInt ≤ 2) := hG.I.1 7040
                  have fi_7168 : ((0 : Int) ≤ (i 7168).toInt) ∧ ((i 7168).toInt ≤ 2) := hG.I.1 7168
                  exact ft_ret mi_k118 (by rfl) (hP (-12) ⟨trivial, ⟨(fun h => absurd (ot206 w210 z2.2 z4.1 z4.2 kot0 kot7) h), (fun h => absurd h (ot207 w210)), (fun h => absurd h (ot208 w210)), (fun h => absurd h (ot209 w210)), (fun h => absurd h (ot210 w210)), (fun h => absurd h (ot211 w210)), (fun h => absurd h (ot212 w210)), (fun h => absurd h (ot213 w210)), (fun h => absurd h (ot214 w210)), (fun h => absurd h (ot215 w210)), (fun h => absurd h (ot216 w210)), (fun h => absurd h (ot217 w210)), (fun h => absurd h (ot218 w210)), (fun h => absurd h (ot219 w210)), (fun h => absurd h (ot220 w210)), (fun h => absurd h (ot221 w210)), (fun h => absurd h (ot224 c213 kot1)), (fun h => absurd h (ot225 c213 z215.1 z215.2 kot1)), (fun _ => (show ((-12) : Int32) = tkV ((a 95).getD (i 7297).toNatClampNeg 0) x2 from (by unfold tkV; rw [if_neg (ot76 w237 z240.1 z240.2.1 z240.2.2.1 z240.2.2.2 z4.1 kot0)])))⟩⟩)
              by_cases w241 : ((a 95).getD (i 7297).toNatClampNeg 0).toInt = 6
              ·
                refine ko_eq (x1 := (78, [(4, .int ((a 95).getD (i 7297).toNatClampNeg 0)), (3, .ref 114), (0, .ref 0), (1, .int x1), (2, .int x2)], [.int x2, .int 6], (0, 0), ks i a q r)) (by rw [(kj_eq w241 (by decide) : ((a 95).getD (i 7297).toNatClampNeg 0) = 6)]) ?_
                refine ko_callPI mi_k118.1 (pc := 78) (ls := [(4, .int ((a 95).getD (i 7297).toNatClampNeg 0)), (3, .ref 114), (0, .ref 0), (1, .int x1), (2, .int x2)]) (st := [.int x2, .int 6]) (h := ks i a q r) (i := (.invokestatic 339, 3, 10, 0, 9, 0, 319)) (mi_k118.2 _ _ (by rfl)) (ft_invS mi_pq10 (by rfl)) (cy := mi_c10) mi_pq10 rfl (ke10_l06 hG.I hG.R x2) (by decide) ?_
                intro vg242 hg242
                rcases hg242 with ⟨eg242, hg242⟩ | ⟨eg242, hg242⟩
                ·
                  subst eg242
                  have z243 : (x2.toInt = 6) ∨ (x2.toInt = 0) := hg242
                  first | refine ft_go mi_k118 3 91 [(4, .int ((a 95).getD (i 7297).toNatClampNeg 0)), (3, .ref 114), (0, .ref 0), (1, .int x1), (2, .int x2)] [.int ((a 95).getD (i 7297).toNatClampNeg 0)] i a q r (by rfl) ?_ | refine ko_steps mi_in118 3 _ (91, [(4, .int ((a 95).getD (i 7297).toNatClampNeg 0)), (3, .ref 114), (0, .ref 0), (1, .int x1), (2, .int x2)], [.int ((a 95).getD (i 7297).toNatClampNeg 0)], (0, 0), ks i a q r) (by rfl) ?_
                  have fi_6656 : ((0 : Int) ≤ (i 6656).toInt) ∧ ((i 6656).toInt ≤ 2) := hG.I.1 6656
                  have fi_6784 : ((0 : Int) ≤ (i 6784).toInt) ∧ ((i 6784).toInt ≤ 2) := hG.I.1 6784
                  have fi_6912 : ((0 : Int) ≤ (i 6912).toInt) ∧ ((i 6912).toInt ≤ 2) := hG.I.1 6912
                  have fi_7040 : ((0 : Int) ≤ (i 7040).toInt) ∧ ((i 7040).toInt ≤ 2) := hG.I.1 7040
                  have fi_7168 : ((0 : Int) ≤ (i 7168).toInt) ∧ ((i 7168).toInt ≤ 2) := hG.I.1 7168
                  exact ft_ret mi_k118 (by rfl) (hP ((a 95).getD (i 7297).toNatClampNeg 0) ⟨trivial, ⟨(fun h => absurd (ot206 w210 z2.2 z4.1 z4.2 kot0 kot7) h), (fun h => absurd h (ot207 w210)), (fun h => absurd h (ot208 w210)), (fun h => absurd h (ot209 w210)), (fun h => absurd h (ot210 w210)), (fun h => absurd h (ot211 w210)), (fun h => absurd h (ot212 w210)), (fun h => absurd h (ot213 w210)), (fun h => absurd h (ot214 w210)), (fun h => absurd h (ot215 w210)), (fun h => absurd h (ot216 w210)), (fun h => absurd h (ot217 w210)), (fun h => absurd h (ot218 w210)), (fun h => absurd h (ot219 w210)), (fun h => absurd h (ot220 w210)), (fun h => absurd h (ot221 w210)), (fun h => absurd h (ot224 c213 kot1)), (fun h => absurd h (ot225 c213 z215.1 z215.2 kot1)), (fun _ => (show ((a 95).getD (i 7297).toNatClampNeg 0) = tkV ((a 95).getD (i 7297).toNatClampNeg 0) x2 from (by unfold tkV; rw [if_pos (ot82 w241 z243 z4.1 kot0)])))⟩⟩)
                ·
                  subst eg242
                  have z244 : (x2.toInt ≠ 6) ∧ (x2.toInt ≠ 0) := hg242
                  first | refine ft_go mi_k118 2 91 [(4, .int ((a 95).getD (i 7297).toNatClampNeg 0)), (3, .ref 114), (0, .ref 0), (1, .int x1), (2, .int x2)] [.int (-12)] i a q r (by rfl) ?_ | refine ko_steps mi_in118 2 _ (91, [(4, .int ((a 95).getD (i 7297).toNatClampNeg 0)), (3, .ref 114), (0, .ref 0), (1, .int x1), (2, .int x2)], [.int (-12)], (0, 0), ks i a q r) (by rfl) ?_
                  have fi_6656 : ((0 : Int) ≤ (i 6656).toInt) ∧ ((i 6656).toInt ≤ 2) := hG.I.1 6656
                  have fi_6784 : ((0 : Int) ≤ (i 6784).toInt) ∧ ((i 6784).toInt ≤ 2) := hG.I.1 6784
                  have fi_6912 : ((0 : Int) ≤ (i 6912).toInt) ∧ ((i 6912).toInt ≤ 2) := hG.I.1 6912
                  have fi_7040 : ((0 : Int) ≤ (i 7040).toInt) ∧ ((i 7040).toInt ≤ 2) := hG.I.1 7040
                  have fi_7168 : ((0 : Int) ≤ (i 7168).toInt) ∧ ((i 7168).toInt ≤ 2) := hG.I.1 7168
                  exact ft_ret mi_k118 (by rfl) (hP (-12) ⟨trivial, ⟨(fun h => absurd (ot206 w210 z2.2 z4.1 z4.2 kot0 kot7) h), (fun h => absurd h (ot207 w210)), (fun h => absurd h (ot208 w210)), (fun h => absurd h (ot209 w210)), (fun h => absurd h (ot210 w210)), (fun h => absurd h (ot211 w210)), (fun h => absurd h (ot212 w210)), (fun h => absurd h (ot213 w210)), (fun h => absurd h (ot214 w210)), (fun h => absurd h (ot215 w210)), (fun h => absurd h (ot216 w210)), (fun h => absurd h (ot217 w210)), (fun h => absurd h (ot218 w210)), (fun h => absurd h (ot219 w210)), (fun h => absurd h (ot220 w210)), (fun h => absurd h (ot221 w210)), (fun h => absurd h (ot224 c213 kot1)), (fun h => absurd h (ot225 c213 z215.1 z215.2 kot1)), (fun _ => (show ((-12) : Int32) = tkV ((a 95).getD (i 7297).toNatClampNeg 0) x2 from (by unfold tkV; rw [if_neg (ot83 w241 z244.1 z244.2 z4.1 kot0)])))⟩⟩)
              by_cases w245 : ((a 95).getD (i 7297).toNatClampNeg 0).toInt = 7
              ·
                refine ko_eq (x1 := (78, [(4, .int ((a 95).getD (i 7297).toNatClampNeg 0)), (3, .ref 114), (0, .ref 0), (1, .int x1), (2, .int x2)], [.int x2, .int 7], (0, 0), ks i a q r)) (by rw [(kj_eq w245 (by decide) : ((a 95).getD (i 7297).toNatClampNeg 0) = 7)]) ?_
                refine ko_callPI mi_k118.1 (pc := 78) (ls := [(4, .int ((a 95).getD (i 7297).toNatClampNeg 0)), (3, .ref 114), (0, .ref 0), (1, .int x1), (2, .int x2)]) (st := [.int x2, .int 7]) (h := ks i a q r) (i := (.invokestatic 339, 3, 10, 0, 9, 0, 319)) (mi_k118.2 _ _ (by rfl)) (ft_invS mi_pq10 (by rfl)) (cy := mi_c10) mi_pq10 rfl (ke10_l07 hG.I hG.R x2) (by decide) ?_
                intro vg246 hg246
                rcases hg246 with ⟨eg246, hg246⟩ | ⟨eg246, hg246⟩
                ·
                  subst eg246
                  have z247 : (x2.toInt = 7) ∨ (x2.toInt = 4) ∨ (x2.toInt = 1) ∨ (x2.toInt = 0) := hg246
                  first | refine ft_go mi_k118 3 91 [(4, .int ((a 95).getD (i 7297).toNatClampNeg 0)), (3, .ref 114), (0, .ref 0), (1, .int x1), (2, .int x2)] [.int ((a 95).getD (i 7297).toNatClampNeg 0)] i a q r (by rfl) ?_ | refine ko_steps mi_in118 3 _ (91, [(4, .int ((a 95).getD (i 7297).toNatClampNeg 0)), (3, .ref 114), (0, .ref 0), (1, .int x1), (2, .int x2)], [.int ((a 95).getD (i 7297).toNatClampNeg 0)], (0, 0), ks i a q r) (by rfl) ?_
                  have fi_6656 : ((0 : Int) ≤ (i 6656).toInt) ∧ ((i 6656).toInt ≤ 2) := hG.I.1 6656
                  have fi_6784 : ((0 : Int) ≤ (i 6784).toInt) ∧ ((i 6784).toInt ≤ 2) := hG.I.1 6784
                  have fi_6912 : ((0 : Int) ≤ (i 6912).toInt) ∧ ((i 6912).toInt ≤ 2) := hG.I.1 6912
                  have fi_7040 : ((0 : Int) ≤ (i 7040).toInt) ∧ ((i 7040).toInt ≤ 2) := hG.I.1 7040
                  have fi_7168 : ((0 : Int) ≤ (i 7168).toInt) ∧ ((i 7168).toInt ≤ 2) := hG.I.1 7168
                  exact ft_ret mi_k118 (by rfl) (hP ((a 95).getD (i 7297).toNatClampNeg 0) ⟨trivial, ⟨(fun h => absurd (ot206 w210 z2.2 z4.1 z4.2 kot0 kot7) h), (fun h => absurd h (ot207 w210)), (fun h => absurd h (ot208 w210)), (fun h => absurd h (ot209 w210)), (fun h => absurd h (ot210 w210)), (fun h => absurd h (ot211 w210)), (fun h => absurd h (ot212 w210)), (fun h => absurd h (ot213 w210)), (fun h => absurd h (ot214 w210)), (fun h => absurd h (ot215 w210)), (fun h => absurd h (ot216 w210)), (fun h => absurd h (ot217 w210)), (fun h => absurd h (ot218 w210)), (fun h => absurd h (ot219 w210)), (fun h => absurd h (ot220 w210)), (fun h => absurd h (ot221 w210)), (fun h => absurd h (ot224 c213 kot1)), (fun h => absurd h (ot225 c213 z215.1 z215.2 kot1)), (fun _ => (show ((a 95).getD (i 7297).toNatClampNeg 0) = tkV ((a 95).getD (i 7297).toNatClampNeg 0) x2 from (by unfold tkV; rw [if_pos (ot154 r216.2 w245 z247 z4.1 z4.2 kot0 kot7)])))⟩⟩)
                ·
                  subst eg246
                  have z248 : (x2.toInt ≠ 7) ∧ (x2.toInt ≠ 4) ∧ (x2.toInt ≠ 1) ∧ (x2.toInt ≠ 0) := hg246
                  first | refine ft_go mi_k118 2 91 [(4, .int ((a 95).getD (i 7297).toNatClampNeg 0)), (3, .ref 114), (0, .ref 0), (1, .int x1), (2, .int x2)] [.int (-12)] i a q r (by rfl) ?_ | refine ko_steps mi_in118 2 _ (91, [(4, .int ((a 95).getD (i 7297).toNatClampNeg 0)), (3, .ref 114), (0, .ref 0), (1, .int x1), (2, .int x2)], [.int (-12)], (0, 0), ks i a q r) (by rfl) ?_
                  have fi_6656 : ((0 : Int) ≤ (i 6656).toInt) ∧ ((i 6656).toInt ≤ 2) := hG.I.1 6656
                  have fi_6784 : ((0 : Int) ≤ (i 6784).toInt) ∧ ((i 6784).toInt ≤ 2) := hG.I.1 6784
                  have fi_6912 : ((0 : Int) ≤ (i 6912).toInt) ∧ ((i 6912).toInt ≤ 2) := hG.I.1 6912
                  have fi_7040 : ((0 : Int) ≤ (i 7040).toInt) ∧ ((i 7040).toInt ≤ 2) := hG.I.1 7040
                  have fi_7168 : ((0 : Int) ≤ (i 7168).toInt) ∧ ((i 7168).toInt ≤ 2) := hG.I.1 7168
                  exact ft_ret mi_k118 (by rfl) (hP (-12) ⟨trivial, ⟨(fun h => absurd (ot206 w210 z2.2 z4.1 z4.2 kot0 kot7) h), (fun h => absurd h (ot207 w210)), (fun h => absurd h (ot208 w210)), (fun h => absurd h (ot209 w210)), (fun h => absurd h (ot210 w210)), (fun h => absurd h (ot211 w210)), (fun h => absurd h (ot212 w210)), (fun h => absurd h (ot213 w210)), (fun h => absurd h (ot214 w210)), (fun h => absurd h (ot215 w210)), (fun h => absurd h (ot216 w210)), (fun h => absurd h (ot217 w210)), (fun h => absurd h (ot218 w210)), (fun h => absurd h (ot219 w210)), (fun h => absurd h (ot220 w210)), (fun h => absurd h (ot221 w210)), (fun h => absurd h (ot224 c213 kot1)), (fun h => absurd h (ot225 c213 z215.1 z215.2 kot1)), (fun _ => (show ((-12) : Int32) = tkV ((a 95).getD (i 7297).toNatClampNeg 0) x2 from (by unfold tkV; rw [if_neg (ot155 w245 z248.1 z248.2.1 z248.2.2.1 z248.2.2.2 z4.1 z4.2 kot0 kot7)])))⟩⟩)
              exact (ot93 r216.1 r216.2 w217 w221 w225 w229 w233 w237 w241 w245).elim
            ·
              subst eg214
              have fi_6017 : ((0 : Int) ≤ (i 6017).toInt) ∧ ((i 6017).toInt ≤ 50) := hG.I.1 6017
              have z249 : ¬ (((0 : Int) ≤ (i 7297).toInt) ∧ ((i 7297).toInt < (i 6017).toInt)) := hg214
              first | refine ft_go mi_k118 2 60 [(3, .ref 114), (0, .ref 0), (1, .int x1), (2, .int x2)] [.int (-12)] i a q r (by rfl) ?_ | refine ko_steps mi_in118 2 _ (60, [(3, .ref 114), (0, .ref 0), (1, .int x1), (2, .int x2)], [.int (-12)], (0, 0), ks i a q r) (by rfl) ?_
              have fi_6656 : ((0 : Int) ≤ (i 6656).toInt) ∧ ((i 6656).toInt ≤ 2) := hG.I.1 6656
              have fi_6784 : ((0 : Int) ≤ (i 6784).toInt) ∧ ((i 6784).toInt ≤ 2) := hG.I.1 6784
              have fi_6912 : ((0 : Int) ≤ (i 6912).toInt) ∧ ((i 6912).toInt ≤ 2) := hG.I.1 6912
              have fi_7040 : ((0 : Int) ≤ (i 7040).toInt) ∧ ((i 7040).toInt ≤ 2) := hG.I.1 7040
              have fi_7168 : ((0 : Int) ≤ (i 7168).toInt) ∧ ((i 7168).toInt ≤ 2) := hG.I.1 7168
              exact ft_ret mi_k118 (by rfl) (hP (-12) ⟨trivial, ⟨(fun h => absurd (ot206 w210 z2.2 z4.1 z4.2 kot0 kot7) h), (fun h => absurd h (ot207 w210)), (fun h => absurd h (ot208 w210)), (fun h => absurd h (ot209 w210)), (fun h => absurd h (ot210 w210)), (fun h => absurd h (ot211 w210)), (fun h => absurd h (ot212 w210)), (fun h => absurd h (ot213 w210)), (fun h => absurd h (ot214 w210)), (fun h => absurd h (ot215 w210)), (fun h => absurd h (ot216 w210)), (fun h => absurd h (ot217 w210)), (fun h => absurd h (ot218 w210)), (fun h => absurd h (ot219 w210)), (fun h => absurd h (ot220 w210)), (fun h => absurd h (ot221 w210)), (fun h => absurd h (ot224 c213 kot1)), (fun _ => (show ((-12) : Int32) = -12 from (by first | rfl | (simp only [sMn, sMx]; done) | (simp only [sMn, sMx]; rfl)))), (fun h => absurd h (ot226 z249))⟩⟩)
        ·
          have c250 : (i 7296).toInt = (0 : Int32).toInt := kd_neF c; clear c
          first | refine ft_go mi_k118 1 35 [(3, .ref 114), (0, .ref 0), (1, .int x1), (2, .int x2)] [.int (-11)] i a q r (by rfl) ?_ | refine ko_steps mi_in118 1 _ (35, [(3, .ref 114), (0, .ref 0), (1, .int x1), (2, .int x2)], [.int (-11)], (0, 0), ks i a q r) (by rfl) ?_
          have fi_6656 : ((0 : Int) ≤ (i 6656).toInt) ∧ ((i 6656).toInt ≤ 2) := hG.I.1 6656
          have fi_6017 : ((0 : Int) ≤ (i 6017).toInt) ∧ ((i 6017).toInt ≤ 50) := hG.I.1 6017
          have fi_6784 : ((0 : Int) ≤ (i 6784).toInt) ∧ ((i 6784).toInt ≤ 2) := hG.I.1 6784
          have fi_6912 : ((0 : Int) ≤ (i 6912).toInt) ∧ ((i 6912).toInt ≤ 2) := hG.I.1 6912
          have fi_7040 : ((0 : Int) ≤ (i 7040).toInt) ∧ ((i 7040).toInt ≤ 2) := hG.I.1 7040
          have fi_7168 : ((0 : Int) ≤ (i 7168).toInt) ∧ ((i 7168).toInt ≤ 2) := hG.I.1 7168
          exact ft_ret mi_k118 (by rfl) (hP (-11) ⟨trivial, ⟨(fun h => absurd (ot206 w210 z2.2 z4.1 z4.2 kot0 kot7) h), (fun h => absurd h (ot207 w210)), (fun h => absurd h (ot208 w210)), (fun h => absurd h (ot209 w210)), (fun h => absurd h (ot210 w210)), (fun h => absurd h (ot211 w210)), (fun h => absurd h (ot212 w210)), (fun h => absurd h (ot213 w210)), (fun h => absurd h (ot214 w210)), (fun h => absurd h (ot215 w210)), (fun h => absurd h (ot216 w210)), (fun h => absurd h (ot217 w210)), (fun h => absurd h (ot218 w210)), (fun h => absurd h (ot219 w210)), (fun h => absurd h (ot220 w210)), (fun h => absurd h (ot221 w210)), (fun _ => (show ((-11) : Int32) = -11 from (by first | rfl | (simp only [sMn, sMx]; done) | (simp only [sMn, sMx]; rfl)))), (fun h => absurd h (ot227 c250 fi_7296.1 kot0)), (fun h => absurd h (ot228 c250 kot0))⟩⟩)
      exact (ot229 w128 w169 w210 w46 w5 w87 z2.1 z2.2).elim
    ·
      subst eg3
      have z251 : ¬ (((0 : Int32).toInt ≤ x2.toInt) ∧ (x2.toInt ≤ (7 : Int32).toInt)) := hg3
      first | refine ft_go mi_k118 2 18 [(0, .ref 0), (1, .int x1), (2, .int x2)] [.int (-1)] i a q r (by rfl) ?_ | refine ko_steps mi_in118 2 _ (18, [(0, .ref 0), (1, .int x1), (2, .int x2)], [.int (-1)], (0, 0), ks i a q r) (by rfl) ?_
      have fi_6656 : ((0 : Int) ≤ (i 6656).toInt) ∧ ((i 6656).toInt ≤ 2) := hG.I.1 6656
      have fi_6017 : ((0 : Int) ≤ (i 6017).toInt) ∧ ((i 6017).toInt ≤ 50) := hG.I.1 6017
      have fi_6784 : ((0 : Int) ≤ (i 6784).toInt) ∧ ((i 6784).toInt ≤ 2) := hG.I.1 6784
      have fi_6912 : ((0 : Int) ≤ (i 6912).toInt) ∧ ((i 6912).toInt ≤ 2) := hG.I.1 6912
      have fi_7040 : ((0 : Int) ≤ (i 7040).toInt) ∧ ((i 7040).toInt ≤ 2) := hG.I.1 7040
      have fi_7168 : ((0 : Int) ≤ (i 7168).toInt) ∧ ((i 7168).toInt ≤ 2) := hG.I.1 7168
      have fi_7296 : ((0 : Int) ≤ (i 7296).toInt) ∧ ((i 7296).toInt ≤ 2) := hG.I.1 7296
      exact ft_ret mi_k118 (by rfl) (hP (-1) ⟨trivial, ⟨(fun _ => (show ((-1) : Int32) = -1 from (by first | rfl | (simp only [sMn, sMx]; done) | (simp only [sMn, sMx]; rfl)))), (fun h => absurd h (ot230 z251 kot0 kot7)), (fun h => absurd h (ot231 z251 kot0 kot7)), (fun h => absurd h (ot232 z251 kot0 kot7)), (fun h => absurd h (ot233 z251 kot0 kot7)), (fun h => absurd h (ot234 z251 kot0 kot7)), (fun h => absurd h (ot235 z251 kot0 kot7)), (fun h => absurd h (ot236 z251 kot0 kot7)), (fun h => absurd h (ot237 z251 kot0 kot7)), (fun h => absurd h (ot238 z251 kot0 kot7)), (fun h => absurd h (ot239 z251 kot0 kot7)), (fun h => absurd h (ot240 z251 kot0 kot7)), (fun h => absurd h (ot241 z251 kot0 kot7)), (fun h => absurd h (ot242 z251 kot0 kot7)), (fun h => absurd h (ot243 z251 kot0 kot7)), (fun h => absurd h (ot244 z251 kot0 kot7)), (fun h => absurd h (ot245 z251 kot0 kot7)), (fun h => absurd h (ot246 z251 kot0 kot7)), (fun h => absurd h (ot247 z251 kot0 kot7))⟩⟩)
  ·
    subst eg1
    have z252 : ¬ (((0 : Int) ≤ x1.toInt) ∧ (x1.toInt ≤ 5)) := hg1
    first | refine ft_go mi_k118 2 18 [(0, .ref 0), (1, .int x1), (2, .int x2)] [.int (-1)] i a q r (by rfl) ?_ | refine ko_steps mi_in118 2 _ (18, [(0, .ref 0), (1, .int x1), (2, .int x2)], [.int (-1)], (0, 0), ks i a q r) (by rfl) ?_
    have fi_6656 : ((0 : Int) ≤ (i 6656).toInt) ∧ ((i 6656).toInt ≤ 2) := hG.I.1 6656
    have fi_6017 : ((0 : Int) ≤ (i 6017).toInt) ∧ ((i 6017).toInt ≤ 50) := hG.I.1 6017
    have fi_6784 : ((0 : Int) ≤ (i 6784).toInt) ∧ ((i 6784).toInt ≤ 2) := hG.I.1 6784
    have fi_6912 : ((0 : Int) ≤ (i 6912).toInt) ∧ ((i 6912).toInt ≤ 2) := hG.I.1 6912
    have fi_7040 : ((0 : Int) ≤ (i 7040).toInt) ∧ ((i 7040).toInt ≤ 2) := hG.I.1 7040
    have fi_7168 : ((0 : Int) ≤ (i 7168).toInt) ∧ ((i 7168).toInt ≤ 2) := hG.I.1 7168
    have fi_7296 : ((0 : Int) ≤ (i 7296).toInt) ∧ ((i 7296).toInt ≤ 2) := hG.I.1 7296
    exact ft_ret mi_k118 (by rfl) (hP (-1) ⟨trivial, ⟨(fun _ => (show ((-1) : Int32) = -1 from (by first | rfl | (simp only [sMn, sMx]; done) | (simp only [sMn, sMx]; rfl)))), (fun h => absurd h (ot248 z252)), (fun h => absurd h (ot249 z252)), (fun h => absurd h (ot250 z252)), (fun h => absurd h (ot251 z252)), (fun h => absurd h (ot252 z252)), (fun h => absurd h (ot253 z252)), (fun h => absurd h (ot254 z252)), (fun h => absurd h (ot255 z252)), (fun h => absurd h (ot256 z252)), (fun h => absurd h (ot257 z252)), (fun h => absurd h (ot258 z252)), (fun h => absurd h (ot259 z252)), (fun h => absurd h (ot260 z252)), (fun h => absurd h (ot261 z252)), (fun h => absurd h (ot262 z252)), (fun h => absurd h (ot263 z252)), (fun h => absurd h (ot264 z252)), (fun h => absurd h (ot265 z252))⟩⟩)
set_option maxRecDepth 100000 in
theorem ke224_116 {i : Nat → Int32} {a : Nat → List Int32} {q : Nat → List Int64} {r : Nat → Nat} (hI : kI i a q) (hr : kr r) (x1 : Int32) (x2 : Int32) (hE_hold : kHold i a) : km 5 224 [.ref 116, .int x1, .int x2] (ks i a q r) (kPI (ks i a q r) (fun v => (True) ∧ ((¬ (((0 : Int) ≤ x1.toInt) ∧ (x1.toInt ≤ 5) ∧ ((0 : Int) ≤ x2.toInt) ∧ (x2.toInt ≤ 7)) → v = -1) ∧ (((0 : Int) ≤ x1.toInt) ∧ (x1.toInt ≤ 5) ∧ ((0 : Int) ≤ x2.toInt) ∧ (x2.toInt ≤ 7) ∧ (((a 136).getD x1.toNatClampNeg 0).toInt = (-1)) → v = -11) ∧ (((0 : Int) ≤ x1.toInt) ∧ (x1.toInt ≤ 5) ∧ ((0 : Int) ≤ x2.toInt) ∧ (x2.toInt ≤ 7) ∧ ((0 : Int) ≤ ((a 136).getD x1.toNatClampNeg 0).toInt) ∧ (((a 136).getD x1.toNatClampNeg 0).toInt ≤ 4) → v = -12) ∧ (((0 : Int) ≤ x1.toInt) ∧ (x1.toInt ≤ 5) ∧ ((0 : Int) ≤ x2.toInt) ∧ (x2.toInt ≤ 7) ∧ ((10 : Int) ≤ ((a 136).getD x1.toNatClampNeg 0).toInt) → v = tkV ((a 134).getD (((a 136).getD x1.toNatClampNeg 0) - 10).toNatClampNeg 0) x2)))) := by
  have hG := kG_self kW0 hI hr
  refine km_ofPI (q := (mi_h224, mi_c224)) rfl (by decide) (Nat.le_of_ble_eq_true rfl) ?_
  intro P hP
  refine ft_go mi_k224 1 1 [(0, .ref 116), (1, .int x1), (2, .int x2)] [.int x1] i a q r (by rfl) ?_
  refine ko_callPI mi_k224.1 (pc := 1) (ls := [(0, .ref 116), (1, .int x1), (2, .int x2)]) (st := [.int x1]) (h := ks i a q r) (i := (.invokestatic 127, 3, 133, 0, 9, 0, 382)) (mi_k224.2 _ _ (by rfl)) (ft_invS mi_pq133 (by rfl)) (cy := mi_c133) mi_pq133 rfl (kc133 hG.I hG.R x1) (by decide) ?_
  intro vg1 hg1
  rcases hg1 with ⟨eg1, hg1⟩ | ⟨eg1, hg1⟩
  ·
    subst eg1
    have z2 : ((0 : Int) ≤ x1.toInt) ∧ (x1.toInt ≤ 5) := hg1
    refine ft_go mi_k224 4 11 [(0, .ref 116), (1, .int x1), (2, .int x2)] [.int 7, .int 0, .int x2] i a q r (by rfl) ?_
    refine ko_callPI mi_k224.1 (pc := 11) (ls := [(0, .ref 116), (1, .int x1), (2, .int x2)]) (st := [.int 7, .int 0, .int x2]) (h := ks i a q r) (i := (.invokestatic 119, 3, 131, 0, 9, 0, 379)) (mi_k224.2 _ _ (by rfl)) (ft_invS mi_pq131 (by rfl)) (cy := mi_c131) mi_pq131 rfl (kc131 hG.I hG.R x2 0 7) (by decide) ?_
    intro vg3 hg3
    rcases hg3 with ⟨eg3, hg3⟩ | ⟨eg3, hg3⟩
    ·
      subst eg3
      have z4 : ((0 : Int32).toInt ≤ x2.toInt) ∧ (x2.toInt ≤ (7 : Int32).toInt) := hg3
      refine ft_go mi_k224 4 24 [(0, .ref 116), (1, .int x1), (2, .int x2)] [.int x1, .ref 136] i a q r (by rfl) ?_
      refine ko_iald3 mi_k224.1 (n := 6) (c := 6) (ax := (0, 0, 0, 0, 0)) (mi_k224.2 _ _ (by rfl)) (by rfl) (ksG136 _ _ _ _) (hG.I.2.1 136) rfl (ot28 z2.1) (ot266 z2.2) ?_
      have r5 : ((-1 : Int) ≤ ((a 136).getD x1.toNatClampNeg 0).toInt) ∧ (((a 136).getD x1.toNatClampNeg 0).toInt ≤ 59) := hG.I.2.2.1 136 (x1.toNatClampNeg)
      have r6 : ((a 136).getD x1.toNatClampNeg 0).toInt ≤ 4 ∨ 10 ≤ ((a 136).getD x1.toNatClampNeg 0).toInt := (kHold_of (i1 := i) hE_hold (hG.fa 136 rfl)) (x1.toNatClampNeg)
      refine ft_go mi_k224 1 26 [(0, .ref 116), (1, .int x1), (2, .int x2)] [.int (-1), .int ((a 136).getD x1.toNatClampNeg 0)] i a q r (by rfl) ?_
      refine ft_if mi_k224 (((a 136).getD x1.toNatClampNeg 0) != (-1)) 32 29 [(0, .ref 116), (1, .int x1), (2, .int x2)] [] (by rfl) (fun c => ?_) (fun c => ?_)
      ·
        have c7 : ((a 136).getD x1.toNatClampNeg 0).toInt ≠ ((-1) : Int32).toInt := kd_ne c; clear c
        refine ft_go mi_k224 2 34 [(0, .ref 116), (1, .int x1), (2, .int x2)] [.int x1, .ref 116] i a q r (by rfl) ?_
        refine ko_callPI mi_k224.1 (pc := 34) (ls := [(0, .ref 116), (1, .int x1), (2, .int x2)]) (st := [.int x1, .ref 116]) (h := ks i a q r) (i := (.invokevirtual 372, 3, 219, 0, 9, 0, 473)) (mi_k224.2 _ _ (by rfl)) (ft_invS mi_pq219 (by rfl)) (cy := mi_c219) mi_pq219 rfl (kc219_116 hG.I hG.R x1 (ot269 z2.1 z2.2)) (by decide) ?_
        intro vg8 hg8
        rcases hg8 with ⟨eg8, hg8⟩ | ⟨eg8, hg8⟩
        ·
          subst eg8
          have z9 : ((0 : Int) ≤ ((a 136).getD x1.toNatClampNeg 0).toInt) ∧ (((a 136).getD x1.toNatClampNeg 0).toInt ≤ 4) := hg8
          refine ft_go mi_k224 2 42 [(0, .ref 116), (1, .int x1), (2, .int x2)] [.int (-12)] i a q r (by rfl) ?_
          exact ft_ret mi_k224 (by rfl) (hP (-12) ⟨trivial, ⟨(fun h => absurd (ot6 z2.1 z2.2 z4.1 z4.2 kot0 kot7) h), (fun h => absurd h (ot270 z9.1)), (fun _ => (show ((-12) : Int32) = -12 from (by first | rfl | (simp only [sMn, sMx]; done) | (simp only [sMn, sMx]; rfl)))), (fun h => absurd h (ot271 z9.2))⟩⟩)
        ·
          subst eg8
          have z10 : ¬ (((0 : Int) ≤ ((a 136).getD x1.toNatClampNeg 0).toInt) ∧ (((a 136).getD x1.toNatClampNeg 0).toInt ≤ 4)) := hg8
          refine ft_go mi_k224 6 52 [(0, .ref 116), (1, .int x1), (2, .int x2)] [.int x1, .ref 136, .ref 134] i a q r (by rfl) ?_
          refine ko_iald3 mi_k224.1 (n := 6) (c := 6) (ax := (0, 0, 0, 0, 0)) (mi_k224.2 _ _ (by rfl)) (by rfl) (ksG136 _ _ _ _) (hG.I.2.1 136) rfl (ot28 z2.1) (ot266 z2.2) ?_
          have s11 : (((a 136).getD x1.toNatClampNeg 0) - 10).toInt = ((a 136).getD x1.toNatClampNeg 0).toInt - (10 : Int32).toInt := kd_sub (ot272 r5.1 kot10) (ot273 r5.2 kot10)
          refine ft_go mi_k224 2 56 [(0, .ref 116), (1, .int x1), (2, .int x2)] [.int (((a 136).getD x1.toNatClampNeg 0) - 10), .ref 134] i a q r (by rfl) ?_
          refine ko_iald3 mi_k224.1 (n := 50) (c := 50) (ax := (0, 0, 0, 0, 0)) (mi_k224.2 _ _ (by rfl)) (by rfl) (ksG134 _ _ _ _) (hG.I.2.1 134) rfl (ot274 c7 r5.1 r6 s11 z10 kotm1 kot10) (ot275 r5.2 s11 kot10) ?_
          have r12 : ((0 : Int) ≤ ((a 134).getD (((a 136).getD x1.toNatClampNeg 0) - 10).toNatClampNeg 0).toInt) ∧ (((a 134).getD (((a 136).getD x1.toNatClampNeg 0) - 10).toNatClampNeg 0).toInt ≤ 7) := hG.I.2.2.1 134 ((((a 136).getD x1.toNatClampNeg 0) - 10).toNatClampNeg)
          refine ft_go mi_k224 3 61 [(4, .int ((a 134).getD (((a 136).getD x1.toNatClampNeg 0) - 10).toNatClampNeg 0)), (3, .int ((a 134).getD (((a 136).getD x1.toNatClampNeg 0) - 10).toNatClampNeg 0)), (0, .ref 116), (1, .int x1), (2, .int x2)] [] i a q r (by rfl) ?_
          by_cases w13 : ((a 134).getD (((a 136).getD x1.toNatClampNeg 0) - 10).toNatClampNeg 0).toInt = 0
          ·
            refine ko_eq (x1 := (61, [(4, .int 0), (3, .int 0), (0, .ref 116), (1, .int x1), (2, .int x2)], [], (0, 0), ks i a q r)) (by rw [(kj_eq w13 (by decide) : ((a 134).getD (((a 136).getD x1.toNatClampNeg 0) - 10).toNatClampNeg 0) = 0)]) ?_
            refine ft_go mi_k224 2 64 [(4, .int 0), (3, .int 0), (0, .ref 116), (1, .int x1), (2, .int x2)] [.int x2, .int 0] i a q r (by rfl) ?_
            refine ft_if mi_k224 (0 == x2) 82 67 [(4, .int 0), (3, .int 0), (0, .ref 116), (1, .int x1), (2, .int x2)] [] (by rfl) (fun c => ?_) (fun c => ?_)
            ·
              have c14 : (0 : Int32).toInt = x2.toInt := kd_eq c; clear c
              refine ft_go mi_k224 2 85 [(4, .int 0), (3, .int 0), (0, .ref 116), (1, .int x1), (2, .int x2)] [.int x2, .int 0] i a q r (by rfl) ?_
              refine ft_if mi_k224 (0 != x2) 92 88 [(4, .int 0), (3, .int 0), (0, .ref 116), (1, .int x1), (2, .int x2)] [] (by rfl) (fun c => ?_) (fun c => ?_)
              ·
                have c15 : (0 : Int32).toInt ≠ x2.toInt := kd_ne c; clear c
                exact (ot276 c14 c15 z4.1 kot0).elim
              ·
                have c16 : (0 : Int32).toInt = x2.toInt := kd_neF c; clear c
                refine ft_go mi_k224 2 94 [(4, .int 0), (3, .int 0), (0, .ref 116), (1, .int x1), (2, .int x2)] [.int 0] i a q r (by rfl) ?_
                exact ft_ret mi_k224 (by rfl) (hP 0 ⟨trivial, ⟨(fun h => absurd (ot6 z2.1 z2.2 z4.1 z4.2 kot0 kot7) h), (fun h => absurd h (ot277 c7 r5.1 kotm1)), (fun h => absurd h (ot278 c7 r5.1 z10 kotm1)), (fun _ => (show (0 : Int32) = tkV ((a 134).getD (((a 136).getD x1.toNatClampNeg 0) - 10).toNatClampNeg 0) x2 from (by unfold tkV; rw [if_pos (ot279 c14 z4.1 kot0)]; exact (kj_eq (ot280 r12.1 w13) (by decide : (0 : Int32).toInt = 0)).symm)))⟩⟩)
            ·
              have c17 : (0 : Int32).toInt ≠ x2.toInt := kd_eqF c; clear c
              refine ft_go mi_k224 4 85 [(4, .int 0), (3, .int 0), (0, .ref 116), (1, .int x1), (2, .int x2)] [.int x2, .int 0] i a q r (by rfl) ?_
              refine ft_if mi_k224 (0 != x2) 92 88 [(4, .int 0), (3, .int 0), (0, .ref 116), (1, .int x1), (2, .int x2)] [] (by rfl) (fun c => ?_) (fun c => ?_)
              ·
                have c18 : (0 : Int32).toInt ≠ x2.toInt := kd_ne c; clear c
                refine ft_go mi_k224 1 94 [(4, .int 0), (3, .int 0), (0, .ref 116), (1, .int x1), (2, .int x2)] [.int (-12)] i a q r (by rfl) ?_
                exact ft_ret mi_k224 (by rfl) (hP (-12) ⟨trivial, ⟨(fun h => absurd (ot6 z2.1 z2.2 z4.1 z4.2 kot0 kot7) h), (fun h => absurd h (ot277 c7 r5.1 kotm1)), (fun h => absurd h (ot278 c7 r5.1 z10 kotm1)), (fun _ => (show ((-12) : Int32) = tkV ((a 134).getD (((a 136).getD x1.toNatClampNeg 0) - 10).toNatClampNeg 0) x2 from (by unfold tkV; rw [if_neg (ot281 c17 w13 z4.1 kot0)])))⟩⟩)
              ·
                have c19 : (0 : Int32).toInt = x2.toInt := kd_neF c; clear c
                exact (ot282 c17 c19 z4.1 kot0).elim
          by_cases w20 : ((a 134).getD (((a 136).getD x1.toNatClampNeg 0) - 10).toNatClampNeg 0).toInt = 1
          ·
            refine ko_eq (x1 := (61, [(4, .int 1), (3, .int 1), (0, .ref 116), (1, .int x1), (2, .int x2)], [], (0, 0), ks i a q r)) (by rw [(kj_eq w20 (by decide) : ((a 134).getD (((a 136).getD x1.toNatClampNeg 0) - 10).toNatClampNeg 0) = 1)]) ?_
            refine ft_go mi_k224 2 64 [(4, .int 1), (3, .int 1), (0, .ref 116), (1, .int x1), (2, .int x2)] [.int x2, .int 1] i a q r (by rfl) ?_
            refine ft_if mi_k224 (1 == x2) 82 67 [(4, .int 1), (3, .int 1), (0, .ref 116), (1, .int x1), (2, .int x2)] [] (by rfl) (fun c => ?_) (fun c => ?_)
            ·
              have c21 : (1 : Int32).toInt = x2.toInt := kd_eq c; clear c
              refine ft_go mi_k224 2 85 [(4, .int 1), (3, .int 1), (0, .ref 116), (1, .int x1), (2, .int x2)] [.int x2, .int 1] i a q r (by rfl) ?_
              refine ft_if mi_k224 (1 != x2) 92 88 [(4, .int 1), (3, .int 1), (0, .ref 116), (1, .int x1), (2, .int x2)] [] (by rfl) (fun c => ?_) (fun c => ?_)
              ·
                have c22 : (1 : Int32).toInt ≠ x2.toInt := kd_ne c; clear c
                exact (ot283 c21 c22 kot1).elim
              ·
                have c23 : (1 : Int32).toInt = x2.toInt := kd_neF c; clear c
                refine ft_go mi_k224 2 94 [(4, .int 1), (3, .int 1), (0, .ref 116), (1, .int x1), (2, .int x2)] [.int 1] i a q r (by rfl) ?_
                exact ft_ret mi_k224 (by rfl) (hP 1 ⟨trivial, ⟨(fun h => absurd (ot284 c21 z2.1 z2.2 z4.2 kot1 kot7) h), (fun h => absurd h (ot277 c7 r5.1 kotm1)), (fun h => absurd h (ot278 c7 r5.1 z10 kotm1)), (fun _ => (show (1 : Int32) = tkV ((a 134).getD (((a 136).getD x1.toNatClampNeg 0) - 10).toNatClampNeg 0) x2 from (by unfold tkV; rw [if_pos (ot285 c21 w20 kot1)]; exact (kj_eq (ot286 w20) (by decide : (1 : Int32).toInt = 1)).symm)))⟩⟩)
            ·
              have c24 : (1 : Int32).toInt ≠ x2.toInt := kd_eqF c; clear c
              refine ft_go mi_k224 3 74 [(4, .int 1), (3, .int 1), (0, .ref 116), (1, .int x1), (2, .int x2)] [.int 1] i a q r (by rfl) ?_
              refine ko_callPI mi_k224.1 (pc := 74) (ls := [(4, .int 1), (3, .int 1), (0, .ref 116), (1, .int x1), (2, .int x2)]) (st := [.int 1]) (h := ks i a q r) (i := (.invokestatic 357, 3, 208, 0, 9, 0, 465)) (mi_k224.2 _ _ (by rfl)) (ft_invS mi_pq208 (by rfl)) (cy := mi_c208) mi_pq208 rfl (kc208_l01 hG.I hG.R ) (by decide) ?_
              intro vg25 hg25
              have z26 : vg25.toInt = 0 := hg25
              have evvg25 := kj_eq (ot287 z26) (by decide : (0 : Int32).toInt = 0)
              subst evvg25
              refine ft_go mi_k224 4 64 [(4, .int 0), (3, .int 1), (0, .ref 116), (1, .int x1), (2, .int x2)] [.int x2, .int 0] i a q r (by rfl) ?_
              refine ft_if mi_k224 (0 == x2) 82 67 [(4, .int 0), (3, .int 1), (0, .ref 116), (1, .int x1), (2, .int x2)] [] (by rfl) (fun c => ?_) (fun c => ?_)
              ·
                have c27 : (0 : Int32).toInt = x2.toInt := kd_eq c; clear c
                refine ft_go mi_k224 2 85 [(4, .int 0), (3, .int 1), (0, .ref 116), (1, .int x1), (2, .int x2)] [.int x2, .int 0] i a q r (by rfl) ?_
                refine ft_if mi_k224 (0 != x2) 92 88 [(4, .int 0), (3, .int 1), (0, .ref 116), (1, .int x1), (2, .int x2)] [] (by rfl) (fun c => ?_) (fun c => ?_)
                ·
                  have c28 : (0 : Int32).toInt ≠ x2.toInt := kd_ne c; clear c
                  exact (ot276 c27 c28 z4.1 kot0).elim
                ·
                  have c29 : (0 : Int32).toInt = x2.toInt := kd_neF c; clear c
                  refine ft_go mi_k224 2 94 [(4, .int 0), (3, .int 1), (0, .ref 116), (1, .int x1), (2, .int x2)] [.int 1] i a q r (by rfl) ?_
                  exact ft_ret mi_k224 (by rfl) (hP 1 ⟨trivial, ⟨(fun h => absurd (ot6 z2.1 z2.2 z4.1 z4.2 kot0 kot7) h), (fun h => absurd h (ot277 c7 r5.1 kotm1)), (fun h => absurd h (ot278 c7 r5.1 z10 kotm1)), (fun _ => (show (1 : Int32) = tkV ((a 134).getD (((a 136).getD x1.toNatClampNeg 0) - 10).toNatClampNeg 0) x2 from (by unfold tkV; rw [if_pos (ot279 c27 z4.1 kot0)]; exact (kj_eq (ot286 w20) (by decide : (1 : Int32).toInt = 1)).symm)))⟩⟩)
              ·
                have c30 : (0 : Int32).toInt ≠ x2.toInt := kd_eqF c; clear c
                refine ft_go mi_k224 4 85 [(4, .int 0), (3, .int 1), (0, .ref 116), (1, .int x1), (2, .int x2)] [.int x2, .int 0] i a q r (by rfl) ?_
                refine ft_if mi_k224 (0 != x2) 92 88 [(4, .int 0), (3, .int 1), (0, .ref 116), (1, .int x1), (2, .int x2)] [] (by rfl) (fun c => ?_) (fun c => ?_)
                ·
                  have c31 : (0 : Int32).toInt ≠ x2.toInt := kd_ne c; clear c
                  refine ft_go mi_k224 1 94 [(4, .int 0), (3, .int 1), (0, .ref 116), (1, .int x1), (2, .int x2)] [.int (-12)] i a q r (by rfl) ?_
                  exact ft_ret mi_k224 (by rfl) (hP (-12) ⟨trivial, ⟨(fun h => absurd (ot6 z2.1 z2.2 z4.1 z4.2 kot0 kot7) h), (fun h => absurd h (ot277 c7 r5.1 kotm1)), (fun h => absurd h (ot278 c7 r5.1 z10 kotm1)), (fun _ => (show ((-12) : Int32) = tkV ((a 134).getD (((a 136).getD x1.toNatClampNeg 0) - 10).toNatClampNeg 0) x2 from (by unfold tkV; rw [if_neg (ot288 c24 c30 w20 z4.1 kot1 kot0)])))⟩⟩)
                ·
                  have c32 : (0 : Int32).toInt = x2.toInt := kd_neF c; clear c
                  exact (ot282 c30 c32 z4.1 kot0).elim
          by_cases w33 : ((a 134).getD (((a 136).getD x1.toNatClampNeg 0) - 10).toNatClampNeg 0).toInt = 2
          ·
            refine ko_eq (x1 := (61, [(4, .int 2), (3, .int 2), (0, .ref 116), (1, .int x1), (2, .int x2)], [], (0, 0), ks i a q r)) (by rw [(kj_eq w33 (by decide) : ((a 134).getD (((a 136).getD x1.toNatClampNeg 0) - 10).toNatClampNeg 0) = 2)]) ?_
            refine ft_go mi_k224 2 64 [(4, .int 2), (3, .int 2), (0, .ref 116), (1, .int x1), (2, .int x2)] [.int x2, .int 2] i a q r (by rfl) ?_
            refine ft_if mi_k224 (2 == x2) 82 67 [(4, .int 2), (3, .int 2), (0, .ref 116), (1, .int x1), (2, .int x2)] [] (by rfl) (fun c => ?_) (fun c => ?_)
            ·
              have c34 : (2 : Int32).toInt = x2.toInt := kd_eq c; clear c
              refine ft_go mi_k224 2 85 [(4, .int 2), (3, .int 2), (0, .ref 116), (1, .int x1), (2, .int x2)] [.int x2, .int 2] i a q r (by rfl) ?_
              refine ft_if mi_k224 (2 != x2) 92 88 [(4, .int 2), (3, .int 2), (0, .ref 116), (1, .int x1), (2, .int x2)] [] (by rfl) (fun c => ?_) (fun c => ?_)
              ·
                have c35 : (2 : Int32).toInt ≠ x2.toInt := kd_ne c; clear c
                exact (ot289 c34 c35 kot2).elim
              ·
                have c36 : (2 : Int32).toInt = x2.toInt := kd_neF c; clear c
                refine ft_go mi_k224 2 94 [(4, .int 2), (3, .int 2), (0, .ref 116), (1, .int x1), (2, .int x2)] [.int 2] i a q r (by rfl) ?_
                exact ft_ret mi_k224 (by rfl) (hP 2 ⟨trivial, ⟨(fun h => absurd (ot290 c34 z2.1 z2.2 z4.2 kot2 kot7) h), (fun h => absurd h (ot277 c7 r5.1 kotm1)), (fun h => absurd h (ot278 c7 r5.1 z10 kotm1)), (fun _ => (show (2 : Int32) = tkV ((a 134).getD (((a 136).getD x1.toNatClampNeg 0) - 10).toNatClampNeg 0) x2 from (by unfold tkV; rw [if_pos (ot291 c34 w33 kot2)]; exact (kj_eq (ot292 w33) (by decide : (2 : Int32).toInt = 2)).symm)))⟩⟩)
            ·
              have c37 : (2 : Int32).toInt ≠ x2.toInt := kd_eqF c; clear c
              refine ft_go mi_k224 3 74 [(4, .int 2), (3, .int 2), (0, .ref 116), (1, .int x1), (2, .int x2)] [.int 2] i a q r (by rfl) ?_
              refine ko_callPI mi_k224.1 (pc := 74) (ls := [(4, .int 2), (3, .int 2), (0, .ref 116), (1, .int x1), (2, .int x2)]) (st := [.int 2]) (h := ks i a q r) (i := (.invokestatic 357, 3, 208, 0, 9, 0, 465)) (mi_k224.2 _ _ (by rfl)) (ft_invS mi_pq208 (by rfl)) (cy := mi_c208) mi_pq208 rfl (kc208_l02 hG.I hG.R ) (by decide) ?_
              intro vg38 hg38
              have z39 : vg38.toInt = 0 := hg38
              have evvg38 := kj_eq (ot287 z39) (by decide : (0 : Int32).toInt = 0)
              subst evvg38
              refine ft_go mi_k224 4 64 [(4, .int 0), (3, .int 2), (0, .ref 116), (1, .int x1), (2, .int x2)] [.int x2, .int 0] i a q r (by rfl) ?_
              refine ft_if mi_k224 (0 == x2) 82 67 [(4, .int 0), (3, .int 2), (0, .ref 116), (1, .int x1), (2, .int x2)] [] (by rfl) (fun c => ?_) (fun c => ?_)
              ·
                have c40 : (0 : Int32).toInt = x2.toInt := kd_eq c; clear c
                refine ft_go mi_k224 2 85 [(4, .int 0), (3, .int 2), (0, .ref 116), (1, .int x1), (2, .int x2)] [.int x2, .int 0] i a q r (by rfl) ?_
                refine ft_if mi_k224 (0 != x2) 92 88 [(4, .int 0), (3, .int 2), (0, .ref 116), (1, .int x1), (2, .int x2)] [] (by rfl) (fun c => ?_) (fun c => ?_)
                ·
                  have c41 : (0 : Int32).toInt ≠ x2.toInt := kd_ne c; clear c
                  exact (ot276 c40 c41 z4.1 kot0).elim
                ·
                  have c42 : (0 : Int32).toInt = x2.toInt := kd_neF c; clear c
                  refine ft_go mi_k224 2 94 [(4, .int 0), (3, .int 2), (0, .ref 116), (1, .int x1), (2, .int x2)] [.int 2] i a q r (by rfl) ?_
                  exact ft_ret mi_k224 (by rfl) (hP 2 ⟨trivial, ⟨(fun h => absurd (ot6 z2.1 z2.2 z4.1 z4.2 kot0 kot7) h), (fun h => absurd h (ot277 c7 r5.1 kotm1)), (fun h => absurd h (ot278 c7 r5.1 z10 kotm1)), (fun _ => (show (2 : Int32) = tkV ((a 134).getD (((a 136).getD x1.toNatClampNeg 0) - 10).toNatClampNeg 0) x2 from (by unfold tkV; rw [if_pos (ot279 c40 z4.1 kot0)]; exact (kj_eq (ot292 w33) (by decide : (2 : Int32).toInt = 2)).symm)))⟩⟩)
              ·
                have c43 : (0 : Int32).toInt ≠ x2.toInt := kd_eqF c; clear c
                refine ft_go mi_k224 4 85 [(4, .int 0), (3, .int 2), (0, .ref 116), (1, .int x1), (2, .int x2)] [.int x2, .int 0] i a q r (by rfl) ?_
                refine ft_if mi_k224 (0 != x2) 92 88 [(4, .int 0), (3, .int 2), (0, .ref 116), (1, .int x1), (2, .int x2)] [] (by rfl) (fun c => ?_) (fun c => ?_)
                ·
                  have c44 : (0 : Int32).toInt ≠ x2.toInt := kd_ne c; clear c
                  refine ft_go mi_k224 1 94 [(4, .int 0), (3, .int 2), (0, .ref 116), (1, .int x1), (2, .int x2)] [.int (-12)] i a q r (by rfl) ?_
                  exact ft_ret mi_k224 (by rfl) (hP (-12) ⟨trivial, ⟨(fun h => absurd (ot6 z2.1 z2.2 z4.1 z4.2 kot0 kot7) h), (fun h => absurd h (ot277 c7 r5.1 kotm1)), (fun h => absurd h (ot278 c7 r5.1 z10 kotm1)), (fun _ => (show ((-12) : Int32) = tkV ((a 134).getD (((a 136).getD x1.toNatClampNeg 0) - 10).toNatClampNeg 0) x2 from (by unfold tkV; rw [if_neg (ot293 c37 c43 w33 z4.1 kot2 kot0)])))⟩⟩)
                ·
                  have c45 : (0 : Int32).toInt = x2.toInt := kd_neF c; clear c
                  exact (ot282 c43 c45 z4.1 kot0).elim
          by_cases w46 : ((a 134).getD (((a 136).getD x1.toNatClampNeg 0) - 10).toNatClampNeg 0).toInt = 3
          ·
            refine ko_eq (x1 := (61, [(4, .int 3), (3, .int 3), (0, .ref 116), (1, .int x1), (2, .int x2)], [], (0, 0), ks i a q r)) (by rw [(kj_eq w46 (by decide) : ((a 134).getD (((a 136).getD x1.toNatClampNeg 0) - 10).toNatClampNeg 0) = 3)]) ?_
            refine ft_go mi_k224 2 64 [(4, .int 3), (3, .int 3), (0, .ref 116), (1, .int x1), (2, .int x2)] [.int x2, .int 3] i a q r (by rfl) ?_
            refine ft_if mi_k224 (3 == x2) 82 67 [(4, .int 3), (3, .int 3), (0, .ref 116), (1, .int x1), (2, .int x2)] [] (by rfl) (fun c => ?_) (fun c => ?_)
            ·
              have c47 : (3 : Int32).toInt = x2.toInt := kd_eq c; clear c
              refine ft_go mi_k224 2 85 [(4, .int 3), (3, .int 3), (0, .ref 116), (1, .int x1), (2, .int x2)] [.int x2, .int 3] i a q r (by rfl) ?_
              refine ft_if mi_k224 (3 != x2) 92 88 [(4, .int 3), (3, .int 3), (0, .ref 116), (1, .int x1), (2, .int x2)] [] (by rfl) (fun c => ?_) (fun c => ?_)
              ·
                have c48 : (3 : Int32).toInt ≠ x2.toInt := kd_ne c; clear c
                exact (ot294 c47 c48 kot3).elim
              ·
                have c49 : (3 : Int32).toInt = x2.toInt := kd_neF c; clear c
                refine ft_go mi_k224 2 94 [(4, .int 3), (3, .int 3), (0, .ref 116), (1, .int x1), (2, .int x2)] [.int 3] i a q r (by rfl) ?_
                exact ft_ret mi_k224 (by rfl) (hP 3 ⟨trivial, ⟨(fun h => absurd (ot295 c47 z2.1 z2.2 z4.2 kot3 kot7) h), (fun h => absurd h (ot277 c7 r5.1 kotm1)), (fun h => absurd h (ot278 c7 r5.1 z10 kotm1)), (fun _ => (show (3 : Int32) = tkV ((a 134).getD (((a 136).getD x1.toNatClampNeg 0) - 10).toNatClampNeg 0) x2 from (by unfold tkV; rw [if_pos (ot296 c47 w46 kot3)]; exact (kj_eq (ot297 w46) (by decide : (3 : Int32).toInt = 3)).symm)))⟩⟩)
            ·
              have c50 : (3 : Int32).toInt ≠ x2.toInt := kd_eqF c; clear c
              refine ft_go mi_k224 3 74 [(4, .int 3), (3, .int 3), (0, .ref 116), (1, .int x1), (2, .int x2)] [.int 3] i a q r (by rfl) ?_
              refine ko_callPI mi_k224.1 (pc := 74) (ls := [(4, .int 3), (3, .int 3), (0, .ref 116), (1, .int x1), (2, .int x2)]) (st := [.int 3]) (h := ks i a q r) (i := (.invokestatic 357, 3, 208, 0, 9, 0, 465)) (mi_k224.2 _ _ (by rfl)) (ft_invS mi_pq208 (by rfl)) (cy := mi_c208) mi_pq208 rfl (kc208_l03 hG.I hG.R ) (by decide) ?_
              intro vg51 hg51
              have z52 : vg51.toInt = 2 := hg51
              have evvg51 := kj_eq (ot292 z52) (by decide : (2 : Int32).toInt = 2)
              subst evvg51
              refine ft_go mi_k224 4 64 [(4, .int 2), (3, .int 3), (0, .ref 116), (1, .int x1), (2, .int x2)] [.int x2, .int 2] i a q r (by rfl) ?_
              refine ft_if mi_k224 (2 == x2) 82 67 [(4, .int 2), (3, .int 3), (0, .ref 116), (1, .int x1), (2, .int x2)] [] (by rfl) (fun c => ?_) (fun c => ?_)
              ·
                have c53 : (2 : Int32).toInt = x2.toInt := kd_eq c; clear c
                refine ft_go mi_k224 2 85 [(4, .int 2), (3, .int 3), (0, .ref 116), (1, .int x1), (2, .int x2)] [.int x2, .int 2] i a q r (by rfl) ?_
                refine ft_if mi_k224 (2 != x2) 92 88 [(4, .int 2), (3, .int 3), (0, .ref 116), (1, .int x1), (2, .int x2)] [] (by rfl) (fun c => ?_) (fun c => ?_)
                ·
                  have c54 : (2 : Int32).toInt ≠ x2.toInt := kd_ne c; clear c
                  exact (ot289 c53 c54 kot2).elim
                ·
                  have c55 : (2 : Int32).toInt = x2.toInt := kd_neF c; clear c
                  refine ft_go mi_k224 2 94 [(4, .int 2), (3, .int 3), (0, .ref 116), (1, .int x1), (2, .int x2)] [.int 3] i a q r (by rfl) ?_
                  exact ft_ret mi_k224 (by rfl) (hP 3 ⟨trivial, ⟨(fun h => absurd (ot290 c53 z2.1 z2.2 z4.2 kot2 kot7) h), (fun h => absurd h (ot277 c7 r5.1 kotm1)), (fun h => absurd h (ot278 c7 r5.1 z10 kotm1)), (fun _ => (show (3 : Int32) = tkV ((a 134).getD (((a 136).getD x1.toNatClampNeg 0) - 10).toNatClampNeg 0) x2 from (by unfold tkV; rw [if_pos (ot298 c53 w46 kot2)]; exact (kj_eq (ot297 w46) (by decide : (3 : Int32).toInt = 3)).symm)))⟩⟩)
              ·
                have c56 : (2 : Int32).toInt ≠ x2.toInt := kd_eqF c; clear c
                refine ft_go mi_k224 3 74 [(4, .int 2), (3, .int 3), (0, .ref 116), (1, .int x1), (2, .int x2)] [.int 2] i a q r (by rfl) ?_
                refine ko_callPI mi_k224.1 (pc := 74) (ls := [(4, .int 2), (3, .int 3), (0, .ref 116), (1, .int x1), (2, .int x2)]) (st := [.int 2]) (h := ks i a q r) (i := (.invokestatic 357, 3, 208, 0, 9, 0, 465)) (mi_k224.2 _ _ (by rfl)) (ft_invS mi_pq208 (by rfl)) (cy := mi_c208) mi_pq208 rfl (kc208_l02 hG.I hG.R ) (by decide) ?_
                intro vg57 hg57
                have z58 : vg57.toInt = 0 := hg57
                have evvg57 := kj_eq (ot287 z58) (by decide : (0 : Int32).toInt = 0)
                subst evvg57
                refine ft_go mi_k224 4 64 [(4, .int 0), (3, .int 3), (0, .ref 116), (1, .int x1), (2, .int x2)] [.int x2, .int 0] i a q r (by rfl) ?_
                refine ft_if mi_k224 (0 == x2) 82 67 [(4, .int 0), (3, .int 3), (0, .ref 116), (1, .int x1), (2, .int x2)] [] (by rfl) (fun c => ?_) (fun c => ?_)
                ·
                  have c59 : (0 : Int32).toInt = x2.toInt := kd_eq c; clear c
                  refine ft_go mi_k224 2 85 [(4, .int 0), (3, .int 3), (0, .ref 116), (1, .int x1), (2, .int x2)] [.int x2, .int 0] i a q r (by rfl) ?_
                  refine ft_if mi_k224 (0 != x2) 92 88 [(4, .int 0), (3, .int 3), (0, .ref 116), (1, .int x1), (2, .int x2)] [] (by rfl) (fun c => ?_) (fun c => ?_)
                  ·
                    have c60 : (0 : Int32).toInt ≠ x2.toInt := kd_ne c; clear c
                    exact (ot276 c59 c60 z4.1 kot0).elim
                  ·
                    have c61 : (0 : Int32).toInt = x2.toInt := kd_neF c; clear c
                    refine ft_go mi_k224 2 94 [(4, .int 0), (3, .int 3), (0, .ref 116), (1, .int x1), (2, .int x2)] [.int 3] i a q r (by rfl) ?_
                    exact ft_ret mi_k224 (by rfl) (hP 3 ⟨trivial, ⟨(fun h => absurd (ot6 z2.1 z2.2 z4.1 z4.2 kot0 kot7) h), (fun h => absurd h (ot277 c7 r5.1 kotm1)), (fun h => absurd h (ot278 c7 r5.1 z10 kotm1)), (fun _ => (show (3 : Int32) = tkV ((a 134).getD (((a 136).getD x1.toNatClampNeg 0) - 10).toNatClampNeg 0) x2 from (by unfold tkV; rw [if_pos (ot279 c59 z4.1 kot0)]; exact (kj_eq (ot297 w46) (by decide : (3 : Int32).toInt = 3)).symm)))⟩⟩)
                ·
                  have c62 : (0 : Int32).toInt ≠ x2.toInt := kd_eqF c; clear c
                  refine ft_go mi_k224 4 85 [(4, .int 0), (3, .int 3), (0, .ref 116), (1, .int x1), (2, .int x2)] [.int x2, .int 0] i a q r (by rfl) ?_
                  refine ft_if mi_k224 (0 != x2) 92 88 [(4, .int 0), (3, .int 3), (0, .ref 116), (1, .int x1), (2, .int x2)] [] (by rfl) (fun c => ?_) (fun c => ?_)
                  ·
                    have c63 : (0 : Int32).toInt ≠ x2.toInt := kd_ne c; clear c
                    refine ft_go mi_k224 1 94 [(4, .int 0), (3, .int 3), (0, .ref 116), (1, .int x1), (2, .int x2)] [.int (-12)] i a q r (by rfl) ?_
                    exact ft_ret mi_k224 (by rfl) (hP (-12) ⟨trivial, ⟨(fun h => absurd (ot6 z2.1 z2.2 z4.1 z4.2 kot0 kot7) h), (fun h => absurd h (ot277 c7 r5.1 kotm1)), (fun h => absurd h (ot278 c7 r5.1 z10 kotm1)), (fun _ => (show ((-12) : Int32) = tkV ((a 134).getD (((a 136).getD x1.toNatClampNeg 0) - 10).toNatClampNeg 0) x2 from (by unfold tkV; rw [if_neg (ot299 c50 c56 c62 w46 z4.1 kot3 kot2 kot0)])))⟩⟩)
                  ·
                    have c64 : (0 : Int32).toInt = x2.toInt := kd_neF c; clear c
                    exact (ot282 c62 c64 z4.1 kot0).elim
          by_cases w65 : ((a 134).getD (((a 136).getD x1.toNatClampNeg 0) - 10).toNatClampNeg 0).toInt = 4
          ·
            refine ko_eq (x1 := (61, [(4, .int 4), (3, .int 4), (0, .ref 116), (1, .int x1), (2, .int x2)], [], (0, 0), ks i a q r)) (by rw [(kj_eq w65 (by decide) : ((a 134).getD (((a 136).getD x1.toNatClampNeg 0) - 10).toNatClampNeg 0) = 4)]) ?_
            refine ft_go mi_k224 2 64 [(4, .int 4), (3, .int 4), (0, .ref 116), (1, .int x1), (2, .int x2)] [.int x2, .int 4] i a q r (by rfl) ?_
            refine ft_if mi_k224 (4 == x2) 82 67 [(4, .int 4), (3, .int 4), (0, .ref 116), (1, .int x1), (2, .int x2)] [] (by rfl) (fun c => ?_) (fun c => ?_)
            ·
              have c66 : (4 : Int32).toInt = x2.toInt := kd_eq c; clear c
              refine ft_go mi_k224 2 85 [(4, .int 4), (3, .int 4), (0, .ref 116), (1, .int x1), (2, .int x2)] [.int x2, .int 4] i a q r (by rfl) ?_
              refine ft_if mi_k224 (4 != x2) 92 88 [(4, .int 4), (3, .int 4), (0, .ref 116), (1, .int x1), (2, .int x2)] [] (by rfl) (fun c => ?_) (fun c => ?_)
              ·
                have c67 : (4 : Int32).toInt ≠ x2.toInt := kd_ne c; clear c
                exact (ot300 c66 c67 kot4).elim
              ·
                have c68 : (4 : Int32).toInt = x2.toInt := kd_neF c; clear c
                refine ft_go mi_k224 2 94 [(4, .int 4), (3, .int 4), (0, .ref 116), (1, .int x1), (2, .int x2)] [.int 4] i a q r (by rfl) ?_
                exact ft_ret mi_k224 (by rfl) (hP 4 ⟨trivial, ⟨(fun h => absurd (ot301 c66 z2.1 z2.2 z4.2 kot4 kot7) h), (fun h => absurd h (ot277 c7 r5.1 kotm1)), (fun h => absurd h (ot278 c7 r5.1 z10 kotm1)), (fun _ => (show (4 : Int32) = tkV ((a 134).getD (((a 136).getD x1.toNatClampNeg 0) - 10).toNatClampNeg 0) x2 from (by unfold tkV; rw [if_pos (ot302 c66 w65 kot4)]; exact (kj_eq (ot303 w65) (by decide : (4 : Int32).toInt = 4)).symm)))⟩⟩)
            ·
              have c69 : (4 : Int32).toInt ≠ x2.toInt := kd_eqF c; clear c
              refine ft_go mi_k224 3 74 [(4, .int 4), (3, .int 4), (0, .ref 116), (1, .int x1), (2, .int x2)] [.int 4] i a q r (by rfl) ?_
              refine ko_callPI mi_k224.1 (pc := 74) (ls := [(4, .int 4), (3, .int 4), (0, .ref 116), (1, .int x1), (2, .int x2)]) (st := [.int 4]) (h := ks i a q r) (i := (.invokestatic 357, 3, 208, 0, 9, 0, 465)) (mi_k224.2 _ _ (by rfl)) (ft_invS mi_pq208 (by rfl)) (cy := mi_c208) mi_pq208 rfl (kc208_l04 hG.I hG.R ) (by decide) ?_
              intro vg70 hg70
              have z71 : vg70.toInt = 1 := hg70
              have evvg70 := kj_eq (ot286 z71) (by decide : (1 : Int32).toInt = 1)
              subst evvg70
              refine ft_go mi_k224 4 64 [(4, .int 1), (3, .int 4), (0, .ref 116), (1, .int x1), (2, .int x2)] [.int x2, .int 1] i a q r (by rfl) ?_
              refine ft_if mi_k224 (1 == x2) 82 67 [(4, .int 1), (3, .int 4), (0, .ref 116), (1, .int x1), (2, .int x2)] [] (by rfl) (fun c => ?_) (fun c => ?_)
              ·
                have c72 : (1 : Int32).toInt = x2.toInt := kd_eq c; clear c
                refine ft_go mi_k224 2 85 [(4, .int 1), (3, .int 4), (0, .ref 116), (1, .int x1), (2, .int x2)] [.int x2, .int 1] i a q r (by rfl) ?_
                refine ft_if mi_k224 (1 != x2) 92 88 [(4, .int 1), (3, .int 4), (0, .ref 116), (1, .int x1), (2, .int x2)] [] (by rfl) (fun c => ?_) (fun c => ?_)
                ·
                  have c73 : (1 : Int32).toInt ≠ x2.toInt := kd_ne c; clear c
                  exact (ot283 c72 c73 kot1).elim
                ·
                  have c74 : (1 : Int32).toInt = x2.toInt := kd_neF c; clear c
                  refine ft_go mi_k224 2 94 [(4, .int 1), (3, .int 4), (0, .ref 116), (1, .int x1), (2, .int x2)] [.int 4] i a q r (by rfl) ?_
                  exact ft_ret mi_k224 (by rfl) (hP 4 ⟨trivial, ⟨(fun h => absurd (ot284 c72 z2.1 z2.2 z4.2 kot1 kot7) h), (fun h => absurd h (ot277 c7 r5.1 kotm1)), (fun h => absurd h (ot278 c7 r5.1 z10 kotm1)), (fun _ => (show (4 : Int32) = tkV ((a 134).getD (((a 136).getD x1.toNatClampNeg 0) - 10).toNatClampNeg 0) x2 from (by unfold tkV; rw [if_pos (ot304 c72 w65 kot1)]; exact (kj_eq (ot303 w65) (by decide : (4 : Int32).toInt = 4)).symm)))⟩⟩)
              ·
                have c75 : (1 : Int32).toInt ≠ x2.toInt := kd_eqF c; clear c
                refine ft_go mi_k224 3 74 [(4, .int 1), (3, .int 4), (0, .ref 116), (1, .int x1), (2, .int x2)] [.int 1] i a q r (by rfl) ?_
                refine ko_callPI mi_k224.1 (pc := 74) (ls := [(4, .int 1), (3, .int 4), (0, .ref 116), (1, .int x1), (2, .int x2)]) (st := [.int 1]) (h := ks i a q r) (i := (.invokestatic 357, 3, 208, 0, 9, 0, 465)) (mi_k224.2 _ _ (by rfl)) (ft_invS mi_pq208 (by rfl)) (cy := mi_c208) mi_pq208 rfl (kc208_l01 hG.I hG.R ) (by decide) ?_
                intro vg76 hg76
                have z77 : vg76.toInt = 0 := hg76
                have evvg76 := kj_eq (ot287 z77) (by decide : (0 : Int32).toInt = 0)
                subst evvg76
                refine ft_go mi_k224 4 64 [(4, .int 0), (3, .int 4), (0, .ref 116), (1, .int x1), (2, .int x2)] [.int x2, .int 0] i a q r (by rfl) ?_
                refine ft_if mi_k224 (0 == x2) 82 67 [(4, .int 0), (3, .int 4), (0, .ref 116), (1, .int x1), (2, .int x2)] [] (by rfl) (fun c => ?_) (fun c => ?_)
                ·
                  have c78 : (0 : Int32).toInt = x2.toInt := kd_eq c; clear c
                  refine ft_go mi_k224 2 85 [(4, .int 0), (3, .int 4), (0, .ref 116), (1, .int x1), (2, .int x2)] [.int x2, .int 0] i a q r (by rfl) ?_
                  refine ft_if mi_k224 (0 != x2) 92 88 [(4, .int 0), (3, .int 4), (0, .ref 116), (1, .int x1), (2, .int x2)] [] (by rfl) (fun c => ?_) (fun c => ?_)
                  ·
                    have c79 : (0 : Int32).toInt ≠ x2.toInt := kd_ne c; clear c
                    exact (ot276 c78 c79 z4.1 kot0).elim
                  ·
                    have c80 : (0 : Int32).toInt = x2.toInt := kd_neF c; clear c
                    refine ft_go mi_k224 2 94 [(4, .int 0), (3, .int 4), (0, .ref 116), (1, .int x1), (2, .int x2)] [.int 4] i a q r (by rfl) ?_
                    exact ft_ret mi_k224 (by rfl) (hP 4 ⟨trivial, ⟨(fun h => absurd (ot6 z2.1 z2.2 z4.1 z4.2 kot0 kot7) h), (fun h => absurd h (ot277 c7 r5.1 kotm1)), (fun h => absurd h (ot278 c7 r5.1 z10 kotm1)), (fun _ => (show (4 : Int32) = tkV ((a 134).getD (((a 136).getD x1.toNatClampNeg 0) - 10).toNatClampNeg 0) x2 from (by unfold tkV; rw [if_pos (ot279 c78 z4.1 kot0)]; exact (kj_eq (ot303 w65) (by decide : (4 : Int32).toInt = 4)).symm)))⟩⟩)
                ·
                  have c81 : (0 : Int32).toInt ≠ x2.toInt := kd_eqF c; clear c
                  refine ft_go mi_k224 4 85 [(4, .int 0), (3, .int 4), (0, .ref 116), (1, .int x1), (2, .int x2)] [.int x2, .int 0] i a q r (by rfl) ?_
                  refine ft_if mi_k224 (0 != x2) 92 88 [(4, .int 0), (3, .int 4), (0, .ref 116), (1, .int x1), (2, .int x2)] [] (by rfl) (fun c => ?_) (fun c => ?_)
                  ·
                    have c82 : (0 : Int32).toInt ≠ x2.toInt := kd_ne c; clear c
                    refine ft_go mi_k224 1 94 [(4, .int 0), (3, .int 4), (0, .ref 116), (1, .int x1), (2, .int x2)] [.int (-12)] i a q r (by rfl) ?_
                    exact ft_ret mi_k224 (by rfl) (hP (-12) ⟨trivial, ⟨(fun h => absurd (ot6 z2.1 z2.2 z4.1 z4.2 kot0 kot7) h), (fun h => absurd h (ot277 c7 r5.1 kotm1)), (fun h => absurd h (ot278 c7 r5.1 z10 kotm1)), (fun _ => (show ((-12) : Int32) = tkV ((a 134).getD (((a 136).getD x1.toNatClampNeg 0) - 10).toNatClampNeg 0) x2 from (by unfold tkV; rw [if_neg (ot305 c69 c75 c81 w65 z4.1 kot4 kot1 kot0)])))⟩⟩)
                  ·
                    have c83 : (0 : Int32).toInt = x2.toInt := kd_neF c; clear c
                    exact (ot282 c81 c83 z4.1 kot0).elim
          by_cases w84 : ((a 134).getD (((a 136).getD x1.toNatClampNeg 0) - 10).toNatClampNeg 0).toInt = 5
          ·
            refine ko_eq (x1 := (61, [(4, .int 5), (3, .int 5), (0, .ref 116), (1, .int x1), (2, .int x2)], [], (0, 0), ks i a q r)) (by rw [(kj_eq w84 (by decide) : ((a 134).getD (((a 136).getD x1.toNatClampNeg 0) - 10).toNatClampNeg 0) = 5)]) ?_
            refine ft_go mi_k224 2 64 [(4, .int 5), (3, .int 5), (0, .ref 116), (1, .int x1), (2, .int x2)] [.int x2, .int 5] i a q r (by rfl) ?_
            refine ft_if mi_k224 (5 == x2) 82 67 [(4, .int 5), (3, .int 5), (0, .ref 116), (1, .int x1), (2, .int x2)] [] (by rfl) (fun c => ?_) (fun c => ?_)
            ·
              have c85 : (5 : Int32).toInt = x2.toInt := kd_eq c; clear c
              refine ft_go mi_k224 2 85 [(4, .int 5), (3, .int 5), (0, .ref 116), (1, .int x1), (2, .int x2)] [.int x2, .int 5] i a q r (by rfl) ?_
              refine ft_if mi_k224 (5 != x2) 92 88 [(4, .int 5), (3, .int 5), (0, .ref 116), (1, .int x1), (2, .int x2)] [] (by rfl) (fun c => ?_) (fun c => ?_)
              ·
                have c86 : (5 : Int32).toInt ≠ x2.toInt := kd_ne c; clear c
                exact (ot306 c85 c86 kot5).elim
              ·
                have c87 : (5 : Int32).toInt = x2.toInt := kd_neF c; clear c
                refine ft_go mi_k224 2 94 [(4, .int 5), (3, .int 5), (0, .ref 116), (1, .int x1), (2, .int x2)] [.int 5] i a q r (by rfl) ?_
                exact ft_ret mi_k224 (by rfl) (hP 5 ⟨trivial, ⟨(fun h => absurd (ot307 c85 z2.1 z2.2 z4.2 kot5 kot7) h), (fun h => absurd h (ot277 c7 r5.1 kotm1)), (fun h => absurd h (ot278 c7 r5.1 z10 kotm1)), (fun _ => (show (5 : Int32) = tkV ((a 134).getD (((a 136).getD x1.toNatClampNeg 0) - 10).toNatClampNeg 0) x2 from (by unfold tkV; rw [if_pos (ot308 c85 w84 kot5)]; exact (kj_eq (ot309 w84) (by decide : (5 : Int32).toInt = 5)).symm)))⟩⟩)
            ·
              have c88 : (5 : Int32).toInt ≠ x2.toInt := kd_eqF c; clear c
              refine ft_go mi_k224 3 74 [(4, .int 5), (3, .int 5), (0, .ref 116), (1, .int x1), (2, .int x2)] [.int 5] i a q r (by rfl) ?_
              refine ko_callPI mi_k224.1 (pc := 74) (ls := [(4, .int 5), (3, .int 5), (0, .ref 116), (1, .int x1), (2, .int x2)]) (st := [.int 5]) (h := ks i a q r) (i := (.invokestatic 357, 3, 208, 0, 9, 0, 465)) (mi_k224.2 _ _ (by rfl)) (ft_invS mi_pq208 (by rfl)) (cy := mi_c208) mi_pq208 rfl (kc208_l05 hG.I hG.R ) (by decide) ?_
              intro vg89 hg89
              have z90 : vg89.toInt = 3 := hg89
              have evvg89 := kj_eq (ot297 z90) (by decide : (3 : Int32).toInt = 3)
              subst evvg89
              refine ft_go mi_k224 4 64 [(4, .int 3), (3, .int 5), (0, .ref 116), (1, .int x1), (2, .int x2)] [.int x2, .int 3] i a q r (by rfl) ?_
              refine ft_if mi_k224 (3 == x2) 82 67 [(4, .int 3), (3, .int 5), (0, .ref 116), (1, .int x1), (2, .int x2)] [] (by rfl) (fun c => ?_) (fun c => ?_)
              ·
                have c91 : (3 : Int32).toInt = x2.toInt := kd_eq c; clear c
                refine ft_go mi_k224 2 85 [(4, .int 3), (3, .int 5), (0, .ref 116), (1, .int x1), (2, .int x2)] [.int x2, .int 3] i a q r (by rfl) ?_
                refine ft_if mi_k224 (3 != x2) 92 88 [(4, .int 3), (3, .int 5), (0, .ref 116), (1, .int x1), (2, .int x2)] [] (by rfl) (fun c => ?_) (fun c => ?_)
                ·
                  have c92 : (3 : Int32).toInt ≠ x2.toInt := kd_ne c; clear c
                  exact (ot294 c91 c92 kot3).elim
                ·
                  have c93 : (3 : Int32).toInt = x2.toInt := kd_neF c; clear c
                  refine ft_go mi_k224 2 94 [(4, .int 3), (3, .int 5), (0, .ref 116), (1, .int x1), (2, .int x2)] [.int 5] i a q r (by rfl) ?_
                  exact ft_ret mi_k224 (by rfl) (hP 5 ⟨trivial, ⟨(fun h => absurd (ot295 c91 z2.1 z2.2 z4.2 kot3 kot7) h), (fun h => absurd h (ot277 c7 r5.1 kotm1)), (fun h => absurd h (ot278 c7 r5.1 z10 kotm1)), (fun _ => (show (5 : Int32) = tkV ((a 134).getD (((a 136).getD x1.toNatClampNeg 0) - 10).toNatClampNeg 0) x2 from (by unfold tkV; rw [if_pos (ot310 c91 w84 kot3)]; exact (kj_eq (ot309 w84) (by decide : (5 : Int32).toInt = 5)).symm)))⟩⟩)
              ·
                have c94 : (3 : Int32).toInt ≠ x2.toInt := kd_eqF c; clear c
                refine ft_go mi_k224 3 74 [(4, .int 3), (3, .int 5), (0, .ref 116), (1, .int x1), (2, .int x2)] [.int 3] i a q r (by rfl) ?_
                refine ko_callPI mi_k224.1 (pc := 74) (ls := [(4, .int 3), (3, .int 5), (0, .ref 116), (1, .int x1), (2, .int x2)]) (st := [.int 3]) (h := ks i a q r) (i := (.invokestatic 357, 3, 208, 0, 9, 0, 465)) (mi_k224.2 _ _ (by rfl)) (ft_invS mi_pq208 (by rfl)) (cy := mi_c208) mi_pq208 rfl (kc208_l03 hG.I hG.R ) (by decide) ?_
                intro vg95 hg95
                have z96 : vg95.toInt = 2 := hg95
                have evvg95 := kj_eq (ot292 z96) (by decide : (2 : Int32).toInt = 2)
                subst evvg95
                refine ft_go mi_k224 4 64 [(4, .int 2), (3, .int 5), (0, .ref 116), (1, .int x1), (2, .int x2)] [.int x2, .int 2] i a q r (by rfl) ?_
                refine ft_if mi_k224 (2 == x2) 82 67 [(4, .int 2), (3, .int 5), (0, .ref 116), (1, .int x1), (2, .int x2)] [] (by rfl) (fun c => ?_) (fun c => ?_)
                ·
                  have c97 : (2 : Int32).toInt = x2.toInt := kd_eq c; clear c
                  refine ft_go mi_k224 2 85 [(4, .int 2), (3, .int 5), (0, .ref 116), (1, .int x1), (2, .int x2)] [.int x2, .int 2] i a q r (by rfl) ?_
                  refine ft_if mi_k224 (2 != x2) 92 88 [(4, .int 2), (3, .int 5), (0, .ref 116), (1, .int x1), (2, .int x2)] [] (by rfl) (fun c => ?_) (fun c => ?_)
                  ·
                    have c98 : (2 : Int32).toInt ≠ x2.toInt := kd_ne c; clear c
                    exact (ot289 c97 c98 kot2).elim
                  ·
                    have c99 : (2 : Int32).toInt = x2.toInt := kd_neF c; clear c
                    refine ft_go mi_k224 2 94 [(4, .int 2), (3, .int 5), (0, .ref 116), (1, .int x1), (2, .int x2)] [.int 5] i a q r (by rfl) ?_
                    exact ft_ret mi_k224 (by rfl) (hP 5 ⟨trivial, ⟨(fun h => absurd (ot290 c97 z2.1 z2.2 z4.2 kot2 kot7) h), (fun h => absurd h (ot277 c7 r5.1 kotm1)), (fun h => absurd h (ot278 c7 r5.1 z10 kotm1)), (fun _ => (show (5 : Int32) = tkV ((a 134).getD (((a 136).getD x1.toNatClampNeg 0) - 10).toNatClampNeg 0) x2 from (by unfold tkV; rw [if_pos (ot311 c97 w84 kot2)]; exact (kj_eq (ot309 w84) (by decide : (5 : Int32).toInt = 5)).symm)))⟩⟩)
                ·
                  have c100 : (2 : Int32).toInt ≠ x2.toInt := kd_eqF c; clear c
                  refine ft_go mi_k224 3 74 [(4, .int 2), (3, .int 5), (0, .ref 116), (1, .int x1), (2, .int x2)] [.int 2] i a q r (by rfl) ?_
                  refine ko_callPI mi_k224.1 (pc := 74) (ls := [(4, .int 2), (3, .int 5), (0, .ref 116), (1, .int x1), (2, .int x2)]) (st := [.int 2]) (h := ks i a q r) (i := (.invokestatic 357, 3, 208, 0, 9, 0, 465)) (mi_k224.2 _ _ (by rfl)) (ft_invS mi_pq208 (by rfl)) (cy := mi_c208) mi_pq208 rfl (kc208_l02 hG.I hG.R ) (by decide) ?_
                  intro vg101 hg101
                  have z102 : vg101.toInt = 0 := hg101
                  have evvg101 := kj_eq (ot287 z102) (by decide : (0 : Int32).toInt = 0)
                  subst evvg101
                  refine ft_go mi_k224 4 64 [(4, .int 0), (3, .int 5), (0, .ref 116), (1, .int x1), (2, .int x2)] [.int x2, .int 0] i a q r (by rfl) ?_
                  refine ft_if mi_k224 (0 == x2) 82 67 [(4, .int 0), (3, .int 5), (0, .ref 116), (1, .int x1), (2, .int x2)] [] (by rfl) (fun c => ?_) (fun c => ?_)
                  ·
                    have c103 : (0 : Int32).toInt = x2.toInt := kd_eq c; clear c
                    refine ft_go mi_k224 2 85 [(4, .int 0), (3, .int 5), (0, .ref 116), (1, .int x1), (2, .int x2)] [.int x2, .int 0] i a q r (by rfl) ?_
                    refine ft_if mi_k224 (0 != x2) 92 88 [(4, .int 0), (3, .int 5), (0, .ref 116), (1, .int x1), (2, .int x2)] [] (by rfl) (fun c => ?_) (fun c => ?_)
                    ·
                      have c104 : (0 : Int32).toInt ≠ x2.toInt := kd_ne c; clear c
                      exact (ot276 c103 c104 z4.1 kot0).elim
                    ·
                      have c105 : (0 : Int32).toInt = x2.toInt := kd_neF c; clear c
                      refine ft_go mi_k224 2 94 [(4, .int 0), (3, .int 5), (0, .ref 116), (1, .int x1), (2, .int x2)] [.int 5] i a q r (by rfl) ?_
                      exact ft_ret mi_k224 (by rfl) (hP 5 ⟨trivial, ⟨(fun h => absurd (ot6 z2.1 z2.2 z4.1 z4.2 kot0 kot7) h), (fun h => absurd h (ot277 c7 r5.1 kotm1)), (fun h => absurd h (ot278 c7 r5.1 z10 kotm1)), (fun _ => (show (5 : Int32) = tkV ((a 134).getD (((a 136).getD x1.toNatClampNeg 0) - 10).toNatClampNeg 0) x2 from (by unfold tkV; rw [if_pos (ot279 c103 z4.1 kot0)]; exact (kj_eq (ot309 w84) (by decide : (5 : Int32).toInt = 5)).symm)))⟩⟩)
                  ·
                    have c106 : (0 : Int32).toInt ≠ x2.toInt := kd_eqF c; clear c
                    refine ft_go mi_k224 4 85 [(4, .int 0), (3, .int 5), (0, .ref 116), (1, .int x1), (2, .int x2)] [.int x2, .int 0] i a q r (by rfl) ?_
                    refine ft_if mi_k224 (0 != x2) 92 88 [(4, .int 0), (3, .int 5), (0, .ref 116), (1, .int x1), (2, .int x2)] [] (by rfl) (fun c => ?_) (fun c => ?_)
                    ·
                      have c107 : (0 : Int32).toInt ≠ x2.toInt := kd_ne c; clear c
                      refine ft_go mi_k224 1 94 [(4, .int 0), (3, .int 5), (0, .ref 116), (1, .int x1), (2, .int x2)] [.int (-12)] i a q r (by rfl) ?_
                      exact ft_ret mi_k224 (by rfl) (hP (-12) ⟨trivial, ⟨(fun h => absurd (ot6 z2.1 z2.2 z4.1 z4.2 kot0 kot7) h), (fun h => absurd h (ot277 c7 r5.1 kotm1)), (fun h => absurd h (ot278 c7 r5.1 z10 kotm1)), (fun _ => (show ((-12) : Int32) = tkV ((a 134).getD (((a 136).getD x1.toNatClampNeg 0) - 10).toNatClampNeg 0) x2 from (by unfold tkV; rw [if_neg (ot312 c100 c106 c88 c94 w84 z4.1 kot2 kot0 kot5 kot3)])))⟩⟩)
                    ·
                      have c108 : (0 : Int32).toInt = x2.toInt := kd_neF c; clear c
                      exact (ot282 c106 c108 z4.1 kot0).elim
          by_cases w109 : ((a 134).getD (((a 136).getD x1.toNatClampNeg 0) - 10).toNatClampNeg 0).toInt = 6
          ·
            refine ko_eq (x1 := (61, [(4, .int 6), (3, .int 6), (0, .ref 116), (1, .int x1), (2, .int x2)], [], (0, 0), ks i a q r)) (by rw [(kj_eq w109 (by decide) : ((a 134).getD (((a 136).getD x1.toNatClampNeg 0) - 10).toNatClampNeg 0) = 6)]) ?_
            refine ft_go mi_k224 2 64 [(4, .int 6), (3, .int 6), (0, .ref 116), (1, .int x1), (2, .int x2)] [.int x2, .int 6] i a q r (by rfl) ?_
            refine ft_if mi_k224 (6 == x2) 82 67 [(4, .int 6), (3, .int 6), (0, .ref 116), (1, .int x1), (2, .int x2)] [] (by rfl) (fun c => ?_) (fun c => ?_)
            ·
              have c110 : (6 : Int32).toInt = x2.toInt := kd_eq c; clear c
              refine ft_go mi_k224 2 85 [(4, .int 6), (3, .int 6), (0, .ref 116), (1, .int x1), (2, .int x2)] [.int x2, .int 6] i a q r (by rfl) ?_
              refine ft_if mi_k224 (6 != x2) 92 88 [(4, .int 6), (3, .int 6), (0, .ref 116), (1, .int x1), (2, .int x2)] [] (by rfl) (fun c => ?_) (fun c => ?_)
              ·
                have c111 : (6 : Int32).toInt ≠ x2.toInt := kd_ne c; clear c
                exact (ot313 c110 c111 kot6).elim
              ·
                have c112 : (6 : Int32).toInt = x2.toInt := kd_neF c; clear c
                refine ft_go mi_k224 2 94 [(4, .int 6), (3, .int 6), (0, .ref 116), (1, .int x1), (2, .int x2)] [.int 6] i a q r (by rfl) ?_
                exact ft_ret mi_k224 (by rfl) (hP 6 ⟨trivial, ⟨(fun h => absurd (ot314 c110 z2.1 z2.2 z4.2 kot6 kot7) h), (fun h => absurd h (ot277 c7 r5.1 kotm1)), (fun h => absurd h (ot278 c7 r5.1 z10 kotm1)), (fun _ => (show (6 : Int32) = tkV ((a 134).getD (((a 136).getD x1.toNatClampNeg 0) - 10).toNatClampNeg 0) x2 from (by unfold tkV; rw [if_pos (ot315 c110 w109 kot6)]; exact (kj_eq (ot316 w109) (by decide : (6 : Int32).toInt = 6)).symm)))⟩⟩)
            ·
              have c113 : (6 : Int32).toInt ≠ x2.toInt := kd_eqF c; clear c
              refine ft_go mi_k224 3 74 [(4, .int 6), (3, .int 6), (0, .ref 116), (1, .int x1), (2, .int x2)] [.int 6] i a q r (by rfl) ?_
              refine ko_callPI mi_k224.1 (pc := 74) (ls := [(4, .int 6), (3, .int 6), (0, .ref 116), (1, .int x1), (2, .int x2)]) (st := [.int 6]) (h := ks i a q r) (i := (.invokestatic 357, 3, 208, 0, 9, 0, 465)) (mi_k224.2 _ _ (by rfl)) (ft_invS mi_pq208 (by rfl)) (cy := mi_c208) mi_pq208 rfl (kc208_l06 hG.I hG.R ) (by decide) ?_
              intro vg114 hg114
              have z115 : vg114.toInt = 0 := hg114
              have evvg114 := kj_eq (ot287 z115) (by decide : (0 : Int32).toInt = 0)
              subst evvg114
              refine ft_go mi_k224 4 64 [(4, .int 0), (3, .int 6), (0, .ref 116), (1, .int x1), (2, .int x2)] [.int x2, .int 0] i a q r (by rfl) ?_
              refine ft_if mi_k224 (0 == x2) 82 67 [(4, .int 0), (3, .int 6), (0, .ref 116), (1, .int x1), (2, .int x2)] [] (by rfl) (fun c => ?_) (fun c => ?_)
              ·
                have c116 : (0 : Int32).toInt = x2.toInt := kd_eq c; clear c
                refine ft_go mi_k224 2 85 [(4, .int 0), (3, .int 6), (0, .ref 116), (1, .int x1), (2, .int x2)] [.int x2, .int 0] i a q r (by rfl) ?_
                refine ft_if mi_k224 (0 != x2) 92 88 [(4, .int 0), (3, .int 6), (0, .ref 116), (1, .int x1), (2, .int x2)] [] (by rfl) (fun c => ?_) (fun c => ?_)
                ·
                  have c117 : (0 : Int32).toInt ≠ x2.toInt := kd_ne c; clear c
                  exact (ot276 c116 c117 z4.1 kot0).elim
                ·
                  have c118 : (0 : Int32).toInt = x2.toInt := kd_neF c; clear c
                  refine ft_go mi_k224 2 94 [(4, .int 0), (3, .int 6), (0, .ref 116), (1, .int x1), (2, .int x2)] [.int 6] i a q r (by rfl) ?_
                  exact ft_ret mi_k224 (by rfl) (hP 6 ⟨trivial, ⟨(fun h => absurd (ot6 z2.1 z2.2 z4.1 z4.2 kot0 kot7) h), (fun h => absurd h (ot277 c7 r5.1 kotm1)), (fun h => absurd h (ot278 c7 r5.1 z10 kotm1)), (fun _ => (show (6 : Int32) = tkV ((a 134).getD (((a 136).getD x1.toNatClampNeg 0) - 10).toNatClampNeg 0) x2 from (by unfold tkV; rw [if_pos (ot279 c116 z4.1 kot0)]; exact (kj_eq (ot316 w109) (by decide : (6 : Int32).toInt = 6)).symm)))⟩⟩)
              ·
                have c119 : (0 : Int32).toInt ≠ x2.toInt := kd_eqF c; clear c
                refine ft_go mi_k224 4 85 [(4, .int 0), (3, .int 6), (0, .ref 116), (1, .int x1), (2, .int x2)] [.int x2, .int 0] i a q r (by rfl) ?_
                refine ft_if mi_k224 (0 != x2) 92 88 [(4, .int 0), (3, .int 6), (0, .ref 116), (1, .int x1), (2, .int x2)] [] (by rfl) (fun c => ?_) (fun c => ?_)
                ·
                  have c120 : (0 : Int32).toInt ≠ x2.toInt := kd_ne c; clear c
                  refine ft_go mi_k224 1 94 [(4, .int 0), (3, .int 6), (0, .ref 116), (1, .int x1), (2, .int x2)] [.int (-12)] i a q r (by rfl) ?_
                  exact ft_ret mi_k224 (by rfl) (hP (-12) ⟨trivial, ⟨(fun h => absurd (ot6 z2.1 z2.2 z4.1 z4.2 kot0 kot7) h), (fun h => absurd h (ot277 c7 r5.1 kotm1)), (fun h => absurd h (ot278 c7 r5.1 z10 kotm1)), (fun _ => (show ((-12) : Int32) = tkV ((a 134).getD (((a 136).getD x1.toNatClampNeg 0) - 10).toNatClampNeg 0) x2 from (by unfold tkV; rw [if_neg (ot317 c113 c119 w109 z4.1 kot6 kot0)])))⟩⟩)
                ·
                  have c121 : (0 : Int32).toInt = x2.toInt := kd_neF c; clear c
                  exact (ot282 c119 c121 z4.1 kot0).elim
          by_cases w122 : ((a 134).getD (((a 136).getD x1.toNatClampNeg 0) - 10).toNatClampNeg 0).toInt = 7
          ·
            refine ko_eq (x1 := (61, [(4, .int 7), (3, .int 7), (0, .ref 116), (1, .int x1), (2, .int x2)], [], (0, 0), ks i a q r)) (by rw [(kj_eq w122 (by decide) : ((a 134).getD (((a 136).getD x1.toNatClampNeg 0) - 10).toNatClampNeg 0) = 7)]) ?_
            refine ft_go mi_k224 2 64 [(4, .int 7), (3, .int 7), (0, .ref 116), (1, .int x1), (2, .int x2)] [.int x2, .int 7] i a q r (by rfl) ?_
            refine ft_if mi_k224 (7 == x2) 82 67 [(4, .int 7), (3, .int 7), (0, .ref 116), (1, .int x1), (2, .int x2)] [] (by rfl) (fun c => ?_) (fun c => ?_)
            ·
              have c123 : (7 : Int32).toInt = x2.toInt := kd_eq c; clear c
              refine ft_go mi_k224 2 85 [(4, .int 7), (3, .int 7), (0, .ref 116), (1, .int x1), (2, .int x2)] [.int x2, .int 7] i a q r (by rfl) ?_
              refine ft_if mi_k224 (7 != x2) 92 88 [(4, .int 7), (3, .int 7), (0, .ref 116), (1, .int x1), (2, .int x2)] [] (by rfl) (fun c => ?_) (fun c => ?_)
              ·
                have c124 : (7 : Int32).toInt ≠ x2.toInt := kd_ne c; clear c
                exact (ot318 c123 c124 z4.2 kot7).elim
              ·
                have c125 : (7 : Int32).toInt = x2.toInt := kd_neF c; clear c
                refine ft_go mi_k224 2 94 [(4, .int 7), (3, .int 7), (0, .ref 116), (1, .int x1), (2, .int x2)] [.int 7] i a q r (by rfl) ?_
                exact ft_ret mi_k224 (by rfl) (hP 7 ⟨trivial, ⟨(fun h => absurd (ot319 c123 z2.1 z2.2 z4.2 kot7) h), (fun h => absurd h (ot277 c7 r5.1 kotm1)), (fun h => absurd h (ot278 c7 r5.1 z10 kotm1)), (fun _ => (show (7 : Int32) = tkV ((a 134).getD (((a 136).getD x1.toNatClampNeg 0) - 10).toNatClampNeg 0) x2 from (by unfold tkV; rw [if_pos (ot320 c123 r12.2 w122 z4.2 kot7)]; exact (kj_eq (ot321 r12.2 w122) (by decide : (7 : Int32).toInt = 7)).symm)))⟩⟩)
            ·
              have c126 : (7 : Int32).toInt ≠ x2.toInt := kd_eqF c; clear c
              refine ft_go mi_k224 3 74 [(4, .int 7), (3, .int 7), (0, .ref 116), (1, .int x1), (2, .int x2)] [.int 7] i a q r (by rfl) ?_
              refine ko_callPI mi_k224.1 (pc := 74) (ls := [(4, .int 7), (3, .int 7), (0, .ref 116), (1, .int x1), (2, .int x2)]) (st := [.int 7]) (h := ks i a q r) (i := (.invokestatic 357, 3, 208, 0, 9, 0, 465)) (mi_k224.2 _ _ (by rfl)) (ft_invS mi_pq208 (by rfl)) (cy := mi_c208) mi_pq208 rfl (kc208_l07 hG.I hG.R ) (by decide) ?_
              intro vg127 hg127
              have z128 : vg127.toInt = 4 := hg127
              have evvg127 := kj_eq (ot303 z128) (by decide : (4 : Int32).toInt = 4)
              subst evvg127
              refine ft_go mi_k224 4 64 [(4, .int 4), (3, .int 7), (0, .ref 116), (1, .int x1), (2, .int x2)] [.int x2, .int 4] i a q r (by rfl) ?_
              refine ft_if mi_k224 (4 == x2) 82 67 [(4, .int 4), (3, .int 7), (0, .ref 116), (1, .int x1), (2, .int x2)] [] (by rfl) (fun c => ?_) (fun c => ?_)
              ·
                have c129 : (4 : Int32).toInt = x2.toInt := kd_eq c; clear c
                refine ft_go mi_k224 2 85 [(4, .int 4), (3, .int 7), (0, .ref 116), (1, .int x1), (2, .int x2)] [.int x2, .int 4] i a q r (by rfl) ?_
                refine ft_if mi_k224 (4 != x2) 92 88 [(4, .int 4), (3, .int 7), (0, .ref 116), (1, .int x1), (2, .int x2)] [] (by rfl) (fun c => ?_) (fun c => ?_)
                ·
                  have c130 : (4 : Int32).toInt ≠ x2.toInt := kd_ne c; clear c
                  exact (ot300 c129 c130 kot4).elim
                ·
                  have c131 : (4 : Int32).toInt = x2.toInt := kd_neF c; clear c
                  refine ft_go mi_k224 2 94 [(4, .int 4), (3, .int 7), (0, .ref 116), (1, .int x1), (2, .int x2)] [.int 7] i a q r (by rfl) ?_
                  exact ft_ret mi_k224 (by rfl) (hP 7 ⟨trivial, ⟨(fun h => absurd (ot301 c129 z2.1 z2.2 z4.2 kot4 kot7) h), (fun h => absurd h (ot277 c7 r5.1 kotm1)), (fun h => absurd h (ot278 c7 r5.1 z10 kotm1)), (fun _ => (show (7 : Int32) = tkV ((a 134).getD (((a 136).getD x1.toNatClampNeg 0) - 10).toNatClampNeg 0) x2 from (by unfold tkV; rw [if_pos (ot322 c129 r12.2 w122 kot4)]; exact (kj_eq (ot321 r12.2 w122) (by decide : (7 : Int32).toInt = 7)).symm)))⟩⟩)
              ·
                have c132 : (4 : Int32).toInt ≠ x2.toInt := kd_eqF c; clear c
                refine ft_go mi_k224 3 74 [(4, .int 4), (3, .int 7), (0, .ref 116), (1, .int x1), (2, .int x2)] [.int 4] i a q r (by rfl) ?_
                refine ko_callPI mi_k224.1 (pc := 74) (ls := [(4, .int 4), (3, .int 7), (0, .ref 116), (1, .int x1), (2, .int x2)]) (st := [.int 4]) (h := ks i a q r) (i := (.invokestatic 357, 3, 208, 0, 9, 0, 465)) (mi_k224.2 _ _ (by rfl)) (ft_invS mi_pq208 (by rfl)) (cy := mi_c208) mi_pq208 rfl (kc208_l04 hG.I hG.R ) (by decide) ?_
                intro vg133 hg133
                have z134 : vg133.toInt = 1 := hg133
                have evvg133 := kj_eq (ot286 z134) (by decide : (1 : Int32).toInt = 1)
                subst evvg133
                refine ft_go mi_k224 4 64 [(4, .int 1), (3, .int 7), (0, .ref 116), (1, .int x1), (2, .int x2)] [.int x2, .int 1] i a q r (by rfl) ?_
                refine ft_if mi_k224 (1 == x2) 82 67 [(4, .int 1), (3, .int 7), (0, .ref 116), (1, .int x1), (2, .int x2)] [] (by rfl) (fun c => ?_) (fun c => ?_)
                ·
                  have c135 : (1 : Int32).toInt = x2.toInt := kd_eq c; clear c
                  refine ft_go mi_k224 2 85 [(4, .int 1), (3, .int 7), (0, .ref 116), (1, .int x1), (2, .int x2)] [.int x2, .int 1] i a q r (by rfl) ?_
                  refine ft_if mi_k224 (1 != x2) 92 88 [(4, .int 1), (3, .int 7), (0, .ref 116), (1, .int x1), (2, .int x2)] [] (by rfl) (fun c => ?_) (fun c => ?_)
                  ·
                    have c136 : (1 : Int32).toInt ≠ x2.toInt := kd_ne c; clear c
                    exact (ot283 c135 c136 kot1).elim
                  ·
                    have c137 : (1 : Int32).toInt = x2.toInt := kd_neF c; clear c
                    refine ft_go mi_k224 2 94 [(4, .int 1), (3, .int 7), (0, .ref 116), (1, .int x1), (2, .int x2)] [.int 7] i a q r (by rfl) ?_
                    exact ft_ret mi_k224 (by rfl) (hP 7 ⟨trivial, ⟨(fun h => absurd (ot284 c135 z2.1 z2.2 z4.2 kot1 kot7) h), (fun h => absurd h (ot277 c7 r5.1 kotm1)), (fun h => absurd h (ot278 c7 r5.1 z10 kotm1)), (fun _ => (show (7 : Int32) = tkV ((a 134).getD (((a 136).getD x1.toNatClampNeg 0) - 10).toNatClampNeg 0) x2 from (by unfold tkV; rw [if_pos (ot323 c135 r12.2 w122 kot1)]; exact (kj_eq (ot321 r12.2 w122) (by decide : (7 : Int32).toInt = 7)).symm)))⟩⟩)
                ·
                  have c138 : (1 : Int32).toInt ≠ x2.toInt := kd_eqF c; clear c
                  refine ft_go mi_k224 3 74 [(4, .int 1), (3, .int 7), (0, .ref 116), (1, .int x1), (2, .int x2)] [.int 1] i a q r (by rfl) ?_
                  refine ko_callPI mi_k224.1 (pc := 74) (ls := [(4, .int 1), (3, .int 7), (0, .ref 116), (1, .int x1), (2, .int x2)]) (st := [.int 1]) (h := ks i a q r) (i := (.invokestatic 357, 3, 208, 0, 9, 0, 465)) (mi_k224.2 _ _ (by rfl)) (ft_invS mi_pq208 (by rfl)) (cy := mi_c208) mi_pq208 rfl (kc208_l01 hG.I hG.R ) (by decide) ?_
                  intro vg139 hg139
                  have z140 : vg139.toInt = 0 := hg139
                  have evvg139 := kj_eq (ot287 z140) (by decide : (0 : Int32).toInt = 0)
                  subst evvg139
                  refine ft_go mi_k224 4 64 [(4, .int 0), (3, .int 7), (0, .ref 116), (1, .int x1), (2, .int x2)] [.int x2, .int 0] i a q r (by rfl) ?_
                  refine ft_if mi_k224 (0 == x2) 82 67 [(4, .int 0), (3, .int 7), (0, .ref 116), (1, .int x1), (2, .int x2)] [] (by rfl) (fun c => ?_) (fun c => ?_)
                  ·
                    have c141 : (0 : Int32).toInt = x2.toInt := kd_eq c; clear c
                    refine ft_go mi_k224 2 85 [(4, .int 0), (3, .int 7), (0, .ref 116), (1, .int x1), (2, .int x2)] [.int x2, .int 0] i a q r (by rfl) ?_
                    refine ft_if mi_k224 (0 != x2) 92 88 [(4, .int 0), (3, .int 7), (0, .ref 116), (1, .int x1), (2, .int x2)] [] (by rfl) (fun c => ?_) (fun c => ?_)
                    ·
                      have c142 : (0 : Int32).toInt ≠ x2.toInt := kd_ne c; clear c
                      exact (ot276 c141 c142 z4.1 kot0).elim
                    ·
                      have c143 : (0 : Int32).toInt = x2.toInt := kd_neF c; clear c
                      refine ft_go mi_k224 2 94 [(4, .int 0), (3, .int 7), (0, .ref 116), (1, .int x1), (2, .int x2)] [.int 7] i a q r (by rfl) ?_
                      exact ft_ret mi_k224 (by rfl) (hP 7 ⟨trivial, ⟨(fun h => absurd (ot6 z2.1 z2.2 z4.1 z4.2 kot0 kot7) h), (fun h => absurd h (ot277 c7 r5.1 kotm1)), (fun h => absurd h (ot278 c7 r5.1 z10 kotm1)), (fun _ => (show (7 : Int32) = tkV ((a 134).getD (((a 136).getD x1.toNatClampNeg 0) - 10).toNatClampNeg 0) x2 from (by unfold tkV; rw [if_pos (ot279 c141 z4.1 kot0)]; exact (kj_eq (ot321 r12.2 w122) (by decide : (7 : Int32).toInt = 7)).symm)))⟩⟩)
                  ·
                    have c144 : (0 : Int32).toInt ≠ x2.toInt := kd_eqF c; clear c
                    refine ft_go mi_k224 4 85 [(4, .int 0), (3, .int 7), (0, .ref 116), (1, .int x1), (2, .int x2)] [.int x2, .int 0] i a q r (by rfl) ?_
                    refine ft_if mi_k224 (0 != x2) 92 88 [(4, .int 0), (3, .int 7), (0, .ref 116), (1, .int x1), (2, .int x2)] [] (by rfl) (fun c => ?_) (fun c => ?_)
                    ·
                      have c145 : (0 : Int32).toInt ≠ x2.toInt := kd_ne c; clear c
                      refine ft_go mi_k224 1 94 [(4, .int 0), (3, .int 7), (0, .ref 116), (1, .int x1), (2, .int x2)] [.int (-12)] i a q r (by rfl) ?_
                      exact ft_ret mi_k224 (by rfl) (hP (-12) ⟨trivial, ⟨(fun h => absurd (ot6 z2.1 z2.2 z4.1 z4.2 kot0 kot7) h), (fun h => absurd h (ot277 c7 r5.1 kotm1)), (fun h => absurd h (ot278 c7 r5.1 z10 kotm1)), (fun _ => (show ((-12) : Int32) = tkV ((a 134).getD (((a 136).getD x1.toNatClampNeg 0) - 10).toNatClampNeg 0) x2 from (by unfold tkV; rw [if_neg (ot324 c126 c132 c138 c144 w122 z4.1 z4.2 kot7 kot4 kot1 kot0)])))⟩⟩)
                    ·
                      have c146 : (0 : Int32).toInt = x2.toInt := kd_neF c; clear c
                      exact (ot282 c144 c146 z4.1 kot0).elim
          exact (ot325 r12.1 r12.2 w109 w122 w13 w20 w33 w46 w65 w84).elim
      ·
        have c147 : ((a 136).getD x1.toNatClampNeg 0).toInt = ((-1) : Int32).toInt := kd_neF c; clear c
        refine ft_go mi_k224 1 31 [(0, .ref 116), (1, .int x1), (2, .int x2)] [.int (-11)] i a q r (by rfl) ?_
        exact ft_ret mi_k224 (by rfl) (hP (-11) ⟨trivial, ⟨(fun h => absurd (ot6 z2.1 z2.2 z4.1 z4.2 kot0 kot7) h), (fun _ => (show ((-11) : Int32) = -11 from (by first | rfl | (simp only [sMn, sMx]; done) | (simp only [sMn, sMx]; rfl)))), (fun h => absurd h (ot326 c147 kotm1)), (fun h => absurd h (ot327 c147 kotm1))⟩⟩)
    ·
      subst eg3
      have z148 : ¬ (((0 : Int32).toInt ≤ x2.toInt) ∧ (x2.toInt ≤ (7 : Int32).toInt)) := hg3
      refine ft_go mi_k224 2 18 [(0, .ref 116), (1, .int x1), (2, .int x2)] [.int (-1)] i a q r (by rfl) ?_
      have r149 : ((-1 : Int) ≤ ((a 136).getD x1.toNatClampNeg 0).toInt) ∧ (((a 136).getD x1.toNatClampNeg 0).toInt ≤ 59) := hG.I.2.2.1 136 (x1.toNatClampNeg)
      have r150 : ((a 136).getD x1.toNatClampNeg 0).toInt ≤ 4 ∨ 10 ≤ ((a 136).getD x1.toNatClampNeg 0).toInt := (kHold_of (i1 := i) hE_hold (hG.fa 136 rfl)) (x1.toNatClampNeg)
      exact ft_ret mi_k224 (by rfl) (hP (-1) ⟨trivial, ⟨(fun _ => (show ((-1) : Int32) = -1 from (by first | rfl | (simp only [sMn, sMx]; done) | (simp only [sMn, sMx]; rfl)))), (fun h => absurd h (ot328 z148 kot0 kot7)), (fun h => absurd h (ot329 z148 kot0 kot7)), (fun h => absurd h (ot330 z148 kot0 kot7))⟩⟩)
  ·
    subst eg1
    have z151 : ¬ (((0 : Int) ≤ x1.toInt) ∧ (x1.toInt ≤ 5)) := hg1
    refine ft_go mi_k224 2 18 [(0, .ref 116), (1, .int x1), (2, .int x2)] [.int (-1)] i a q r (by rfl) ?_
    have r152 : ((-1 : Int) ≤ ((a 136).getD x1.toNatClampNeg 0).toInt) ∧ (((a 136).getD x1.toNatClampNeg 0).toInt ≤ 59) := hG.I.2.2.1 136 (x1.toNatClampNeg)
    have r153 : ((a 136).getD x1.toNatClampNeg 0).toInt ≤ 4 ∨ 10 ≤ ((a 136).getD x1.toNatClampNeg 0).toInt := (kHold_of (i1 := i) hE_hold (hG.fa 136 rfl)) (x1.toNatClampNeg)
    exact ft_ret mi_k224 (by rfl) (hP (-1) ⟨trivial, ⟨(fun _ => (show ((-1) : Int32) = -1 from (by first | rfl | (simp only [sMn, sMx]; done) | (simp only [sMn, sMx]; rfl)))), (fun h => absurd h (ot331 z151)), (fun h => absurd h (ot332 z151)), (fun h => absurd h (ot333 z151))⟩⟩)
