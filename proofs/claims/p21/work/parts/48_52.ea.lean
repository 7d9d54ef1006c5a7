section
theorem koa0 : (0 : Int32).toInt = 0 := by decide
theorem koa255 : (255 : Int32).toInt = 255 := by decide
theorem koa1 : (1 : Int32).toInt = 1 := by decide
theorem koa120 : (120 : Int32).toInt = 120 := by decide
theorem koam3 : ((-3) : Int32).toInt = (-3) := by decide
theorem koam1 : ((-1) : Int32).toInt = (-1) := by decide
theorem koa6 : (6 : Int32).toInt = 6 := by decide
theorem koa9 : (9 : Int32).toInt = 9 := by decide
theorem koa2 : (2 : Int32).toInt = 2 := by decide
theorem koa8 : (8 : Int32).toInt = 8 := by decide
theorem oa3 {a0 a1 : Int} (h0 : a0 ≤ a1) (h1 : a0 = 120) : (((120 : Int) ≤ a1) ∧ (a1 = a1) ∧ (a1 = a1)) ∨ ((a1 < 120) ∧ (a1 = (a1 + 1)) ∧ (a1 = (a1 + 1))) := by omega
theorem oa4 {a0 a1 : Int} (h0 : a0 ≤ a1) (h1 : a0 = 120) : ¬ (a1 < 120) := by omega
theorem oa5 {a0 : Int} (h0 : (0 : Int) ≤ a0) : (0 : Int) ≤ a0 := oz3 h0
theorem oa6 {a0 a1 : Int} (h0 : a0 < a1) (h1 : a1 = 120) : a0 < 120 := oz986 h0 h1
theorem oa7 {a0 a1 : Int} (h0 : (0 : Int) ≤ a0) (h1 : a1 = 1) : (-2147483648 : Int) ≤ a0 + a1 := oz12 h0 h1
theorem oa8 {a0 a1 : Int} (h0 : a0 ≤ 120) (h1 : a1 = 1) : a0 + a1 ≤ 2147483647 := oz192 h0 h1
theorem oa9 {a0 a1 a2 : Int} (h0 : (0 : Int) ≤ a0) (h1 : a1 = a0 + a2) (h2 : a2 = 1) : (0 : Int) ≤ a1 := oz14 h0 h1 h2
theorem oa10 {a0 a1 a2 a3 : Int} (h0 : a0 < a1) (h1 : a2 = a0 + a3) (h2 : a1 = 120) (h3 : a3 = 1) : a2 ≤ 120 := oz987 h0 h1 h2 h3
theorem oa11 {a0 a1 a2 a3 : Int} (h0 : a0 < a1) (h1 : a2 = a0 + a3) (h2 : a1 = 120) (h3 : a3 = 1) : (((120 : Int) ≤ a0) ∧ (a2 = a0) ∧ (a2 = a0)) ∨ ((a0 < 120) ∧ (a2 = (a0 + 1)) ∧ (a2 = (a0 + 1))) := by omega
theorem oa12 {a0 a1 : Int} (h0 : a0 < a1) (h1 : a1 = 120) : ¬ ((120 : Int) ≤ a0) := by omega
theorem oa13 {a0 a1 a2 a3 a4 a5 a6 : Int} (h0 : a0 < a1) (h1 : a2 ≤ a3) (h2 : a3 ≤ a4) (h3 : (((120 : Int) ≤ a0) ∧ (a5 = a0) ∧ (a6 = a0)) ∨ ((a0 < 120) ∧ (a5 = (a0 + 1)) ∧ (a6 = (a0 + 1)))) (h4 : a1 = 120) (h5 : a2 = 0) (h6 : a4 = 255) : ((a5 = (-1)) ∧ (¬ (((0 : Int) ≤ a3) ∧ (a3 ≤ 255))) ∧ (a6 = a0)) ∨ (((0 : Int) ≤ a3) ∧ (a3 ≤ 255) ∧ (((a5 = (-3)) ∧ ((120 : Int) ≤ a0) ∧ (a6 = a0)) ∨ ((a0 < 120) ∧ (a5 = (a0 + 1)) ∧ (a6 = (a0 + 1))))) := by omega
theorem oa14 {a0 a1 a2 a3 a4 : Int} (h0 : a0 < a1) (h1 : a2 ≤ a3) (h2 : a3 ≤ a4) (h3 : a1 = 120) (h4 : a2 = 0) (h5 : a4 = 255) : ¬ (¬ (((0 : Int) ≤ a3) ∧ (a3 ≤ 255) ∧ (a0 < 120))) := by omega
theorem oa15 {a0 a1 a2 a3 a4 a5 : Int} (h0 : a0 ≤ a1) (h1 : a2 ≤ a3) (h2 : a3 ≤ a4) (h3 : a0 = 120) (h4 : a2 = 0) (h5 : a4 = 255) (h6 : a5 = (-3)) : ((a5 = (-1)) ∧ (¬ (((0 : Int) ≤ a3) ∧ (a3 ≤ 255))) ∧ (a1 = a1)) ∨ (((0 : Int) ≤ a3) ∧ (a3 ≤ 255) ∧ (((a5 = (-3)) ∧ ((120 : Int) ≤ a1) ∧ (a1 = a1)) ∨ ((a1 < 120) ∧ (a5 = (a1 + 1)) ∧ (a1 = (a1 + 1))))) := by omega
theorem oa16 {a0 a1 a2 : Int} (h0 : a0 ≤ a1) (h1 : a0 = 120) : ¬ (((0 : Int) ≤ a2) ∧ (a2 ≤ 255) ∧ (a1 < 120)) := by omega
theorem oa17 {a0 a1 a2 a3 a4 : Int} (h0 : ¬ ((a0 ≤ a1) ∧ (a1 ≤ a2))) (h1 : a0 = 0) (h2 : a2 = 255) (h3 : a3 = (-1)) : ((a3 = (-1)) ∧ (¬ (((0 : Int) ≤ a1) ∧ (a1 ≤ 255))) ∧ (a4 = a4)) ∨ (((0 : Int) ≤ a1) ∧ (a1 ≤ 255) ∧ (((a3 = (-3)) ∧ ((120 : Int) ≤ a4) ∧ (a4 = a4)) ∨ ((a4 < 120) ∧ (a3 = (a4 + 1)) ∧ (a4 = (a4 + 1))))) := by omega
theorem oa18 {a0 a1 a2 a3 : Int} (h0 : ¬ ((a0 ≤ a1) ∧ (a1 ≤ a2))) (h1 : a0 = 0) (h2 : a2 = 255) : ¬ (((0 : Int) ≤ a1) ∧ (a1 ≤ 255) ∧ (a3 < 120)) := by omega
theorem oa19 {a0 a1 a2 a3 : Int} (h0 : a0 ≠ a1) (h1 : a0 ≤ 120) (h2 : a2 = a0 + a3) (h3 : a1 = 120) (h4 : a3 = 1) : a2 ≤ 120 := oz193 h0 h1 h2 h3 h4
theorem oa20 {a0 a1 : Int} (h0 : a0 ≠ a1) (h1 : a0 ≤ 120) (h2 : a1 = 120) : a0 < 120 := oz194 h0 h1 h2
theorem oa21 {a0 a1 a2 a3 a4 a5 a6 : Int} (h0 : a0 ≠ a1) (h1 : a0 ≤ 120) (h2 : a2 = a0 + a3) (h3 : a4 ≤ a5) (h4 : a5 ≤ a6) (h5 : a1 = 120) (h6 : a3 = 1) (h7 : a4 = 0) (h8 : a6 = 255) : ((a2 = (-1)) ∧ (¬ (((0 : Int) ≤ a5) ∧ (a5 ≤ 255))) ∧ (a2 = a0)) ∨ (((0 : Int) ≤ a5) ∧ (a5 ≤ 255) ∧ (((a2 = (-3)) ∧ ((120 : Int) ≤ a0) ∧ (a2 = a0)) ∨ ((a0 < 120) ∧ (a2 = (a0 + 1)) ∧ (a2 = (a0 + 1))))) := by omega
theorem oa22 {a0 a1 a2 a3 a4 : Int} (h0 : a0 ≠ a1) (h1 : a0 ≤ 120) (h2 : a2 ≤ a3) (h3 : a3 ≤ a4) (h4 : a1 = 120) (h5 : a2 = 0) (h6 : a4 = 255) : ¬ (¬ (((0 : Int) ≤ a3) ∧ (a3 ≤ 255) ∧ (a0 < 120))) := by omega
theorem oa23 {a0 a1 a2 a3 a4 a5 : Int} (h0 : a0 = a1) (h1 : a2 ≤ a3) (h2 : a3 ≤ a4) (h3 : a1 = 120) (h4 : a2 = 0) (h5 : a4 = 255) (h6 : a5 = (-3)) : ((a5 = (-1)) ∧ (¬ (((0 : Int) ≤ a3) ∧ (a3 ≤ 255))) ∧ (a0 = a0)) ∨ (((0 : Int) ≤ a3) ∧ (a3 ≤ 255) ∧ (((a5 = (-3)) ∧ ((120 : Int) ≤ a0) ∧ (a0 = a0)) ∨ ((a0 < 120) ∧ (a5 = (a0 + 1)) ∧ (a0 = (a0 + 1))))) := by omega
theorem oa24 {a0 a1 a2 : Int} (h0 : a0 = a1) (h1 : a1 = 120) : ¬ (((0 : Int) ≤ a2) ∧ (a2 ≤ 255) ∧ (a0 < 120)) := by omega
theorem oa27 {a0 a1 a2 : Int} (h0 : a0 ≤ a1) (h1 : a1 ≤ a2) (h2 : a0 = 0) (h3 : a2 = 9) : ((0 : Int) ≤ a1) ∧ (a1 ≤ 9) := by omega
theorem oa28 {a0 a1 a2 : Int} (h0 : ¬ ((a0 ≤ a1) ∧ (a1 ≤ a2))) (h1 : a0 = 0) (h2 : a2 = 9) : ¬ (((0 : Int) ≤ a1) ∧ (a1 ≤ 9)) := by omega
theorem oa29 {a0 a1 a2 : Int} (h0 : ¬ ((a0 ≤ a1) ∧ (a1 ≤ a2))) (h1 : a0 = 0) (h2 : a1 = 1) (h3 : a2 = 6) : False := by omega
theorem oa32 {a0 a1 a2 : Int} (h0 : ¬ ((a0 ≤ a1) ∧ (a1 ≤ a2))) (h1 : a0 = 0) (h2 : a1 = 2) (h3 : a2 = 6) : False := by omega
theorem oa33 {a0 a1 : Int} (h0 : a0 < a1) (h1 : a1 = 8) : a0 < 8 := oz936 h0 h1
theorem oa34 {a0 a1 : Int} (h0 : a0 ≤ 8) (h1 : a1 = 1) : a0 + a1 ≤ 2147483647 := oz13 h0 h1
theorem oa35 {a0 a1 a2 a3 : Int} (h0 : a0 < a1) (h1 : a2 = a0 + a3) (h2 : a1 = 8) (h3 : a3 = 1) : a2 ≤ 8 := oz937 h0 h1 h2 h3
theorem oa36 {a0 a1 a2 : Int} (h0 : (0 : Int) ≤ a0) (h1 : a1 = a0 + a2) (h2 : a2 = 1) : (-2147483648 : Int) ≤ a1 - a2 := oz915 h0 h1 h2
theorem oa37 {a0 a1 a2 : Int} (h0 : a0 ≤ 8) (h1 : a1 = a0 + a2) (h2 : a2 = 1) : a1 - a2 ≤ 2147483647 := oz938 h0 h1 h2
theorem oa38 {a0 a1 a2 a3 a4 : Int} (h0 : a0 < a1) (h1 : a2 = a0 + a3) (h2 : a4 = a2 - a3) (h3 : a1 = 8) (h4 : a3 = 1) : (((8 : Int) ≤ a0) ∧ (a4 = (-3)) ∧ (a2 = a0)) ∨ ((a0 < 8) ∧ (a4 = a0) ∧ (a2 = (a0 + 1))) := by omega
theorem oa39 {a0 a1 a2 : Int} (h0 : a0 ≤ a1) (h1 : a0 = 8) (h2 : a2 = (-3)) : (((8 : Int) ≤ a1) ∧ (a2 = (-3)) ∧ (a1 = a1)) ∨ ((a1 < 8) ∧ (a2 = a1) ∧ (a1 = (a1 + 1))) := by omega
theorem oa40 {a0 a1 : Int} (h0 : a0 ≤ a1) (h1 : a0 = 8) : ¬ (a1 < 8) := by omega
theorem oa41 {a0 a1 a2 a3 a4 a5 : Int} (h0 : a0 < a1) (h1 : (0 : Int) ≤ a2) (h2 : a2 ≤ 9) (h3 : (0 : Int) ≤ a3) (h4 : a3 ≤ 9) (h5 : (((8 : Int) ≤ a0) ∧ (a4 = (-3)) ∧ (a5 = a0)) ∨ ((a0 < 8) ∧ (a4 = a0) ∧ (a5 = (a0 + 1)))) (h6 : a1 = 8) : ((a4 = (-1)) ∧ (¬ (((0 : Int) ≤ a2) ∧ (a2 ≤ 9) ∧ ((0 : Int) ≤ a3) ∧ (a3 ≤ 9))) ∧ (a5 = a0)) ∨ (((0 : Int) ≤ a2) ∧ (a2 ≤ 9) ∧ ((0 : Int) ≤ a3) ∧ (a3 ≤ 9) ∧ (((a4 = (-3)) ∧ ((8 : Int) ≤ a0) ∧ (a5 = a0)) ∨ ((a0 < 8) ∧ (a4 = a0) ∧ (a5 = (a0 + 1))))) := by omega
theorem oa42 {a0 a1 a2 a3 : Int} (h0 : a0 < a1) (h1 : (0 : Int) ≤ a2) (h2 : a2 ≤ 9) (h3 : (0 : Int) ≤ a3) (h4 : a3 ≤ 9) (h5 : a1 = 8) : ¬ (¬ (((0 : Int) ≤ a2) ∧ (a2 ≤ 9) ∧ ((0 : Int) ≤ a3) ∧ (a3 ≤ 9) ∧ (a0 < 8))) := by omega
theorem oa43 {a0 a1 a2 a3 a4 : Int} (h0 : a0 ≤ a1) (h1 : (0 : Int) ≤ a2) (h2 : a2 ≤ 9) (h3 : (0 : Int) ≤ a3) (h4 : a3 ≤ 9) (h5 : a0 = 8) (h6 : a4 = (-3)) : ((a4 = (-1)) ∧ (¬ (((0 : Int) ≤ a2) ∧ (a2 ≤ 9) ∧ ((0 : Int) ≤ a3) ∧ (a3 ≤ 9))) ∧ (a1 = a1)) ∨ (((0 : Int) ≤ a2) ∧ (a2 ≤ 9) ∧ ((0 : Int) ≤ a3) ∧ (a3 ≤ 9) ∧ (((a4 = (-3)) ∧ ((8 : Int) ≤ a1) ∧ (a1 = a1)) ∨ ((a1 < 8) ∧ (a4 = a1) ∧ (a1 = (a1 + 1))))) := by omega
theorem oa44 {a0 a1 a2 a3 : Int} (h0 : a0 ≤ a1) (h1 : a0 = 8) : ¬ (((0 : Int) ≤ a2) ∧ (a2 ≤ 9) ∧ ((0 : Int) ≤ a3) ∧ (a3 ≤ 9) ∧ (a1 < 8)) := by omega
theorem oa45 {a0 a1 a2 a3 : Int} (h0 : ¬ (((0 : Int) ≤ a0) ∧ (a0 ≤ 9))) (h1 : a1 = (-1)) : ((a1 = (-1)) ∧ (¬ (((0 : Int) ≤ a2) ∧ (a2 ≤ 9) ∧ ((0 : Int) ≤ a0) ∧ (a0 ≤ 9))) ∧ (a3 = a3)) ∨ (((0 : Int) ≤ a2) ∧ (a2 ≤ 9) ∧ ((0 : Int) ≤ a0) ∧ (a0 ≤ 9) ∧ (((a1 = (-3)) ∧ ((8 : Int) ≤ a3) ∧ (a3 = a3)) ∨ ((a3 < 8) ∧ (a1 = a3) ∧ (a3 = (a3 + 1))))) := by omega
theorem oa46 {a0 a1 a2 : Int} (h0 : ¬ (((0 : Int) ≤ a0) ∧ (a0 ≤ 9))) : ¬ (((0 : Int) ≤ a1) ∧ (a1 ≤ 9) ∧ ((0 : Int) ≤ a0) ∧ (a0 ≤ 9) ∧ (a2 < 8)) := by omega
theorem oa47 {a0 a1 a2 a3 : Int} (h0 : ¬ (((0 : Int) ≤ a0) ∧ (a0 ≤ 9))) (h1 : a1 = (-1)) : ((a1 = (-1)) ∧ (¬ (((0 : Int) ≤ a0) ∧ (a0 ≤ 9) ∧ ((0 : Int) ≤ a2) ∧ (a2 ≤ 9))) ∧ (a3 = a3)) ∨ (((0 : Int) ≤ a0) ∧ (a0 ≤ 9) ∧ ((0 : Int) ≤ a2) ∧ (a2 ≤ 9) ∧ (((a1 = (-3)) ∧ ((8 : Int) ≤ a3) ∧ (a3 = a3)) ∨ ((a3 < 8) ∧ (a1 = a3) ∧ (a3 = (a3 + 1))))) := by omega
theorem oa48 {a0 a1 a2 : Int} (h0 : ¬ (((0 : Int) ≤ a0) ∧ (a0 ≤ 9))) : ¬ (((0 : Int) ≤ a0) ∧ (a0 ≤ 9) ∧ ((0 : Int) ≤ a1) ∧ (a1 ≤ 9) ∧ (a2 < 8)) := by omega
theorem oa49 {a0 : Int} (h0 : a0 ≤ 8) : a0 < 31 := oz4 h0
theorem oa50 {a0 a1 : Int} (h0 : a0 ≤ 8) : a0 = 18 → (0 : Int) ≤ a1 ∧ a1 ≤ 5 := oz5 h0
theorem oa51 {a0 a1 : Int} (h0 : a0 ≤ 8) : 19 ≤ a0 → a0 ≤ 24 → (0 : Int) ≤ a1 ∧ a1 ≤ 7 := oz6 h0
theorem oa52 {a0 : Int} (h0 : a0 ≤ 8) : a0 < 24 := oz7 h0
theorem oa53 {a0 a1 : Int} (h0 : (0 : Int) ≤ a0) (h1 : a1 = 8) : (-2147483648 : Int) ≤ a1 + a0 := oz8 h0 h1
theorem oa54 {a0 a1 : Int} (h0 : a0 ≤ 8) (h1 : a1 = 8) : a1 + a0 ≤ 2147483647 := oz9 h0 h1
theorem oa55 {a0 a1 a2 : Int} (h0 : (0 : Int) ≤ a0) (h1 : a1 = a2 + a0) (h2 : a2 = 8) : (0 : Int) ≤ a1 := oz10 h0 h1 h2
theorem oa56 {a0 a1 a2 : Int} (h0 : a0 ≤ 8) (h1 : a1 = a2 + a0) (h2 : a2 = 8) : a1 < 24 := oz11 h0 h1 h2
theorem oa57 {a0 a1 a2 : Int} (h0 : a0 ≤ 7) (h1 : a1 = a0 + a2) (h2 : a2 = 1) : a1 ≤ 8 := oz15 h0 h1 h2
theorem oa58 {a0 a1 a2 : Int} (h0 : a0 = a1 + a2) (h1 : a2 = 1) : (a1 = a1) ∧ (a0 = (a1 + 1)) := by omega
theorem oa59 {a0 a1 : Int} (h0 : a0 ≠ a1) (h1 : a0 ≤ 8) (h2 : a1 = 8) : a0 ≤ 7 := oz16 h0 h1 h2
theorem oa60 {a0 a1 a2 a3 a4 a5 a6 : Int} (h0 : a0 ≤ 8) (h1 : a1 ≤ a2) (h2 : a2 ≤ a3) (h3 : a1 ≤ a4) (h4 : a4 ≤ a3) (h5 : a5 = a6) (h6 : a0 = (a6 + 1)) (h7 : a1 = 0) (h8 : a3 = 9) : ((a5 = (-1)) ∧ (¬ (((0 : Int) ≤ a2) ∧ (a2 ≤ 9) ∧ ((0 : Int) ≤ a4) ∧ (a4 ≤ 9))) ∧ (a0 = a6)) ∨ (((0 : Int) ≤ a2) ∧ (a2 ≤ 9) ∧ ((0 : Int) ≤ a4) ∧ (a4 ≤ 9) ∧ (((a5 = (-3)) ∧ ((8 : Int) ≤ a6) ∧ (a0 = a6)) ∨ ((a6 < 8) ∧ (a5 = a6) ∧ (a0 = (a6 + 1))))) := by omega
theorem oa61 {a0 a1 a2 a3 a4 a5 : Int} (h0 : a0 ≤ 8) (h1 : a1 ≤ a2) (h2 : a2 ≤ a3) (h3 : a1 ≤ a4) (h4 : a4 ≤ a3) (h5 : a0 = (a5 + 1)) (h6 : a1 = 0) (h7 : a3 = 9) : ¬ (¬ (((0 : Int) ≤ a2) ∧ (a2 ≤ 9) ∧ ((0 : Int) ≤ a4) ∧ (a4 ≤ 9) ∧ (a5 < 8))) := by omega
theorem oa62 {a0 a1 a2 a3 a4 a5 a6 : Int} (h0 : a0 = a1) (h1 : a2 ≤ a3) (h2 : a3 ≤ a4) (h3 : a2 ≤ a5) (h4 : a5 ≤ a4) (h5 : a1 = 8) (h6 : a2 = 0) (h7 : a4 = 9) (h8 : a6 = (-3)) : ((a6 = (-1)) ∧ (¬ (((0 : Int) ≤ a3) ∧ (a3 ≤ 9) ∧ ((0 : Int) ≤ a5) ∧ (a5 ≤ 9))) ∧ (a0 = a0)) ∨ (((0 : Int) ≤ a3) ∧ (a3 ≤ 9) ∧ ((0 : Int) ≤ a5) ∧ (a5 ≤ 9) ∧ (((a6 = (-3)) ∧ ((8 : Int) ≤ a0) ∧ (a0 = a0)) ∨ ((a0 < 8) ∧ (a6 = a0) ∧ (a0 = (a0 + 1))))) := by omega
theorem oa63 {a0 a1 a2 a3 : Int} (h0 : a0 = a1) (h1 : a1 = 8) : ¬ (((0 : Int) ≤ a2) ∧ (a2 ≤ 9) ∧ ((0 : Int) ≤ a3) ∧ (a3 ≤ 9) ∧ (a0 < 8)) := by omega
theorem oa64 {a0 a1 a2 a3 a4 a5 : Int} (h0 : ¬ ((a0 ≤ a1) ∧ (a1 ≤ a2))) (h1 : a0 = 0) (h2 : a2 = 9) (h3 : a3 = (-1)) : ((a3 = (-1)) ∧ (¬ (((0 : Int) ≤ a4) ∧ (a4 ≤ 9) ∧ ((0 : Int) ≤ a1) ∧ (a1 ≤ 9))) ∧ (a5 = a5)) ∨ (((0 : Int) ≤ a4) ∧ (a4 ≤ 9) ∧ ((0 : Int) ≤ a1) ∧ (a1 ≤ 9) ∧ (((a3 = (-3)) ∧ ((8 : Int) ≤ a5) ∧ (a5 = a5)) ∨ ((a5 < 8) ∧ (a3 = a5) ∧ (a5 = (a5 + 1))))) := by omega
theorem oa65 {a0 a1 a2 a3 a4 : Int} (h0 : ¬ ((a0 ≤ a1) ∧ (a1 ≤ a2))) (h1 : a0 = 0) (h2 : a2 = 9) : ¬ (((0 : Int) ≤ a3) ∧ (a3 ≤ 9) ∧ ((0 : Int) ≤ a1) ∧ (a1 ≤ 9) ∧ (a4 < 8)) := by omega
theorem oa66 {a0 a1 a2 a3 a4 a5 : Int} (h0 : ¬ ((a0 ≤ a1) ∧ (a1 ≤ a2))) (h1 : a0 = 0) (h2 : a2 = 9) (h3 : a3 = (-1)) : ((a3 = (-1)) ∧ (¬ (((0 : Int) ≤ a1) ∧ (a1 ≤ 9) ∧ ((0 : Int) ≤ a4) ∧ (a4 ≤ 9))) ∧ (a5 = a5)) ∨ (((0 : Int) ≤ a1) ∧ (a1 ≤ 9) ∧ ((0 : Int) ≤ a4) ∧ (a4 ≤ 9) ∧ (((a3 = (-3)) ∧ ((8 : Int) ≤ a5) ∧ (a5 = a5)) ∨ ((a5 < 8) ∧ (a3 = a5) ∧ (a5 = (a5 + 1))))) := by omega
theorem oa67 {a0 a1 a2 a3 a4 : Int} (h0 : ¬ ((a0 ≤ a1) ∧ (a1 ≤ a2))) (h1 : a0 = 0) (h2 : a2 = 9) : ¬ (((0 : Int) ≤ a1) ∧ (a1 ≤ 9) ∧ ((0 : Int) ≤ a3) ∧ (a3 ≤ 9) ∧ (a4 < 8)) := by omega
def yw42_98 : kW := ([6273], [99], [], [])
set_option maxRecDepth 100000 in
theorem ke42_98 {i : Nat → Int32} {a : Nat → List Int32} {q : Nat → List Int64} {r : Nat → Nat} (hI : kI i a q) (hr : kr r) (x1 : Int32) : km 1 42 [.ref 98, .int x1] (ks i a q r) (kVI yw42_98 i a q r (fun v i1 a1 q1 r1 => ((((120 : Int) ≤ (i 6273).toInt) ∧ (v.toInt = (i 6273).toInt) ∧ ((i1 6273).toInt = (i 6273).toInt)) ∨ (((i 6273).toInt < 120) ∧ (v.toInt = ((i 6273).toInt + 1)) ∧ ((i1 6273).toInt = ((i 6273).toInt + 1)))) ∧ (((i 6273).toInt < 120 → a1 99 = (a 99).set (i 6273).toNatClampNeg x1) ∧ ((120 : Int) ≤ (i 6273).toInt → a1 99 = a 99)))) := by
  have hG := kG_self yw42_98 hI hr
  refine km_ofI (q := (mi_h42, mi_c42)) rfl (by decide) (Nat.le_of_ble_eq_true rfl) ?_
  intro P hP
  have fi_6273 : ((0 : Int) ≤ (i 6273).toInt) ∧ ((i 6273).toInt ≤ 120) := hG.I.1 6273
  first | refine ft_goL mi_k42 3 6 [(0, .ref 98), (1, .int x1)] [.int 120, .int (i 6273)] (by rfl) ?_ | refine ft_go mi_k42 3 6 [(0, .ref 98), (1, .int x1)] [.int 120, .int (i 6273)] i a q r (by rfl) ?_
  refine ft_ifS mi_k42 (decide (120 ≤ (i 6273))) 29 9 [] (by rfl) (fun c => ?_) (fun c => ?_)
  ·
    have c1 : (120 : Int32).toInt ≤ (i 6273).toInt := kd_le c; clear c
    first | refine ft_goS mi_k42 2 33 [.int (i 6273)] (by rfl) ?_ | refine ft_go mi_k42 2 33 [(0, .ref 98), (1, .int x1)] [.int (i 6273)] i a q r (by rfl) ?_
    exact ft_ret mi_k42 (by rfl) (hP (i 6273) _ _ _ _ hG ⟨(oa3 c1 koa120), ⟨(fun h => absurd h (oa4 c1 koa120)), (fun _ => (show a 99 = a 99 from rfl))⟩⟩)
  ·
    have c2 : (i 6273).toInt < (120 : Int32).toInt := kd_leF c; clear c
    first | refine fo_goS mi_k42 fz42_9_5_18 [.int x1, .int (i 6273), .ref 99] (by rfl) ?_ | refine ft_go mi_k42 5 18 [(0, .ref 98), (1, .int x1)] [.int x1, .int (i 6273), .ref 99] i a q r (by rfl) ?_
    refine ko_iast3 mi_k42.1 (n := 120) (c := 120) (ax := (0, 0, 0, 0, 0)) (mi_k42.2 _ _ (by rfl)) (by rfl) (ksG99 _ _ _ _) (ksA99 _ _ _ _) (hG.I.2.1 99) rfl (oa5 fi_6273.1) (oa6 c2 koa120) ?_
    intro a3 ea3 fa3
    have hJ3 := kG_a3 hG 99 rfl ea3 fa3 (kd_bd _)
    have s4 : ((i 6273) + 1).toInt = (i 6273).toInt + (1 : Int32).toInt := kd_add (oa7 fi_6273.1 koa1) (oa8 fi_6273.2 koa1)
    have hJ5 := kG_i hJ3 6273 rfl (v := ((i 6273) + 1)) ⟨(oa9 fi_6273.1 s4 koa1), (oa10 c2 s4 koa120 koa1)⟩
    first | refine fo_goI mi_k42 fz42_19_8_33 [.int ((i 6273) + 1)] (ku i 6273 ((i 6273) + 1)) (by rfl) ?_ | refine ft_go mi_k42 8 33 [(0, .ref 98), (1, .int x1)] [.int ((i 6273) + 1)] (ku i 6273 ((i 6273) + 1)) a3 q r (by rfl) ?_
    exact ft_ret mi_k42 (by rfl) (hP ((i 6273) + 1) _ _ _ _ hJ5 ⟨(oa11 c2 s4 koa120 koa1), ⟨(fun _ => (show a3 99 = (a 99).set (i 6273).toNatClampNeg x1 from (by first | rfl | (simp only [ea3, sMn, sMx]; done) | (simp only [ea3, sMn, sMx]; rfl)))), (fun h => absurd h (oa12 c2 koa120))⟩⟩)
def yw85_0 : kW := ([6273], [99], [], [])
set_option maxRecDepth 100000 in
theorem ke85_0 {i : Nat → Int32} {a : Nat → List Int32} {q : Nat → List Int64} {r : Nat → Nat} (hI : kI i a q) (hr : kr r) (x1 : Int32) : km 3 85 [.ref 0, .int x1] (ks i a q r) (kVI yw85_0 i a q r (fun v i1 a1 q1 r1 => (((v.toInt = (-1)) ∧ (¬ (((0 : Int) ≤ x1.toInt) ∧ (x1.toInt ≤ 255))) ∧ ((i1 6273).toInt = (i 6273).toInt)) ∨ (((0 : Int) ≤ x1.toInt) ∧ (x1.toInt ≤ 255) ∧ (((v.toInt = (-3)) ∧ ((120 : Int) ≤ (i 6273).toInt) ∧ ((i1 6273).toInt = (i 6273).toInt)) ∨ (((i 6273).toInt < 120) ∧ (v.toInt = ((i 6273).toInt + 1)) ∧ ((i1 6273).toInt = ((i 6273).toInt + 1)))))) ∧ ((((0 : Int) ≤ x1.toInt) ∧ (x1.toInt ≤ 255) ∧ ((i 6273).toInt < 120) → a1 99 = (a 99).set (i 6273).toNatClampNeg x1) ∧ (¬ (((0 : Int) ≤ x1.toInt) ∧ (x1.toInt ≤ 255) ∧ ((i 6273).toInt < 120)) → a1 99 = a 99)))) := by
  have hG := kG_self yw85_0 hI hr
  refine km_ofI (q := (mi_h85, mi_c85)) rfl (by decide) (Nat.le_of_ble_eq_true rfl) ?_
  intro P hP
  first | refine ft_goL mi_k85 3 5 [(0, .ref 0), (1, .int x1)] [.int 255, .int 0, .int x1] (by rfl) ?_ | refine ft_go mi_k85 3 5 [(0, .ref 0), (1, .int x1)] [.int 255, .int 0, .int x1] i a q r (by rfl) ?_
  refine ko_callPI mi_k85.1 (pc := 5) (ls := [(0, .ref 0), (1, .int x1)]) (st := [.int 255, .int 0, .int x1]) (h := ks i a q r) (i := (.invokestatic 74, 3, 120, 0, 9, 0, 152)) (mi_k85.2 _ _ (by rfl)) (ft_invS mi_pq120 (by rfl)) (cy := mi_c120) mi_pq120 rfl (kc120 hG.I hG.R x1 0 255) (by decide) ?_
  intro vg1 hg1
  rcases hg1 with ⟨eg1, hg1⟩ | ⟨eg1, hg1⟩
  ·
    subst eg1
    have z2 : ((0 : Int32).toInt ≤ x1.toInt) ∧ (x1.toInt ≤ (255 : Int32).toInt) := hg1
    first | refine fo_goS mi_k85 fz85_8_5_22 [.int 120, .int (i 6273)] (by rfl) ?_ | refine ft_go mi_k85 5 22 [(0, .ref 0), (1, .int x1)] [.int 120, .int (i 6273)] i a q r (by rfl) ?_
    refine ft_ifS mi_k85 (decide ((i 6273) < 120)) 30 25 [] (by rfl) (fun c => ?_) (fun c => ?_)
    ·
      have c3 : (i 6273).toInt < (120 : Int32).toInt := kd_lt c; clear c
      first | refine ft_goS mi_k85 3 35 [.int x1, .ref 98] (by rfl) ?_ | refine ft_go mi_k85 3 35 [(0, .ref 0), (1, .int x1)] [.int x1, .ref 98] i a q r (by rfl) ?_
      refine ko_callI mi_k85.1 (pc := 35) (ls := [(0, .ref 0), (1, .int x1)]) (st := [.int x1, .ref 98]) (h := ks i a q r) (i := (.invokevirtual 110, 3, 42, 0, 9, 0, 173)) (mi_k85.2 _ _ (by rfl)) (ft_invS mi_pq42 (by rfl)) (cy := mi_c42) mi_pq42 rfl (ke42_98 hG.I hG.R x1) (by decide) ?_
      intro vg4 ig4 ag4 qg4 rg4 kg4 hg4
      have hGg4 := kG_call hG kg4 (by decide +kernel)
      obtain ⟨hg4, og4⟩ := hg4
      have z5 : (((120 : Int) ≤ (i 6273).toInt) ∧ (vg4.toInt = (i 6273).toInt) ∧ ((ig4 6273).toInt = (i 6273).toInt)) ∨ (((i 6273).toInt < 120) ∧ (vg4.toInt = ((i 6273).toInt + 1)) ∧ ((ig4 6273).toInt = ((i 6273).toInt + 1))) := hg4
      have q6 : ag4 99 = (a 99).set (i 6273).toNatClampNeg x1 := og4.1 (oa6 c3 koa120)
      exact ft_ret mi_k85 (by rfl) (hP vg4 _ _ _ _ hGg4 ⟨(oa13 c3 z2.1 z2.2 z5 koa120 koa0 koa255), ⟨(fun _ => (show ag4 99 = (a 99).set (i 6273).toNatClampNeg x1 from (by first | rfl | (simp only [q6, sMn, sMx]; done) | (simp only [q6, sMn, sMx]; rfl)))), (fun h => absurd h (oa14 c3 z2.1 z2.2 koa120 koa0 koa255))⟩⟩)
    ·
      have c7 : (120 : Int32).toInt ≤ (i 6273).toInt := kd_ltF c; clear c
      first | refine ft_goS mi_k85 2 38 [.int (-3)] (by rfl) ?_ | refine ft_go mi_k85 2 38 [(0, .ref 0), (1, .int x1)] [.int (-3)] i a q r (by rfl) ?_
      exact ft_ret mi_k85 (by rfl) (hP (-3) _ _ _ _ hG ⟨(oa15 c7 z2.1 z2.2 koa120 koa0 koa255 koam3), ⟨(fun h => absurd h (oa16 c7 koa120)), (fun _ => (show a 99 = a 99 from rfl))⟩⟩)
  ·
    subst eg1
    have z8 : ¬ (((0 : Int32).toInt ≤ x1.toInt) ∧ (x1.toInt ≤ (255 : Int32).toInt)) := hg1
    first | refine ft_goS mi_k85 2 12 [.int (-1)] (by rfl) ?_ | refine ft_go mi_k85 2 12 [(0, .ref 0), (1, .int x1)] [.int (-1)] i a q r (by rfl) ?_
    exact ft_ret mi_k85 (by rfl) (hP (-1) _ _ _ _ hG ⟨(oa17 z8 koa0 koa255 koam1), ⟨(fun h => absurd h (oa18 z8 koa0 koa255)), (fun _ => (show a 99 = a 99 from rfl))⟩⟩)
def yw146_116 : kW := ([7429], [119], [], [])
set_option maxRecDepth 100000 in
theorem ke146_116 {i : Nat → Int32} {a : Nat → List Int32} {q : Nat → List Int64} {r : Nat → Nat} (hI : kI i a q) (hr : kr r) (x1 : Int32) : km 3 146 [.ref 116, .int x1] (ks i a q r) (kVI yw146_116 i a q r (fun v i1 a1 q1 r1 => (((v.toInt = (-1)) ∧ (¬ (((0 : Int) ≤ x1.toInt) ∧ (x1.toInt ≤ 255))) ∧ ((i1 7429).toInt = (i 7429).toInt)) ∨ (((0 : Int) ≤ x1.toInt) ∧ (x1.toInt ≤ 255) ∧ (((v.toInt = (-3)) ∧ ((120 : Int) ≤ (i 7429).toInt) ∧ ((i1 7429).toInt = (i 7429).toInt)) ∨ (((i 7429).toInt < 120) ∧ (v.toInt = ((i 7429).toInt + 1)) ∧ ((i1 7429).toInt = ((i 7429).toInt + 1)))))) ∧ ((((0 : Int) ≤ x1.toInt) ∧ (x1.toInt ≤ 255) ∧ ((i 7429).toInt < 120) → a1 119 = (a 119).set (i 7429).toNatClampNeg x1) ∧ (¬ (((0 : Int) ≤ x1.toInt) ∧ (x1.toInt ≤ 255) ∧ ((i 7429).toInt < 120)) → a1 119 = a 119)))) := by
  have hG := kG_self yw146_116 hI hr
  refine km_ofI (q := (mi_h146, mi_c146)) rfl (by decide) (Nat.le_of_ble_eq_true rfl) ?_
  intro P hP
  first | refine ft_goL mi_k146 3 5 [(0, .ref 116), (1, .int x1)] [.int 255, .int 0, .int x1] (by rfl) ?_ | refine ft_go mi_k146 3 5 [(0, .ref 116), (1, .int x1)] [.int 255, .int 0, .int x1] i a q r (by rfl) ?_
  refine ko_callPI mi_k146.1 (pc := 5) (ls := [(0, .ref 116), (1, .int x1)]) (st := [.int 255, .int 0, .int x1]) (h := ks i a q r) (i := (.invokestatic 119, 3, 131, 0, 9, 0, 379)) (mi_k146.2 _ _ (by rfl)) (ft_invS mi_pq131 (by rfl)) (cy := mi_c131) mi_pq131 rfl (kc131 hG.I hG.R x1 0 255) (by decide) ?_
  intro vg1 hg1
  rcases hg1 with ⟨eg1, hg1⟩ | ⟨eg1, hg1⟩
  ·
    subst eg1
    have z2 : ((0 : Int32).toInt ≤ x1.toInt) ∧ (x1.toInt ≤ (255 : Int32).toInt) := hg1
    have fi_7429 : ((0 : Int) ≤ (i 7429).toInt) ∧ ((i 7429).toInt ≤ 120) := hG.I.1 7429
    first | refine ft_goS mi_k146 4 19 [.int 120, .int (i 7429)] (by rfl) ?_ | refine ft_go mi_k146 4 19 [(0, .ref 116), (1, .int x1)] [.int 120, .int (i 7429)] i a q r (by rfl) ?_
    refine ft_ifS mi_k146 ((i 7429) != 120) 25 22 [] (by rfl) (fun c => ?_) (fun c => ?_)
    ·
      have c3 : (i 7429).toInt ≠ (120 : Int32).toInt := kd_ne c; clear c
      have s4 : ((i 7429) + 1).toInt = (i 7429).toInt + (1 : Int32).toInt := kd_add (oa7 fi_7429.1 koa1) (oa8 fi_7429.2 koa1)
      have hJ5 := kG_i hG 7429 rfl (v := ((i 7429) + 1)) ⟨(oa9 fi_7429.1 s4 koa1), (oa19 c3 fi_7429.2 s4 koa120 koa1)⟩
      first | refine ft_goI mi_k146 10 41 [.int x1, .int (i 7429), .ref 119] (ku i 7429 ((i 7429) + 1)) (by rfl) ?_ | refine ft_go mi_k146 10 41 [(0, .ref 116), (1, .int x1)] [.int x1, .int (i 7429), .ref 119] (ku i 7429 ((i 7429) + 1)) a q r (by rfl) ?_
      refine ko_iast3 mi_k146.1 (n := 120) (c := 120) (ax := (0, 0, 0, 0, 0)) (mi_k146.2 _ _ (by rfl)) (by rfl) (ksG119 _ _ _ _) (ksA119 _ _ _ _) (hJ5.I.2.1 119) rfl (oa5 fi_7429.1) (oa20 c3 fi_7429.2 koa120) ?_
      intro a6 ea6 fa6
      have hJ6 := kG_a3 hJ5 119 rfl ea6 fa6 (kd_bd _)
      first | refine ft_goS mi_k146 2 46 [.int ((i 7429) + 1)] (by rfl) ?_ | refine ft_go mi_k146 2 46 [(0, .ref 116), (1, .int x1)] [.int ((i 7429) + 1)] (ku i 7429 ((i 7429) + 1)) a6 q r (by rfl) ?_
      exact ft_ret mi_k146 (by rfl) (hP ((i 7429) + 1) _ _ _ _ hJ6 ⟨(oa21 c3 fi_7429.2 s4 z2.1 z2.2 koa120 koa1 koa0 koa255), ⟨(fun _ => (show a6 119 = (a 119).set (i 7429).toNatClampNeg x1 from (by first | rfl | (simp only [ea6, sMn, sMx]; done) | (simp only [ea6, sMn, sMx]; rfl)))), (fun h => absurd h (oa22 c3 fi_7429.2 z2.1 z2.2 koa120 koa0 koa255))⟩⟩)
    ·
      have c7 : (i 7429).toInt = (120 : Int32).toInt := kd_neF c; clear c
      first | refine ft_goS mi_k146 1 24 [.int (-3)] (by rfl) ?_ | refine ft_go mi_k146 1 24 [(0, .ref 116), (1, .int x1)] [.int (-3)] i a q r (by rfl) ?_
      exact ft_ret mi_k146 (by rfl) (hP (-3) _ _ _ _ hG ⟨(oa23 c7 z2.1 z2.2 koa120 koa0 koa255 koam3), ⟨(fun h => absurd h (oa24 c7 koa120)), (fun _ => (show a 119 = a 119 from rfl))⟩⟩)
  ·
    subst eg1
    have z8 : ¬ (((0 : Int32).toInt ≤ x1.toInt) ∧ (x1.toInt ≤ (255 : Int32).toInt)) := hg1
    first | refine ft_goS mi_k146 2 12 [.int (-1)] (by rfl) ?_ | refine ft_go mi_k146 2 12 [(0, .ref 116), (1, .int x1)] [.int (-1)] i a q r (by rfl) ?_
    exact ft_ret mi_k146 (by rfl) (hP (-1) _ _ _ _ hG ⟨(oa17 z8 koa0 koa255 koam1), ⟨(fun h => absurd h (oa18 z8 koa0 koa255)), (fun _ => (show a 119 = a 119 from rfl))⟩⟩)
set_option maxRecDepth 100000 in
theorem ke126_l01 {i : Nat → Int32} {a : Nat → List Int32} {q : Nat → List Int64} {r : Nat → Nat} (hI : kI i a q) (hr : kr r) (x2 : Int32) : km 3 126 [.int 1, .int x2] (ks i a q r) (kPI (ks i a q r) (fun v => (v = 1 ∧ (((0 : Int) ≤ x2.toInt) ∧ (x2.toInt ≤ 9))) ∨ (v = 0 ∧ (¬ (((0 : Int) ≤ x2.toInt) ∧ (x2.toInt ≤ 9)))))) := by
  have hG := kG_self kW0 hI hr
  refine km_ofPI (q := (mi_h126, mi_c126)) rfl (by decide) (Nat.le_of_ble_eq_true rfl) ?_
  intro P hP
  first | refine fo_goL mi_k126 fz126_0_3_4 [(0, .int 1), (1, .int x2)] [.int 6, .int 0, .int 1] (by rfl) ?_ | refine ft_go mi_k126 3 4 [(0, .int 1), (1, .int x2)] [.int 6, .int 0, .int 1] i a q r (by rfl) ?_
  refine ko_callPI mi_k126.1 (pc := 4) (ls := [(0, .int 1), (1, .int x2)]) (st := [.int 6, .int 0, .int 1]) (h := ks i a q r) (i := (.invokestatic 74, 3, 120, 0, 9, 0, 152)) (mi_k126.2 _ _ (by rfl)) (ft_invS mi_pq120 (by rfl)) (cy := mi_c120) mi_pq120 rfl (kc120 hG.I hG.R 1 0 6) (by decide) ?_
  intro vg1 hg1
  rcases hg1 with ⟨eg1, hg1⟩ | ⟨eg1, hg1⟩
  ·
    subst eg1
    first | refine ft_goS mi_k126 4 15 [.int 1, .ref (mi_RO + 1), .int x2] (by rfl) ?_ | refine ft_go mi_k126 4 15 [(0, .int 1), (1, .int x2)] [.int 1, .ref (mi_RO + 1), .int x2] i a q r (by rfl) ?_
    refine ft_ro mi_k126 (w := 0) (by decide +kernel) (by decide +kernel) ?_
    first | refine ft_goS mi_k126 2 20 [.int 1, .ref (mi_RO + 2), .int 0, .int x2] (by rfl) ?_ | refine ft_go mi_k126 2 20 [(0, .int 1), (1, .int x2)] [.int 1, .ref (mi_RO + 2), .int 0, .int x2] i a q r (by rfl) ?_
    refine ft_ro mi_k126 (w := 9) (by decide +kernel) (by decide +kernel) ?_
    refine ko_callPI mi_k126.1 (pc := 21) (ls := [(0, .int 1), (1, .int x2)]) (st := [.int 9, .int 0, .int x2]) (h := ks i a q r) (i := (.invokestatic 74, 3, 120, 0, 9, 0, 152)) (mi_k126.2 _ _ (by rfl)) (ft_invS mi_pq120 (by rfl)) (cy := mi_c120) mi_pq120 rfl (kc120 hG.I hG.R x2 0 9) (by decide) ?_
    intro vg5 hg5
    rcases hg5 with ⟨eg5, hg5⟩ | ⟨eg5, hg5⟩
    ·
      subst eg5
      have z6 : ((0 : Int32).toInt ≤ x2.toInt) ∧ (x2.toInt ≤ (9 : Int32).toInt) := hg5
      first | refine fo_goS mi_k126 fz126_24_3_32 [.int 1] (by rfl) ?_ | refine ft_goS mi_k126 3 32 [.int 1] (by rfl) ?_ | refine ft_go mi_k126 3 32 [(0, .int 1), (1, .int x2)] [.int 1] i a q r (by rfl) ?_
      exact ft_ret mi_k126 (by rfl) (hP 1 (Or.inl ⟨rfl, (oa27 z6.1 z6.2 koa0 koa9)⟩))
    ·
      subst eg5
      have z7 : ¬ (((0 : Int32).toInt ≤ x2.toInt) ∧ (x2.toInt ≤ (9 : Int32).toInt)) := hg5
      first | refine fo_goS mi_k126 fz126_27_2_32 [.int 0] (by rfl) ?_ | refine fo_goS mi_k126 fz126_7_2_32 [.int 0] (by rfl) ?_ | refine fo_goS mi_k126 fz126_24_2_32 [.int 0] (by rfl) ?_ | refine ft_go mi_k126 2 32 [(0, .int 1), (1, .int x2)] [.int 0] i a q r (by rfl) ?_
      exact ft_ret mi_k126 (by rfl) (hP 0 (Or.inr ⟨rfl, (oa28 z7 koa0 koa9)⟩))
  ·
    subst eg1
    have z8 : ¬ (((0 : Int32).toInt ≤ (1 : Int32).toInt) ∧ ((1 : Int32).toInt ≤ (6 : Int32).toInt)) := hg1
    exact (oa29 z8 koa0 koa1 koa6).elim
set_option maxRecDepth 100000 in
theorem ke126_l02 {i : Nat → Int32} {a : Nat → List Int32} {q : Nat → List Int64} {r : Nat → Nat} (hI : kI i a q) (hr : kr r) (x2 : Int32) : km 3 126 [.int 2, .int x2] (ks i a q r) (kPI (ks i a q r) (fun v => (v = 1 ∧ (((0 : Int) ≤ x2.toInt) ∧ (x2.toInt ≤ 9))) ∨ (v = 0 ∧ (¬ (((0 : Int) ≤ x2.toInt) ∧ (x2.toInt ≤ 9)))))) := by
  have hG := kG_self kW0 hI hr
  refine km_ofPI (q := (mi_h126, mi_c126)) rfl (by decide) (Nat.le_of_ble_eq_true rfl) ?_
  intro P hP
  first | refine fo_goL mi_k126 fz126_0_3_4 [(0, .int 2), (1, .int x2)] [.int 6, .int 0, .int 2] (by rfl) ?_ | refine ft_go mi_k126 3 4 [(0, .int 2), (1, .int x2)] [.int 6, .int 0, .int 2] i a q r (by rfl) ?_
  refine ko_callPI mi_k126.1 (pc := 4) (ls := [(0, .int 2), (1, .int x2)]) (st := [.int 6, .int 0, .int 2]) (h := ks i a q r) (i := (.invokestatic 74, 3, 120, 0, 9, 0, 152)) (mi_k126.2 _ _ (by rfl)) (ft_invS mi_pq120 (by rfl)) (cy := mi_c120) mi_pq120 rfl (kc120 hG.I hG.R 2 0 6) (by decide) ?_
  intro vg1 hg1
  rcases hg1 with ⟨eg1, hg1⟩ | ⟨eg1, hg1⟩
  ·
    subst eg1
    first | refine ft_goS mi_k126 4 15 [.int 2, .ref (mi_RO + 1), .int x2] (by rfl) ?_ | refine ft_go mi_k126 4 15 [(0, .int 2), (1, .int x2)] [.int 2, .ref (mi_RO + 1), .int x2] i a q r (by rfl) ?_
    refine ft_ro mi_k126 (w := 0) (by decide +kernel) (by decide +kernel) ?_
    first | refine ft_goS mi_k126 2 20 [.int 2, .ref (mi_RO + 2), .int 0, .int x2] (by rfl) ?_ | refine ft_go mi_k126 2 20 [(0, .int 2), (1, .int x2)] [.int 2, .ref (mi_RO + 2), .int 0, .int x2] i a q r (by rfl) ?_
    refine ft_ro mi_k126 (w := 9) (by decide +kernel) (by decide +kernel) ?_
    refine ko_callPI mi_k126.1 (pc := 21) (ls := [(0, .int 2), (1, .int x2)]) (st := [.int 9, .int 0, .int x2]) (h := ks i a q r) (i := (.invokestatic 74, 3, 120, 0, 9, 0, 152)) (mi_k126.2 _ _ (by rfl)) (ft_invS mi_pq120 (by rfl)) (cy := mi_c120) mi_pq120 rfl (kc120 hG.I hG.R x2 0 9) (by decide) ?_
    intro vg5 hg5
    rcases hg5 with ⟨eg5, hg5⟩ | ⟨eg5, hg5⟩
    ·
      subst eg5
      have z6 : ((0 : Int32).toInt ≤ x2.toInt) ∧ (x2.toInt ≤ (9 : Int32).toInt) := hg5
      first | refine fo_goS mi_k126 fz126_24_3_32 [.int 1] (by rfl) ?_ | refine ft_goS mi_k126 3 32 [.int 1] (by rfl) ?_ | refine ft_go mi_k126 3 32 [(0, .int 2), (1, .int x2)] [.int 1] i a q r (by rfl) ?_
      exact ft_ret mi_k126 (by rfl) (hP 1 (Or.inl ⟨rfl, (oa27 z6.1 z6.2 koa0 koa9)⟩))
    ·
      subst eg5
      have z7 : ¬ (((0 : Int32).toInt ≤ x2.toInt) ∧ (x2.toInt ≤ (9 : Int32).toInt)) := hg5
      first | refine fo_goS mi_k126 fz126_27_2_32 [.int 0] (by rfl) ?_ | refine fo_goS mi_k126 fz126_7_2_32 [.int 0] (by rfl) ?_ | refine fo_goS mi_k126 fz126_24_2_32 [.int 0] (by rfl) ?_ | refine ft_go mi_k126 2 32 [(0, .int 2), (1, .int x2)] [.int 0] i a q r (by rfl) ?_
      exact ft_ret mi_k126 (by rfl) (hP 0 (Or.inr ⟨rfl, (oa28 z7 koa0 koa9)⟩))
  ·
    subst eg1
    have z8 : ¬ (((0 : Int32).toInt ≤ (2 : Int32).toInt) ∧ ((2 : Int32).toInt ≤ (6 : Int32).toInt)) := hg1
    exact (oa32 z8 koa0 koa2 koa6).elim
def yw25_1 : kW := ([64], [2, 3, 4, 5, 6], [], [])
set_option maxRecDepth 100000 in
theorem ke25_1 {i : Nat → Int32} {a : Nat → List Int32} {q : Nat → List Int64} {r : Nat → Nat} (hI : kI i a q) (hr : kr r) (x1 : Int32) (x2 : Int32) (x3 : Int32) : km 1 25 [.ref 1, .int x1, .int x2, .int x3] (ks i a q r) (kVI yw25_1 i a q r (fun v i1 a1 q1 r1 => ((((8 : Int) ≤ (i 64).toInt) ∧ (v.toInt = (-3)) ∧ ((i1 64).toInt = (i 64).toInt)) ∨ (((i 64).toInt < 8) ∧ (v.toInt = (i 64).toInt) ∧ ((i1 64).toInt = ((i 64).toInt + 1)))) ∧ (((i 64).toInt < 8 → a1 2 = (a 2).set (i 64).toNatClampNeg x1) ∧ ((i 64).toInt < 8 → a1 3 = (a 3).set (i 64).toNatClampNeg x2) ∧ ((i 64).toInt < 8 → a1 4 = (a 4).set (i 64).toNatClampNeg x3) ∧ ((i 64).toInt < 8 → a1 5 = (a 5).set (i 64).toNatClampNeg 0) ∧ ((i 64).toInt < 8 → a1 6 = (a 6).set (i 64).toNatClampNeg 0)))) := by
  have hG := kG_self yw25_1 hI hr
  refine km_ofI (q := (mi_h25, mi_c25)) rfl (by decide) (Nat.le_of_ble_eq_true rfl) ?_
  intro P hP
  have fi_64 : ((0 : Int) ≤ (i 64).toInt) ∧ ((i 64).toInt ≤ 8) := hG.I.1 64
  first | refine fo_goL mi_k25 fz25_0_3_6 [(0, .ref 1), (1, .int x1), (2, .int x2), (3, .int x3)] [.int 8, .int (i 64)] (by rfl) ?_ | refine ft_go mi_k25 3 6 [(0, .ref 1), (1, .int x1), (2, .int x2), (3, .int x3)] [.int 8, .int (i 64)] i a q r (by rfl) ?_
  refine ft_ifS mi_k25 (decide ((i 64) < 8)) 12 9 [] (by rfl) (fun c => ?_) (fun c => ?_)
  ·
    have c1 : (i 64).toInt < (8 : Int32).toInt := kd_lt c; clear c
    first | refine fo_goS mi_k25 fz25_12_5_21 [.int x1, .int (i 64), .ref 2] (by rfl) ?_ | refine ft_go mi_k25 5 21 [(0, .ref 1), (1, .int x1), (2, .int x2), (3, .int x3)] [.int x1, .int (i 64), .ref 2] i a q r (by rfl) ?_
    refine ko_iast3 mi_k25.1 (n := 8) (c := 8) (ax := (0, 0, 0, 0, 0)) (mi_k25.2 _ _ (by rfl)) (by rfl) (ksG2 _ _ _ _) (ksA2 _ _ _ _) (hG.I.2.1 2) rfl (oa5 fi_64.1) (oa33 c1 koa8) ?_
    intro a2 ea2 fa2
    have hJ2 := kG_a3 hG 2 rfl ea2 fa2 (kd_bd _)
    first | refine fo_goS mi_k25 fz25_22_5_31 [.int x2, .int (i 64), .ref 3] (by rfl) ?_ | refine ft_go mi_k25 5 31 [(0, .ref 1), (1, .int x1), (2, .int x2), (3, .int x3)] [.int x2, .int (i 64), .ref 3] i a2 q r (by rfl) ?_
    refine ko_iast3 mi_k25.1 (n := 8) (c := 8) (ax := (0, 0, 0, 0, 0)) (mi_k25.2 _ _ (by rfl)) (by rfl) (ksG3 _ _ _ _) (ksA3 _ _ _ _) (hJ2.I.2.1 3) rfl (oa5 fi_64.1) (oa33 c1 koa8) ?_
    intro a3 ea3 fa3
    have hJ3 := kG_a3 hJ2 3 rfl ea3 fa3 (kd_bd _)
    first | refine fo_goS mi_k25 fz25_32_5_41 [.int x3, .int (i 64), .ref 4] (by rfl) ?_ | refine ft_go mi_k25 5 41 [(0, .ref 1), (1, .int x1), (2, .int x2), (3, .int x3)] [.int x3, .int (i 64), .ref 4] i a3 q r (by rfl) ?_
    refine ko_iast3 mi_k25.1 (n := 8) (c := 8) (ax := (0, 0, 0, 0, 0)) (mi_k25.2 _ _ (by rfl)) (by rfl) (ksG4 _ _ _ _) (ksA4 _ _ _ _) (hJ3.I.2.1 4) rfl (oa5 fi_64.1) (oa33 c1 koa8) ?_
    intro a4 ea4 fa4
    have hJ4 := kG_a3 hJ3 4 rfl ea4 fa4 (kd_bd _)
    first | refine fo_goS mi_k25 fz25_42_5_51 [.int 0, .int (i 64), .ref 5] (by rfl) ?_ | refine ft_go mi_k25 5 51 [(0, .ref 1), (1, .int x1), (2, .int x2), (3, .int x3)] [.int 0, .int (i 64), .ref 5] i a4 q r (by rfl) ?_
    refine ko_iast3 mi_k25.1 (n := 8) (c := 8) (ax := (0, 0, 0, 0, 0)) (mi_k25.2 _ _ (by rfl)) (by rfl) (ksG5 _ _ _ _) (ksA5 _ _ _ _) (hJ4.I.2.1 5) rfl (oa5 fi_64.1) (oa33 c1 koa8) ?_
    intro a5 ea5 fa5
    have hJ5 := kG_a3 hJ4 5 rfl ea5 fa5 (kd_bd _)
    first | refine fo_goS mi_k25 fz25_52_5_61 [.int 0, .int (i 64), .ref 6] (by rfl) ?_ | refine ft_go mi_k25 5 61 [(0, .ref 1), (1, .int x1), (2, .int x2), (3, .int x3)] [.int 0, .int (i 64), .ref 6] i a5 q r (by rfl) ?_
    refine ko_iast3 mi_k25.1 (n := 8) (c := 8) (ax := (0, 0, 0, 0, 0)) (mi_k25.2 _ _ (by rfl)) (by rfl) (ksG6 _ _ _ _) (ksA6 _ _ _ _) (hJ5.I.2.1 6) rfl (oa5 fi_64.1) (oa33 c1 koa8) ?_
    intro a6 ea6 fa6
    have hJ6 := kG_a3 hJ5 6 rfl ea6 fa6 (kd_bd _)
    have s7 : ((i 64) + 1).toInt = (i 64).toInt + (1 : Int32).toInt := kd_add (oa7 fi_64.1 koa1) (oa34 fi_64.2 koa1)
    have hJ8 := kG_i hJ6 64 rfl (v := ((i 64) + 1)) ⟨(oa9 fi_64.1 s7 koa1), (oa35 c1 s7 koa8 koa1)⟩
    have s9 : (((i 64) + 1) - 1).toInt = ((i 64) + 1).toInt - (1 : Int32).toInt := kd_sub (oa36 fi_64.1 s7 koa1) (oa37 fi_64.2 s7 koa1)
    first | refine fo_goI mi_k25 fz25_62_10_78 [.int (((i 64) + 1) - 1)] (ku i 64 ((i 64) + 1)) (by rfl) ?_ | refine ft_go mi_k25 10 78 [(0, .ref 1), (1, .int x1), (2, .int x2), (3, .int x3)] [.int (((i 64) + 1) - 1)] (ku i 64 ((i 64) + 1)) a6 q r (by rfl) ?_
    exact ft_ret mi_k25 (by rfl) (hP (((i 64) + 1) - 1) _ _ _ _ hJ8 ⟨(oa38 c1 s7 s9 koa8 koa1), ⟨(fun _ => (show a6 2 = (a 2).set (i 64).toNatClampNeg x1 from (by first | rfl | (simp only [fa6 2 (by decide), fa5 2 (by decide), fa4 2 (by decide), fa3 2 (by decide), ea2, sMn, sMx]; done) | (simp only [fa6 2 (by decide), fa5 2 (by decide), fa4 2 (by decide), fa3 2 (by decide), ea2, sMn, sMx]; rfl)))), (fun _ => (show a6 3 = (a 3).set (i 64).toNatClampNeg x2 from (by first | rfl | (simp only [fa6 3 (by decide), fa5 3 (by decide), fa4 3 (by decide), ea3, fa2 3 (by decide), sMn, sMx]; done) | (simp only [fa6 3 (by decide), fa5 3 (by decide), fa4 3 (by decide), ea3, fa2 3 (by decide), sMn, sMx]; rfl)))), (fun _ => (show a6 4 = (a 4).set (i 64).toNatClampNeg x3 from (by first | rfl | (simp only [fa6 4 (by decide), fa5 4 (by decide), ea4, fa3 4 (by decide), fa2 4 (by decide), sMn, sMx]; done) | (simp only [fa6 4 (by decide), fa5 4 (by decide), ea4, fa3 4 (by decide), fa2 4 (by decide), sMn, sMx]; rfl)))), (fun _ => (show a6 5 = (a 5).set (i 64).toNatClampNeg 0 from (by first | rfl | (simp only [fa6 5 (by decide), ea5, fa4 5 (by decide), fa3 5 (by decide), fa2 5 (by decide), sMn, sMx]; done) | (simp only [fa6 5 (by decide), ea5, fa4 5 (by decide), fa3 5 (by decide), fa2 5 (by decide), sMn, sMx]; rfl)))), (fun _ => (show a6 6 = (a 6).set (i 64).toNatClampNeg 0 from (by first | rfl | (simp only [ea6, fa5 6 (by decide), fa4 6 (by decide), fa3 6 (by decide), fa2 6 (by decide), sMn, sMx]; done) | (simp only [ea6, fa5 6 (by decide), fa4 6 (by decide), fa3 6 (by decide), fa2 6 (by decide), sMn, sMx]; rfl))))⟩⟩)
  ·
    have c10 : (8 : Int32).toInt ≤ (i 64).toInt := kd_ltF c; clear c
    first | refine ft_goS mi_k25 1 11 [.int (-3)] (by rfl) ?_ | refine ft_go mi_k25 1 11 [(0, .ref 1), (1, .int x1), (2, .int x2), (3, .int x3)] [.int (-3)] i a q r (by rfl) ?_
    exact ft_ret mi_k25 (by rfl) (hP (-3) _ _ _ _ hG ⟨(oa39 c10 koa8 koam3), ⟨(fun h => absurd h (oa40 c10 koa8)), (fun h => absurd h (oa40 c10 koa8)), (fun h => absurd h (oa40 c10 koa8)), (fun h => absurd h (oa40 c10 koa8)), (fun h => absurd h (oa40 c10 koa8))⟩⟩)
def yw80_0 : kW := ([64], [2, 3, 4, 5, 6], [], [])
set_option maxRecDepth 100000 in
theorem ke80_0 {i : Nat → Int32} {a : Nat → List Int32} {q : Nat → List Int64} {r : Nat → Nat} (hI : kI i a q) (hr : kr r) (x1 : Int32) (x2 : Int32) : km 5 80 [.ref 0, .int x1, .int x2] (ks i a q r) (kVI yw80_0 i a q r (fun v i1 a1 q1 r1 => (((v.toInt = (-1)) ∧ (¬ (((0 : Int) ≤ x1.toInt) ∧ (x1.toInt ≤ 9) ∧ ((0 : Int) ≤ x2.toInt) ∧ (x2.toInt ≤ 9))) ∧ ((i1 64).toInt = (i 64).toInt)) ∨ (((0 : Int) ≤ x1.toInt) ∧ (x1.toInt ≤ 9) ∧ ((0 : Int) ≤ x2.toInt) ∧ (x2.toInt ≤ 9) ∧ (((v.toInt = (-3)) ∧ ((8 : Int) ≤ (i 64).toInt) ∧ ((i1 64).toInt = (i 64).toInt)) ∨ (((i 64).toInt < 8) ∧ (v.toInt = (i 64).toInt) ∧ ((i1 64).toInt = ((i 64).toInt + 1)))))) ∧ ((((0 : Int) ≤ x1.toInt) ∧ (x1.toInt ≤ 9) ∧ ((0 : Int) ≤ x2.toInt) ∧ (x2.toInt ≤ 9) ∧ ((i 64).toInt < 8) → a1 2 = (a 2).set (i 64).toNatClampNeg 100) ∧ (((0 : Int) ≤ x1.toInt) ∧ (x1.toInt ≤ 9) ∧ ((0 : Int) ≤ x2.toInt) ∧ (x2.toInt ≤ 9) ∧ ((i 64).toInt < 8) → a1 3 = (a 3).set (i 64).toNatClampNeg x1) ∧ (((0 : Int) ≤ x1.toInt) ∧ (x1.toInt ≤ 9) ∧ ((0 : Int) ≤ x2.toInt) ∧ (x2.toInt ≤ 9) ∧ ((i 64).toInt < 8) → a1 4 = (a 4).set (i 64).toNatClampNeg x2) ∧ (((0 : Int) ≤ x1.toInt) ∧ (x1.toInt ≤ 9) ∧ ((0 : Int) ≤ x2.toInt) ∧ (x2.toInt ≤ 9) ∧ ((i 64).toInt < 8) → a1 5 = (a 5).set (i 64).toNatClampNeg 0) ∧ (((0 : Int) ≤ x1.toInt) ∧ (x1.toInt ≤ 9) ∧ ((0 : Int) ≤ x2.toInt) ∧ (x2.toInt ≤ 9) ∧ ((i 64).toInt < 8) → a1 6 = (a 6).set (i 64).toNatClampNeg 0) ∧ (¬ (((0 : Int) ≤ x1.toInt) ∧ (x1.toInt ≤ 9) ∧ ((0 : Int) ≤ x2.toInt) ∧ (x2.toInt ≤ 9) ∧ ((i 64).toInt < 8)) → a1 2 = a 2) ∧ (¬ (((0 : Int) ≤ x1.toInt) ∧ (x1.toInt ≤ 9) ∧ ((0 : Int) ≤ x2.toInt) ∧ (x2.toInt ≤ 9) ∧ ((i 64).toInt < 8)) → a1 3 = a 3) ∧ (¬ (((0 : Int) ≤ x1.toInt) ∧ (x1.toInt ≤ 9) ∧ ((0 : Int) ≤ x2.toInt) ∧ (x2.toInt ≤ 9) ∧ ((i 64).toInt < 8)) → a1 4 = a 4) ∧ (¬ (((0 : Int) ≤ x1.toInt) ∧ (x1.toInt ≤ 9) ∧ ((0 : Int) ≤ x2.toInt) ∧ (x2.toInt ≤ 9) ∧ ((i 64).toInt < 8)) → a1 5 = a 5) ∧ (¬ (((0 : Int) ≤ x1.toInt) ∧ (x1.toInt ≤ 9) ∧ ((0 : Int) ≤ x2.toInt) ∧ (x2.toInt ≤ 9) ∧ ((i 64).toInt < 8)) → a1 6 = a 6)))) := by
  have hG := kG_self yw80_0 hI hr
  refine km_ofI (q := (mi_h80, mi_c80)) rfl (by decide) (Nat.le_of_ble_eq_true rfl) ?_
  intro P hP
  first | refine ft_goL mi_k80 2 2 [(0, .ref 0), (1, .int x1), (2, .int x2)] [.int x1, .int 1] (by rfl) ?_ | refine ft_go mi_k80 2 2 [(0, .ref 0), (1, .int x1), (2, .int x2)] [.int x1, .int 1] i a q r (by rfl) ?_
  refine ko_callPI mi_k80.1 (pc := 2) (ls := [(0, .ref 0), (1, .int x1), (2, .int x2)]) (st := [.int x1, .int 1]) (h := ks i a q r) (i := (.invokestatic 58, 3, 126, 0, 9, 0, 151)) (mi_k80.2 _ _ (by rfl)) (ft_invS mi_pq126 (by rfl)) (cy := mi_c126) mi_pq126 rfl (ke126_l01 hG.I hG.R x1) (by decide) ?_
  intro vg1 hg1
  rcases hg1 with ⟨eg1, hg1⟩ | ⟨eg1, hg1⟩
  ·
    subst eg1
    have z2 : ((0 : Int) ≤ x1.toInt) ∧ (x1.toInt ≤ 9) := hg1
    first | refine ft_goS mi_k80 3 10 [.int x2, .int 2] (by rfl) ?_ | refine ft_go mi_k80 3 10 [(0, .ref 0), (1, .int x1), (2, .int x2)] [.int x2, .int 2] i a q r (by rfl) ?_
    refine ko_callPI mi_k80.1 (pc := 10) (ls := [(0, .ref 0), (1, .int x1), (2, .int x2)]) (st := [.int x2, .int 2]) (h := ks i a q r) (i := (.invokestatic 58, 3, 126, 0, 9, 0, 151)) (mi_k80.2 _ _ (by rfl)) (ft_invS mi_pq126 (by rfl)) (cy := mi_c126) mi_pq126 rfl (ke126_l02 hG.I hG.R x2) (by decide) ?_
    intro vg3 hg3
    rcases hg3 with ⟨eg3, hg3⟩ | ⟨eg3, hg3⟩
    ·
      subst eg3
      have z4 : ((0 : Int) ≤ x2.toInt) ∧ (x2.toInt ≤ 9) := hg3
      first | refine fo_goS mi_k80 fz80_13_5_27 [.int 8, .int (i 64)] (by rfl) ?_ | refine ft_go mi_k80 5 27 [(0, .ref 0), (1, .int x1), (2, .int x2)] [.int 8, .int (i 64)] i a q r (by rfl) ?_
      refine ft_ifS mi_k80 (decide ((i 64) < 8)) 35 30 [] (by rfl) (fun c => ?_) (fun c => ?_)
      ·
        have c5 : (i 64).toInt < (8 : Int32).toInt := kd_lt c; clear c
        first | refine fo_goS mi_k80 fz80_35_5_43 [.int x2, .int x1, .int 100, .ref 1] (by rfl) ?_ | refine ft_go mi_k80 5 43 [(0, .ref 0), (1, .int x1), (2, .int x2)] [.int x2, .int x1, .int 100, .ref 1] i a q r (by rfl) ?_
        refine ko_callI mi_k80.1 (pc := 43) (ls := [(0, .ref 0), (1, .int x1), (2, .int x2)]) (st := [.int x2, .int x1, .int 100, .ref 1]) (h := ks i a q r) (i := (.invokevirtual 66, 3, 25, 0, 9, 0, 155)) (mi_k80.2 _ _ (by rfl)) (ft_invS mi_pq25 (by rfl)) (cy := mi_c25) mi_pq25 rfl (ke25_1 hG.I hG.R 100 x1 x2) (by decide) ?_
        intro vg6 ig6 ag6 qg6 rg6 kg6 hg6
        have hGg6 := kG_call hG kg6 (by decide +kernel)
        obtain ⟨hg6, og6⟩ := hg6
        have z7 : (((8 : Int) ≤ (i 64).toInt) ∧ (vg6.toInt = (-3)) ∧ ((ig6 64).toInt = (i 64).toInt)) ∨ (((i 64).toInt < 8) ∧ (vg6.toInt = (i 64).toInt) ∧ ((ig6 64).toInt = ((i 64).toInt + 1))) := hg6
        have q8 : ag6 2 = (a 2).set (i 64).toNatClampNeg (100 : Int32) := og6.1 (oa33 c5 koa8)
        have q9 : ag6 3 = (a 3).set (i 64).toNatClampNeg x1 := og6.2.1 (oa33 c5 koa8)
        have q10 : ag6 4 = (a 4).set (i 64).toNatClampNeg x2 := og6.2.2.1 (oa33 c5 koa8)
        have q11 : ag6 5 = (a 5).set (i 64).toNatClampNeg 0 := og6.2.2.2.1 (oa33 c5 koa8)
        have q12 : ag6 6 = (a 6).set (i 64).toNatClampNeg 0 := og6.2.2.2.2 (oa33 c5 koa8)
        exact ft_ret mi_k80 (by rfl) (hP vg6 _ _ _ _ hGg6 ⟨(oa41 c5 z2.1 z2.2 z4.1 z4.2 z7 koa8), ⟨(fun _ => (show ag6 2 = (a 2).set (i 64).toNatClampNeg 100 from (by first | rfl | (simp only [q8, sMn, sMx]; done) | (simp only [q8, sMn, sMx]; rfl)))), (fun _ => (show ag6 3 = (a 3).set (i 64).toNatClampNeg x1 from (by first | rfl | (simp only [q9, sMn, sMx]; done) | (simp only [q9, sMn, sMx]; rfl)))), (fun _ => (show ag6 4 = (a 4).set (i 64).toNatClampNeg x2 from (by first | rfl | (simp only [q10, sMn, sMx]; done) | (simp only [q10, sMn, sMx]; rfl)))), (fun _ => (show ag6 5 = (a 5).set (i 64).toNatClampNeg 0 from (by first | rfl | (simp only [q11, sMn, sMx]; done) | (simp only [q11, sMn, sMx]; rfl)))), (fun _ => (show ag6 6 = (a 6).set (i 64).toNatClampNeg 0 from (by first | rfl | (simp only [q12, sMn, sMx]; done) | (simp only [q12, sMn, sMx]; rfl)))), (fun h => absurd h (oa42 c5 z2.1 z2.2 z4.1 z4.2 koa8)), (fun h => absurd h (oa42 c5 z2.1 z2.2 z4.1 z4.2 koa8)), (fun h => absurd h (oa42 c5 z2.1 z2.2 z4.1 z4.2 koa8)), (fun h => absurd h (oa42 c5 z2.1 z2.2 z4.1 z4.2 koa8)), (fun h => absurd h (oa42 c5 z2.1 z2.2 z4.1 z4.2 koa8))⟩⟩)
      ·
        have c13 : (8 : Int32).toInt ≤ (i 64).toInt := kd_ltF c; clear c
        first | refine ft_goS mi_k80 2 46 [.int (-3)] (by rfl) ?_ | refine ft_go mi_k80 2 46 [(0, .ref 0), (1, .int x1), (2, .int x2)] [.int (-3)] i a q r (by rfl) ?_
        exact ft_ret mi_k80 (by rfl) (hP (-3) _ _ _ _ hG ⟨(oa43 c13 z2.1 z2.2 z4.1 z4.2 koa8 koam3), ⟨(fun h => absurd h (oa44 c13 koa8)), (fun h => absurd h (oa44 c13 koa8)), (fun h => absurd h (oa44 c13 koa8)), (fun h => absurd h (oa44 c13 koa8)), (fun h => absurd h (oa44 c13 koa8)), (fun _ => (show a 2 = a 2 from rfl)), (fun _ => (show a 3 = a 3 from rfl)), (fun _ => (show a 4 = a 4 from rfl)), (fun _ => (show a 5 = a 5 from rfl)), (fun _ => (show a 6 = a 6 from rfl))⟩⟩)
    ·
      subst eg3
      have z14 : ¬ (((0 : Int) ≤ x2.toInt) ∧ (x2.toInt ≤ 9)) := hg3
      first | refine ft_goS mi_k80 2 17 [.int (-1)] (by rfl) ?_ | refine ft_go mi_k80 2 17 [(0, .ref 0), (1, .int x1), (2, .int x2)] [.int (-1)] i a q r (by rfl) ?_
      exact ft_ret mi_k80 (by rfl) (hP (-1) _ _ _ _ hG ⟨(oa45 z14 koam1), ⟨(fun h => absurd h (oa46 z14)), (fun h => absurd h (oa46 z14)), (fun h => absurd h (oa46 z14)), (fun h => absurd h (oa46 z14)), (fun h => absurd h (oa46 z14)), (fun _ => (show a 2 = a 2 from rfl)), (fun _ => (show a 3 = a 3 from rfl)), (fun _ => (show a 4 = a 4 from rfl)), (fun _ => (show a 5 = a 5 from rfl)), (fun _ => (show a 6 = a 6 from rfl))⟩⟩)
  ·
    subst eg1
    have z15 : ¬ (((0 : Int) ≤ x1.toInt) ∧ (x1.toInt ≤ 9)) := hg1
    first | refine ft_goS mi_k80 2 17 [.int (-1)] (by rfl) ?_ | refine ft_go mi_k80 2 17 [(0, .ref 0), (1, .int x1), (2, .int x2)] [.int (-1)] i a q r (by rfl) ?_
    exact ft_ret mi_k80 (by rfl) (hP (-1) _ _ _ _ hG ⟨(oa47 z15 koam1), ⟨(fun h => absurd h (oa48 z15)), (fun h => absurd h (oa48 z15)), (fun h => absurd h (oa48 z15)), (fun h => absurd h (oa48 z15)), (fun h => absurd h (oa48 z15)), (fun _ => (show a 2 = a 2 from rfl)), (fun _ => (show a 3 = a 3 from rfl)), (fun _ => (show a 4 = a 4 from rfl)), (fun _ => (show a 5 = a 5 from rfl)), (fun _ => (show a 6 = a 6 from rfl))⟩⟩)
def yw134_116 : kW := ([7424], [117, 118], [], [])
set_option maxRecDepth 100000 in
theorem ke134_116 {i : Nat → Int32} {a : Nat → List Int32} {q : Nat → List Int64} {r : Nat → Nat} (hI : kI i a q) (hr : kr r) (x1 : Int32) (x2 : Int32) (x3 : Int32) (hp0 : (i 7424).toInt ≤ 7) : km 1 134 [.ref 116, .int x1, .int x2, .int x3] (ks i a q r) (kVI yw134_116 i a q r (fun v i1 a1 q1 r1 => ((v.toInt = (i 7424).toInt) ∧ ((i1 7424).toInt = ((i 7424).toInt + 1))) ∧ (a1 118 = (a 118).set (i 7424).toNatClampNeg x1 ∧ a1 117 = ((a 117).set (i 7424).toNatClampNeg x2).set (8 + i 7424).toNatClampNeg x3))) := by
  have hG := kG_self yw134_116 hI hr
  refine km_ofI (q := (mi_h134, mi_c134)) rfl (by decide) (Nat.le_of_ble_eq_true rfl) ?_
  intro P hP
  have fi_7424 : ((0 : Int) ≤ (i 7424).toInt) ∧ ((i 7424).toInt ≤ 8) := hG.I.1 7424
  first | refine fo_goL mi_k134 fz134_0_5_9 [(0, .ref 116), (1, .int x1), (2, .int x2), (3, .int x3)] [.int x1, .int (i 7424), .ref 118] (by rfl) ?_ | refine ft_go mi_k134 5 9 [(0, .ref 116), (1, .int x1), (2, .int x2), (3, .int x3)] [.int x1, .int (i 7424), .ref 118] i a q r (by rfl) ?_
  refine ko_iast3 mi_k134.1 (n := 31) (c := 31) (ax := (0, 0, 0, 0, 0)) (mi_k134.2 _ _ (by rfl)) (by rfl) (ksG118 _ _ _ _) (ksA118 _ _ _ _) (hG.I.2.1 118) rfl (oa5 fi_7424.1) (oa49 fi_7424.2) ?_
  intro a1 ea1 fa1
  have hJ1 := kG_a3 hG 118 rfl ea1 fa1 (kE_nset (p := 118) (by decide) (oa5 fi_7424.1) (oa50 fi_7424.2) (oa51 fi_7424.2))
  first | refine fo_goS mi_k134 fz134_10_5_19 [.int x2, .int (i 7424), .ref 117] (by rfl) ?_ | refine ft_go mi_k134 5 19 [(0, .ref 116), (1, .int x1), (2, .int x2), (3, .int x3)] [.int x2, .int (i 7424), .ref 117] i a1 q r (by rfl) ?_
  refine ko_iast3 mi_k134.1 (n := 24) (c := 24) (ax := (0, 0, 0, 0, 0)) (mi_k134.2 _ _ (by rfl)) (by rfl) (ksG117 _ _ _ _) (ksA117 _ _ _ _) (hJ1.I.2.1 117) rfl (oa5 fi_7424.1) (oa52 fi_7424.2) ?_
  intro a2 ea2 fa2
  have hJ2 := kG_a3 hJ1 117 rfl ea2 fa2 (kd_bd _)
  have s3 : (8 + (i 7424)).toInt = (8 : Int32).toInt + (i 7424).toInt := kd_add (oa53 fi_7424.1 koa8) (oa54 fi_7424.2 koa8)
  first | refine fo_goS mi_k134 fz134_20_7_32 [.int x3, .int (8 + (i 7424)), .ref 117] (by rfl) ?_ | refine ft_go mi_k134 7 32 [(0, .ref 116), (1, .int x1), (2, .int x2), (3, .int x3)] [.int x3, .int (8 + (i 7424)), .ref 117] i a2 q r (by rfl) ?_
  refine ko_iast3 mi_k134.1 (n := 24) (c := 24) (ax := (0, 0, 0, 0, 0)) (mi_k134.2 _ _ (by rfl)) (by rfl) (ksG117 _ _ _ _) (ksA117 _ _ _ _) (hJ2.I.2.1 117) rfl (oa55 fi_7424.1 s3 koa8) (oa56 fi_7424.2 s3 koa8) ?_
  intro a4 ea4 fa4
  have hJ4 := kG_a3 hJ2 117 rfl ea4 fa4 (kd_bd _)
  have s5 : ((i 7424) + 1).toInt = (i 7424).toInt + (1 : Int32).toInt := kd_add (oa7 fi_7424.1 koa1) (oa34 fi_7424.2 koa1)
  have hJ6 := kG_i hJ4 7424 rfl (v := ((i 7424) + 1)) ⟨(oa9 fi_7424.1 s5 koa1), (oa57 hp0 s5 koa1)⟩
  first | refine ft_goI mi_k134 7 44 [.int (i 7424)] (ku i 7424 ((i 7424) + 1)) (by rfl) ?_ | refine ft_go mi_k134 7 44 [(0, .ref 116), (1, .int x1), (2, .int x2), (3, .int x3)] [.int (i 7424)] (ku i 7424 ((i 7424) + 1)) a4 q r (by rfl) ?_
  exact ft_ret mi_k134 (by rfl) (hP (i 7424) _ _ _ _ hJ6 ⟨(oa58 s5 koa1), ⟨(show a4 118 = (a 118).set (i 7424).toNatClampNeg x1 from (by first | rfl | (simp only [fa4 118 (by decide), fa2 118 (by decide), ea1, sMn, sMx]; done) | (simp only [fa4 118 (by decide), fa2 118 (by decide), ea1, sMn, sMx]; rfl))), (show a4 117 = ((a 117).set (i 7424).toNatClampNeg x2).set (8 + i 7424).toNatClampNeg x3 from (by first | rfl | (simp only [ea4, ea2, fa1 117 (by decide), sMn, sMx]; done) | (simp only [ea4, ea2, fa1 117 (by decide), sMn, sMx]; rfl)))⟩⟩)
def yw135_116 : kW := ([7424], [117, 118], [], [])
set_option maxRecDepth 100000 in
theorem ke135_116 {i : Nat → Int32} {a : Nat → List Int32} {q : Nat → List Int64} {r : Nat → Nat} (hI : kI i a q) (hr : kr r) (x1 : Int32) (x2 : Int32) : km 3 135 [.ref 116, .int x1, .int x2] (ks i a q r) (kVI yw135_116 i a q r (fun v i1 a1 q1 r1 => (((v.toInt = (-1)) ∧ (¬ (((0 : Int) ≤ x1.toInt) ∧ (x1.toInt ≤ 9) ∧ ((0 : Int) ≤ x2.toInt) ∧ (x2.toInt ≤ 9))) ∧ ((i1 7424).toInt = (i 7424).toInt)) ∨ (((0 : Int) ≤ x1.toInt) ∧ (x1.toInt ≤ 9) ∧ ((0 : Int) ≤ x2.toInt) ∧ (x2.toInt ≤ 9) ∧ (((v.toInt = (-3)) ∧ ((8 : Int) ≤ (i 7424).toInt) ∧ ((i1 7424).toInt = (i 7424).toInt)) ∨ (((i 7424).toInt < 8) ∧ (v.toInt = (i 7424).toInt) ∧ ((i1 7424).toInt = ((i 7424).toInt + 1)))))) ∧ ((((0 : Int) ≤ x1.toInt) ∧ (x1.toInt ≤ 9) ∧ ((0 : Int) ≤ x2.toInt) ∧ (x2.toInt ≤ 9) ∧ ((i 7424).toInt < 8) → a1 118 = (a 118).set (i 7424).toNatClampNeg 100) ∧ (((0 : Int) ≤ x1.toInt) ∧ (x1.toInt ≤ 9) ∧ ((0 : Int) ≤ x2.toInt) ∧ (x2.toInt ≤ 9) ∧ ((i 7424).toInt < 8) → a1 117 = ((a 117).set (i 7424).toNatClampNeg x1).set (8 + i 7424).toNatClampNeg x2) ∧ (¬ (((0 : Int) ≤ x1.toInt) ∧ (x1.toInt ≤ 9) ∧ ((0 : Int) ≤ x2.toInt) ∧ (x2.toInt ≤ 9) ∧ ((i 7424).toInt < 8)) → a1 118 = a 118) ∧ (¬ (((0 : Int) ≤ x1.toInt) ∧ (x1.toInt ≤ 9) ∧ ((0 : Int) ≤ x2.toInt) ∧ (x2.toInt ≤ 9) ∧ ((i 7424).toInt < 8)) → a1 117 = a 117)))) := by
  have hG := kG_self yw135_116 hI hr
  refine km_ofI (q := (mi_h135, mi_c135)) rfl (by decide) (Nat.le_of_ble_eq_true rfl) ?_
  intro P hP
  first | refine ft_goL mi_k135 3 4 [(0, .ref 116), (1, .int x1), (2, .int x2)] [.int 9, .int 0, .int x1] (by rfl) ?_ | refine ft_go mi_k135 3 4 [(0, .ref 116), (1, .int x1), (2, .int x2)] [.int 9, .int 0, .int x1] i a q r (by rfl) ?_
  refine ko_callPI mi_k135.1 (pc := 4) (ls := [(0, .ref 116), (1, .int x1), (2, .int x2)]) (st := [.int 9, .int 0, .int x1]) (h := ks i a q r) (i := (.invokestatic 119, 3, 131, 0, 9, 0, 379)) (mi_k135.2 _ _ (by rfl)) (ft_invS mi_pq131 (by rfl)) (cy := mi_c131) mi_pq131 rfl (kc131 hG.I hG.R x1 0 9) (by decide) ?_
  intro vg1 hg1
  rcases hg1 with ⟨eg1, hg1⟩ | ⟨eg1, hg1⟩
  ·
    subst eg1
    have z2 : ((0 : Int32).toInt ≤ x1.toInt) ∧ (x1.toInt ≤ (9 : Int32).toInt) := hg1
    first | refine ft_goS mi_k135 4 14 [.int 9, .int 0, .int x2] (by rfl) ?_ | refine ft_go mi_k135 4 14 [(0, .ref 116), (1, .int x1), (2, .int x2)] [.int 9, .int 0, .int x2] i a q r (by rfl) ?_
    refine ko_callPI mi_k135.1 (pc := 14) (ls := [(0, .ref 116), (1, .int x1), (2, .int x2)]) (st := [.int 9, .int 0, .int x2]) (h := ks i a q r) (i := (.invokestatic 119, 3, 131, 0, 9, 0, 379)) (mi_k135.2 _ _ (by rfl)) (ft_invS mi_pq131 (by rfl)) (cy := mi_c131) mi_pq131 rfl (kc131 hG.I hG.R x2 0 9) (by decide) ?_
    intro vg3 hg3
    rcases hg3 with ⟨eg3, hg3⟩ | ⟨eg3, hg3⟩
    ·
      subst eg3
      have z4 : ((0 : Int32).toInt ≤ x2.toInt) ∧ (x2.toInt ≤ (9 : Int32).toInt) := hg3
      have fi_7424 : ((0 : Int) ≤ (i 7424).toInt) ∧ ((i 7424).toInt ≤ 8) := hG.I.1 7424
      first | refine ft_goS mi_k135 4 28 [.int 8, .int (i 7424)] (by rfl) ?_ | refine ft_go mi_k135 4 28 [(0, .ref 116), (1, .int x1), (2, .int x2)] [.int 8, .int (i 7424)] i a q r (by rfl) ?_
      refine ft_ifS mi_k135 ((i 7424) != 8) 36 31 [] (by rfl) (fun c => ?_) (fun c => ?_)
      ·
        have c5 : (i 7424).toInt ≠ (8 : Int32).toInt := kd_ne c; clear c
        first | refine ft_goS mi_k135 4 41 [.int x2, .int x1, .int 100, .ref 116] (by rfl) ?_ | refine ft_go mi_k135 4 41 [(0, .ref 116), (1, .int x1), (2, .int x2)] [.int x2, .int x1, .int 100, .ref 116] i a q r (by rfl) ?_
        refine ko_callI mi_k135.1 (pc := 41) (ls := [(0, .ref 116), (1, .int x1), (2, .int x2)]) (st := [.int x2, .int x1, .int 100, .ref 116]) (h := ks i a q r) (i := (.invokevirtual 123, 3, 134, 0, 9, 0, 380)) (mi_k135.2 _ _ (by rfl)) (ft_invS mi_pq134 (by rfl)) (cy := mi_c134) mi_pq134 rfl (ke134_116 hG.I hG.R 100 x1 x2 (oa59 c5 fi_7424.2 koa8)) (by decide) ?_
        intro vg6 ig6 ag6 qg6 rg6 kg6 hg6
        have hGg6 := kG_call hG kg6 (by decide +kernel)
        obtain ⟨hg6, og6⟩ := hg6
        have fig6_7424 : ((0 : Int) ≤ (ig6 7424).toInt) ∧ ((ig6 7424).toInt ≤ 8) := hGg6.I.1 7424
        have z7 : (vg6.toInt = (i 7424).toInt) ∧ ((ig6 7424).toInt = ((i 7424).toInt + 1)) := hg6
        have q8 : ag6 118 = (a 118).set (i 7424).toNatClampNeg (100 : Int32) := og6.1
        have q9 : ag6 117 = ((a 117).set (i 7424).toNatClampNeg x1).set (8 + i 7424).toNatClampNeg x2 := og6.2
        exact ft_ret mi_k135 (by rfl) (hP vg6 _ _ _ _ hGg6 ⟨(oa60 fig6_7424.2 z2.1 z2.2 z4.1 z4.2 z7.1 z7.2 koa0 koa9), ⟨(fun _ => (show ag6 118 = (a 118).set (i 7424).toNatClampNeg 100 from (by first | rfl | (simp only [q8, sMn, sMx]; done) | (simp only [q8, sMn, sMx]; rfl)))), (fun _ => (show ag6 117 = ((a 117).set (i 7424).toNatClampNeg x1).set (8 + i 7424).toNatClampNeg x2 from (by first | rfl | (simp only [q9, sMn, sMx]; done) | (simp only [q9, sMn, sMx]; rfl)))), (fun h => absurd h (oa61 fig6_7424.2 z2.1 z2.2 z4.1 z4.2 z7.2 koa0 koa9)), (fun h => absurd h (oa61 fig6_7424.2 z2.1 z2.2 z4.1 z4.2 z7.2 koa0 koa9))⟩⟩)
      ·
        have c10 : (i 7424).toInt = (8 : Int32).toInt := kd_neF c; clear c
        first | refine ft_goS mi_k135 2 44 [.int (-3)] (by rfl) ?_ | refine ft_go mi_k135 2 44 [(0, .ref 116), (1, .int x1), (2, .int x2)] [.int (-3)] i a q r (by rfl) ?_
        exact ft_ret mi_k135 (by rfl) (hP (-3) _ _ _ _ hG ⟨(oa62 c10 z2.1 z2.2 z4.1 z4.2 koa8 koa0 koa9 koam3), ⟨(fun h => absurd h (oa63 c10 koa8)), (fun h => absurd h (oa63 c10 koa8)), (fun _ => (show a 118 = a 118 from rfl)), (fun _ => (show a 117 = a 117 from rfl))⟩⟩)
    ·
      subst eg3
      have z11 : ¬ (((0 : Int32).toInt ≤ x2.toInt) ∧ (x2.toInt ≤ (9 : Int32).toInt)) := hg3
      first | refine ft_goS mi_k135 2 21 [.int (-1)] (by rfl) ?_ | refine ft_go mi_k135 2 21 [(0, .ref 116), (1, .int x1), (2, .int x2)] [.int (-1)] i a q r (by rfl) ?_
      exact ft_ret mi_k135 (by rfl) (hP (-1) _ _ _ _ hG ⟨(oa64 z11 koa0 koa9 koam1), ⟨(fun h => absurd h (oa65 z11 koa0 koa9)), (fun h => absurd h (oa65 z11 koa0 koa9)), (fun _ => (show a 118 = a 118 from rfl)), (fun _ => (show a 117 = a 117 from rfl))⟩⟩)
  ·
    subst eg1
    have z12 : ¬ (((0 : Int32).toInt ≤ x1.toInt) ∧ (x1.toInt ≤ (9 : Int32).toInt)) := hg1
    first | refine ft_goS mi_k135 2 21 [.int (-1)] (by rfl) ?_ | refine ft_go mi_k135 2 21 [(0, .ref 116), (1, .int x1), (2, .int x2)] [.int (-1)] i a q r (by rfl) ?_
    exact ft_ret mi_k135 (by rfl) (hP (-1) _ _ _ _ hG ⟨(oa66 z12 koa0 koa9 koam1), ⟨(fun h => absurd h (oa67 z12 koa0 koa9)), (fun h => absurd h (oa67 z12 koa0 koa9)), (fun _ => (show a 118 = a 118 from rfl)), (fun _ => (show a 117 = a 117 from rfl))⟩⟩)
end
section
theorem ob25 {a0 a1 : Int} (h0 : a0 ≠ a1) : ¬ (a0 = a1) := by omega
theorem ob26 {a0 a1 a2 : Int} (h0 : a0 ≠ a1) (h1 : a0 = a2) (h2 : a1 = 8) : ¬ (a2 = 8) := by omega
theorem ob31 {a0 a1 a2 a3 : Int} (h0 : a0 < a1) (h1 : a1 = (a2 - 1)) (h2 : a2 ≤ 5) (h3 : a3 = 19) : a3 + a0 ≤ 2147483647 := by omega
theorem ob33 {a0 a1 a2 a3 : Int} (h0 : a0 < a1) (h1 : a1 = (a2 - 1)) (h2 : a2 ≤ 5) (h3 : a3 = 20) : a3 + a0 ≤ 2147483647 := by omega
theorem ob35 {a0 a1 a2 a3 a4 : Int} (h0 : a0 < a1) (h1 : a1 = (a2 - 1)) (h2 : a2 ≤ 5) (h3 : a3 = a4 + a0) (h4 : a4 = 20) : a3 < 31 := by omega
theorem ob38 {a0 a1 a2 a3 a4 : Int} (h0 : a0 < a1) (h1 : a1 = (a2 - 1)) (h2 : a2 ≤ 5) (h3 : a3 = a4 + a0) (h4 : a4 = 19) : a3 < 31 := by omega
theorem ob40 {a0 a1 a2 a3 a4 a5 a6 : Int} (h0 : a0 < a1) (h1 : (0 : Int) ≤ a0) (h2 : a1 = (a2 - 1)) (h3 : a2 ≤ 5) (h4 : (19 ≤ a3 → a3 ≤ 24 → (0 : Int) ≤ a4 ∧ a4 ≤ 7)) (h5 : a3 = a5 + a0) (h6 : a5 = 20) : 19 ≤ a6 → a6 ≤ 24 → (0 : Int) ≤ a4 ∧ a4 ≤ 7 := by omega
theorem ob42 {a0 a1 a2 a3 : Int} (h0 : a0 < a1) (h1 : a1 = (a2 - 1)) (h2 : a2 ≤ 5) (h3 : a3 = 25) : a3 + a0 ≤ 2147483647 := by omega
theorem ob44 {a0 a1 a2 a3 : Int} (h0 : a0 < a1) (h1 : a1 = (a2 - 1)) (h2 : a2 ≤ 5) (h3 : a3 = 26) : a3 + a0 ≤ 2147483647 := by omega
theorem ob46 {a0 a1 a2 a3 a4 : Int} (h0 : a0 < a1) (h1 : a1 = (a2 - 1)) (h2 : a2 ≤ 5) (h3 : a3 = a4 + a0) (h4 : a4 = 26) : a3 < 31 := by omega
theorem ob49 {a0 a1 a2 a3 a4 : Int} (h0 : a0 < a1) (h1 : a1 = (a2 - 1)) (h2 : a2 ≤ 5) (h3 : a3 = a4 + a0) (h4 : a4 = 25) : a3 < 31 := by omega
theorem ob53 {a0 a1 a2 a3 : Int} (h0 : a0 < a1) (h1 : a1 = (a2 - 1)) (h2 : a2 ≤ 5) (h3 : a3 = 1) : a0 + a3 ≤ 2147483647 := by omega
theorem ob57 {a0 a1 a2 a3 a4 a5 : Int} (h0 : a0 < a1) (h1 : a2 = a0 + a3) (h2 : a4 = a1) (h3 : a5 = a4) (h4 : a3 = 1) : a2 ≤ a5 := by omega
theorem ob59 {a0 a1 a2 : Int} (h0 : a0 = a1 + a2) (h1 : a1 = 19) : a0 = 19 + a2 := by omega
theorem ob60 {a0 a1 a2 : Int} (h0 : a0 = a1 + a2) (h1 : a1 = 20) : a0 = 20 + a2 := by omega
theorem ob61 {a0 a1 a2 : Int} (h0 : a0 = a1 + a2) (h1 : a1 = 25) : a0 = 25 + a2 := by omega
theorem ob62 {a0 a1 a2 : Int} (h0 : a0 = a1 + a2) (h1 : a1 = 26) : a0 = 26 + a2 := by omega
theorem ob65 {a0 a1 a2 : Int} (h0 : a0 < a1) (h1 : a1 = (a2 - 1)) (h2 : a2 ≤ 5) : (1 : Int) ≤ (5 - a0) := by omega
theorem ob67 {a0 a1 : Int} (h0 : (0 : Int) ≤ a0) (h1 : a1 = 0) : a1 ≤ a0 := by omega
theorem ob69 {a0 a1 a2 a3 a4 : Int} (h0 : a0 ≤ a1) (h1 : a1 ≤ a0) (h2 : a0 = (a2 - 1)) (h3 : a3 = a2 - a4) (h4 : a4 = 1) : a1 = a3 := by omega
end
section
/-! what is said of payments of the class, by parts -/
theorem cY_pos {y d : Int32} (h : y.toInt = 8) : d = (if y.toInt = 8 then d else y) := (if_pos h).symm
theorem cY_neg {y d : Int32} (h : ¬ (y.toInt = 8)) : y = (if y.toInt = 8 then d else y) := (if_neg h).symm
theorem cG_t {c : Int32} {T : kCt} {u : Nat} (h : (T.2.1.getD 0 0).toInt = (u : Int)) : (T.2.2.2.2.2.2.2 u).set c.toNatClampNeg ((T.2.2.2.2.2.2.2 u).getD c.toNatClampNeg 0 + cCoin T) = (cGive c T).2.2.2.2.2.2.2 u := by
  have t := Int32.toNat_toInt (T.2.1.getD 0 0)
  unfold cGive
  dsimp only
  rw [show Nat.beq u (T.2.1.getD 0 0).toNatClampNeg = true from (show (T.2.1.getD 0 0).toNatClampNeg = u by omega) ▸ Nat.beq_refl _]
  rfl
theorem cG_f {c : Int32} {T : kCt} {u : Nat} (h0 : 0 ≤ (T.2.1.getD 0 0).toInt) (h : (T.2.1.getD 0 0).toInt ≠ (u : Int)) : T.2.2.2.2.2.2.2 u = (cGive c T).2.2.2.2.2.2.2 u := by
  have t := Int32.toNat_toInt (T.2.1.getD 0 0)
  unfold cGive
  dsimp only
  cases eb : Nat.beq u (T.2.1.getD 0 0).toNatClampNeg with
  | true => exact absurd (Nat.eq_of_beq_eq_true eb) (by omega)
  | false => rfl
theorem kj_big {u : Nat} {x : Int} (hu : 8 ≤ u) (h : x < 8) : x ≠ (u : Int) := by omega
theorem cT_1 {p : Nat} {i : Nat → Int32} {a : Nat → List Int32} {T : kCt} (h : cT p i a = T) : i (64 * (p + 6) + 2) = T.1 ∧ a (p + 7) = T.2.1 ∧ a (p + 8) = T.2.2.1 ∧ a (p + 1) = T.2.2.2.1 ∧ i (64 * p + 14) = T.2.2.2.2.1 ∧ i (64 * p + 15) = T.2.2.2.2.2.1 ∧ a (p + 13) = T.2.2.2.2.2.2.1 ∧ ∀ u : Nat, u < 8 → a (p + 15 + u) = T.2.2.2.2.2.2.2 u := by
  subst h
  exact ⟨rfl, rfl, rfl, rfl, rfl, rfl, rfl, fun u hu => (cRow_lt hu).symm⟩
end
section
theorem koc1 : (1 : Int32).toInt = 1 := by decide
theorem koc0 : (0 : Int32).toInt = 0 := by decide
theorem koc8 : (8 : Int32).toInt = 8 := by decide
theorem koc2 : (2 : Int32).toInt = 2 := by decide
theorem oc0 {a0 a1 : Int} (h0 : a0 ≤ a1) (h1 : a1 ≤ 4) (h2 : a0 = 5) : False := by omega
theorem oc1 {a0 : Int} (h0 : (0 : Int) ≤ a0) : (0 : Int) ≤ a0 := oz3 h0
theorem oc2 {a0 : Int} (h0 : a0 ≤ 4) : a0 < 5 := by omega
theorem oc6 {a0 a1 a2 : Int} (h0 : a0 ≤ 4) (h1 : a1 = a0 + a2) (h2 : a2 = 1) : a1 ≤ 5 := by omega
theorem oc8 {a0 : Int} (h0 : a0 = 0) : (0 : Int) ≤ a0 := oz46 h0
theorem oc9 {a0 : Int} (h0 : a0 = 0) : a0 < 5 := oz547 h0
theorem oc10 {a0 a1 : Int} (h0 : a0 ≤ a1) (h1 : (1 : Int) ≤ a0) (h2 : a1 = 0) : False := by omega
theorem oc11 {a0 a1 : Int} (h0 : (1 : Int) ≤ a0) (h1 : a1 = 1) : (-2147483648 : Int) ≤ a0 - a1 := oz341 h0 h1
theorem oc12 {a0 a1 : Int} (h0 : a0 ≤ 5) (h1 : a1 = 1) : a0 - a1 ≤ 2147483647 := oz342 h0 h1
theorem oc13 {a0 a1 a2 : Int} (h0 : (1 : Int) ≤ a0) (h1 : a1 = a0 - a2) (h2 : a2 = 1) : (0 : Int) ≤ a1 := oz425 h0 h1 h2
theorem oc14 {a0 a1 a2 : Int} (h0 : a0 ≤ 5) (h1 : a1 = a0 - a2) (h2 : a2 = 1) : a1 ≤ 5 := oz1047 h0 h1 h2
theorem oc15 {a0 : Int} (h0 : a0 = 1) : (0 : Int) ≤ a0 := oz246 h0
theorem oc16 {a0 a1 a2 : Int} (h0 : a0 ≤ 5) (h1 : a1 = a0 - a2) (h2 : a2 = 1) : a2 + a1 ≤ 5 := oz1048 h0 h1 h2
theorem oc17 {a0 a1 a2 a3 : Int} (h0 : a0 ≤ 5) (h1 : a1 = a0 - a2) (h2 : a2 = 1) (h3 : a3 = 0) : a3 + a1 ≤ 5 := oz1049 h0 h1 h2 h3
theorem oc18 {a0 a1 a2 : Int} (h0 : a0 = a1 - a2) (h1 : a2 = 1) : a0 = (a1 - 1) := by omega
theorem oc19 {a0 : Int} (h0 : (1 : Int) ≤ a0) : (1 : Int) ≤ a0 := oz526 h0
theorem oc20 {a0 a1 : Int} (h0 : a0 = (a1 - 1)) : a0 = (a1 - 1) := oz376 h0
theorem oc21 {a0 a1 a2 : Int} (h0 : a0 = a1) : ¬ (a0 ≠ a1 ∧ 0 ≤ a0 ∧ a0 < a2) := by omega
theorem oc22 {a0 a1 a2 : Int} (h0 : a0 ≠ a1) (h1 : a0 = a2) (h2 : a1 = 8) : ¬ (a2 = 8) := ob26 h0 h1 h2
theorem oc27 {a0 a1 : Int} (h0 : a0 ≤ 8) (h1 : a1 < a0) : a1 < 8 := oz974 h0 h1
theorem oc28 {a0 : Int} (h0 : a0 ≤ 7) : a0 < 8 := oz1032 h0
theorem oc29 {a0 : Int} (h0 : a0 = 2) : (0 : Int) ≤ a0 := oz256 h0
theorem oc30 {a0 : Int} (h0 : a0 = 2) : a0 < 5 := oz549 h0
theorem oc32 {a0 a1 a2 a3 : Int} (h0 : a0 ≠ a1) (h1 : a2 = a3) (h2 : (0 : Int) ≤ a1) (h3 : a0 = 0) (h4 : (0 : Int) ≤ a0) (h5 : a0 < a2) : a0 ≠ a1 ∧ 0 ≤ a0 ∧ a0 < a3 := by omega
theorem oc33 {a0 : Int} (h0 : a0 = 0) (h1 : (0 : Int) ≤ a0) : a0 = ((0 : Nat) : Int) := by omega
theorem oc34 {a0 : Int} (h0 : a0 = 0) : a0 ≠ ((1 : Nat) : Int) := by omega
theorem oc35 {a0 : Int} (h0 : a0 = 0) : a0 ≠ ((2 : Nat) : Int) := by omega
theorem oc36 {a0 : Int} (h0 : a0 = 0) : a0 ≠ ((3 : Nat) : Int) := by omega
theorem oc37 {a0 : Int} (h0 : a0 = 0) : a0 ≠ ((4 : Nat) : Int) := by omega
theorem oc38 {a0 : Int} (h0 : a0 = 0) : a0 ≠ ((5 : Nat) : Int) := by omega
theorem oc39 {a0 : Int} (h0 : a0 = 0) : a0 ≠ ((6 : Nat) : Int) := by omega
theorem oc40 {a0 : Int} (h0 : a0 = 0) : a0 ≠ ((7 : Nat) : Int) := by omega
theorem oc41 {a0 : Int} (h0 : a0 = 0) : a0 < 8 := by omega
theorem oc42 {a0 a1 a2 a3 : Int} (h0 : a0 ≠ a1) (h1 : a2 = a3) (h2 : a0 = 1) (h3 : a0 < a2) : a0 ≠ a1 ∧ 0 ≤ a0 ∧ a0 < a3 := by omega
theorem oc43 {a0 : Int} (h0 : a0 = 1) : a0 ≠ ((0 : Nat) : Int) := by omega
theorem oc44 {a0 : Int} (h0 : a0 = 1) : a0 = ((1 : Nat) : Int) := by omega
theorem oc45 {a0 : Int} (h0 : a0 = 1) : a0 ≠ ((2 : Nat) : Int) := by omega
theorem oc46 {a0 : Int} (h0 : a0 = 1) : a0 ≠ ((3 : Nat) : Int) := by omega
theorem oc47 {a0 : Int} (h0 : a0 = 1) : a0 ≠ ((4 : Nat) : Int) := by omega
theorem oc48 {a0 : Int} (h0 : a0 = 1) : a0 ≠ ((5 : Nat) : Int) := by omega
theorem oc49 {a0 : Int} (h0 : a0 = 1) : a0 ≠ ((6 : Nat) : Int) := by omega
theorem oc50 {a0 : Int} (h0 : a0 = 1) : a0 ≠ ((7 : Nat) : Int) := by omega
theorem oc51 {a0 : Int} (h0 : a0 = 1) : a0 < 8 := oz1382 h0
theorem oc52 {a0 a1 a2 a3 : Int} (h0 : a0 ≠ a1) (h1 : a2 = a3) (h2 : a0 = 2) (h3 : a0 < a2) : a0 ≠ a1 ∧ 0 ≤ a0 ∧ a0 < a3 := by omega
theorem oc53 {a0 : Int} (h0 : a0 = 2) : a0 ≠ ((0 : Nat) : Int) := by omega
theorem oc54 {a0 : Int} (h0 : a0 = 2) : a0 ≠ ((1 : Nat) : Int) := by omega
theorem oc55 {a0 : Int} (h0 : a0 = 2) : a0 = ((2 : Nat) : Int) := by omega
theorem oc56 {a0 : Int} (h0 : a0 = 2) : a0 ≠ ((3 : Nat) : Int) := by omega
theorem oc57 {a0 : Int} (h0 : a0 = 2) : a0 ≠ ((4 : Nat) : Int) := by omega
theorem oc58 {a0 : Int} (h0 : a0 = 2) : a0 ≠ ((5 : Nat) : Int) := by omega
theorem oc59 {a0 : Int} (h0 : a0 = 2) : a0 ≠ ((6 : Nat) : Int) := by omega
theorem oc60 {a0 : Int} (h0 : a0 = 2) : a0 ≠ ((7 : Nat) : Int) := by omega
theorem oc61 {a0 : Int} (h0 : a0 = 2) : a0 < 8 := oz1410 h0
theorem oc62 {a0 a1 a2 a3 : Int} (h0 : a0 ≠ a1) (h1 : a2 = a3) (h2 : a0 = 3) (h3 : a0 < a2) : a0 ≠ a1 ∧ 0 ≤ a0 ∧ a0 < a3 := by omega
theorem oc63 {a0 : Int} (h0 : a0 = 3) : (0 : Int) ≤ a0 := oz260 h0
theorem oc64 {a0 : Int} (h0 : a0 = 3) : a0 ≠ ((0 : Nat) : Int) := by omega
theorem oc65 {a0 : Int} (h0 : a0 = 3) : a0 ≠ ((1 : Nat) : Int) := by omega
theorem oc66 {a0 : Int} (h0 : a0 = 3) : a0 ≠ ((2 : Nat) : Int) := by omega
theorem oc67 {a0 : Int} (h0 : a0 = 3) : a0 = ((3 : Nat) : Int) := by omega
theorem oc68 {a0 : Int} (h0 : a0 = 3) : a0 ≠ ((4 : Nat) : Int) := by omega
theorem oc69 {a0 : Int} (h0 : a0 = 3) : a0 ≠ ((5 : Nat) : Int) := by omega
theorem oc70 {a0 : Int} (h0 : a0 = 3) : a0 ≠ ((6 : Nat) : Int) := by omega
theorem oc71 {a0 : Int} (h0 : a0 = 3) : a0 ≠ ((7 : Nat) : Int) := by omega
theorem oc72 {a0 : Int} (h0 : a0 = 3) : a0 < 8 := oz1420 h0
theorem oc73 {a0 a1 a2 a3 : Int} (h0 : a0 ≠ a1) (h1 : a2 = a3) (h2 : a0 = 4) (h3 : a0 < a2) : a0 ≠ a1 ∧ 0 ≤ a0 ∧ a0 < a3 := by omega
theorem oc74 {a0 : Int} (h0 : a0 = 4) : (0 : Int) ≤ a0 := oz262 h0
theorem oc75 {a0 : Int} (h0 : a0 = 4) : a0 ≠ ((0 : Nat) : Int) := by omega
theorem oc76 {a0 : Int} (h0 : a0 = 4) : a0 ≠ ((1 : Nat) : Int) := by omega
theorem oc77 {a0 : Int} (h0 : a0 = 4) : a0 ≠ ((2 : Nat) : Int) := by omega
theorem oc78 {a0 : Int} (h0 : a0 = 4) : a0 ≠ ((3 : Nat) : Int) := by omega
theorem oc79 {a0 : Int} (h0 : a0 = 4) : a0 = ((4 : Nat) : Int) := by omega
theorem oc80 {a0 : Int} (h0 : a0 = 4) : a0 ≠ ((5 : Nat) : Int) := by omega
theorem oc81 {a0 : Int} (h0 : a0 = 4) : a0 ≠ ((6 : Nat) : Int) := by omega
theorem oc82 {a0 : Int} (h0 : a0 = 4) : a0 ≠ ((7 : Nat) : Int) := by omega
theorem oc83 {a0 : Int} (h0 : a0 = 4) : a0 < 8 := oz1445 h0
theorem oc84 {a0 a1 a2 a3 : Int} (h0 : a0 ≠ a1) (h1 : a2 = a3) (h2 : a0 = 5) (h3 : a0 < a2) : a0 ≠ a1 ∧ 0 ≤ a0 ∧ a0 < a3 := by omega
theorem oc85 {a0 : Int} (h0 : a0 = 5) : (0 : Int) ≤ a0 := oz264 h0
theorem oc86 {a0 : Int} (h0 : a0 = 5) : a0 ≠ ((0 : Nat) : Int) := by omega
theorem oc87 {a0 : Int} (h0 : a0 = 5) : a0 ≠ ((1 : Nat) : Int) := by omega
theorem oc88 {a0 : Int} (h0 : a0 = 5) : a0 ≠ ((2 : Nat) : Int) := by omega
theorem oc89 {a0 : Int} (h0 : a0 = 5) : a0 ≠ ((3 : Nat) : Int) := by omega
theorem oc90 {a0 : Int} (h0 : a0 = 5) : a0 ≠ ((4 : Nat) : Int) := by omega
theorem oc91 {a0 : Int} (h0 : a0 = 5) : a0 = ((5 : Nat) : Int) := by omega
theorem oc92 {a0 : Int} (h0 : a0 = 5) : a0 ≠ ((6 : Nat) : Int) := by omega
theorem oc93 {a0 : Int} (h0 : a0 = 5) : a0 ≠ ((7 : Nat) : Int) := by omega
theorem oc94 {a0 : Int} (h0 : a0 = 5) : a0 < 8 := oz1469 h0
theorem oc95 {a0 a1 a2 a3 : Int} (h0 : a0 ≠ a1) (h1 : a2 = a3) (h2 : a0 = 6) (h3 : a0 < a2) : a0 ≠ a1 ∧ 0 ≤ a0 ∧ a0 < a3 := by omega
theorem oc96 {a0 : Int} (h0 : a0 = 6) : (0 : Int) ≤ a0 := oz1130 h0
theorem oc97 {a0 : Int} (h0 : a0 = 6) : a0 ≠ ((0 : Nat) : Int) := by omega
theorem oc98 {a0 : Int} (h0 : a0 = 6) : a0 ≠ ((1 : Nat) : Int) := by omega
theorem oc99 {a0 : Int} (h0 : a0 = 6) : a0 ≠ ((2 : Nat) : Int) := by omega
theorem oc100 {a0 : Int} (h0 : a0 = 6) : a0 ≠ ((3 : Nat) : Int) := by omega
theorem oc101 {a0 : Int} (h0 : a0 = 6) : a0 ≠ ((4 : Nat) : Int) := by omega
theorem oc102 {a0 : Int} (h0 : a0 = 6) : a0 ≠ ((5 : Nat) : Int) := by omega
theorem oc103 {a0 : Int} (h0 : a0 = 6) : a0 = ((6 : Nat) : Int) := by omega
theorem oc104 {a0 : Int} (h0 : a0 = 6) : a0 ≠ ((7 : Nat) : Int) := by omega
theorem oc105 {a0 : Int} (h0 : a0 = 6) : a0 < 8 := oz1485 h0
theorem oc106 {a0 a1 a2 a3 : Int} (h0 : a0 ≠ a1) (h1 : a2 = a3) (h2 : a1 ≤ 7) (h3 : a0 = 7) (h4 : a0 < a2) : a0 ≠ a1 ∧ 0 ≤ a0 ∧ a0 < a3 := by omega
theorem oc107 {a0 : Int} (h0 : a0 = 7) : (0 : Int) ≤ a0 := oz1133 h0
theorem oc108 {a0 : Int} (h0 : a0 = 7) : a0 ≠ ((0 : Nat) : Int) := by omega
theorem oc109 {a0 : Int} (h0 : a0 = 7) : a0 ≠ ((1 : Nat) : Int) := by omega
theorem oc110 {a0 : Int} (h0 : a0 = 7) : a0 ≠ ((2 : Nat) : Int) := by omega
theorem oc111 {a0 : Int} (h0 : a0 = 7) : a0 ≠ ((3 : Nat) : Int) := by omega
theorem oc112 {a0 : Int} (h0 : a0 = 7) : a0 ≠ ((4 : Nat) : Int) := by omega
theorem oc113 {a0 : Int} (h0 : a0 = 7) : a0 ≠ ((5 : Nat) : Int) := by omega
theorem oc114 {a0 : Int} (h0 : a0 = 7) : a0 ≠ ((6 : Nat) : Int) := by omega
theorem oc115 {a0 : Int} (h0 : a0 = 7) : a0 = ((7 : Nat) : Int) := by omega
theorem oc116 {a0 : Int} (h0 : a0 = 7) : a0 < 8 := oz1494 h0
theorem oc117 {a0 a1 : Int} (h0 : a0 ≤ 8) (h1 : ¬ (a1 = 0)) (h2 : ¬ (a1 = 1)) (h3 : ¬ (a1 = 2)) (h4 : ¬ (a1 = 3)) (h5 : ¬ (a1 = 4)) (h6 : ¬ (a1 = 5)) (h7 : ¬ (a1 = 6)) (h8 : ¬ (a1 = 7)) (h9 : (0 : Int) ≤ a1) (h10 : a1 < a0) : False := oz1051 h0 h1 h2 h3 h4 h5 h6 h7 h8 h9 h10
theorem oc118 {a0 a1 a2 a3 : Int} (h0 : a0 = a1) (h1 : ¬ (((0 : Int) ≤ a2) ∧ (a2 < a0))) : ¬ (a2 ≠ a3 ∧ 0 ≤ a2 ∧ a2 < a1) := by omega
theorem oc119 {a0 a1 a2 : Int} (h0 : a0 = a1) (h1 : a0 = a2) (h2 : a1 = 8) : a2 = 8 := by omega
def yw2_7 : kW := ([450], [8, 9], [], [])
set_option maxRecDepth 100000 in
theorem ke2_7 {i : Nat → Int32} {a : Nat → List Int32} {q : Nat → List Int64} {r : Nat → Nat} (hI : kI i a q) (hr : kr r) (hp0 : (1 : Int) ≤ (i 450).toInt) : km 1 2 [.ref 7] (ks i a q r) (kVN yw2_7 i a q r (fun i1 a1 q1 r1 => ((i1 450).toInt = ((i 450).toInt - 1)) ∧ (i1 450 = i 450 - 1 ∧ a1 8 = mi_cpy (a 8) (a 8) (1 : Int32).toNatClampNeg (0 : Int32).toNatClampNeg (i 450 - 1).toNatClampNeg ∧ a1 9 = mi_cpy (a 9) (a 9) (1 : Int32).toNatClampNeg (0 : Int32).toNatClampNeg (i 450 - 1).toNatClampNeg))) := by
  have hG := kG_self yw2_7 hI hr
  refine km_ofN (q := (mi_h2, mi_c2)) rfl (by decide) (Nat.le_of_ble_eq_true rfl) ?_
  intro P hP
  have fi_450 : ((0 : Int) ≤ (i 450).toInt) ∧ ((i 450).toInt ≤ 5) := hG.I.1 450
  first | refine fo_goL mi_k2 fz2_0_2_4 [(0, .ref 7)] [.int (i 450)] (by rfl) ?_ | refine ft_go mi_k2 2 4 [(0, .ref 7)] [.int (i 450)] i a q r (by rfl) ?_
  refine ft_ifS mi_k2 (decide ((i 450) ≤ 0)) 51 7 [] (by rfl) (fun c => ?_) (fun c => ?_)
  ·
    have c1 : (i 450).toInt ≤ (0 : Int32).toInt := kd_le c; clear c
    exact (oc10 c1 hp0 koc0).elim
  ·
    have c2 : (0 : Int32).toInt < (i 450).toInt := kd_leF c; clear c
    have s3 : ((i 450) - 1).toInt = (i 450).toInt - (1 : Int32).toInt := kd_sub (oc11 hp0 koc1) (oc12 fi_450.2 koc1)
    have hJ4 := kG_i hG 450 rfl (v := ((i 450) - 1)) ⟨(oc13 hp0 s3 koc1), (oc14 fi_450.2 s3 koc1)⟩
    first | refine fo_goI mi_k2 fz2_7_14_31 [.int ((i 450) - 1), .int 0, .ref 8, .int 1, .ref 8] (ku i 450 ((i 450) - 1)) (by rfl) ?_ | refine ft_go mi_k2 14 31 [(0, .ref 7)] [.int ((i 450) - 1), .int 0, .ref 8, .int 1, .ref 8] (ku i 450 ((i 450) - 1)) a q r (by rfl) ?_
    refine ko_copyI3 mi_k2.1 (n := 5) (c := 5) (m := 5) (b := 5) (mi_k2.2 _ _ (by rfl)) (by rfl) (by rfl) (by rfl) (ksG8 _ _ _ _) (ksG8 _ _ _ _) (ksA8 _ _ _ _) (hJ4.I.2.1 8) rfl (hJ4.I.2.1 8) rfl (oc13 hp0 s3 koc1) (oc15 koc1) (oc8 koc0) (oc16 fi_450.2 s3 koc1) (oc17 fi_450.2 s3 koc1 koc0) ?_
    intro a6 ea6 fa6
    have hJ6 := kG_al3 hJ4 8 rfl ea6 fa6 (kcpy_len2 (n := 5) (c := 5) (m := 5) (b := 5) (sp := 1) (dp := 0) (n1 := ((i 450) - 1)) (hJ4.I.2.1 8) rfl (hJ4.I.2.1 8) rfl (oc13 hp0 s3 koc1) (oc15 koc1) (oc8 koc0) (oc16 fi_450.2 s3 koc1) (oc17 fi_450.2 s3 koc1 koc0)) (fun _ => kd_bd _)
    first | refine fo_goS mi_k2 fz2_34_8_48 [.int ((i 450) - 1), .int 0, .ref 9, .int 1, .ref 9] (by rfl) ?_ | refine ft_go mi_k2 8 48 [(0, .ref 7)] [.int ((i 450) - 1), .int 0, .ref 9, .int 1, .ref 9] (ku i 450 ((i 450) - 1)) a6 q r (by rfl) ?_
    refine ko_copyI3 mi_k2.1 (n := 5) (c := 5) (m := 5) (b := 5) (mi_k2.2 _ _ (by rfl)) (by rfl) (by rfl) (by rfl) (ksG9 _ _ _ _) (ksG9 _ _ _ _) (ksA9 _ _ _ _) (hJ6.I.2.1 9) rfl (hJ6.I.2.1 9) rfl (oc13 hp0 s3 koc1) (oc15 koc1) (oc8 koc0) (oc16 fi_450.2 s3 koc1) (oc17 fi_450.2 s3 koc1 koc0) ?_
    intro a8 ea8 fa8
    have hJ8 := kG_al3 hJ6 9 rfl ea8 fa8 (kcpy_len2 (n := 5) (c := 5) (m := 5) (b := 5) (sp := 1) (dp := 0) (n1 := ((i 450) - 1)) (hJ6.I.2.1 9) rfl (hJ6.I.2.1 9) rfl (oc13 hp0 s3 koc1) (oc15 koc1) (oc8 koc0) (oc16 fi_450.2 s3 koc1) (oc17 fi_450.2 s3 koc1 koc0)) (fun _ => kd_bd _)
    exact ft_ret mi_k2 (by rfl) (hP  _ _ _ _ hJ8 ⟨(oc18 s3 koc1), ⟨(show ((i 450) - 1) = i 450 - 1 from (by first | rfl | (simp only [sMn, sMx]; done) | (simp only [sMn, sMx]; rfl))), (show a8 8 = mi_cpy (a 8) (a 8) (1 : Int32).toNatClampNeg (0 : Int32).toNatClampNeg (i 450 - 1).toNatClampNeg from (by first | rfl | (simp only [fa8 8 (by decide), ea6, sMn, sMx]; done) | (simp only [fa8 8 (by decide), ea6, sMn, sMx]; rfl))), (show a8 9 = mi_cpy (a 9) (a 9) (1 : Int32).toNatClampNeg (0 : Int32).toNatClampNeg (i 450 - 1).toNatClampNeg from (by first | rfl | (simp only [ea8, fa6 9 (by decide), sMn, sMx]; done) | (simp only [ea8, fa6 9 (by decide), sMn, sMx]; rfl)))⟩⟩)
def yw30_1 : kW := ([78, 79, 450], [2, 8, 9, 14, 16, 17, 18, 19, 20, 21, 22, 23], [], [])
set_option maxRecDepth 100000 in
theorem ke30_1 {i : Nat → Int32} {a : Nat → List Int32} {q : Nat → List Int64} {r : Nat → Nat} (hI : kI i a q) (hr : kr r) (x1 : Int32) (hp0 : ((0 : Int) ≤ x1.toInt) ∧ (x1.toInt ≤ 7)) (hp1 : (1 : Int) ≤ (i 450).toInt) : km 3 30 [.ref 1, .int x1] (ks i a q r) (kVN yw30_1 i a q r (fun i1 a1 q1 r1 => ((i1 450).toInt = ((i 450).toInt - 1)) ∧ cT 1 i1 a1 = cPay (i 64) x1 (cT 1 i a))) := by
  have hG := kG_self yw30_1 hI hr
  refine km_ofN (q := (mi_h30, mi_c30)) rfl (by decide) (Nat.le_of_ble_eq_true rfl) ?_
  intro P hP
  first | refine fo_goL mi_k30 fz30_0_4_8 [(0, .ref 1), (1, .int x1)] [.int 0, .ref 8] (by rfl) ?_ | refine ft_go mi_k30 4 8 [(0, .ref 1), (1, .int x1)] [.int 0, .ref 8] i a q r (by rfl) ?_ | refine ko_steps mi_in30 4 _ (8, [(0, .ref 1), (1, .int x1)], [.int 0, .ref 8], (0, 0), ks i a q r) (by rfl) ?_
  refine ko_iald3 mi_k30.1 (n := 5) (c := 5) (ax := (0, 0, 0, 0, 0)) (mi_k30.2 _ _ (by rfl)) (by rfl) (ksG8 _ _ _ _) (hG.I.2.1 8) rfl (oc8 koc0) (oc9 koc0) ?_
  first | refine fo_goL mi_k30 fz30_9_5_18 [(2, .int ((a 8).getD (0 : Int32).toNatClampNeg 0)), (0, .ref 1), (1, .int x1)] [.int 0, .ref 9] (by rfl) ?_ | refine ft_go mi_k30 5 18 [(2, .int ((a 8).getD (0 : Int32).toNatClampNeg 0)), (0, .ref 1), (1, .int x1)] [.int 0, .ref 9] i a q r (by rfl) ?_ | refine ko_steps mi_in30 5 _ (18, [(2, .int ((a 8).getD (0 : Int32).toNatClampNeg 0)), (0, .ref 1), (1, .int x1)], [.int 0, .ref 9], (0, 0), ks i a q r) (by rfl) ?_
  refine ko_iald3 mi_k30.1 (n := 5) (c := 5) (ax := (0, 0, 0, 0, 0)) (mi_k30.2 _ _ (by rfl)) (by rfl) (ksG9 _ _ _ _) (hG.I.2.1 9) rfl (oc8 koc0) (oc9 koc0) ?_
  first | refine fo_goL mi_k30 fz30_19_3_24 [(3, .int ((a 9).getD (0 : Int32).toNatClampNeg 0)), (2, .int ((a 8).getD (0 : Int32).toNatClampNeg 0)), (0, .ref 1), (1, .int x1)] [.ref 7] (by rfl) ?_ | refine ft_go mi_k30 3 24 [(3, .int ((a 9).getD (0 : Int32).toNatClampNeg 0)), (2, .int ((a 8).getD (0 : Int32).toNatClampNeg 0)), (0, .ref 1), (1, .int x1)] [.ref 7] i a q r (by rfl) ?_ | refine ko_steps mi_in30 3 _ (24, [(3, .int ((a 9).getD (0 : Int32).toNatClampNeg 0)), (2, .int ((a 8).getD (0 : Int32).toNatClampNeg 0)), (0, .ref 1), (1, .int x1)], [.ref 7], (0, 0), ks i a q r) (by rfl) ?_
  refine ko_callN mi_k30.1 (pc := 24) (ls := [(3, .int ((a 9).getD (0 : Int32).toNatClampNeg 0)), (2, .int ((a 8).getD (0 : Int32).toNatClampNeg 0)), (0, .ref 1), (1, .int x1)]) (st := [.ref 7]) (h := ks i a q r) (i := (.invokevirtual 114, 3, 2, 0, 9, 0, 222)) (mi_k30.2 _ _ (by rfl)) (ft_invS mi_pq2 (by rfl)) (cy := mi_c2) mi_pq2 rfl (ke2_7 hG.I hG.R (oc19 hp1)) (by decide) ?_
  intro ig1 ag1 qg1 rg1 kg1 hg1
  have hGg1 := kG_call hG kg1 (by decide +kernel)
  obtain ⟨hg1, og1⟩ := hg1
  have z2 : (ig1 450).toInt = ((i 450).toInt - 1) := hg1
  have q3 : ig1 450 = i 450 - 1 := og1.1
  have q4 : ag1 8 = mi_cpy (a 8) (a 8) (1 : Int32).toNatClampNeg (0 : Int32).toNatClampNeg (i 450 - 1).toNatClampNeg := og1.2.1
  have q5 : ag1 9 = mi_cpy (a 9) (a 9) (1 : Int32).toNatClampNeg (0 : Int32).toNatClampNeg (i 450 - 1).toNatClampNeg := og1.2.2
  have efig1_78 : (ig1 78).toInt = (i 78).toInt := kg1.ti 78 rfl
  first | refine fo_goS mi_k30 fz30_27_3_33 [.int 8, .int (ig1 78)] (by rfl) ?_ | refine ft_go mi_k30 3 33 [(3, .int ((a 9).getD (0 : Int32).toNatClampNeg 0)), (2, .int ((a 8).getD (0 : Int32).toNatClampNeg 0)), (0, .ref 1), (1, .int x1)] [.int 8, .int (ig1 78)] ig1 ag1 qg1 rg1 (by rfl) ?_ | refine ko_steps mi_in30 3 _ (33, [(3, .int ((a 9).getD (0 : Int32).toNatClampNeg 0)), (2, .int ((a 8).getD (0 : Int32).toNatClampNeg 0)), (0, .ref 1), (1, .int x1)], [.int 8, .int (ig1 78)], (0, 0), ks ig1 ag1 qg1 rg1) (by rfl) ?_
  refine ft_ifS mi_k30 ((ig1 78) != 8) 41 36 [] (by rfl) (fun c => ?_) (fun c => ?_)
  ·
    have c6 : (ig1 78).toInt ≠ (8 : Int32).toInt := kd_ne c; clear c
    first | refine fo_goS mi_k30 fz30_41_2_43 [.int x1, .int ((a 8).getD (0 : Int32).toNatClampNeg 0)] (by rfl) ?_ | refine ft_go mi_k30 2 43 [(3, .int ((a 9).getD (0 : Int32).toNatClampNeg 0)), (2, .int ((a 8).getD (0 : Int32).toNatClampNeg 0)), (0, .ref 1), (1, .int x1)] [.int x1, .int ((a 8).getD (0 : Int32).toNatClampNeg 0)] ig1 ag1 qg1 rg1 (by rfl) ?_ | refine ko_steps mi_in30 2 _ (43, [(3, .int ((a 9).getD (0 : Int32).toNatClampNeg 0)), (2, .int ((a 8).getD (0 : Int32).toNatClampNeg 0)), (0, .ref 1), (1, .int x1)], [.int x1, .int ((a 8).getD (0 : Int32).toNatClampNeg 0)], (0, 0), ks ig1 ag1 qg1 rg1) (by rfl) ?_
    refine ft_ifS mi_k30 (((a 8).getD (0 : Int32).toNatClampNeg 0) == x1) 54 46 [] (by rfl) (fun c => ?_) (fun c => ?_)
    ·
      have c7 : ((a 8).getD (0 : Int32).toNatClampNeg 0).toInt = x1.toInt := kd_eq c; clear c
      exact ft_ret mi_k30 (by rfl) (hP  _ _ _ _ hGg1 ⟨(oc20 z2), ((cT_eq (p := 1) (i := ig1) (a := ag1) (T := cRest (cT 1 i a)) (show ig1 450 = (cRest (cT 1 i a)).1 from by first | rfl | (simp only [q3, sMn, sMx, cGive, cRest, cCoin, cT]; done) | (simp only [q3, sMn, sMx, cGive, cRest, cCoin, cT]; rfl)) (show ag1 8 = (cRest (cT 1 i a)).2.1 from by first | rfl | (simp only [q4, sMn, sMx, cGive, cRest, cCoin, cT]; done) | (simp only [q4, sMn, sMx, cGive, cRest, cCoin, cT]; rfl)) (show ag1 9 = (cRest (cT 1 i a)).2.2.1 from by first | rfl | (simp only [q5, sMn, sMx, cGive, cRest, cCoin, cT]; done) | (simp only [q5, sMn, sMx, cGive, cRest, cCoin, cT]; rfl)) (show ag1 2 = (cRest (cT 1 i a)).2.2.2.1 from by first | rfl | (simp only [kg1.fa 2 rfl, sMn, sMx, cGive, cRest, cCoin, cT]; done) | (simp only [kg1.fa 2 rfl, sMn, sMx, cGive, cRest, cCoin, cT]; rfl)) ((show ig1 78 = i 78 from (by first | rfl | (simp only [(kg1.fi 78 rfl : ig1 78 = i 78), sMn, sMx]; done) | (simp only [(kg1.fi 78 rfl : ig1 78 = i 78), sMn, sMx]; rfl))).trans (cY_neg (y := i 78) (d := (a 8).getD 0 0) (oc22 c6 efig1_78 koc8))) (show ig1 79 = (cRest (cT 1 i a)).2.2.2.2.2.1 from by first | rfl | (simp only [(kg1.fi 79 rfl : ig1 79 = i 79), sMn, sMx, cGive, cRest, cCoin, cT]; done) | (simp only [(kg1.fi 79 rfl : ig1 79 = i 79), sMn, sMx, cGive, cRest, cCoin, cT]; rfl)) (show ag1 14 = (cRest (cT 1 i a)).2.2.2.2.2.2.1 from by first | rfl | (simp only [kg1.fa 14 rfl, sMn, sMx, cGive, cRest, cCoin, cT]; done) | (simp only [kg1.fa 14 rfl, sMn, sMx, cGive, cRest, cCoin, cT]; rfl)) (fun u hu => match u, hu with | 0, _ => (show ag1 16 = cRow 1 a 0 from by rw [cRow_lt (p := 1) (a := a) (by decide : 0 < 8)]; first | rfl | (simp only [kg1.fa 16 rfl, sMn, sMx, cCoin, cT]; done) | (simp only [kg1.fa 16 rfl, sMn, sMx, cCoin, cT]; rfl)) | 1, _ => (show ag1 17 = cRow 1 a 1 from by rw [cRow_lt (p := 1) (a := a) (by decide : 1 < 8)]; first | rfl | (simp only [kg1.fa 17 rfl, sMn, sMx, cCoin, cT]; done) | (simp only [kg1.fa 17 rfl, sMn, sMx, cCoin, cT]; rfl)) | 2, _ => (show ag1 18 = cRow 1 a 2 from by rw [cRow_lt (p := 1) (a := a) (by decide : 2 < 8)]; first | rfl | (simp only [kg1.fa 18 rfl, sMn, sMx, cCoin, cT]; done) | (simp only [kg1.fa 18 rfl, sMn, sMx, cCoin, cT]; rfl)) | 3, _ => (show ag1 19 = cRow 1 a 3 from by rw [cRow_lt (p := 1) (a := a) (by decide : 3 < 8)]; first | rfl | (simp only [kg1.fa 19 rfl, sMn, sMx, cCoin, cT]; done) | (simp only [kg1.fa 19 rfl, sMn, sMx, cCoin, cT]; rfl)) | 4, _ => (show ag1 20 = cRow 1 a 4 from by rw [cRow_lt (p := 1) (a := a) (by decide : 4 < 8)]; first | rfl | (simp only [kg1.fa 20 rfl, sMn, sMx, cCoin, cT]; done) | (simp only [kg1.fa 20 rfl, sMn, sMx, cCoin, cT]; rfl)) | 5, _ => (show ag1 21 = cRow 1 a 5 from by rw [cRow_lt (p := 1) (a := a) (by decide : 5 < 8)]; first | rfl | (simp only [kg1.fa 21 rfl, sMn, sMx, cCoin, cT]; done) | (simp only [kg1.fa 21 rfl, sMn, sMx, cCoin, cT]; rfl)) | 6, _ => (show ag1 22 = cRow 1 a 6 from by rw [cRow_lt (p := 1) (a := a) (by decide : 6 < 8)]; first | rfl | (simp only [kg1.fa 22 rfl, sMn, sMx, cCoin, cT]; done) | (simp only [kg1.fa 22 rfl, sMn, sMx, cCoin, cT]; rfl)) | 7, _ => (show ag1 23 = cRow 1 a 7 from by rw [cRow_lt (p := 1) (a := a) (by decide : 7 < 8)]; first | rfl | (simp only [kg1.fa 23 rfl, sMn, sMx, cCoin, cT]; done) | (simp only [kg1.fa 23 rfl, sMn, sMx, cCoin, cT]; rfl)) | _ + 8, h => absurd h (by omega)) (fun u hu => cRow_ge hu)).trans (show cRest (cT 1 i a) = cPay (i 64) x1 (cT 1 i a) from (if_neg (oc21 c7)).symm))⟩)
    ·
      have c8 : ((a 8).getD (0 : Int32).toNatClampNeg 0).toInt ≠ x1.toInt := kd_eqF c; clear c
      first | refine fo_goS mi_k30 fz30_46_2_48 [.int ((a 8).getD (0 : Int32).toNatClampNeg 0), .ref 1] (by rfl) ?_ | refine ft_go mi_k30 2 48 [(3, .int ((a 9).getD (0 : Int32).toNatClampNeg 0)), (2, .int ((a 8).getD (0 : Int32).toNatClampNeg 0)), (0, .ref 1), (1, .int x1)] [.int ((a 8).getD (0 : Int32).toNatClampNeg 0), .ref 1] ig1 ag1 qg1 rg1 (by rfl) ?_ | refine ko_steps mi_in30 2 _ (48, [(3, .int ((a 9).getD (0 : Int32).toNatClampNeg 0)), (2, .int ((a 8).getD (0 : Int32).toNatClampNeg 0)), (0, .ref 1), (1, .int x1)], [.int ((a 8).getD (0 : Int32).toNatClampNeg 0), .ref 1], (0, 0), ks ig1 ag1 qg1 rg1) (by rfl) ?_
      refine ko_callPI mi_k30.1 (pc := 48) (ls := [(3, .int ((a 9).getD (0 : Int32).toNatClampNeg 0)), (2, .int ((a 8).getD (0 : Int32).toNatClampNeg 0)), (0, .ref 1), (1, .int x1)]) (st := [.int ((a 8).getD (0 : Int32).toNatClampNeg 0), .ref 1]) (h := ks ig1 ag1 qg1 rg1) (i := (.invokevirtual 85, 3, 24, 0, 9, 0, 165)) (mi_k30.2 _ _ (by rfl)) (ft_invS mi_pq24 (by rfl)) (cy := mi_c24) mi_pq24 rfl (kc24_1 hGg1.I hGg1.R ((a 8).getD (0 : Int32).toNatClampNeg 0)) (by decide) ?_
      intro vg9 hg9
      rcases hg9 with ⟨eg9, hg9⟩ | ⟨eg9, hg9⟩
      ·
        subst eg9
        have fig1_64 : ((0 : Int) ≤ (ig1 64).toInt) ∧ ((ig1 64).toInt ≤ 8) := hGg1.I.1 64
        have efig1_64 : (ig1 64).toInt = (i 64).toInt := kg1.ti 64 rfl
        have z10 : ((0 : Int) ≤ ((a 8).getD (0 : Int32).toNatClampNeg 0).toInt) ∧ (((a 8).getD (0 : Int32).toNatClampNeg 0).toInt < (ig1 64).toInt) := hg9
        first | refine fo_goS mi_k30 fz30_51_5_61 [.int ((a 8).getD (0 : Int32).toNatClampNeg 0), .ref 2, .int ((a 9).getD (0 : Int32).toNatClampNeg 0)] (by rfl) ?_ | refine ft_goS mi_k30 5 61 [.int ((a 8).getD (0 : Int32).toNatClampNeg 0), .ref 2, .int ((a 9).getD (0 : Int32).toNatClampNeg 0)] (by rfl) ?_ | refine ft_go mi_k30 5 61 [(3, .int ((a 9).getD (0 : Int32).toNatClampNeg 0)), (2, .int ((a 8).getD (0 : Int32).toNatClampNeg 0)), (0, .ref 1), (1, .int x1)] [.int ((a 8).getD (0 : Int32).toNatClampNeg 0), .ref 2, .int ((a 9).getD (0 : Int32).toNatClampNeg 0)] ig1 ag1 qg1 rg1 (by rfl) ?_ | refine ko_steps mi_in30 5 _ (61, [(3, .int ((a 9).getD (0 : Int32).toNatClampNeg 0)), (2, .int ((a 8).getD (0 : Int32).toNatClampNeg 0)), (0, .ref 1), (1, .int x1)], [.int ((a 8).getD (0 : Int32).toNatClampNeg 0), .ref 2, .int ((a 9).getD (0 : Int32).toNatClampNeg 0)], (0, 0), ks ig1 ag1 qg1 rg1) (by rfl) ?_
        refine ko_iald3 mi_k30.1 (n := 8) (c := 8) (ax := (0, 0, 0, 0, 0)) (mi_k30.2 _ _ (by rfl)) (by rfl) (ksG2 _ _ _ _) (hGg1.I.2.1 2) rfl (oc1 z10.1) (oc27 fig1_64.2 z10.2) ?_
        have m12 : (((bif decide (((ag1 2).getD ((a 8).getD (0 : Int32).toNatClampNeg 0).toNatClampNeg 0) < ((a 9).getD (0 : Int32).toNatClampNeg 0)) then ((ag1 2).getD ((a 8).getD (0 : Int32).toNatClampNeg 0).toNatClampNeg 0) else ((a 9).getD (0 : Int32).toNatClampNeg 0)).toInt ≤ ((a 9).getD (0 : Int32).toNatClampNeg 0).toInt) ∧ ((bif decide (((ag1 2).getD ((a 8).getD (0 : Int32).toNatClampNeg 0).toNatClampNeg 0) < ((a 9).getD (0 : Int32).toNatClampNeg 0)) then ((ag1 2).getD ((a 8).getD (0 : Int32).toNatClampNeg 0).toNatClampNeg 0) else ((a 9).getD (0 : Int32).toNatClampNeg 0)).toInt ≤ ((ag1 2).getD ((a 8).getD (0 : Int32).toNatClampNeg 0).toNatClampNeg 0).toInt)) ∧ ((bif decide (((ag1 2).getD ((a 8).getD (0 : Int32).toNatClampNeg 0).toNatClampNeg 0) < ((a 9).getD (0 : Int32).toNatClampNeg 0)) then ((ag1 2).getD ((a 8).getD (0 : Int32).toNatClampNeg 0).toNatClampNeg 0) else ((a 9).getD (0 : Int32).toNatClampNeg 0)).toInt = ((a 9).getD (0 : Int32).toNatClampNeg 0).toInt ∨ (bif decide (((ag1 2).getD ((a 8).getD (0 : Int32).toNatClampNeg 0).toNatClampNeg 0) < ((a 9).getD (0 : Int32).toNatClampNeg 0)) then ((ag1 2).getD ((a 8).getD (0 : Int32).toNatClampNeg 0).toNatClampNeg 0) else ((a 9).getD (0 : Int32).toNatClampNeg 0)).toInt = ((ag1 2).getD ((a 8).getD (0 : Int32).toNatClampNeg 0).toNatClampNeg 0).toInt) := kd_min
        first | refine ft_goS mi_k30 1 65 [.int (bif decide (((ag1 2).getD ((a 8).getD (0 : Int32).toNatClampNeg 0).toNatClampNeg 0) < ((a 9).getD (0 : Int32).toNatClampNeg 0)) then ((ag1 2).getD ((a 8).getD (0 : Int32).toNatClampNeg 0).toNatClampNeg 0) else ((a 9).getD (0 : Int32).toNatClampNeg 0))] (by rfl) ?_ | refine ft_go mi_k30 1 65 [(3, .int ((a 9).getD (0 : Int32).toNatClampNeg 0)), (2, .int ((a 8).getD (0 : Int32).toNatClampNeg 0)), (0, .ref 1), (1, .int x1)] [.int (bif decide (((ag1 2).getD ((a 8).getD (0 : Int32).toNatClampNeg 0).toNatClampNeg 0) < ((a 9).getD (0 : Int32).toNatClampNeg 0)) then ((ag1 2).getD ((a 8).getD (0 : Int32).toNatClampNeg 0).toNatClampNeg 0) else ((a 9).getD (0 : Int32).toNatClampNeg 0))] ig1 ag1 qg1 rg1 (by rfl) ?_ | refine ko_steps mi_in30 1 _ (65, [(3, .int ((a 9).getD (0 : Int32).toNatClampNeg 0)), (2, .int ((a 8).getD (0 : Int32).toNatClampNeg 0)), (0, .ref 1), (1, .int x1)], [.int (bif decide (((ag1 2).getD ((a 8).getD (0 : Int32).toNatClampNeg 0).toNatClampNeg 0) < ((a 9).getD (0 : Int32).toNatClampNeg 0)) then ((ag1 2).getD ((a 8).getD (0 : Int32).toNatClampNeg 0).toNatClampNeg 0) else ((a 9).getD (0 : Int32).toNatClampNeg 0))], (0, 0), ks ig1 ag1 qg1 rg1) (by rfl) ?_
        generalize hm11 : (bif decide (((ag1 2).getD ((a 8).getD (0 : Int32).toNatClampNeg 0).toNatClampNeg 0) < ((a 9).getD (0 : Int32).toNatClampNeg 0)) then ((ag1 2).getD ((a 8).getD (0 : Int32).toNatClampNeg 0).toNatClampNeg 0) else ((a 9).getD (0 : Int32).toNatClampNeg 0)) = m11 at m12 ⊢
        have qm11 := hm11.symm
        first | refine fo_goL mi_k30 fz30_65_5_73 [(4, .int m11), (3, .int ((a 9).getD (0 : Int32).toNatClampNeg 0)), (2, .int ((a 8).getD (0 : Int32).toNatClampNeg 0)), (0, .ref 1), (1, .int x1)] [.int ((a 8).getD (0 : Int32).toNatClampNeg 0), .ref 2, .int ((a 8).getD (0 : Int32).toNatClampNeg 0), .ref 2] (by rfl) ?_ | refine ft_go mi_k30 5 73 [(4, .int m11), (3, .int ((a 9).getD (0 : Int32).toNatClampNeg 0)), (2, .int ((a 8).getD (0 : Int32).toNatClampNeg 0)), (0, .ref 1), (1, .int x1)] [.int ((a 8).getD (0 : Int32).toNatClampNeg 0), .ref 2, .int ((a 8).getD (0 : Int32).toNatClampNeg 0), .ref 2] ig1 ag1 qg1 rg1 (by rfl) ?_ | refine ko_steps mi_in30 5 _ (73, [(4, .int m11), (3, .int ((a 9).getD (0 : Int32).toNatClampNeg 0)), (2, .int ((a 8).getD (0 : Int32).toNatClampNeg 0)), (0, .ref 1), (1, .int x1)], [.int ((a 8).getD (0 : Int32).toNatClampNeg 0), .ref 2, .int ((a 8).getD (0 : Int32).toNatClampNeg 0), .ref 2], (0, 0), ks ig1 ag1 qg1 rg1) (by rfl) ?_
        refine ko_iald3 mi_k30.1 (n := 8) (c := 8) (ax := (0, 0, 0, 0, 0)) (mi_k30.2 _ _ (by rfl)) (by rfl) (ksG2 _ _ _ _) (hGg1.I.2.1 2) rfl (oc1 z10.1) (oc27 fig1_64.2 z10.2) ?_
        have b13 : ((-2147483648 : Int) ≤ ((ag1 2).getD ((a 8).getD (0 : Int32).toNatClampNeg 0).toNatClampNeg 0).toInt) ∧ (((ag1 2).getD ((a 8).getD (0 : Int32).toNatClampNeg 0).toNatClampNeg 0).toInt ≤ 2147483647) := kd_bd ((ag1 2).getD ((a 8).getD (0 : Int32).toNatClampNeg 0).toNatClampNeg 0)
        have b14 : ((-2147483648 : Int) ≤ m11.toInt) ∧ (m11.toInt ≤ 2147483647) := kd_bd m11
        first | refine fo_goS mi_k30 fz30_74_2_77 [.int (((ag1 2).getD ((a 8).getD (0 : Int32).toNatClampNeg 0).toNatClampNeg 0) - m11), .int ((a 8).getD (0 : Int32).toNatClampNeg 0), .ref 2] (by rfl) ?_ | refine ft_go mi_k30 2 77 [(4, .int m11), (3, .int ((a 9).getD (0 : Int32).toNatClampNeg 0)), (2, .int ((a 8).getD (0 : Int32).toNatClampNeg 0)), (0, .ref 1), (1, .int x1)] [.int (((ag1 2).getD ((a 8).getD (0 : Int32).toNatClampNeg 0).toNatClampNeg 0) - m11), .int ((a 8).getD (0 : Int32).toNatClampNeg 0), .ref 2] ig1 ag1 qg1 rg1 (by rfl) ?_ | refine ko_steps mi_in30 2 _ (77, [(4, .int m11), (3, .int ((a 9).getD (0 : Int32).toNatClampNeg 0)), (2, .int ((a 8).getD (0 : Int32).toNatClampNeg 0)), (0, .ref 1), (1, .int x1)], [.int (((ag1 2).getD ((a 8).getD (0 : Int32).toNatClampNeg 0).toNatClampNeg 0) - m11), .int ((a 8).getD (0 : Int32).toNatClampNeg 0), .ref 2], (0, 0), ks ig1 ag1 qg1 rg1) (by rfl) ?_
        refine ko_iast3 mi_k30.1 (n := 8) (c := 8) (ax := (0, 0, 0, 0, 0)) (mi_k30.2 _ _ (by rfl)) (by rfl) (ksG2 _ _ _ _) (ksA2 _ _ _ _) (hGg1.I.2.1 2) rfl (oc1 z10.1) (oc27 fig1_64.2 z10.2) ?_
        intro a15 ea15 fa15
        have hJ15 := kG_a3 hGg1 2 rfl ea15 fa15 (kd_bd _)
        first | refine fo_goS mi_k30 fz30_78_7_91 [.int x1, .ref 2, .int 999, .int x1, .ref 2] (by rfl) ?_ | refine ft_go mi_k30 7 91 [(4, .int m11), (3, .int ((a 9).getD (0 : Int32).toNatClampNeg 0)), (2, .int ((a 8).getD (0 : Int32).toNatClampNeg 0)), (0, .ref 1), (1, .int x1)] [.int x1, .ref 2, .int 999, .int x1, .ref 2] ig1 a15 qg1 rg1 (by rfl) ?_ | refine ko_steps mi_in30 7 _ (91, [(4, .int m11), (3, .int ((a 9).getD (0 : Int32).toNatClampNeg 0)), (2, .int ((a 8).getD (0 : Int32).toNatClampNeg 0)), (0, .ref 1), (1, .int x1)], [.int x1, .ref 2, .int 999, .int x1, .ref 2], (0, 0), ks ig1 a15 qg1 rg1) (by rfl) ?_
        refine ko_iald3 mi_k30.1 (n := 8) (c := 8) (ax := (0, 0, 0, 0, 0)) (mi_k30.2 _ _ (by rfl)) (by rfl) (ksG2 _ _ _ _) (hJ15.I.2.1 2) rfl (oc1 hp0.1) (oc28 hp0.2) ?_
        have b16 : ((-2147483648 : Int) ≤ ((a15 2).getD x1.toNatClampNeg 0).toInt) ∧ (((a15 2).getD x1.toNatClampNeg 0).toInt ≤ 2147483647) := kd_bd ((a15 2).getD x1.toNatClampNeg 0)
        first | refine fo_goS mi_k30 fz30_92_2_95 [.int (((a15 2).getD x1.toNatClampNeg 0) + m11), .int 999, .int x1, .ref 2] (by rfl) ?_ | refine ft_go mi_k30 2 95 [(4, .int m11), (3, .int ((a 9).getD (0 : Int32).toNatClampNeg 0)), (2, .int ((a 8).getD (0 : Int32).toNatClampNeg 0)), (0, .ref 1), (1, .int x1)] [.int (((a15 2).getD x1.toNatClampNeg 0) + m11), .int 999, .int x1, .ref 2] ig1 a15 qg1 rg1 (by rfl) ?_ | refine ko_steps mi_in30 2 _ (95, [(4, .int m11), (3, .int ((a 9).getD (0 : Int32).toNatClampNeg 0)), (2, .int ((a 8).getD (0 : Int32).toNatClampNeg 0)), (0, .ref 1), (1, .int x1)], [.int (((a15 2).getD x1.toNatClampNeg 0) + m11), .int 999, .int x1, .ref 2], (0, 0), ks ig1 a15 qg1 rg1) (by rfl) ?_
        have m18 : (((bif decide ((((a15 2).getD x1.toNatClampNeg 0) + m11) < 999) then (((a15 2).getD x1.toNatClampNeg 0) + m11) else 999).toInt ≤ (999 : Int32).toInt) ∧ ((bif decide ((((a15 2).getD x1.toNatClampNeg 0) + m11) < 999) then (((a15 2).getD x1.toNatClampNeg 0) + m11) else 999).toInt ≤ (((a15 2).getD x1.toNatClampNeg 0) + m11).toInt)) ∧ ((bif decide ((((a15 2).getD x1.toNatClampNeg 0) + m11) < 999) then (((a15 2).getD x1.toNatClampNeg 0) + m11) else 999).toInt = (999 : Int32).toInt ∨ (bif decide ((((a15 2).getD x1.toNatClampNeg 0) + m11) < 999) then (((a15 2).getD x1.toNatClampNeg 0) + m11) else 999).toInt = (((a15 2).getD x1.toNatClampNeg 0) + m11).toInt) := kd_min
        first | refine ft_goS mi_k30 1 98 [.int (bif decide ((((a15 2).getD x1.toNatClampNeg 0) + m11) < 999) then (((a15 2).getD x1.toNatClampNeg 0) + m11) else 999), .int x1, .ref 2] (by rfl) ?_ | refine ft_go mi_k30 1 98 [(4, .int m11), (3, .int ((a 9).getD (0 : Int32).toNatClampNeg 0)), (2, .int ((a 8).getD (0 : Int32).toNatClampNeg 0)), (0, .ref 1), (1, .int x1)] [.int (bif decide ((((a15 2).getD x1.toNatClampNeg 0) + m11) < 999) then (((a15 2).getD x1.toNatClampNeg 0) + m11) else 999), .int x1, .ref 2] ig1 a15 qg1 rg1 (by rfl) ?_ | refine ko_steps mi_in30 1 _ (98, [(4, .int m11), (3, .int ((a 9).getD (0 : Int32).toNatClampNeg 0)), (2, .int ((a 8).getD (0 : Int32).toNatClampNeg 0)), (0, .ref 1), (1, .int x1)], [.int (bif decide ((((a15 2).getD x1.toNatClampNeg 0) + m11) < 999) then (((a15 2).getD x1.toNatClampNeg 0) + m11) else 999), .int x1, .ref 2], (0, 0), ks ig1 a15 qg1 rg1) (by rfl) ?_
        generalize hm17 : (bif decide ((((a15 2).getD x1.toNatClampNeg 0) + m11) < 999) then (((a15 2).getD x1.toNatClampNeg 0) + m11) else 999) = m17 at m18 ⊢
        have qm17 := hm17.symm
        refine ko_iast3 mi_k30.1 (n := 8) (c := 8) (ax := (0, 0, 0, 0, 0)) (mi_k30.2 _ _ (by rfl)) (by rfl) (ksG2 _ _ _ _) (ksA2 _ _ _ _) (hJ15.I.2.1 2) rfl (oc1 hp0.1) (oc28 hp0.2) ?_
        intro a19 ea19 fa19
        have hJ19 := kG_a3 hJ15 2 rfl ea19 fa19 (kd_bd _)
        have b20 : ((-2147483648 : Int) ≤ (ig1 79).toInt) ∧ ((ig1 79).toInt ≤ 2147483647) := kd_bd (ig1 79)
        have hJ21 := kG_i hJ19 79 rfl (v := ((ig1 79) + m11)) (kd_bd _)
        first | refine fo_goI mi_k30 fz30_99_10_116 [.int 2, .ref 14, .int 2, .ref 14] (ku ig1 79 ((ig1 79) + m11)) (by rfl) ?_ | refine ft_go mi_k30 10 116 [(4, .int m11), (3, .int ((a 9).getD (0 : Int32).toNatClampNeg 0)), (2, .int ((a 8).getD (0 : Int32).toNatClampNeg 0)), (0, .ref 1), (1, .int x1)] [.int 2, .ref 14, .int 2, .ref 14] (ku ig1 79 ((ig1 79) + m11)) a19 qg1 rg1 (by rfl) ?_ | refine ko_steps mi_in30 10 _ (116, [(4, .int m11), (3, .int ((a 9).getD (0 : Int32).toNatClampNeg 0)), (2, .int ((a 8).getD (0 : Int32).toNatClampNeg 0)), (0, .ref 1), (1, .int x1)], [.int 2, .ref 14, .int 2, .ref 14], (0, 0), ks (ku ig1 79 ((ig1 79) + m11)) a19 qg1 rg1) (by rfl) ?_
        refine ko_iald3 mi_k30.1 (n := 5) (c := 5) (ax := (0, 0, 0, 0, 0)) (mi_k30.2 _ _ (by rfl)) (by rfl) (ksG14 _ _ _ _) (hJ21.I.2.1 14) rfl (oc29 koc2) (oc30 koc2) ?_
        have b22 : ((-2147483648 : Int) ≤ ((a 9).getD (0 : Int32).toNatClampNeg 0).toInt) ∧ (((a 9).getD (0 : Int32).toNatClampNeg 0).toInt ≤ 2147483647) := kd_bd ((a 9).getD (0 : Int32).toNatClampNeg 0)
        have b23 : ((-2147483648 : Int) ≤ ((a19 14).getD (2 : Int32).toNatClampNeg 0).toInt) ∧ (((a19 14).getD (2 : Int32).toNatClampNeg 0).toInt ≤ 2147483647) := kd_bd ((a19 14).getD (2 : Int32).toNatClampNeg 0)
        have b24 : ((-2147483648 : Int) ≤ (((a 9).getD (0 : Int32).toNatClampNeg 0) - m11).toInt) ∧ ((((a 9).getD (0 : Int32).toNatClampNeg 0) - m11).toInt ≤ 2147483647) := kd_bd (((a 9).getD (0 : Int32).toNatClampNeg 0) - m11)
        first | refine fo_goS mi_k30 fz30_117_4_122 [.int (((a19 14).getD (2 : Int32).toNatClampNeg 0) + (((a 9).getD (0 : Int32).toNatClampNeg 0) - m11)), .int 2, .ref 14] (by rfl) ?_ | refine ft_go mi_k30 4 122 [(4, .int m11), (3, .int ((a 9).getD (0 : Int32).toNatClampNeg 0)), (2, .int ((a 8).getD (0 : Int32).toNatClampNeg 0)), (0, .ref 1), (1, .int x1)] [.int (((a19 14).getD (2 : Int32).toNatClampNeg 0) + (((a 9).getD (0 : Int32).toNatClampNeg 0) - m11)), .int 2, .ref 14] (ku ig1 79 ((ig1 79) + m11)) a19 qg1 rg1 (by rfl) ?_ | refine ko_steps mi_in30 4 _ (122, [(4, .int m11), (3, .int ((a 9).getD (0 : Int32).toNatClampNeg 0)), (2, .int ((a 8).getD (0 : Int32).toNatClampNeg 0)), (0, .ref 1), (1, .int x1)], [.int (((a19 14).getD (2 : Int32).toNatClampNeg 0) + (((a 9).getD (0 : Int32).toNatClampNeg 0) - m11)), .int 2, .ref 14], (0, 0), ks (ku ig1 79 ((ig1 79) + m11)) a19 qg1 rg1) (by rfl) ?_
        refine ko_iast3 mi_k30.1 (n := 5) (c := 5) (ax := (0, 0, 0, 0, 0)) (mi_k30.2 _ _ (by rfl)) (by rfl) (ksG14 _ _ _ _) (ksA14 _ _ _ _) (hJ21.I.2.1 14) rfl (oc29 koc2) (oc30 koc2) ?_
        intro a25 ea25 fa25
        have hJ25 := kG_a3 hJ21 14 rfl ea25 fa25 (kd_bd _)
        first | refine fo_goS mi_k30 fz30_123_3_128 [.int ((a 8).getD (0 : Int32).toNatClampNeg 0), .ref 15] (by rfl) ?_ | refine ft_go mi_k30 3 128 [(4, .int m11), (3, .int ((a 9).getD (0 : Int32).toNatClampNeg 0)), (2, .int ((a 8).getD (0 : Int32).toNatClampNeg 0)), (0, .ref 1), (1, .int x1)] [.int ((a 8).getD (0 : Int32).toNatClampNeg 0), .ref 15] (ku ig1 79 ((ig1 79) + m11)) a25 qg1 rg1 (by rfl) ?_ | refine ko_steps mi_in30 3 _ (128, [(4, .int m11), (3, .int ((a 9).getD (0 : Int32).toNatClampNeg 0)), (2, .int ((a 8).getD (0 : Int32).toNatClampNeg 0)), (0, .ref 1), (1, .int x1)], [.int ((a 8).getD (0 : Int32).toNatClampNeg 0), .ref 15], (0, 0), ks (ku ig1 79 ((ig1 79) + m11)) a25 qg1 rg1) (by rfl) ?_
        by_cases w26 : ((a 8).getD (0 : Int32).toNatClampNeg 0).toInt = 0
        ·
          refine ft_alx mi_k30 (pc := 128) (v := 0) (p := 15) (z := 16) (kj_eq w26 (by decide) : ((a 8).getD (0 : Int32).toNatClampNeg 0) = 0) (by decide +kernel) (by decide +kernel) ?_
          first | refine fo_goS mi_k30 fz30_129_2_131 [.int x1, .ref 16, .int x1, .ref 16] (by rfl) ?_ | refine ft_go mi_k30 2 131 [(4, .int m11), (3, .int ((a 9).getD (0 : Int32).toNatClampNeg 0)), (2, .int ((a 8).getD (0 : Int32).toNatClampNeg 0)), (0, .ref 1), (1, .int x1)] [.int x1, .ref 16, .int x1, .ref 16] (ku ig1 79 ((ig1 79) + m11)) a25 qg1 rg1 (by rfl) ?_ | refine ko_steps mi_in30 2 _ (131, [(4, .int m11), (3, .int ((a 9).getD (0 : Int32).toNatClampNeg 0)), (2, .int ((a 8).getD (0 : Int32).toNatClampNeg 0)), (0, .ref 1), (1, .int x1)], [.int x1, .ref 16, .int x1, .ref 16], (0, 0), ks (ku ig1 79 ((ig1 79) + m11)) a25 qg1 rg1) (by rfl) ?_
          refine ko_iald3 mi_k30.1 (n := 8) (c := 8) (ax := (0, 0, 0, 0, 0)) (mi_k30.2 _ _ (by rfl)) (by rfl) (ksG16 _ _ _ _) (hJ25.I.2.1 16) rfl (oc1 hp0.1) (oc28 hp0.2) ?_
          have b27 : ((-2147483648 : Int) ≤ ((a25 16).getD x1.toNatClampNeg 0).toInt) ∧ (((a25 16).getD x1.toNatClampNeg 0).toInt ≤ 2147483647) := kd_bd ((a25 16).getD x1.toNatClampNeg 0)
          first | refine fo_goS mi_k30 fz30_132_2_135 [.int (((a25 16).getD x1.toNatClampNeg 0) + m11), .int x1, .ref 16] (by rfl) ?_ | refine ft_go mi_k30 2 135 [(4, .int m11), (3, .int ((a 9).getD (0 : Int32).toNatClampNeg 0)), (2, .int ((a 8).getD (0 : Int32).toNatClampNeg 0)), (0, .ref 1), (1, .int x1)] [.int (((a25 16).getD x1.toNatClampNeg 0) + m11), .int x1, .ref 16] (ku ig1 79 ((ig1 79) + m11)) a25 qg1 rg1 (by rfl) ?_ | refine ko_steps mi_in30 2 _ (135, [(4, .int m11), (3, .int ((a 9).getD (0 : Int32).toNatClampNeg 0)), (2, .int ((a 8).getD (0 : Int32).toNatClampNeg 0)), (0, .ref 1), (1, .int x1)], [.int (((a25 16).getD x1.toNatClampNeg 0) + m11), .int x1, .ref 16], (0, 0), ks (ku ig1 79 ((ig1 79) + m11)) a25 qg1 rg1) (by rfl) ?_
          refine ko_iast3 mi_k30.1 (n := 8) (c := 8) (ax := (0, 0, 0, 0, 0)) (mi_k30.2 _ _ (by rfl)) (by rfl) (ksG16 _ _ _ _) (ksA16 _ _ _ _) (hJ25.I.2.1 16) rfl (oc1 hp0.1) (oc28 hp0.2) ?_
          intro a28 ea28 fa28
          have hJ28 := kG_a3 hJ25 16 rfl ea28 fa28 (kd_bd _)
          exact ft_ret mi_k30 (by rfl) (hP  _ _ _ _ hJ28 ⟨(oc20 z2), ((cT_eq (p := 1) (i := ku ig1 79 ((ig1 79) + m11)) (a := a28) (T := cGive x1 (cT 1 i a)) (show ig1 450 = (cGive x1 (cT 1 i a)).1 from by first | rfl | (simp only [q3, sMn, sMx, cGive, cRest, cCoin, cT]; done) | (simp only [q3, sMn, sMx, cGive, cRest, cCoin, cT]; rfl)) (show a28 8 = (cGive x1 (cT 1 i a)).2.1 from by first | rfl | (simp only [fa28 8 (by decide), fa25 8 (by decide), fa19 8 (by decide), fa15 8 (by decide), q4, sMn, sMx, cGive, cRest, cCoin, cT]; done) | (simp only [fa28 8 (by decide), fa25 8 (by decide), fa19 8 (by decide), fa15 8 (by decide), q4, sMn, sMx, cGive, cRest, cCoin, cT]; rfl)) (show a28 9 = (cGive x1 (cT 1 i a)).2.2.1 from by first | rfl | (simp only [fa28 9 (by decide), fa25 9 (by decide), fa19 9 (by decide), fa15 9 (by decide), q5, sMn, sMx, cGive, cRest, cCoin, cT]; done) | (simp only [fa28 9 (by decide), fa25 9 (by decide), fa19 9 (by decide), fa15 9 (by decide), q5, sMn, sMx, cGive, cRest, cCoin, cT]; rfl)) (show a28 2 = (cGive x1 (cT 1 i a)).2.2.2.1 from by first | rfl | (simp only [fa28 2 (by decide), fa25 2 (by decide), ea19, ea15, qm17, qm11, kg1.fa 2 rfl, sMn, sMx, cGive, cRest, cCoin, cT]; done) | (simp only [fa28 2 (by decide), fa25 2 (by decide), ea19, ea15, qm17, qm11, kg1.fa 2 rfl, sMn, sMx, cGive, cRest, cCoin, cT]; rfl)) ((show ig1 78 = i 78 from (by first | rfl | (simp only [(kg1.fi 78 rfl : ig1 78 = i 78), sMn, sMx]; done) | (simp only [(kg1.fi 78 rfl : ig1 78 = i 78), sMn, sMx]; rfl))).trans (cY_neg (y := i 78) (d := (a 8).getD 0 0) (oc22 c6 efig1_78 koc8))) (show ((ig1 79) + m11) = (cGive x1 (cT 1 i a)).2.2.2.2.2.1 from by first | rfl | (simp only [(kg1.fi 79 rfl : ig1 79 = i 79), qm11, kg1.fa 2 rfl, sMn, sMx, cGive, cRest, cCoin, cT]; done) | (simp only [(kg1.fi 79 rfl : ig1 79 = i 79), qm11, kg1.fa 2 rfl, sMn, sMx, cGive, cRest, cCoin, cT]; rfl)) (show a28 14 = (cGive x1 (cT 1 i a)).2.2.2.2.2.2.1 from by first | rfl | (simp only [fa28 14 (by decide), ea25, fa19 14 (by decide), qm11, kg1.fa 2 rfl, fa15 14 (by decide), kg1.fa 14 rfl, sMn, sMx, cGive, cRest, cCoin, cT]; done) | (simp only [fa28 14 (by decide), ea25, fa19 14 (by decide), qm11, kg1.fa 2 rfl, fa15 14 (by decide), kg1.fa 14 rfl, sMn, sMx, cGive, cRest, cCoin, cT]; rfl)) (fun u hu => match u, hu with | 0, _ => (Eq.trans (show a28 16 = (cRow 1 a 0).set x1.toNatClampNeg ((cRow 1 a 0).getD x1.toNatClampNeg 0 + cCoin (cT 1 i a)) from by rw [cRow_lt (p := 1) (a := a) (by decide : 0 < 8)]; first | rfl | (simp only [ea28, fa25 16 (by decide), qm11, kg1.fa 2 rfl, fa19 16 (by decide), fa15 16 (by decide), kg1.fa 16 rfl, sMn, sMx, cCoin, cT]; done) | (simp only [ea28, fa25 16 (by decide), qm11, kg1.fa 2 rfl, fa19 16 (by decide), fa15 16 (by decide), kg1.fa 16 rfl, sMn, sMx, cCoin, cT]; rfl)) (cG_t (c := x1) (T := (cT 1 i a)) (u := 0) (oc33 w26 z10.1))) | 1, _ => (Eq.trans (show a28 17 = cRow 1 a 1 from by rw [cRow_lt (p := 1) (a := a) (by decide : 1 < 8)]; first | rfl | (simp only [fa28 17 (by decide), fa25 17 (by decide), fa19 17 (by decide), fa15 17 (by decide), kg1.fa 17 rfl, sMn, sMx, cCoin, cT]; done) | (simp only [fa28 17 (by decide), fa25 17 (by decide), fa19 17 (by decide), fa15 17 (by decide), kg1.fa 17 rfl, sMn, sMx, cCoin, cT]; rfl)) (cG_f (c := x1) (T := (cT 1 i a)) (u := 1) (oc1 z10.1) (oc34 w26))) | 2, _ => (Eq.trans (show a28 18 = cRow 1 a 2 from by rw [cRow_lt (p := 1) (a := a) (by decide : 2 < 8)]; first | rfl | (simp only [fa28 18 (by decide), fa25 18 (by decide), fa19 18 (by decide), fa15 18 (by decide), kg1.fa 18 rfl, sMn, sMx, cCoin, cT]; done) | (simp only [fa28 18 (by decide), fa25 18 (by decide), fa19 18 (by decide), fa15 18 (by decide), kg1.fa 18 rfl, sMn, sMx, cCoin, cT]; rfl)) (cG_f (c := x1) (T := (cT 1 i a)) (u := 2) (oc1 z10.1) (oc35 w26))) | 3, _ => (Eq.trans (show a28 19 = cRow 1 a 3 from by rw [cRow_lt (p := 1) (a := a) (by decide : 3 < 8)]; first | rfl | (simp only [fa28 19 (by decide), fa25 19 (by decide), fa19 19 (by decide), fa15 19 (by decide), kg1.fa 19 rfl, sMn, sMx, cCoin, cT]; done) | (simp only [fa28 19 (by decide), fa25 19 (by decide), fa19 19 (by decide), fa15 19 (by decide), kg1.fa 19 rfl, sMn, sMx, cCoin, cT]; rfl)) (cG_f (c := x1) (T := (cT 1 i a)) (u := 3) (oc1 z10.1) (oc36 w26))) | 4, _ => (Eq.trans (show a28 20 = cRow 1 a 4 from by rw [cRow_lt (p := 1) (a := a) (by decide : 4 < 8)]; first | rfl | (simp only [fa28 20 (by decide), fa25 20 (by decide), fa19 20 (by decide), fa15 20 (by decide), kg1.fa 20 rfl, sMn, sMx, cCoin, cT]; done) | (simp only [fa28 20 (by decide), fa25 20 (by decide), fa19 20 (by decide), fa15 20 (by decide), kg1.fa 20 rfl, sMn, sMx, cCoin, cT]; rfl)) (cG_f (c := x1) (T := (cT 1 i a)) (u := 4) (oc1 z10.1) (oc37 w26))) | 5, _ => (Eq.trans (show a28 21 = cRow 1 a 5 from by rw [cRow_lt (p := 1) (a := a) (by decide : 5 < 8)]; first | rfl | (simp only [fa28 21 (by decide), fa25 21 (by decide), fa19 21 (by decide), fa15 21 (by decide), kg1.fa 21 rfl, sMn, sMx, cCoin, cT]; done) | (simp only [fa28 21 (by decide), fa25 21 (by decide), fa19 21 (by decide), fa15 21 (by decide), kg1.fa 21 rfl, sMn, sMx, cCoin, cT]; rfl)) (cG_f (c := x1) (T := (cT 1 i a)) (u := 5) (oc1 z10.1) (oc38 w26))) | 6, _ => (Eq.trans (show a28 22 = cRow 1 a 6 from by rw [cRow_lt (p := 1) (a := a) (by decide : 6 < 8)]; first | rfl | (simp only [fa28 22 (by decide), fa25 22 (by decide), fa19 22 (by decide), fa15 22 (by decide), kg1.fa 22 rfl, sMn, sMx, cCoin, cT]; done) | (simp only [fa28 22 (by decide), fa25 22 (by decide), fa19 22 (by decide), fa15 22 (by decide), kg1.fa 22 rfl, sMn, sMx, cCoin, cT]; rfl)) (cG_f (c := x1) (T := (cT 1 i a)) (u := 6) (oc1 z10.1) (oc39 w26))) | 7, _ => (Eq.trans (show a28 23 = cRow 1 a 7 from by rw [cRow_lt (p := 1) (a := a) (by decide : 7 < 8)]; first | rfl | (simp only [fa28 23 (by decide), fa25 23 (by decide), fa19 23 (by decide), fa15 23 (by decide), kg1.fa 23 rfl, sMn, sMx, cCoin, cT]; done) | (simp only [fa28 23 (by decide), fa25 23 (by decide), fa19 23 (by decide), fa15 23 (by decide), kg1.fa 23 rfl, sMn, sMx, cCoin, cT]; rfl)) (cG_f (c := x1) (T := (cT 1 i a)) (u := 7) (oc1 z10.1) (oc40 w26))) | _ + 8, h => absurd h (by omega)) (fun u hu => (cG_f (c := x1) (T := (cT 1 i a)) (oc1 z10.1) (kj_big hu (oc41 w26))).symm.trans (cRow_ge hu))).trans (show cGive x1 (cT 1 i a) = cPay (i 64) x1 (cT 1 i a) from (if_pos (oc32 c8 efig1_64 hp0.1 w26 z10.1 z10.2)).symm))⟩)
        by_cases w29 : ((a 8).getD (0 : Int32).toNatClampNeg 0).toInt = 1
        ·
          refine ft_alx mi_k30 (pc := 128) (v := 1) (p := 15) (z := 17) (kj_eq w29 (by decide) : ((a 8).getD (0 : Int32).toNatClampNeg 0) = 1) (by decide +kernel) (by decide +kernel) ?_
          first | refine fo_goS mi_k30 fz30_129_2_131 [.int x1, .ref 17, .int x1, .ref 17] (by rfl) ?_ | refine ft_go mi_k30 2 131 [(4, .int m11), (3, .int ((a 9).getD (0 : Int32).toNatClampNeg 0)), (2, .int ((a 8).getD (0 : Int32).toNatClampNeg 0)), (0, .ref 1), (1, .int x1)] [.int x1, .ref 17, .int x1, .ref 17] (ku ig1 79 ((ig1 79) + m11)) a25 qg1 rg1 (by rfl) ?_ | refine ko_steps mi_in30 2 _ (131, [(4, .int m11), (3, .int ((a 9).getD (0 : Int32).toNatClampNeg 0)), (2, .int ((a 8).getD (0 : Int32).toNatClampNeg 0)), (0, .ref 1), (1, .int x1)], [.int x1, .ref 17, .int x1, .ref 17], (0, 0), ks (ku ig1 79 ((ig1 79) + m11)) a25 qg1 rg1) (by rfl) ?_
          refine ko_iald3 mi_k30.1 (n := 8) (c := 8) (ax := (0, 0, 0, 0, 0)) (mi_k30.2 _ _ (by rfl)) (by rfl) (ksG17 _ _ _ _) (hJ25.I.2.1 17) rfl (oc1 hp0.1) (oc28 hp0.2) ?_
          have b30 : ((-2147483648 : Int) ≤ ((a25 17).getD x1.toNatClampNeg 0).toInt) ∧ (((a25 17).getD x1.toNatClampNeg 0).toInt ≤ 2147483647) := kd_bd ((a25 17).getD x1.toNatClampNeg 0)
          first | refine fo_goS mi_k30 fz30_132_2_135 [.int (((a25 17).getD x1.toNatClampNeg 0) + m11), .int x1, .ref 17] (by rfl) ?_ | refine ft_go mi_k30 2 135 [(4, .int m11), (3, .int ((a 9).getD (0 : Int32).toNatClampNeg 0)), (2, .int ((a 8).getD (0 : Int32).toNatClampNeg 0)), (0, .ref 1), (1, .int x1)] [.int (((a25 17).getD x1.toNatClampNeg 0) + m11), .int x1, .ref 17] (ku ig1 79 ((ig1 79) + m11)) a25 qg1 rg1 (by rfl) ?_ | refine ko_steps mi_in30 2 _ (135, [(4, .int m11), (3, .int ((a 9).getD (0 : Int32).toNatClampNeg 0)), (2, .int ((a 8).getD (0 : Int32).toNatClampNeg 0)), (0, .ref 1), (1, .int x1)], [.int (((a25 17).getD x1.toNatClampNeg 0) + m11), .int x1, .ref 17], (0, 0), ks (ku ig1 79 ((ig1 79) + m11)) a25 qg1 rg1) (by rfl) ?_
          refine ko_iast3 mi_k30.1 (n := 8) (c := 8) (ax := (0, 0, 0, 0, 0)) (mi_k30.2 _ _ (by rfl)) (by rfl) (ksG17 _ _ _ _) (ksA17 _ _ _ _) (hJ25.I.2.1 17) rfl (oc1 hp0.1) (oc28 hp0.2) ?_
          intro a31 ea31 fa31
          have hJ31 := kG_a3 hJ25 17 rfl ea31 fa31 (kd_bd _)
          exact ft_ret mi_k30 (by rfl) (hP  _ _ _ _ hJ31 ⟨(oc20 z2), ((cT_eq (p := 1) (i := ku ig1 79 ((ig1 79) + m11)) (a := a31) (T := cGive x1 (cT 1 i a)) (show ig1 450 = (cGive x1 (cT 1 i a)).1 from by first | rfl | (simp only [q3, sMn, sMx, cGive, cRest, cCoin, cT]; done) | (simp only [q3, sMn, sMx, cGive, cRest, cCoin, cT]; rfl)) (show a31 8 = (cGive x1 (cT 1 i a)).2.1 from by first | rfl | (simp only [fa31 8 (by decide), fa25 8 (by decide), fa19 8 (by decide), fa15 8 (by decide), q4, sMn, sMx, cGive, cRest, cCoin, cT]; done) | (simp only [fa31 8 (by decide), fa25 8 (by decide), fa19 8 (by decide), fa15 8 (by decide), q4, sMn, sMx, cGive, cRest, cCoin, cT]; rfl)) (show a31 9 = (cGive x1 (cT 1 i a)).2.2.1 from by first | rfl | (simp only [fa31 9 (by decide), fa25 9 (by decide), fa19 9 (by decide), fa15 9 (by decide), q5, sMn, sMx, cGive, cRest, cCoin, cT]; done) | (simp only [fa31 9 (by decide), fa25 9 (by decide), fa19 9 (by decide), fa15 9 (by decide), q5, sMn, sMx, cGive, cRest, cCoin, cT]; rfl)) (show a31 2 = (cGive x1 (cT 1 i a)).2.2.2.1 from by first | rfl | (simp only [fa31 2 (by decide), fa25 2 (by decide), ea19, ea15, qm17, qm11, kg1.fa 2 rfl, sMn, sMx, cGive, cRest, cCoin, cT]; done) | (simp only [fa31 2 (by decide), fa25 2 (by decide), ea19, ea15, qm17, qm11, kg1.fa 2 rfl, sMn, sMx, cGive, cRest, cCoin, cT]; rfl)) ((show ig1 78 = i 78 from (by first | rfl | (simp only [(kg1.fi 78 rfl : ig1 78 = i 78), sMn, sMx]; done) | (simp only [(kg1.fi 78 rfl : ig1 78 = i 78), sMn, sMx]; rfl))).trans (cY_neg (y := i 78) (d := (a 8).getD 0 0) (oc22 c6 efig1_78 koc8))) (show ((ig1 79) + m11) = (cGive x1 (cT 1 i a)).2.2.2.2.2.1 from by first | rfl | (simp only [(kg1.fi 79 rfl : ig1 79 = i 79), qm11, kg1.fa 2 rfl, sMn, sMx, cGive, cRest, cCoin, cT]; done) | (simp only [(kg1.fi 79 rfl : ig1 79 = i 79), qm11, kg1.fa 2 rfl, sMn, sMx, cGive, cRest, cCoin, cT]; rfl)) (show a31 14 = (cGive x1 (cT 1 i a)).2.2.2.2.2.2.1 from by first | rfl | (simp only [fa31 14 (by decide), ea25, fa19 14 (by decide), qm11, kg1.fa 2 rfl, fa15 14 (by decide), kg1.fa 14 rfl, sMn, sMx, cGive, cRest, cCoin, cT]; done) | (simp only [fa31 14 (by decide), ea25, fa19 14 (by decide), qm11, kg1.fa 2 rfl, fa15 14 (by decide), kg1.fa 14 rfl, sMn, sMx, cGive, cRest, cCoin, cT]; rfl)) (fun u hu => match u, hu with | 0, _ => (Eq.trans (show a31 16 = cRow 1 a 0 from by rw [cRow_lt (p := 1) (a := a) (by decide : 0 < 8)]; first | rfl | (simp only [fa31 16 (by decide), fa25 16 (by decide), fa19 16 (by decide), fa15 16 (by decide), kg1.fa 16 rfl, sMn, sMx, cCoin, cT]; done) | (simp only [fa31 16 (by decide), fa25 16 (by decide), fa19 16 (by decide), fa15 16 (by decide), kg1.fa 16 rfl, sMn, sMx, cCoin, cT]; rfl)) (cG_f (c := x1) (T := (cT 1 i a)) (u := 0) (oc15 w29) (oc43 w29))) | 1, _ => (Eq.trans (show a31 17 = (cRow 1 a 1).set x1.toNatClampNeg ((cRow 1 a 1).getD x1.toNatClampNeg 0 + cCoin (cT 1 i a)) from by rw [cRow_lt (p := 1) (a := a) (by decide : 1 < 8)]; first | rfl | (simp only [ea31, fa25 17 (by decide), qm11, kg1.fa 2 rfl, fa19 17 (by decide), fa15 17 (by decide), kg1.fa 17 rfl, sMn, sMx, cCoin, cT]; done) | (simp only [ea31, fa25 17 (by decide), qm11, kg1.fa 2 rfl, fa19 17 (by decide), fa15 17 (by decide), kg1.fa 17 rfl, sMn, sMx, cCoin, cT]; rfl)) (cG_t (c := x1) (T := (cT 1 i a)) (u := 1) (oc44 w29))) | 2, _ => (Eq.trans (show a31 18 = cRow 1 a 2 from by rw [cRow_lt (p := 1) (a := a) (by decide : 2 < 8)]; first | rfl | (simp only [fa31 18 (by decide), fa25 18 (by decide), fa19 18 (by decide), fa15 18 (by decide), kg1.fa 18 rfl, sMn, sMx, cCoin, cT]; done) | (simp only [fa31 18 (by decide), fa25 18 (by decide), fa19 18 (by decide), fa15 18 (by decide), kg1.fa 18 rfl, sMn, sMx, cCoin, cT]; rfl)) (cG_f (c := x1) (T := (cT 1 i a)) (u := 2) (oc15 w29) (oc45 w29))) | 3, _ => (Eq.trans (show a31 19 = cRow 1 a 3 from by rw [cRow_lt (p := 1) (a := a) (by decide : 3 < 8)]; first | rfl | (simp only [fa31 19 (by decide), fa25 19 (by decide), fa19 19 (by decide), fa15 19 (by decide), kg1.fa 19 rfl, sMn, sMx, cCoin, cT]; done) | (simp only [fa31 19 (by decide), fa25 19 (by decide), fa19 19 (by decide), fa15 19 (by decide), kg1.fa 19 rfl, sMn, sMx, cCoin, cT]; rfl)) (cG_f (c := x1) (T := (cT 1 i a)) (u := 3) (oc15 w29) (oc46 w29))) | 4, _ => (Eq.trans (show a31 20 = cRow 1 a 4 from by rw [cRow_lt (p := 1) (a := a) (by decide : 4 < 8)]; first | rfl | (simp only [fa31 20 (by decide), fa25 20 (by decide), fa19 20 (by decide), fa15 20 (by decide), kg1.fa 20 rfl, sMn, sMx, cCoin, cT]; done) | (simp only [fa31 20 (by decide), fa25 20 (by decide), fa19 20 (by decide), fa15 20 (by decide), kg1.fa 20 rfl, sMn, sMx, cCoin, cT]; rfl)) (cG_f (c := x1) (T := (cT 1 i a)) (u := 4) (oc15 w29) (oc47 w29))) | 5, _ => (Eq.trans (show a31 21 = cRow 1 a 5 from by rw [cRow_lt (p := 1) (a := a) (by decide : 5 < 8)]; first | rfl | (simp only [fa31 21 (by decide), fa25 21 (by decide), fa19 21 (by decide), fa15 21 (by decide), kg1.fa 21 rfl, sMn, sMx, cCoin, cT]; done) | (simp only [fa31 21 (by decide), fa25 21 (by decide), fa19 21 (by decide), fa15 21 (by decide), kg1.fa 21 rfl, sMn, sMx, cCoin, cT]; rfl)) (cG_f (c := x1) (T := (cT 1 i a)) (u := 5) (oc15 w29) (oc48 w29))) | 6, _ => (Eq.trans (show a31 22 = cRow 1 a 6 from by rw [cRow_lt (p := 1) (a := a) (by decide : 6 < 8)]; first | rfl | (simp only [fa31 22 (by decide), fa25 22 (by decide), fa19 22 (by decide), fa15 22 (by decide), kg1.fa 22 rfl, sMn, sMx, cCoin, cT]; done) | (simp only [fa31 22 (by decide), fa25 22 (by decide), fa19 22 (by decide), fa15 22 (by decide), kg1.fa 22 rfl, sMn, sMx, cCoin, cT]; rfl)) (cG_f (c := x1) (T := (cT 1 i a)) (u := 6) (oc15 w29) (oc49 w29))) | 7, _ => (Eq.trans (show a31 23 = cRow 1 a 7 from by rw [cRow_lt (p := 1) (a := a) (by decide : 7 < 8)]; first | rfl | (simp only [fa31 23 (by decide), fa25 23 (by decide), fa19 23 (by decide), fa15 23 (by decide), kg1.fa 23 rfl, sMn, sMx, cCoin, cT]; done) | (simp only [fa31 23 (by decide), fa25 23 (by decide), fa19 23 (by decide), fa15 23 (by decide), kg1.fa 23 rfl, sMn, sMx, cCoin, cT]; rfl)) (cG_f (c := x1) (T := (cT 1 i a)) (u := 7) (oc15 w29) (oc50 w29))) | _ + 8, h => absurd h (by omega)) (fun u hu => (cG_f (c := x1) (T := (cT 1 i a)) (oc15 w29) (kj_big hu (oc51 w29))).symm.trans (cRow_ge hu))).trans (show cGive x1 (cT 1 i a) = cPay (i 64) x1 (cT 1 i a) from (if_pos (oc42 c8 efig1_64 w29 z10.2)).symm))⟩)
        by_cases w32 : ((a 8).getD (0 : Int32).toNatClampNeg 0).toInt = 2
        ·
          refine ft_alx mi_k30 (pc := 128) (v := 2) (p := 15) (z := 18) (kj_eq w32 (by decide) : ((a 8).getD (0 : Int32).toNatClampNeg 0) = 2) (by decide +kernel) (by decide +kernel) ?_
          first | refine fo_goS mi_k30 fz30_129_2_131 [.int x1, .ref 18, .int x1, .ref 18] (by rfl) ?_ | refine ft_go mi_k30 2 131 [(4, .int m11), (3, .int ((a 9).getD (0 : Int32).toNatClampNeg 0)), (2, .int ((a 8).getD (0 : Int32).toNatClampNeg 0)), (0, .ref 1), (1, .int x1)] [.int x1, .ref 18, .int x1, .ref 18] (ku ig1 79 ((ig1 79) + m11)) a25 qg1 rg1 (by rfl) ?_ | refine ko_steps mi_in30 2 _ (131, [(4, .int m11), (3, .int ((a 9).getD (0 : Int32).toNatClampNeg 0)), (2, .int ((a 8).getD (0 : Int32).toNatClampNeg 0)), (0, .ref 1), (1, .int x1)], [.int x1, .ref 18, .int x1, .ref 18], (0, 0), ks (ku ig1 79 ((ig1 79) + m11)) a25 qg1 rg1) (by rfl) ?_
          refine ko_iald3 mi_k30.1 (n := 8) (c := 8) (ax := (0, 0, 0, 0, 0)) (mi_k30.2 _ _ (by rfl)) (by rfl) (ksG18 _ _ _ _) (hJ25.I.2.1 18) rfl (oc1 hp0.1) (oc28 hp0.2) ?_
          have b33 : ((-2147483648 : Int) ≤ ((a25 18).getD x1.toNatClampNeg 0).toInt) ∧ (((a25 18).getD x1.toNatClampNeg 0).toInt ≤ 2147483647) := kd_bd ((a25 18).getD x1.toNatClampNeg 0)
          first | refine fo_goS mi_k30 fz30_132_2_135 [.int (((a25 18).getD x1.toNatClampNeg 0) + m11), .int x1, .ref 18] (by rfl) ?_ | refine ft_go mi_k30 2 135 [(4, .int m11), (3, .int ((a 9).getD (0 : Int32).toNatClampNeg 0)), (2, .int ((a 8).getD (0 : Int32).toNatClampNeg 0)), (0, .ref 1), (1, .int x1)] [.int (((a25 18).getD x1.toNatClampNeg 0) + m11), .int x1, .ref 18] (ku ig1 79 ((ig1 79) + m11)) a25 qg1 rg1 (by rfl) ?_ | refine ko_steps mi_in30 2 _ (135, [(4, .int m11), (3, .int ((a 9).getD (0 : Int32).toNatClampNeg 0)), (2, .int ((a 8).getD (0 : Int32).toNatClampNeg 0)), (0, .ref 1), (1, .int x1)], [.int (((a25 18).getD x1.toNatClampNeg 0) + m11), .int x1, .ref 18], (0, 0), ks (ku ig1 79 ((ig1 79) + m11)) a25 qg1 rg1) (by rfl) ?_
          refine ko_iast3 mi_k30.1 (n := 8) (c := 8) (ax := (0, 0, 0, 0, 0)) (mi_k30.2 _ _ (by rfl)) (by rfl) (ksG18 _ _ _ _) (ksA18 _ _ _ _) (hJ25.I.2.1 18) rfl (oc1 hp0.1) (oc28 hp0.2) ?_
          intro a34 ea34 fa34
          have hJ34 := kG_a3 hJ25 18 rfl ea34 fa34 (kd_bd _)
          exact ft_ret mi_k30 (by rfl) (hP  _ _ _ _ hJ34 ⟨(oc20 z2), ((cT_eq (p := 1) (i := ku ig1 79 ((ig1 79) + m11)) (a := a34) (T := cGive x1 (cT 1 i a)) (show ig1 450 = (cGive x1 (cT 1 i a)).1 from by first | rfl | (simp only [q3, sMn, sMx, cGive, cRest, cCoin, cT]; done) | (simp only [q3, sMn, sMx, cGive, cRest, cCoin, cT]; rfl)) (show a34 8 = (cGive x1 (cT 1 i a)).2.1 from by first | rfl | (simp only [fa34 8 (by decide), fa25 8 (by decide), fa19 8 (by decide), fa15 8 (by decide), q4, sMn, sMx, cGive, cRest, cCoin, cT]; done) | (simp only [fa34 8 (by decide), fa25 8 (by decide), fa19 8 (by decide), fa15 8 (by decide), q4, sMn, sMx, cGive, cRest, cCoin, cT]; rfl)) (show a34 9 = (cGive x1 (cT 1 i a)).2.2.1 from by first | rfl | (simp only [fa34 9 (by decide), fa25 9 (by decide), fa19 9 (by decide), fa15 9 (by decide), q5, sMn, sMx, cGive, cRest, cCoin, cT]; done) | (simp only [fa34 9 (by decide), fa25 9 (by decide), fa19 9 (by decide), fa15 9 (by decide), q5, sMn, sMx, cGive, cRest, cCoin, cT]; rfl)) (show a34 2 = (cGive x1 (cT 1 i a)).2.2.2.1 from by first | rfl | (simp only [fa34 2 (by decide), fa25 2 (by decide), ea19, ea15, qm17, qm11, kg1.fa 2 rfl, sMn, sMx, cGive, cRest, cCoin, cT]; done) | (simp only [fa34 2 (by decide), fa25 2 (by decide), ea19, ea15, qm17, qm11, kg1.fa 2 rfl, sMn, sMx, cGive, cRest, cCoin, cT]; rfl)) ((show ig1 78 = i 78 from (by first | rfl | (simp only [(kg1.fi 78 rfl : ig1 78 = i 78), sMn, sMx]; done) | (simp only [(kg1.fi 78 rfl : ig1 78 = i 78), sMn, sMx]; rfl))).trans (cY_neg (y := i 78) (d := (a 8).getD 0 0) (oc22 c6 efig1_78 koc8))) (show ((ig1 79) + m11) = (cGive x1 (cT 1 i a)).2.2.2.2.2.1 from by first | rfl | (simp only [(kg1.fi 79 rfl : ig1 79 = i 79), qm11, kg1.fa 2 rfl, sMn, sMx, cGive, cRest, cCoin, cT]; done) | (simp only [(kg1.fi 79 rfl : ig1 79 = i 79), qm11, kg1.fa 2 rfl, sMn, sMx, cGive, cRest, cCoin, cT]; rfl)) (show a34 14 = (cGive x1 (cT 1 i a)).2.2.2.2.2.2.1 from by first | rfl | (simp only [fa34 14 (by decide), ea25, fa19 14 (by decide), qm11, kg1.fa 2 rfl, fa15 14 (by decide), kg1.fa 14 rfl, sMn, sMx, cGive, cRest, cCoin, cT]; done) | (simp only [fa34 14 (by decide), ea25, fa19 14 (by decide), qm11, kg1.fa 2 rfl, fa15 14 (by decide), kg1.fa 14 rfl, sMn, sMx, cGive, cRest, cCoin, cT]; rfl)) (fun u hu => match u, hu with | 0, _ => (Eq.trans (show a34 16 = cRow 1 a 0 from by rw [cRow_lt (p := 1) (a := a) (by decide : 0 < 8)]; first | rfl | (simp only [fa34 16 (by decide), fa25 16 (by decide), fa19 16 (by decide), fa15 16 (by decide), kg1.fa 16 rfl, sMn, sMx, cCoin, cT]; done) | (simp only [fa34 16 (by decide), fa25 16 (by decide), fa19 16 (by decide), fa15 16 (by decide), kg1.fa 16 rfl, sMn, sMx, cCoin, cT]; rfl)) (cG_f (c := x1) (T := (cT 1 i a)) (u := 0) (oc29 w32) (oc53 w32))) | 1, _ => (Eq.trans (show a34 17 = cRow 1 a 1 from by rw [cRow_lt (p := 1) (a := a) (by decide : 1 < 8)]; first | rfl | (simp only [fa34 17 (by decide), fa25 17 (by decide), fa19 17 (by decide), fa15 17 (by decide), kg1.fa 17 rfl, sMn, sMx, cCoin, cT]; done) | (simp only [fa34 17 (by decide), fa25 17 (by decide), fa19 17 (by decide), fa15 17 (by decide), kg1.fa 17 rfl, sMn, sMx, cCoin, cT]; rfl)) (cG_f (c := x1) (T := (cT 1 i a)) (u := 1) (oc29 w32) (oc54 w32))) | 2, _ => (Eq.trans (show a34 18 = (cRow 1 a 2).set x1.toNatClampNeg ((cRow 1 a 2).getD x1.toNatClampNeg 0 + cCoin (cT 1 i a)) from by rw [cRow_lt (p := 1) (a := a) (by decide : 2 < 8)]; first | rfl | (simp only [ea34, fa25 18 (by decide), qm11, kg1.fa 2 rfl, fa19 18 (by decide), fa15 18 (by decide), kg1.fa 18 rfl, sMn, sMx, cCoin, cT]; done) | (simp only [ea34, fa25 18 (by decide), qm11, kg1.fa 2 rfl, fa19 18 (by decide), fa15 18 (by decide), kg1.fa 18 rfl, sMn, sMx, cCoin, cT]; rfl)) (cG_t (c := x1) (T := (cT 1 i a)) (u := 2) (oc55 w32))) | 3, _ => (Eq.trans (show a34 19 = cRow 1 a 3 from by rw [cRow_lt (p := 1) (a := a) (by decide : 3 < 8)]; first | rfl | (simp only [fa34 19 (by decide), fa25 19 (by decide), fa19 19 (by decide), fa15 19 (by decide), kg1.fa 19 rfl, sMn, sMx, cCoin, cT]; done) | (simp only [fa34 19 (by decide), fa25 19 (by decide), fa19 19 (by decide), fa15 19 (by decide), kg1.fa 19 rfl, sMn, sMx, cCoin, cT]; rfl)) (cG_f (c := x1) (T := (cT 1 i a)) (u := 3) (oc29 w32) (oc56 w32))) | 4, _ => (Eq.trans (show a34 20 = cRow 1 a 4 from by rw [cRow_lt (p := 1) (a := a) (by decide : 4 < 8)]; first | rfl | (simp only [fa34 20 (by decide), fa25 20 (by decide), fa19 20 (by decide), fa15 20 (by decide), kg1.fa 20 rfl, sMn, sMx, cCoin, cT]; done) | (simp only [fa34 20 (by decide), fa25 20 (by decide), fa19 20 (by decide), fa15 20 (by decide), kg1.fa 20 rfl, sMn, sMx, cCoin, cT]; rfl)) (cG_f (c := x1) (T := (cT 1 i a)) (u := 4) (oc29 w32) (oc57 w32))) | 5, _ => (Eq.trans (show a34 21 = cRow 1 a 5 from by rw [cRow_lt (p := 1) (a := a) (by decide : 5 < 8)]; first | rfl | (simp only [fa34 21 (by decide), fa25 21 (by decide), fa19 21 (by decide), fa15 21 (by decide), kg1.fa 21 rfl, sMn, sMx, cCoin, cT]; done) | (simp only [fa34 21 (by decide), fa25 21 (by decide), fa19 21 (by decide), fa15 21 (by decide), kg1.fa 21 rfl, sMn, sMx, cCoin, cT]; rfl)) (cG_f (c := x1) (T := (cT 1 i a)) (u := 5) (oc29 w32) (oc58 w32))) | 6, _ => (Eq.trans (show a34 22 = cRow 1 a 6 from by rw [cRow_lt (p := 1) (a := a) (by decide : 6 < 8)]; first | rfl | (simp only [fa34 22 (by decide), fa25 22 (by decide), fa19 22 (by decide), fa15 22 (by decide), kg1.fa 22 rfl, sMn, sMx, cCoin, cT]; done) | (simp only [fa34 22 (by decide), fa25 22 (by decide), fa19 22 (by decide), fa15 22 (by decide), kg1.fa 22 rfl, sMn, sMx, cCoin, cT]; rfl)) (cG_f (c := x1) (T := (cT 1 i a)) (u := 6) (oc29 w32) (oc59 w32))) | 7, _ => (Eq.trans (show a34 23 = cRow 1 a 7 from by rw [cRow_lt (p := 1) (a := a) (by decide : 7 < 8)]; first | rfl | (simp only [fa34 23 (by decide), fa25 23 (by decide), fa19 23 (by decide), fa15 23 (by decide), kg1.fa 23 rfl, sMn, sMx, cCoin, cT]; done) | (simp only [fa34 23 (by decide), fa25 23 (by decide), fa19 23 (by decide), fa15 23 (by decide), kg1.fa 23 rfl, sMn, sMx, cCoin, cT]; rfl)) (cG_f (c := x1) (T := (cT 1 i a)) (u := 7) (oc29 w32) (oc60 w32))) | _ + 8, h => absurd h (by omega)) (fun u hu => (cG_f (c := x1) (T := (cT 1 i a)) (oc29 w32) (kj_big hu (oc61 w32))).symm.trans (cRow_ge hu))).trans (show cGive x1 (cT 1 i a) = cPay (i 64) x1 (cT 1 i a) from (if_pos (oc52 c8 efig1_64 w32 z10.2)).symm))⟩)
        by_cases w35 : ((a 8).getD (0 : Int32).toNatClampNeg 0).toInt = 3
        ·
          refine ft_alx mi_k30 (pc := 128) (v := 3) (p := 15) (z := 19) (kj_eq w35 (by decide) : ((a 8).getD (0 : Int32).toNatClampNeg 0) = 3) (by decide +kernel) (by decide +kernel) ?_
          first | refine fo_goS mi_k30 fz30_129_2_131 [.int x1, .ref 19, .int x1, .ref 19] (by rfl) ?_ | refine ft_go mi_k30 2 131 [(4, .int m11), (3, .int ((a 9).getD (0 : Int32).toNatClampNeg 0)), (2, .int ((a 8).getD (0 : Int32).toNatClampNeg 0)), (0, .ref 1), (1, .int x1)] [.int x1, .ref 19, .int x1, .ref 19] (ku ig1 79 ((ig1 79) + m11)) a25 qg1 rg1 (by rfl) ?_ | refine ko_steps mi_in30 2 _ (131, [(4, .int m11), (3, .int ((a 9).getD (0 : Int32).toNatClampNeg 0)), (2, .int ((a 8).getD (0 : Int32).toNatClampNeg 0)), (0, .ref 1), (1, .int x1)], [.int x1, .ref 19, .int x1, .ref 19], (0, 0), ks (ku ig1 79 ((ig1 79) + m11)) a25 qg1 rg1) (by rfl) ?_
          refine ko_iald3 mi_k30.1 (n := 8) (c := 8) (ax := (0, 0, 0, 0, 0)) (mi_k30.2 _ _ (by rfl)) (by rfl) (ksG19 _ _ _ _) (hJ25.I.2.1 19) rfl (oc1 hp0.1) (oc28 hp0.2) ?_
          have b36 : ((-2147483648 : Int) ≤ ((a25 19).getD x1.toNatClampNeg 0).toInt) ∧ (((a25 19).getD x1.toNatClampNeg 0).toInt ≤ 2147483647) := kd_bd ((a25 19).getD x1.toNatClampNeg 0)
          first | refine fo_goS mi_k30 fz30_132_2_135 [.int (((a25 19).getD x1.toNatClampNeg 0) + m11), .int x1, .ref 19] (by rfl) ?_ | refine ft_go mi_k30 2 135 [(4, .int m11), (3, .int ((a 9).getD (0 : Int32).toNatClampNeg 0)), (2, .int ((a 8).getD (0 : Int32).toNatClampNeg 0)), (0, .ref 1), (1, .int x1)] [.int (((a25 19).getD x1.toNatClampNeg 0) + m11), .int x1, .ref 19] (ku ig1 79 ((ig1 79) + m11)) a25 qg1 rg1 (by rfl) ?_ | refine ko_steps mi_in30 2 _ (135, [(4, .int m11), (3, .int ((a 9).getD (0 : Int32).toNatClampNeg 0)), (2, .int ((a 8).getD (0 : Int32).toNatClampNeg 0)), (0, .ref 1), (1, .int x1)], [.int (((a25 19).getD x1.toNatClampNeg 0) + m11), .int x1, .ref 19], (0, 0), ks (ku ig1 79 ((ig1 79) + m11)) a25 qg1 rg1) (by rfl) ?_
          refine ko_iast3 mi_k30.1 (n := 8) (c := 8) (ax := (0, 0, 0, 0, 0)) (mi_k30.2 _ _ (by rfl)) (by rfl) (ksG19 _ _ _ _) (ksA19 _ _ _ _) (hJ25.I.2.1 19) rfl (oc1 hp0.1) (oc28 hp0.2) ?_
          intro a37 ea37 fa37
          have hJ37 := kG_a3 hJ25 19 rfl ea37 fa37 (kd_bd _)
          exact ft_ret mi_k30 (by rfl) (hP  _ _ _ _ hJ37 ⟨(oc20 z2), ((cT_eq (p := 1) (i := ku ig1 79 ((ig1 79) + m11)) (a := a37) (T := cGive x1 (cT 1 i a)) (show ig1 450 = (cGive x1 (cT 1 i a)).1 from by first | rfl | (simp only [q3, sMn, sMx, cGive, cRest, cCoin, cT]; done) | (simp only [q3, sMn, sMx, cGive, cRest, cCoin, cT]; rfl)) (show a37 8 = (cGive x1 (cT 1 i a)).2.1 from by first | rfl | (simp only [fa37 8 (by decide), fa25 8 (by decide), fa19 8 (by decide), fa15 8 (by decide), q4, sMn, sMx, cGive, cRest, cCoin, cT]; done) | (simp only [fa37 8 (by decide), fa25 8 (by decide), fa19 8 (by decide), fa15 8 (by decide), q4, sMn, sMx, cGive, cRest, cCoin, cT]; rfl)) (show a37 9 = (cGive x1 (cT 1 i a)).2.2.1 from by first | rfl | (simp only [fa37 9 (by decide), fa25 9 (by decide), fa19 9 (by decide), fa15 9 (by decide), q5, sMn, sMx, cGive, cRest, cCoin, cT]; done) | (simp only [fa37 9 (by decide), fa25 9 (by decide), fa19 9 (by decide), fa15 9 (by decide), q5, sMn, sMx, cGive, cRest, cCoin, cT]; rfl)) (show a37 2 = (cGive x1 (cT 1 i a)).2.2.2.1 from by first | rfl | (simp only [fa37 2 (by decide), fa25 2 (by decide), ea19, ea15, qm17, qm11, kg1.fa 2 rfl, sMn, sMx, cGive, cRest, cCoin, cT]; done) | (simp only [fa37 2 (by decide), fa25 2 (by decide), ea19, ea15, qm17, qm11, kg1.fa 2 rfl, sMn, sMx, cGive, cRest, cCoin, cT]; rfl)) ((show ig1 78 = i 78 from (by first | rfl | (simp only [(kg1.fi 78 rfl : ig1 78 = i 78), sMn, sMx]; done) | (simp only [(kg1.fi 78 rfl : ig1 78 = i 78), sMn, sMx]; rfl))).trans (cY_neg (y := i 78) (d := (a 8).getD 0 0) (oc22 c6 efig1_78 koc8))) (show ((ig1 79) + m11) = (cGive x1 (cT 1 i a)).2.2.2.2.2.1 from by first | rfl | (simp only [(kg1.fi 79 rfl : ig1 79 = i 79), qm11, kg1.fa 2 rfl, sMn, sMx, cGive, cRest, cCoin, cT]; done) | (simp only [(kg1.fi 79 rfl : ig1 79 = i 79), qm11, kg1.fa 2 rfl, sMn, sMx, cGive, cRest, cCoin, cT]; rfl)) (show a37 14 = (cGive x1 (cT 1 i a)).2.2.2.2.2.2.1 from by first | rfl | (simp only [fa37 14 (by decide), ea25, fa19 14 (by decide), qm11, kg1.fa 2 rfl, fa15 14 (by decide), kg1.fa 14 rfl, sMn, sMx, cGive, cRest, cCoin, cT]; done) | (simp only [fa37 14 (by decide), ea25, fa19 14 (by decide), qm11, kg1.fa 2 rfl, fa15 14 (by decide), kg1.fa 14 rfl, sMn, sMx, cGive, cRest, cCoin, cT]; rfl)) (fun u hu => match u, hu with | 0, _ => (Eq.trans (show a37 16 = cRow 1 a 0 from by rw [cRow_lt (p := 1) (a := a) (by decide : 0 < 8)]; first | rfl | (simp only [fa37 16 (by decide), fa25 16 (by decide), fa19 16 (by decide), fa15 16 (by decide), kg1.fa 16 rfl, sMn, sMx, cCoin, cT]; done) | (simp only [fa37 16 (by decide), fa25 16 (by decide), fa19 16 (by decide), fa15 16 (by decide), kg1.fa 16 rfl, sMn, sMx, cCoin, cT]; rfl)) (cG_f (c := x1) (T := (cT 1 i a)) (u := 0) (oc63 w35) (oc64 w35))) | 1, _ => (Eq.trans (show a37 17 = cRow 1 a 1 from by rw [cRow_lt (p := 1) (a := a) (by decide : 1 < 8)]; first | rfl | (simp only [fa37 17 (by decide), fa25 17 (by decide), fa19 17 (by decide), fa15 17 (by decide), kg1.fa 17 rfl, sMn, sMx, cCoin, cT]; done) | (simp only [fa37 17 (by decide), fa25 17 (by decide), fa19 17 (by decide), fa15 17 (by decide), kg1.fa 17 rfl, sMn, sMx, cCoin, cT]; rfl)) (cG_f (c := x1) (T := (cT 1 i a)) (u := 1) (oc63 w35) (oc65 w35))) | 2, _ => (Eq.trans (show a37 18 = cRow 1 a 2 from by rw [cRow_lt (p := 1) (a := a) (by decide : 2 < 8)]; first | rfl | (simp only [fa37 18 (by decide), fa25 18 (by decide), fa19 18 (by decide), fa15 18 (by decide), kg1.fa 18 rfl, sMn, sMx, cCoin, cT]; done) | (simp only [fa37 18 (by decide), fa25 18 (by decide), fa19 18 (by decide), fa15 18 (by decide), kg1.fa 18 rfl, sMn, sMx, cCoin, cT]; rfl)) (cG_f (c := x1) (T := (cT 1 i a)) (u := 2) (oc63 w35) (oc66 w35))) | 3, _ => (Eq.trans (show a37 19 = (cRow 1 a 3).set x1.toNatClampNeg ((cRow 1 a 3).getD x1.toNatClampNeg 0 + cCoin (cT 1 i a)) from by rw [cRow_lt (p := 1) (a := a) (by decide : 3 < 8)]; first | rfl | (simp only [ea37, fa25 19 (by decide), qm11, kg1.fa 2 rfl, fa19 19 (by decide), fa15 19 (by decide), kg1.fa 19 rfl, sMn, sMx, cCoin, cT]; done) | (simp only [ea37, fa25 19 (by decide), qm11, kg1.fa 2 rfl, fa19 19 (by decide), fa15 19 (by decide), kg1.fa 19 rfl, sMn, sMx, cCoin, cT]; rfl)) (cG_t (c := x1) (T := (cT 1 i a)) (u := 3) (oc67 w35))) | 4, _ => (Eq.trans (show a37 20 = cRow 1 a 4 from by rw [cRow_lt (p := 1) (a := a) (by decide : 4 < 8)]; first | rfl | (simp only [fa37 20 (by decide), fa25 20 (by decide), fa19 20 (by decide), fa15 20 (by decide), kg1.fa 20 rfl, sMn, sMx, cCoin, cT]; done) | (simp only [fa37 20 (by decide), fa25 20 (by decide), fa19 20 (by decide), fa15 20 (by decide), kg1.fa 20 rfl, sMn, sMx, cCoin, cT]; rfl)) (cG_f (c := x1) (T := (cT 1 i a)) (u := 4) (oc63 w35) (oc68 w35))) | 5, _ => (Eq.trans (show a37 21 = cRow 1 a 5 from by rw [cRow_lt (p := 1) (a := a) (by decide : 5 < 8)]; first | rfl | (simp only [fa37 21 (by decide), fa25 21 (by decide), fa19 21 (by decide), fa15 21 (by decide), kg1.fa 21 rfl, sMn, sMx, cCoin, cT]; done) | (simp only [fa37 21 (by decide), fa25 21 (by decide), fa19 21 (by decide), fa15 21 (by decide), kg1.fa 21 rfl, sMn, sMx, cCoin, cT]; rfl)) (cG_f (c := x1) (T := (cT 1 i a)) (u := 5) (oc63 w35) (oc69 w35))) | 6, _ => (Eq.trans (show a37 22 = cRow 1 a 6 from by rw [cRow_lt (p := 1) (a := a) (by decide : 6 < 8)]; first | rfl | (simp only [fa37 22 (by decide), fa25 22 (by decide), fa19 22 (by decide), fa15 22 (by decide), kg1.fa 22 rfl, sMn, sMx, cCoin, cT]; done) | (simp only [fa37 22 (by decide), fa25 22 (by decide), fa19 22 (by decide), fa15 22 (by decide), kg1.fa 22 rfl, sMn, sMx, cCoin, cT]; rfl)) (cG_f (c := x1) (T := (cT 1 i a)) (u := 6) (oc63 w35) (oc70 w35))) | 7, _ => (Eq.trans (show a37 23 = cRow 1 a 7 from by rw [cRow_lt (p := 1) (a := a) (by decide : 7 < 8)]; first | rfl | (simp only [fa37 23 (by decide), fa25 23 (by decide), fa19 23 (by decide), fa15 23 (by decide), kg1.fa 23 rfl, sMn, sMx, cCoin, cT]; done) | (simp only [fa37 23 (by decide), fa25 23 (by decide), fa19 23 (by decide), fa15 23 (by decide), kg1.fa 23 rfl, sMn, sMx, cCoin, cT]; rfl)) (cG_f (c := x1) (T := (cT 1 i a)) (u := 7) (oc63 w35) (oc71 w35))) | _ + 8, h => absurd h (by omega)) (fun u hu => (cG_f (c := x1) (T := (cT 1 i a)) (oc63 w35) (kj_big hu (oc72 w35))).symm.trans (cRow_ge hu))).trans (show cGive x1 (cT 1 i a) = cPay (i 64) x1 (cT 1 i a) from (if_pos (oc62 c8 efig1_64 w35 z10.2)).symm))⟩)
        by_cases w38 : ((a 8).getD (0 : Int32).toNatClampNeg 0).toInt = 4
        ·
          refine ft_alx mi_k30 (pc := 128) (v := 4) (p := 15) (z := 20) (kj_eq w38 (by decide) : ((a 8).getD (0 : Int32).toNatClampNeg 0) = 4) (by decide +kernel) (by decide +kernel) ?_
          first | refine fo_goS mi_k30 fz30_129_2_131 [.int x1, .ref 20, .int x1, .ref 20] (by rfl) ?_ | refine ft_go mi_k30 2 131 [(4, .int m11), (3, .int ((a 9).getD (0 : Int32).toNatClampNeg 0)), (2, .int ((a 8).getD (0 : Int32).toNatClampNeg 0)), (0, .ref 1), (1, .int x1)] [.int x1, .ref 20, .int x1, .ref 20] (ku ig1 79 ((ig1 79) + m11)) a25 qg1 rg1 (by rfl) ?_ | refine ko_steps mi_in30 2 _ (131, [(4, .int m11), (3, .int ((a 9).getD (0 : Int32).toNatClampNeg 0)), (2, .int ((a 8).getD (0 : Int32).toNatClampNeg 0)), (0, .ref 1), (1, .int x1)], [.int x1, .ref 20, .int x1, .ref 20], (0, 0), ks (ku ig1 79 ((ig1 79) + m11)) a25 qg1 rg1) (by rfl) ?_
          refine ko_iald3 mi_k30.1 (n := 8) (c := 8) (ax := (0, 0, 0, 0, 0)) (mi_k30.2 _ _ (by rfl)) (by rfl) (ksG20 _ _ _ _) (hJ25.I.2.1 20) rfl (oc1 hp0.1) (oc28 hp0.2) ?_
          have b39 : ((-2147483648 : Int) ≤ ((a25 20).getD x1.toNatClampNeg 0).toInt) ∧ (((a25 20).getD x1.toNatClampNeg 0).toInt ≤ 2147483647) := kd_bd ((a25 20).getD x1.toNatClampNeg 0)
          first | refine fo_goS mi_k30 fz30_132_2_135 [.int (((a25 20).getD x1.toNatClampNeg 0) + m11), .int x1, .ref 20] (by rfl) ?_ | refine ft_go mi_k30 2 135 [(4, .int m11), (3, .int ((a 9).getD (0 : Int32).toNatClampNeg 0)), (2, .int ((a 8).getD (0 : Int32).toNatClampNeg 0)), (0, .ref 1), (1, .int x1)] [.int (((a25 20).getD x1.toNatClampNeg 0) + m11), .int x1, .ref 20] (ku ig1 79 ((ig1 79) + m11)) a25 qg1 rg1 (by rfl) ?_ | refine ko_steps mi_in30 2 _ (135, [(4, .int m11), (3, .int ((a 9).getD (0 : Int32).toNatClampNeg 0)), (2, .int ((a 8).getD (0 : Int32).toNatClampNeg 0)), (0, .ref 1), (1, .int x1)], [.int (((a25 20).getD x1.toNatClampNeg 0) + m11), .int x1, .ref 20], (0, 0), ks (ku ig1 79 ((ig1 79) + m11)) a25 qg1 rg1) (by rfl) ?_
          refine ko_iast3 mi_k30.1 (n := 8) (c := 8) (ax := (0, 0, 0, 0, 0)) (mi_k30.2 _ _ (by rfl)) (by rfl) (ksG20 _ _ _ _) (ksA20 _ _ _ _) (hJ25.I.2.1 20) rfl (oc1 hp0.1) (oc28 hp0.2) ?_
          intro a40 ea40 fa40
          have hJ40 := kG_a3 hJ25 20 rfl ea40 fa40 (kd_bd _)
          exact ft_ret mi_k30 (by rfl) (hP  _ _ _ _ hJ40 ⟨(oc20 z2), ((cT_eq (p := 1) (i := ku ig1 79 ((ig1 79) + m11)) (a := a40) (T := cGive x1 (cT 1 i a)) (show ig1 450 = (cGive x1 (cT 1 i a)).1 from by first | rfl | (simp only [q3, sMn, sMx, cGive, cRest, cCoin, cT]; done) | (simp only [q3, sMn, sMx, cGive, cRest, cCoin, cT]; rfl)) (show a40 8 = (cGive x1 (cT 1 i a)).2.1 from by first | rfl | (simp only [fa40 8 (by decide), fa25 8 (by decide), fa19 8 (by decide), fa15 8 (by decide), q4, sMn, sMx, cGive, cRest, cCoin, cT]; done) | (simp only [fa40 8 (by decide), fa25 8 (by decide), fa19 8 (by decide), fa15 8 (by decide), q4, sMn, sMx, cGive, cRest, cCoin, cT]; rfl)) (show a40 9 = (cGive x1 (cT 1 i a)).2.2.1 from by first | rfl | (simp only [fa40 9 (by decide), fa25 9 (by decide), fa19 9 (by decide), fa15 9 (by decide), q5, sMn, sMx, cGive, cRest, cCoin, cT]; done) | (simp only [fa40 9 (by decide), fa25 9 (by decide), fa19 9 (by decide), fa15 9 (by decide), q5, sMn, sMx, cGive, cRest, cCoin, cT]; rfl)) (show a40 2 = (cGive x1 (cT 1 i a)).2.2.2.1 from by first | rfl | (simp only [fa40 2 (by decide), fa25 2 (by decide), ea19, ea15, qm17, qm11, kg1.fa 2 rfl, sMn, sMx, cGive, cRest, cCoin, cT]; done) | (simp only [fa40 2 (by decide), fa25 2 (by decide), ea19, ea15, qm17, qm11, kg1.fa 2 rfl, sMn, sMx, cGive, cRest, cCoin, cT]; rfl)) ((show ig1 78 = i 78 from (by first | rfl | (simp only [(kg1.fi 78 rfl : ig1 78 = i 78), sMn, sMx]; done) | (simp only [(kg1.fi 78 rfl : ig1 78 = i 78), sMn, sMx]; rfl))).trans (cY_neg (y := i 78) (d := (a 8).getD 0 0) (oc22 c6 efig1_78 koc8))) (show ((ig1 79) + m11) = (cGive x1 (cT 1 i a)).2.2.2.2.2.1 from by first | rfl | (simp only [(kg1.fi 79 rfl : ig1 79 = i 79), qm11, kg1.fa 2 rfl, sMn, sMx, cGive, cRest, cCoin, cT]; done) | (simp only [(kg1.fi 79 rfl : ig1 79 = i 79), qm11, kg1.fa 2 rfl, sMn, sMx, cGive, cRest, cCoin, cT]; rfl)) (show a40 14 = (cGive x1 (cT 1 i a)).2.2.2.2.2.2.1 from by first | rfl | (simp only [fa40 14 (by decide), ea25, fa19 14 (by decide), qm11, kg1.fa 2 rfl, fa15 14 (by decide), kg1.fa 14 rfl, sMn, sMx, cGive, cRest, cCoin, cT]; done) | (simp only [fa40 14 (by decide), ea25, fa19 14 (by decide), qm11, kg1.fa 2 rfl, fa15 14 (by decide), kg1.fa 14 rfl, sMn, sMx, cGive, cRest, cCoin, cT]; rfl)) (fun u hu => match u, hu with | 0, _ => (Eq.trans (show a40 16 = cRow 1 a 0 from by rw [cRow_lt (p := 1) (a := a) (by decide : 0 < 8)]; first | rfl | (simp only [fa40 16 (by decide), fa25 16 (by decide), fa19 16 (by decide), fa15 16 (by decide), kg1.fa 16 rfl, sMn, sMx, cCoin, cT]; done) | (simp only [fa40 16 (by decide), fa25 16 (by decide), fa19 16 (by decide), fa15 16 (by decide), kg1.fa 16 rfl, sMn, sMx, cCoin, cT]; rfl)) (cG_f (c := x1) (T := (cT 1 i a)) (u := 0) (oc74 w38) (oc75 w38))) | 1, _ => (Eq.trans (show a40 17 = cRow 1 a 1 from by rw [cRow_lt (p := 1) (a := a) (by decide : 1 < 8)]; first | rfl | (simp only [fa40 17 (by decide), fa25 17 (by decide), fa19 17 (by decide), fa15 17 (by decide), kg1.fa 17 rfl, sMn, sMx, cCoin, cT]; done) | (simp only [fa40 17 (by decide), fa25 17 (by decide), fa19 17 (by decide), fa15 17 (by decide), kg1.fa 17 rfl, sMn, sMx, cCoin, cT]; rfl)) (cG_f (c := x1) (T := (cT 1 i a)) (u := 1) (oc74 w38) (oc76 w38))) | 2, _ => (Eq.trans (show a40 18 = cRow 1 a 2 from by rw [cRow_lt (p := 1) (a := a) (by decide : 2 < 8)]; first | rfl | (simp only [fa40 18 (by decide), fa25 18 (by decide), fa19 18 (by decide), fa15 18 (by decide), kg1.fa 18 rfl, sMn, sMx, cCoin, cT]; done) | (simp only [fa40 18 (by decide), fa25 18 (by decide), fa19 18 (by decide), fa15 18 (by decide), kg1.fa 18 rfl, sMn, sMx, cCoin, cT]; rfl)) (cG_f (c := x1) (T := (cT 1 i a)) (u := 2) (oc74 w38) (oc77 w38))) | 3, _ => (Eq.trans (show a40 19 = cRow 1 a 3 from by rw [cRow_lt (p := 1) (a := a) (by decide : 3 < 8)]; first | rfl | (simp only [fa40 19 (by decide), fa25 19 (by decide), fa19 19 (by decide), fa15 19 (by decide), kg1.fa 19 rfl, sMn, sMx, cCoin, cT]; done) | (simp only [fa40 19 (by decide), fa25 19 (by decide), fa19 19 (by decide), fa15 19 (by decide), kg1.fa 19 rfl, sMn, sMx, cCoin, cT]; rfl)) (cG_f (c := x1) (T := (cT 1 i a)) (u := 3) (oc74 w38) (oc78 w38))) | 4, _ => (Eq.trans (show a40 20 = (cRow 1 a 4).set x1.toNatClampNeg ((cRow 1 a 4).getD x1.toNatClampNeg 0 + cCoin (cT 1 i a)) from by rw [cRow_lt (p := 1) (a := a) (by decide : 4 < 8)]; first | rfl | (simp only [ea40, fa25 20 (by decide), qm11, kg1.fa 2 rfl, fa19 20 (by decide), fa15 20 (by decide), kg1.fa 20 rfl, sMn, sMx, cCoin, cT]; done) | (simp only [ea40, fa25 20 (by decide), qm11, kg1.fa 2 rfl, fa19 20 (by decide), fa15 20 (by decide), kg1.fa 20 rfl, sMn, sMx, cCoin, cT]; rfl)) (cG_t (c := x1) (T := (cT 1 i a)) (u := 4) (oc79 w38))) | 5, _ => (Eq.trans (show a40 21 = cRow 1 a 5 from by rw [cRow_lt (p := 1) (a := a) (by decide : 5 < 8)]; first | rfl | (simp only [fa40 21 (by decide), fa25 21 (by decide), fa19 21 (by decide), fa15 21 (by decide), kg1.fa 21 rfl, sMn, sMx, cCoin, cT]; done) | (simp only [fa40 21 (by decide), fa25 21 (by decide), fa19 21 (by decide), fa15 21 (by decide), kg1.fa 21 rfl, sMn, sMx, cCoin, cT]; rfl)) (cG_f (c := x1) (T := (cT 1 i a)) (u := 5) (oc74 w38) (oc80 w38))) | 6, _ => (Eq.trans (show a40 22 = cRow 1 a 6 from by rw [cRow_lt (p := 1) (a := a) (by decide : 6 < 8)]; first | rfl | (simp only [fa40 22 (by decide), fa25 22 (by decide), fa19 22 (by decide), fa15 22 (by decide), kg1.fa 22 rfl, sMn, sMx, cCoin, cT]; done) | (simp only [fa40 22 (by decide), fa25 22 (by decide), fa19 22 (by decide), fa15 22 (by decide), kg1.fa 22 rfl, sMn, sMx, cCoin, cT]; rfl)) (cG_f (c := x1) (T := (cT 1 i a)) (u := 6) (oc74 w38) (oc81 w38))) | 7, _ => (Eq.trans (show a40 23 = cRow 1 a 7 from by rw [cRow_lt (p := 1) (a := a) (by decide : 7 < 8)]; first | rfl | (simp only [fa40 23 (by decide), fa25 23 (by decide), fa19 23 (by decide), fa15 23 (by decide), kg1.fa 23 rfl, sMn, sMx, cCoin, cT]; done) | (simp only [fa40 23 (by decide), fa25 23 (by decide), fa19 23 (by decide), fa15 23 (by decide), kg1.fa 23 rfl, sMn, sMx, cCoin, cT]; rfl)) (cG_f (c := x1) (T := (cT 1 i a)) (u := 7) (oc74 w38) (oc82 w38))) | _ + 8, h => absurd h (by omega)) (fun u hu => (cG_f (c := x1) (T := (cT 1 i a)) (oc74 w38) (kj_big hu (oc83 w38))).symm.trans (cRow_ge hu))).trans (show cGive x1 (cT 1 i a) = cPay (i 64) x1 (cT 1 i a) from (if_pos (oc73 c8 efig1_64 w38 z10.2)).symm))⟩)
        by_cases w41 : ((a 8).getD (0 : Int32).toNatClampNeg 0).toInt = 5
        ·
          refine ft_alx mi_k30 (pc := 128) (v := 5) (p := 15) (z := 21) (kj_eq w41 (by decide) : ((a 8).getD (0 : Int32).toNatClampNeg 0) = 5) (by decide +kernel) (by decide +kernel) ?_
          first | refine fo_goS mi_k30 fz30_129_2_131 [.int x1, .ref 21, .int x1, .ref 21] (by rfl) ?_ | refine ft_go mi_k30 2 131 [(4, .int m11), (3, .int ((a 9).getD (0 : Int32).toNatClampNeg 0)), (2, .int ((a 8).getD (0 : Int32).toNatClampNeg 0)), (0, .ref 1), (1, .int x1)] [.int x1, .ref 21, .int x1, .ref 21] (ku ig1 79 ((ig1 79) + m11)) a25 qg1 rg1 (by rfl) ?_ | refine ko_steps mi_in30 2 _ (131, [(4, .int m11), (3, .int ((a 9).getD (0 : Int32).toNatClampNeg 0)), (2, .int ((a 8).getD (0 : Int32).toNatClampNeg 0)), (0, .ref 1), (1, .int x1)], [.int x1, .ref 21, .int x1, .ref 21], (0, 0), ks (ku ig1 79 ((ig1 79) + m11)) a25 qg1 rg1) (by rfl) ?_
          refine ko_iald3 mi_k30.1 (n := 8) (c := 8) (ax := (0, 0, 0, 0, 0)) (mi_k30.2 _ _ (by rfl)) (by rfl) (ksG21 _ _ _ _) (hJ25.I.2.1 21) rfl (oc1 hp0.1) (oc28 hp0.2) ?_
          have b42 : ((-2147483648 : Int) ≤ ((a25 21).getD x1.toNatClampNeg 0).toInt) ∧ (((a25 21).getD x1.toNatClampNeg 0).toInt ≤ 2147483647) := kd_bd ((a25 21).getD x1.toNatClampNeg 0)
          first | refine fo_goS mi_k30 fz30_132_2_135 [.int (((a25 21).getD x1.toNatClampNeg 0) + m11), .int x1, .ref 21] (by rfl) ?_ | refine ft_go mi_k30 2 135 [(4, .int m11), (3, .int ((a 9).getD (0 : Int32).toNatClampNeg 0)), (2, .int ((a 8).getD (0 : Int32).toNatClampNeg 0)), (0, .ref 1), (1, .int x1)] [.int (((a25 21).getD x1.toNatClampNeg 0) + m11), .int x1, .ref 21] (ku ig1 79 ((ig1 79) + m11)) a25 qg1 rg1 (by rfl) ?_ | refine ko_steps mi_in30 2 _ (135, [(4, .int m11), (3, .int ((a 9).getD (0 : Int32).toNatClampNeg 0)), (2, .int ((a 8).getD (0 : Int32).toNatClampNeg 0)), (0, .ref 1), (1, .int x1)], [.int (((a25 21).getD x1.toNatClampNeg 0) + m11), .int x1, .ref 21], (0, 0), ks (ku ig1 79 ((ig1 79) + m11)) a25 qg1 rg1) (by rfl) ?_
          refine ko_iast3 mi_k30.1 (n := 8) (c := 8) (ax := (0, 0, 0, 0, 0)) (mi_k30.2 _ _ (by rfl)) (by rfl) (ksG21 _ _ _ _) (ksA21 _ _ _ _) (hJ25.I.2.1 21) rfl (oc1 hp0.1) (oc28 hp0.2) ?_
          intro a43 ea43 fa43
          have hJ43 := kG_a3 hJ25 21 rfl ea43 fa43 (kd_bd _)
          exact ft_ret mi_k30 (by rfl) (hP  _ _ _ _ hJ43 ⟨(oc20 z2), ((cT_eq (p := 1) (i := ku ig1 79 ((ig1 79) + m11)) (a := a43) (T := cGive x1 (cT 1 i a)) (show ig1 450 = (cGive x1 (cT 1 i a)).1 from by first | rfl | (simp only [q3, sMn, sMx, cGive, cRest, cCoin, cT]; done) | (simp only [q3, sMn, sMx, cGive, cRest, cCoin, cT]; rfl)) (show a43 8 = (cGive x1 (cT 1 i a)).2.1 from by first | rfl | (simp only [fa43 8 (by decide), fa25 8 (by decide), fa19 8 (by decide), fa15 8 (by decide), q4, sMn, sMx, cGive, cRest, cCoin, cT]; done) | (simp only [fa43 8 (by decide), fa25 8 (by decide), fa19 8 (by decide), fa15 8 (by decide), q4, sMn, sMx, cGive, cRest, cCoin, cT]; rfl)) (show a43 9 = (cGive x1 (cT 1 i a)).2.2.1 from by first | rfl | (simp only [fa43 9 (by decide), fa25 9 (by decide), fa19 9 (by decide), fa15 9 (by decide), q5, sMn, sMx, cGive, cRest, cCoin, cT]; done) | (simp only [fa43 9 (by decide), fa25 9 (by decide), fa19 9 (by decide), fa15 9 (by decide), q5, sMn, sMx, cGive, cRest, cCoin, cT]; rfl)) (show a43 2 = (cGive x1 (cT 1 i a)).2.2.2.1 from by first | rfl | (simp only [fa43 2 (by decide), fa25 2 (by decide), ea19, ea15, qm17, qm11, kg1.fa 2 rfl, sMn, sMx, cGive, cRest, cCoin, cT]; done) | (simp only [fa43 2 (by decide), fa25 2 (by decide), ea19, ea15, qm17, qm11, kg1.fa 2 rfl, sMn, sMx, cGive, cRest, cCoin, cT]; rfl)) ((show ig1 78 = i 78 from (by first | rfl | (simp only [(kg1.fi 78 rfl : ig1 78 = i 78), sMn, sMx]; done) | (simp only [(kg1.fi 78 rfl : ig1 78 = i 78), sMn, sMx]; rfl))).trans (cY_neg (y := i 78) (d := (a 8).getD 0 0) (oc22 c6 efig1_78 koc8))) (show ((ig1 79) + m11) = (cGive x1 (cT 1 i a)).2.2.2.2.2.1 from by first | rfl | (simp only [(kg1.fi 79 rfl : ig1 79 = i 79), qm11, kg1.fa 2 rfl, sMn, sMx, cGive, cRest, cCoin, cT]; done) | (simp only [(kg1.fi 79 rfl : ig1 79 = i 79), qm11, kg1.fa 2 rfl, sMn, sMx, cGive, cRest, cCoin, cT]; rfl)) (show a43 14 = (cGive x1 (cT 1 i a)).2.2.2.2.2.2.1 from by first | rfl | (simp only [fa43 14 (by decide), ea25, fa19 14 (by decide), qm11, kg1.fa 2 rfl, fa15 14 (by decide), kg1.fa 14 rfl, sMn, sMx, cGive, cRest, cCoin, cT]; done) | (simp only [fa43 14 (by decide), ea25, fa19 14 (by decide), qm11, kg1.fa 2 rfl, fa15 14 (by decide), kg1.fa 14 rfl, sMn, sMx, cGive, cRest, cCoin, cT]; rfl)) (fun u hu => match u, hu with | 0, _ => (Eq.trans (show a43 16 = cRow 1 a 0 from by rw [cRow_lt (p := 1) (a := a) (by decide : 0 < 8)]; first | rfl | (simp only [fa43 16 (by decide), fa25 16 (by decide), fa19 16 (by decide), fa15 16 (by decide), kg1.fa 16 rfl, sMn, sMx, cCoin, cT]; done) | (simp only [fa43 16 (by decide), fa25 16 (by decide), fa19 16 (by decide), fa15 16 (by decide), kg1.fa 16 rfl, sMn, sMx, cCoin, cT]; rfl)) (cG_f (c := x1) (T := (cT 1 i a)) (u := 0) (oc85 w41) (oc86 w41))) | 1, _ => (Eq.trans (show a43 17 = cRow 1 a 1 from by rw [cRow_lt (p := 1) (a := a) (by decide : 1 < 8)]; first | rfl | (simp only [fa43 17 (by decide), fa25 17 (by decide), fa19 17 (by decide), fa15 17 (by decide), kg1.fa 17 rfl, sMn, sMx, cCoin, cT]; done) | (simp only [fa43 17 (by decide), fa25 17 (by decide), fa19 17 (by decide), fa15 17 (by decide), kg1.fa 17 rfl, sMn, sMx, cCoin, cT]; rfl)) (cG_f (c := x1) (T := (cT 1 i a)) (u := 1) (oc85 w41) (oc87 w41))) | 2, _ => (Eq.trans (show a43 18 = cRow 1 a 2 from by rw [cRow_lt (p := 1) (a := a) (by decide : 2 < 8)]; first | rfl | (simp only [fa43 18 (by decide), fa25 18 (by decide), fa19 18 (by decide), fa15 18 (by decide), kg1.fa 18 rfl, sMn, sMx, cCoin, cT]; done) | (simp only [fa43 18 (by decide), fa25 18 (by decide), fa19 18 (by decide), fa15 18 (by decide), kg1.fa 18 rfl, sMn, sMx, cCoin, cT]; rfl)) (cG_f (c := x1) (T := (cT 1 i a)) (u := 2) (oc85 w41) (oc88 w41))) | 3, _ => (Eq.trans (show a43 19 = cRow 1 a 3 from by rw [cRow_lt (p := 1) (a := a) (by decide : 3 < 8)]; first | rfl | (simp only [fa43 19 (by decide), fa25 19 (by decide), fa19 19 (by decide), fa15 19 (by decide), kg1.fa 19 rfl, sMn, sMx, cCoin, cT]; done) | (simp only [fa43 19 (by decide), fa25 19 (by decide), fa19 19 (by decide), fa15 19 (by decide), kg1.fa 19 rfl, sMn, sMx, cCoin, cT]; rfl)) (cG_f (c := x1) (T := (cT 1 i a)) (u := 3) (oc85 w41) (oc89 w41))) | 4, _ => (Eq.trans (show a43 20 = cRow 1 a 4 from by rw [cRow_lt (p := 1) (a := a) (by decide : 4 < 8)]; first | rfl | (simp only [fa43 20 (by decide), fa25 20 (by decide), fa19 20 (by decide), fa15 20 (by decide), kg1.fa 20 rfl, sMn, sMx, cCoin, cT]; done) | (simp only [fa43 20 (by decide), fa25 20 (by decide), fa19 20 (by decide), fa15 20 (by decide), kg1.fa 20 rfl, sMn, sMx, cCoin, cT]; rfl)) (cG_f (c := x1) (T := (cT 1 i a)) (u := 4) (oc85 w41) (oc90 w41))) | 5, _ => (Eq.trans (show a43 21 = (cRow 1 a 5).set x1.toNatClampNeg ((cRow 1 a 5).getD x1.toNatClampNeg 0 + cCoin (cT 1 i a)) from by rw [cRow_lt (p := 1) (a := a) (by decide : 5 < 8)]; first | rfl | (simp only [ea43, fa25 21 (by decide), qm11, kg1.fa 2 rfl, fa19 21 (by decide), fa15 21 (by decide), kg1.fa 21 rfl, sMn, sMx, cCoin, cT]; done) | (simp only [ea43, fa25 21 (by decide), qm11, kg1.fa 2 rfl, fa19 21 (by decide), fa15 21 (by decide), kg1.fa 21 rfl, sMn, sMx, cCoin, cT]; rfl)) (cG_t (c := x1) (T := (cT 1 i a)) (u := 5) (oc91 w41))) | 6, _ => (Eq.trans (show a43 22 = cRow 1 a 6 from by rw [cRow_lt (p := 1) (a := a) (by decide : 6 < 8)]; first | rfl | (simp only [fa43 22 (by decide), fa25 22 (by decide), fa19 22 (by decide), fa15 22 (by decide), kg1.fa 22 rfl, sMn, sMx, cCoin, cT]; done) | (simp only [fa43 22 (by decide), fa25 22 (by decide), fa19 22 (by decide), fa15 22 (by decide), kg1.fa 22 rfl, sMn, sMx, cCoin, cT]; rfl)) (cG_f (c := x1) (T := (cT 1 i a)) (u := 6) (oc85 w41) (oc92 w41))) | 7, _ => (Eq.trans (show a43 23 = cRow 1 a 7 from by rw [cRow_lt (p := 1) (a := a) (by decide : 7 < 8)]; first | rfl | (simp only [fa43 23 (by decide), fa25 23 (by decide), fa19 23 (by decide), fa15 23 (by decide), kg1.fa 23 rfl, sMn, sMx, cCoin, cT]; done) | (simp only [fa43 23 (by decide), fa25 23 (by decide), fa19 23 (by decide), fa15 23 (by decide), kg1.fa 23 rfl, sMn, sMx, cCoin, cT]; rfl)) (cG_f (c := x1) (T := (cT 1 i a)) (u := 7) (oc85 w41) (oc93 w41))) | _ + 8, h => absurd h (by omega)) (fun u hu => (cG_f (c := x1) (T := (cT 1 i a)) (oc85 w41) (kj_big hu (oc94 w41))).symm.trans (cRow_ge hu))).trans (show cGive x1 (cT 1 i a) = cPay (i 64) x1 (cT 1 i a) from (if_pos (oc84 c8 efig1_64 w41 z10.2)).symm))⟩)
        by_cases w44 : ((a 8).getD (0 : Int32).toNatClampNeg 0).toInt = 6
        ·
          refine ft_alx mi_k30 (pc := 128) (v := 6) (p := 15) (z := 22) (kj_eq w44 (by decide) : ((a 8).getD (0 : Int32).toNatClampNeg 0) = 6) (by decide +kernel) (by decide +kernel) ?_
          first | refine fo_goS mi_k30 fz30_129_2_131 [.int x1, .ref 22, .int x1, .ref 22] (by rfl) ?_ | refine ft_go mi_k30 2 131 [(4, .int m11), (3, .int ((a 9).getD (0 : Int32).toNatClampNeg 0)), (2, .int ((a 8).getD (0 : Int32).toNatClampNeg 0)), (0, .ref 1), (1, .int x1)] [.int x1, .ref 22, .int x1, .ref 22] (ku ig1 79 ((ig1 79) + m11)) a25 qg1 rg1 (by rfl) ?_ | refine ko_steps mi_in30 2 _ (131, [(4, .int m11), (3, .int ((a 9).getD (0 : Int32).toNatClampNeg 0)), (2, .int ((a 8).getD (0 : Int32).toNatClampNeg 0)), (0, .ref 1), (1, .int x1)], [.int x1, .ref 22, .int x1, .ref 22], (0, 0), ks (ku ig1 79 ((ig1 79) + m11)) a25 qg1 rg1) (by rfl) ?_
          refine ko_iald3 mi_k30.1 (n := 8) (c := 8) (ax := (0, 0, 0, 0, 0)) (mi_k30.2 _ _ (by rfl)) (by rfl) (ksG22 _ _ _ _) (hJ25.I.2.1 22) rfl (oc1 hp0.1) (oc28 hp0.2) ?_
          have b45 : ((-2147483648 : Int) ≤ ((a25 22).getD x1.toNatClampNeg 0).toInt) ∧ (((a25 22).getD x1.toNatClampNeg 0).toInt ≤ 2147483647) := kd_bd ((a25 22).getD x1.toNatClampNeg 0)
          first | refine fo_goS mi_k30 fz30_132_2_135 [.int (((a25 22).getD x1.toNatClampNeg 0) + m11), .int x1, .ref 22] (by rfl) ?_ | refine ft_go mi_k30 2 135 [(4, .int m11), (3, .int ((a 9).getD (0 : Int32).toNatClampNeg 0)), (2, .int ((a 8).getD (0 : Int32).toNatClampNeg 0)), (0, .ref 1), (1, .int x1)] [.int (((a25 22).getD x1.toNatClampNeg 0) + m11), .int x1, .ref 22] (ku ig1 79 ((ig1 79) + m11)) a25 qg1 rg1 (by rfl) ?_ | refine ko_steps mi_in30 2 _ (135, [(4, .int m11), (3, .int ((a 9).getD (0 : Int32).toNatClampNeg 0)), (2, .int ((a 8).getD (0 : Int32).toNatClampNeg 0)), (0, .ref 1), (1, .int x1)], [.int (((a25 22).getD x1.toNatClampNeg 0) + m11), .int x1, .ref 22], (0, 0), ks (ku ig1 79 ((ig1 79) + m11)) a25 qg1 rg1) (by rfl) ?_
          refine ko_iast3 mi_k30.1 (n := 8) (c := 8) (ax := (0, 0, 0, 0, 0)) (mi_k30.2 _ _ (by rfl)) (by rfl) (ksG22 _ _ _ _) (ksA22 _ _ _ _) (hJ25.I.2.1 22) rfl (oc1 hp0.1) (oc28 hp0.2) ?_
          intro a46 ea46 fa46
          have hJ46 := kG_a3 hJ25 22 rfl ea46 fa46 (kd_bd _)
          exact ft_ret mi_k30 (by rfl) (hP  _ _ _ _ hJ46 ⟨(oc20 z2), ((cT_eq (p := 1) (i := ku ig1 79 ((ig1 79) + m11)) (a := a46) (T := cGive x1 (cT 1 i a)) (show ig1 450 = (cGive x1 (cT 1 i a)).1 from by first | rfl | (simp only [q3, sMn, sMx, cGive, cRest, cCoin, cT]; done) | (simp only [q3, sMn, sMx, cGive, cRest, cCoin, cT]; rfl)) (show a46 8 = (cGive x1 (cT 1 i a)).2.1 from by first | rfl | (simp only [fa46 8 (by decide), fa25 8 (by decide), fa19 8 (by decide), fa15 8 (by decide), q4, sMn, sMx, cGive, cRest, cCoin, cT]; done) | (simp only [fa46 8 (by decide), fa25 8 (by decide), fa19 8 (by decide), fa15 8 (by decide), q4, sMn, sMx, cGive, cRest, cCoin, cT]; rfl)) (show a46 9 = (cGive x1 (cT 1 i a)).2.2.1 from by first | rfl | (simp only [fa46 9 (by decide), fa25 9 (by decide), fa19 9 (by decide), fa15 9 (by decide), q5, sMn, sMx, cGive, cRest, cCoin, cT]; done) | (simp only [fa46 9 (by decide), fa25 9 (by decide), fa19 9 (by decide), fa15 9 (by decide), q5, sMn, sMx, cGive, cRest, cCoin, cT]; rfl)) (show a46 2 = (cGive x1 (cT 1 i a)).2.2.2.1 from by first | rfl | (simp only [fa46 2 (by decide), fa25 2 (by decide), ea19, ea15, qm17, qm11, kg1.fa 2 rfl, sMn, sMx, cGive, cRest, cCoin, cT]; done) | (simp only [fa46 2 (by decide), fa25 2 (by decide), ea19, ea15, qm17, qm11, kg1.fa 2 rfl, sMn, sMx, cGive, cRest, cCoin, cT]; rfl)) ((show ig1 78 = i 78 from (by first | rfl | (simp only [(kg1.fi 78 rfl : ig1 78 = i 78), sMn, sMx]; done) | (simp only [(kg1.fi 78 rfl : ig1 78 = i 78), sMn, sMx]; rfl))).trans (cY_neg (y := i 78) (d := (a 8).getD 0 0) (oc22 c6 efig1_78 koc8))) (show ((ig1 79) + m11) = (cGive x1 (cT 1 i a)).2.2.2.2.2.1 from by first | rfl | (simp only [(kg1.fi 79 rfl : ig1 79 = i 79), qm11, kg1.fa 2 rfl, sMn, sMx, cGive, cRest, cCoin, cT]; done) | (simp only [(kg1.fi 79 rfl : ig1 79 = i 79), qm11, kg1.fa 2 rfl, sMn, sMx, cGive, cRest, cCoin, cT]; rfl)) (show a46 14 = (cGive x1 (cT 1 i a)).2.2.2.2.2.2.1 from by first | rfl | (simp only [fa46 14 (by decide), ea25, fa19 14 (by decide), qm11, kg1.fa 2 rfl, fa15 14 (by decide), kg1.fa 14 rfl, sMn, sMx, cGive, cRest, cCoin, cT]; done) | (simp only [fa46 14 (by decide), ea25, fa19 14 (by decide), qm11, kg1.fa 2 rfl, fa15 14 (by decide), kg1.fa 14 rfl, sMn, sMx, cGive, cRest, cCoin, cT]; rfl)) (fun u hu => match u, hu with | 0, _ => (Eq.trans (show a46 16 = cRow 1 a 0 from by rw [cRow_lt (p := 1) (a := a) (by decide : 0 < 8)]; first | rfl | (simp only [fa46 16 (by decide), fa25 16 (by decide), fa19 16 (by decide), fa15 16 (by decide), kg1.fa 16 rfl, sMn, sMx, cCoin, cT]; done) | (simp only [fa46 16 (by decide), fa25 16 (by decide), fa19 16 (by decide), fa15 16 (by decide), kg1.fa 16 rfl, sMn, sMx, cCoin, cT]; rfl)) (cG_f (c := x1) (T := (cT 1 i a)) (u := 0) (oc96 w44) (oc97 w44))) | 1, _ => (Eq.trans (show a46 17 = cRow 1 a 1 from by rw [cRow_lt (p := 1) (a := a) (by decide : 1 < 8)]; first | rfl | (simp only [fa46 17 (by decide), fa25 17 (by decide), fa19 17 (by decide), fa15 17 (by decide), kg1.fa 17 rfl, sMn, sMx, cCoin, cT]; done) | (simp only [fa46 17 (by decide), fa25 17 (by decide), fa19 17 (by decide), fa15 17 (by decide), kg1.fa 17 rfl, sMn, sMx, cCoin, cT]; rfl)) (cG_f (c := x1) (T := (cT 1 i a)) (u := 1) (oc96 w44) (oc98 w44))) | 2, _ => (Eq.trans (show a46 18 = cRow 1 a 2 from by rw [cRow_lt (p := 1) (a := a) (by decide : 2 < 8)]; first | rfl | (simp only [fa46 18 (by decide), fa25 18 (by decide), fa19 18 (by decide), fa15 18 (by decide), kg1.fa 18 rfl, sMn, sMx, cCoin, cT]; done) | (simp only [fa46 18 (by decide), fa25 18 (by decide), fa19 18 (by decide), fa15 18 (by decide), kg1.fa 18 rfl, sMn, sMx, cCoin, cT]; rfl)) (cG_f (c := x1) (T := (cT 1 i a)) (u := 2) (oc96 w44) (oc99 w44))) | 3, _ => (Eq.trans (show a46 19 = cRow 1 a 3 from by rw [cRow_lt (p := 1) (a := a) (by decide : 3 < 8)]; first | rfl | (simp only [fa46 19 (by decide), fa25 19 (by decide), fa19 19 (by decide), fa15 19 (by decide), kg1.fa 19 rfl, sMn, sMx, cCoin, cT]; done) | (simp only [fa46 19 (by decide), fa25 19 (by decide), fa19 19 (by decide), fa15 19 (by decide), kg1.fa 19 rfl, sMn, sMx, cCoin, cT]; rfl)) (cG_f (c := x1) (T := (cT 1 i a)) (u := 3) (oc96 w44) (oc100 w44))) | 4, _ => (Eq.trans (show a46 20 = cRow 1 a 4 from by rw [cRow_lt (p := 1) (a := a) (by decide : 4 < 8)]; first | rfl | (simp only [fa46 20 (by decide), fa25 20 (by decide), fa19 20 (by decide), fa15 20 (by decide), kg1.fa 20 rfl, sMn, sMx, cCoin, cT]; done) | (simp only [fa46 20 (by decide), fa25 20 (by decide), fa19 20 (by decide), fa15 20 (by decide), kg1.fa 20 rfl, sMn, sMx, cCoin, cT]; rfl)) (cG_f (c := x1) (T := (cT 1 i a)) (u := 4) (oc96 w44) (oc101 w44))) | 5, _ => (Eq.trans (show a46 21 = cRow 1 a 5 from by rw [cRow_lt (p := 1) (a := a) (by decide : 5 < 8)]; first | rfl | (simp only [fa46 21 (by decide), fa25 21 (by decide), fa19 21 (by decide), fa15 21 (by decide), kg1.fa 21 rfl, sMn, sMx, cCoin, cT]; done) | (simp only [fa46 21 (by decide), fa25 21 (by decide), fa19 21 (by decide), fa15 21 (by decide), kg1.fa 21 rfl, sMn, sMx, cCoin, cT]; rfl)) (cG_f (c := x1) (T := (cT 1 i a)) (u := 5) (oc96 w44) (oc102 w44))) | 6, _ => (Eq.trans (show a46 22 = (cRow 1 a 6).set x1.toNatClampNeg ((cRow 1 a 6).getD x1.toNatClampNeg 0 + cCoin (cT 1 i a)) from by rw [cRow_lt (p := 1) (a := a) (by decide : 6 < 8)]; first | rfl | (simp only [ea46, fa25 22 (by decide), qm11, kg1.fa 2 rfl, fa19 22 (by decide), fa15 22 (by decide), kg1.fa 22 rfl, sMn, sMx, cCoin, cT]; done) | (simp only [ea46, fa25 22 (by decide), qm11, kg1.fa 2 rfl, fa19 22 (by decide), fa15 22 (by decide), kg1.fa 22 rfl, sMn, sMx, cCoin, cT]; rfl)) (cG_t (c := x1) (T := (cT 1 i a)) (u := 6) (oc103 w44))) | 7, _ => (Eq.trans (show a46 23 = cRow 1 a 7 from by rw [cRow_lt (p := 1) (a := a) (by decide : 7 < 8)]; first | rfl | (simp only [fa46 23 (by decide), fa25 23 (by decide), fa19 23 (by decide), fa15 23 (by decide), kg1.fa 23 rfl, sMn, sMx, cCoin, cT]; done) | (simp only [fa46 23 (by decide), fa25 23 (by decide), fa19 23 (by decide), fa15 23 (by decide), kg1.fa 23 rfl, sMn, sMx, cCoin, cT]; rfl)) (cG_f (c := x1) (T := (cT 1 i a)) (u := 7) (oc96 w44) (oc104 w44))) | _ + 8, h => absurd h (by omega)) (fun u hu => (cG_f (c := x1) (T := (cT 1 i a)) (oc96 w44) (kj_big hu (oc105 w44))).symm.trans (cRow_ge hu))).trans (show cGive x1 (cT 1 i a) = cPay (i 64) x1 (cT 1 i a) from (if_pos (oc95 c8 efig1_64 w44 z10.2)).symm))⟩)
        by_cases w47 : ((a 8).getD (0 : Int32).toNatClampNeg 0).toInt = 7
        ·
          refine ft_alx mi_k30 (pc := 128) (v := 7) (p := 15) (z := 23) (kj_eq w47 (by decide) : ((a 8).getD (0 : Int32).toNatClampNeg 0) = 7) (by decide +kernel) (by decide +kernel) ?_
          first | refine fo_goS mi_k30 fz30_129_2_131 [.int x1, .ref 23, .int x1, .ref 23] (by rfl) ?_ | refine ft_go mi_k30 2 131 [(4, .int m11), (3, .int ((a 9).getD (0 : Int32).toNatClampNeg 0)), (2, .int ((a 8).getD (0 : Int32).toNatClampNeg 0)), (0, .ref 1), (1, .int x1)] [.int x1, .ref 23, .int x1, .ref 23] (ku ig1 79 ((ig1 79) + m11)) a25 qg1 rg1 (by rfl) ?_ | refine ko_steps mi_in30 2 _ (131, [(4, .int m11), (3, .int ((a 9).getD (0 : Int32).toNatClampNeg 0)), (2, .int ((a 8).getD (0 : Int32).toNatClampNeg 0)), (0, .ref 1), (1, .int x1)], [.int x1, .ref 23, .int x1, .ref 23], (0, 0), ks (ku ig1 79 ((ig1 79) + m11)) a25 qg1 rg1) (by rfl) ?_
          refine ko_iald3 mi_k30.1 (n := 8) (c := 8) (ax := (0, 0, 0, 0, 0)) (mi_k30.2 _ _ (by rfl)) (by rfl) (ksG23 _ _ _ _) (hJ25.I.2.1 23) rfl (oc1 hp0.1) (oc28 hp0.2) ?_
          have b48 : ((-2147483648 : Int) ≤ ((a25 23).getD x1.toNatClampNeg 0).toInt) ∧ (((a25 23).getD x1.toNatClampNeg 0).toInt ≤ 2147483647) := kd_bd ((a25 23).getD x1.toNatClampNeg 0)
          first | refine fo_goS mi_k30 fz30_132_2_135 [.int (((a25 23).getD x1.toNatClampNeg 0) + m11), .int x1, .ref 23] (by rfl) ?_ | refine ft_go mi_k30 2 135 [(4, .int m11), (3, .int ((a 9).getD (0 : Int32).toNatClampNeg 0)), (2, .int ((a 8).getD (0 : Int32).toNatClampNeg 0)), (0, .ref 1), (1, .int x1)] [.int (((a25 23).getD x1.toNatClampNeg 0) + m11), .int x1, .ref 23] (ku ig1 79 ((ig1 79) + m11)) a25 qg1 rg1 (by rfl) ?_ | refine ko_steps mi_in30 2 _ (135, [(4, .int m11), (3, .int ((a 9).getD (0 : Int32).toNatClampNeg 0)), (2, .int ((a 8).getD (0 : Int32).toNatClampNeg 0)), (0, .ref 1), (1, .int x1)], [.int (((a25 23).getD x1.toNatClampNeg 0) + m11), .int x1, .ref 23], (0, 0), ks (ku ig1 79 ((ig1 79) + m11)) a25 qg1 rg1) (by rfl) ?_
          refine ko_iast3 mi_k30.1 (n := 8) (c := 8) (ax := (0, 0, 0, 0, 0)) (mi_k30.2 _ _ (by rfl)) (by rfl) (ksG23 _ _ _ _) (ksA23 _ _ _ _) (hJ25.I.2.1 23) rfl (oc1 hp0.1) (oc28 hp0.2) ?_
          intro a49 ea49 fa49
          have hJ49 := kG_a3 hJ25 23 rfl ea49 fa49 (kd_bd _)
          exact ft_ret mi_k30 (by rfl) (hP  _ _ _ _ hJ49 ⟨(oc20 z2), ((cT_eq (p := 1) (i := ku ig1 79 ((ig1 79) + m11)) (a := a49) (T := cGive x1 (cT 1 i a)) (show ig1 450 = (cGive x1 (cT 1 i a)).1 from by first | rfl | (simp only [q3, sMn, sMx, cGive, cRest, cCoin, cT]; done) | (simp only [q3, sMn, sMx, cGive, cRest, cCoin, cT]; rfl)) (show a49 8 = (cGive x1 (cT 1 i a)).2.1 from by first | rfl | (simp only [fa49 8 (by decide), fa25 8 (by decide), fa19 8 (by decide), fa15 8 (by decide), q4, sMn, sMx, cGive, cRest, cCoin, cT]; done) | (simp only [fa49 8 (by decide), fa25 8 (by decide), fa19 8 (by decide), fa15 8 (by decide), q4, sMn, sMx, cGive, cRest, cCoin, cT]; rfl)) (show a49 9 = (cGive x1 (cT 1 i a)).2.2.1 from by first | rfl | (simp only [fa49 9 (by decide), fa25 9 (by decide), fa19 9 (by decide), fa15 9 (by decide), q5, sMn, sMx, cGive, cRest, cCoin, cT]; done) | (simp only [fa49 9 (by decide), fa25 9 (by decide), fa19 9 (by decide), fa15 9 (by decide), q5, sMn, sMx, cGive, cRest, cCoin, cT]; rfl)) (show a49 2 = (cGive x1 (cT 1 i a)).2.2.2.1 from by first | rfl | (simp only [fa49 2 (by decide), fa25 2 (by decide), ea19, ea15, qm17, qm11, kg1.fa 2 rfl, sMn, sMx, cGive, cRest, cCoin, cT]; done) | (simp only [fa49 2 (by decide), fa25 2 (by decide), ea19, ea15, qm17, qm11, kg1.fa 2 rfl, sMn, sMx, cGive, cRest, cCoin, cT]; rfl)) ((show ig1 78 = i 78 from (by first | rfl | (simp only [(kg1.fi 78 rfl : ig1 78 = i 78), sMn, sMx]; done) | (simp only [(kg1.fi 78 rfl : ig1 78 = i 78), sMn, sMx]; rfl))).trans (cY_neg (y := i 78) (d := (a 8).getD 0 0) (oc22 c6 efig1_78 koc8))) (show ((ig1 79) + m11) = (cGive x1 (cT 1 i a)).2.2.2.2.2.1 from by first | rfl | (simp only [(kg1.fi 79 rfl : ig1 79 = i 79), qm11, kg1.fa 2 rfl, sMn, sMx, cGive, cRest, cCoin, cT]; done) | (simp only [(kg1.fi 79 rfl : ig1 79 = i 79), qm11, kg1.fa 2 rfl, sMn, sMx, cGive, cRest, cCoin, cT]; rfl)) (show a49 14 = (cGive x1 (cT 1 i a)).2.2.2.2.2.2.1 from by first | rfl | (simp only [fa49 14 (by decide), ea25, fa19 14 (by decide), qm11, kg1.fa 2 rfl, fa15 14 (by decide), kg1.fa 14 rfl, sMn, sMx, cGive, cRest, cCoin, cT]; done) | (simp only [fa49 14 (by decide), ea25, fa19 14 (by decide), qm11, kg1.fa 2 rfl, fa15 14 (by decide), kg1.fa 14 rfl, sMn, sMx, cGive, cRest, cCoin, cT]; rfl)) (fun u hu => match u, hu with | 0, _ => (Eq.trans (show a49 16 = cRow 1 a 0 from by rw [cRow_lt (p := 1) (a := a) (by decide : 0 < 8)]; first | rfl | (simp only [fa49 16 (by decide), fa25 16 (by decide), fa19 16 (by decide), fa15 16 (by decide), kg1.fa 16 rfl, sMn, sMx, cCoin, cT]; done) | (simp only [fa49 16 (by decide), fa25 16 (by decide), fa19 16 (by decide), fa15 16 (by decide), kg1.fa 16 rfl, sMn, sMx, cCoin, cT]; rfl)) (cG_f (c := x1) (T := (cT 1 i a)) (u := 0) (oc107 w47) (oc108 w47))) | 1, _ => (Eq.trans (show a49 17 = cRow 1 a 1 from by rw [cRow_lt (p := 1) (a := a) (by decide : 1 < 8)]; first | rfl | (simp only [fa49 17 (by decide), fa25 17 (by decide), fa19 17 (by decide), fa15 17 (by decide), kg1.fa 17 rfl, sMn, sMx, cCoin, cT]; done) | (simp only [fa49 17 (by decide), fa25 17 (by decide), fa19 17 (by decide), fa15 17 (by decide), kg1.fa 17 rfl, sMn, sMx, cCoin, cT]; rfl)) (cG_f (c := x1) (T := (cT 1 i a)) (u := 1) (oc107 w47) (oc109 w47))) | 2, _ => (Eq.trans (show a49 18 = cRow 1 a 2 from by rw [cRow_lt (p := 1) (a := a) (by decide : 2 < 8)]; first | rfl | (simp only [fa49 18 (by decide), fa25 18 (by decide), fa19 18 (by decide), fa15 18 (by decide), kg1.fa 18 rfl, sMn, sMx, cCoin, cT]; done) | (simp only [fa49 18 (by decide), fa25 18 (by decide), fa19 18 (by decide), fa15 18 (by decide), kg1.fa 18 rfl, sMn, sMx, cCoin, cT]; rfl)) (cG_f (c := x1) (T := (cT 1 i a)) (u := 2) (oc107 w47) (oc110 w47))) | 3, _ => (Eq.trans (show a49 19 = cRow 1 a 3 from by rw [cRow_lt (p := 1) (a := a) (by decide : 3 < 8)]; first | rfl | (simp only [fa49 19 (by decide), fa25 19 (by decide), fa19 19 (by decide), fa15 19 (by decide), kg1.fa 19 rfl, sMn, sMx, cCoin, cT]; done) | (simp only [fa49 19 (by decide), fa25 19 (by decide), fa19 19 (by decide), fa15 19 (by decide), kg1.fa 19 rfl, sMn, sMx, cCoin, cT]; rfl)) (cG_f (c := x1) (T := (cT 1 i a)) (u := 3) (oc107 w47) (oc111 w47))) | 4, _ => (Eq.trans (show a49 20 = cRow 1 a 4 from by rw [cRow_lt (p := 1) (a := a) (by decide : 4 < 8)]; first | rfl | (simp only [fa49 20 (by decide), fa25 20 (by decide), fa19 20 (by decide), fa15 20 (by decide), kg1.fa 20 rfl, sMn, sMx, cCoin, cT]; done) | (simp only [fa49 20 (by decide), fa25 20 (by decide), fa19 20 (by decide), fa15 20 (by decide), kg1.fa 20 rfl, sMn, sMx, cCoin, cT]; rfl)) (cG_f (c := x1) (T := (cT 1 i a)) (u := 4) (oc107 w47) (oc112 w47))) | 5, _ => (Eq.trans (show a49 21 = cRow 1 a 5 from by rw [cRow_lt (p := 1) (a := a) (by decide : 5 < 8)]; first | rfl | (simp only [fa49 21 (by decide), fa25 21 (by decide), fa19 21 (by decide), fa15 21 (by decide), kg1.fa 21 rfl, sMn, sMx, cCoin, cT]; done) | (simp only [fa49 21 (by decide), fa25 21 (by decide), fa19 21 (by decide), fa15 21 (by decide), kg1.fa 21 rfl, sMn, sMx, cCoin, cT]; rfl)) (cG_f (c := x1) (T := (cT 1 i a)) (u := 5) (oc107 w47) (oc113 w47))) | 6, _ => (Eq.trans (show a49 22 = cRow 1 a 6 from by rw [cRow_lt (p := 1) (a := a) (by decide : 6 < 8)]; first | rfl | (simp only [fa49 22 (by decide), fa25 22 (by decide), fa19 22 (by decide), fa15 22 (by decide), kg1.fa 22 rfl, sMn, sMx, cCoin, cT]; done) | (simp only [fa49 22 (by decide), fa25 22 (by decide), fa19 22 (by decide), fa15 22 (by decide), kg1.fa 22 rfl, sMn, sMx, cCoin, cT]; rfl)) (cG_f (c := x1) (T := (cT 1 i a)) (u := 6) (oc107 w47) (oc114 w47))) | 7, _ => (Eq.trans (show a49 23 = (cRow 1 a 7).set x1.toNatClampNeg ((cRow 1 a 7).getD x1.toNatClampNeg 0 + cCoin (cT 1 i a)) from by rw [cRow_lt (p := 1) (a := a) (by decide : 7 < 8)]; first | rfl | (simp only [ea49, fa25 23 (by decide), qm11, kg1.fa 2 rfl, fa19 23 (by decide), fa15 23 (by decide), kg1.fa 23 rfl, sMn, sMx, cCoin, cT]; done) | (simp only [ea49, fa25 23 (by decide), qm11, kg1.fa 2 rfl, fa19 23 (by decide), fa15 23 (by decide), kg1.fa 23 rfl, sMn, sMx, cCoin, cT]; rfl)) (cG_t (c := x1) (T := (cT 1 i a)) (u := 7) (oc115 w47))) | _ + 8, h => absurd h (by omega)) (fun u hu => (cG_f (c := x1) (T := (cT 1 i a)) (oc107 w47) (kj_big hu (oc116 w47))).symm.trans (cRow_ge hu))).trans (show cGive x1 (cT 1 i a) = cPay (i 64) x1 (cT 1 i a) from (if_pos (oc106 c8 efig1_64 hp0.2 w47 z10.2)).symm))⟩)
        exact (oc117 fig1_64.2 w26 w29 w32 w35 w38 w41 w44 w47 z10.1 z10.2).elim
      ·
        subst eg9
        have efig1_64 : (ig1 64).toInt = (i 64).toInt := kg1.ti 64 rfl
        have z50 : ¬ (((0 : Int) ≤ ((a 8).getD (0 : Int32).toNatClampNeg 0).toInt) ∧ (((a 8).getD (0 : Int32).toNatClampNeg 0).toInt < (ig1 64).toInt)) := hg9
        first | refine fo_goS mi_k30 fz30_51_1_54 [] (by rfl) ?_ | refine ft_goS mi_k30 1 54 [] (by rfl) ?_ | refine ft_go mi_k30 1 54 [(3, .int ((a 9).getD (0 : Int32).toNatClampNeg 0)), (2, .int ((a 8).getD (0 : Int32).toNatClampNeg 0)), (0, .ref 1), (1, .int x1)] [] ig1 ag1 qg1 rg1 (by rfl) ?_ | refine ko_steps mi_in30 1 _ (54, [(3, .int ((a 9).getD (0 : Int32).toNatClampNeg 0)), (2, .int ((a 8).getD (0 : Int32).toNatClampNeg 0)), (0, .ref 1), (1, .int x1)], [], (0, 0), ks ig1 ag1 qg1 rg1) (by rfl) ?_
        exact ft_ret mi_k30 (by rfl) (hP  _ _ _ _ hGg1 ⟨(oc20 z2), ((cT_eq (p := 1) (i := ig1) (a := ag1) (T := cRest (cT 1 i a)) (show ig1 450 = (cRest (cT 1 i a)).1 from by first | rfl | (simp only [q3, sMn, sMx, cGive, cRest, cCoin, cT]; done) | (simp only [q3, sMn, sMx, cGive, cRest, cCoin, cT]; rfl)) (show ag1 8 = (cRest (cT 1 i a)).2.1 from by first | rfl | (simp only [q4, sMn, sMx, cGive, cRest, cCoin, cT]; done) | (simp only [q4, sMn, sMx, cGive, cRest, cCoin, cT]; rfl)) (show ag1 9 = (cRest (cT 1 i a)).2.2.1 from by first | rfl | (simp only [q5, sMn, sMx, cGive, cRest, cCoin, cT]; done) | (simp only [q5, sMn, sMx, cGive, cRest, cCoin, cT]; rfl)) (show ag1 2 = (cRest (cT 1 i a)).2.2.2.1 from by first | rfl | (simp only [kg1.fa 2 rfl, sMn, sMx, cGive, cRest, cCoin, cT]; done) | (simp only [kg1.fa 2 rfl, sMn, sMx, cGive, cRest, cCoin, cT]; rfl)) ((show ig1 78 = i 78 from (by first | rfl | (simp only [(kg1.fi 78 rfl : ig1 78 = i 78), sMn, sMx]; done) | (simp only [(kg1.fi 78 rfl : ig1 78 = i 78), sMn, sMx]; rfl))).trans (cY_neg (y := i 78) (d := (a 8).getD 0 0) (oc22 c6 efig1_78 koc8))) (show ig1 79 = (cRest (cT 1 i a)).2.2.2.2.2.1 from by first | rfl | (simp only [(kg1.fi 79 rfl : ig1 79 = i 79), sMn, sMx, cGive, cRest, cCoin, cT]; done) | (simp only [(kg1.fi 79 rfl : ig1 79 = i 79), sMn, sMx, cGive, cRest, cCoin, cT]; rfl)) (show ag1 14 = (cRest (cT 1 i a)).2.2.2.2.2.2.1 from by first | rfl | (simp only [kg1.fa 14 rfl, sMn, sMx, cGive, cRest, cCoin, cT]; done) | (simp only [kg1.fa 14 rfl, sMn, sMx, cGive, cRest, cCoin, cT]; rfl)) (fun u hu => match u, hu with | 0, _ => (show ag1 16 = cRow 1 a 0 from by rw [cRow_lt (p := 1) (a := a) (by decide : 0 < 8)]; first | rfl | (simp only [kg1.fa 16 rfl, sMn, sMx, cCoin, cT]; done) | (simp only [kg1.fa 16 rfl, sMn, sMx, cCoin, cT]; rfl)) | 1, _ => (show ag1 17 = cRow 1 a 1 from by rw [cRow_lt (p := 1) (a := a) (by decide : 1 < 8)]; first | rfl | (simp only [kg1.fa 17 rfl, sMn, sMx, cCoin, cT]; done) | (simp only [kg1.fa 17 rfl, sMn, sMx, cCoin, cT]; rfl)) | 2, _ => (show ag1 18 = cRow 1 a 2 from by rw [cRow_lt (p := 1) (a := a) (by decide : 2 < 8)]; first | rfl | (simp only [kg1.fa 18 rfl, sMn, sMx, cCoin, cT]; done) | (simp only [kg1.fa 18 rfl, sMn, sMx, cCoin, cT]; rfl)) | 3, _ => (show ag1 19 = cRow 1 a 3 from by rw [cRow_lt (p := 1) (a := a) (by decide : 3 < 8)]; first | rfl | (simp only [kg1.fa 19 rfl, sMn, sMx, cCoin, cT]; done) | (simp only [kg1.fa 19 rfl, sMn, sMx, cCoin, cT]; rfl)) | 4, _ => (show ag1 20 = cRow 1 a 4 from by rw [cRow_lt (p := 1) (a := a) (by decide : 4 < 8)]; first | rfl | (simp only [kg1.fa 20 rfl, sMn, sMx, cCoin, cT]; done) | (simp only [kg1.fa 20 rfl, sMn, sMx, cCoin, cT]; rfl)) | 5, _ => (show ag1 21 = cRow 1 a 5 from by rw [cRow_lt (p := 1) (a := a) (by decide : 5 < 8)]; first | rfl | (simp only [kg1.fa 21 rfl, sMn, sMx, cCoin, cT]; done) | (simp only [kg1.fa 21 rfl, sMn, sMx, cCoin, cT]; rfl)) | 6, _ => (show ag1 22 = cRow 1 a 6 from by rw [cRow_lt (p := 1) (a := a) (by decide : 6 < 8)]; first | rfl | (simp only [kg1.fa 22 rfl, sMn, sMx, cCoin, cT]; done) | (simp only [kg1.fa 22 rfl, sMn, sMx, cCoin, cT]; rfl)) | 7, _ => (show ag1 23 = cRow 1 a 7 from by rw [cRow_lt (p := 1) (a := a) (by decide : 7 < 8)]; first | rfl | (simp only [kg1.fa 23 rfl, sMn, sMx, cCoin, cT]; done) | (simp only [kg1.fa 23 rfl, sMn, sMx, cCoin, cT]; rfl)) | _ + 8, h => absurd h (by omega)) (fun u hu => cRow_ge hu)).trans (show cRest (cT 1 i a) = cPay (i 64) x1 (cT 1 i a) from (if_neg (oc118 efig1_64 z50)).symm))⟩)
  ·
    have c51 : (ig1 78).toInt = (8 : Int32).toInt := kd_neF c; clear c
    have hJ52 := kG_i hGg1 78 rfl (v := ((a 8).getD (0 : Int32).toNatClampNeg 0)) (kd_bd _)
    first | refine fo_goI mi_k30 fz30_36_5_43 [.int x1, .int ((a 8).getD (0 : Int32).toNatClampNeg 0)] (ku ig1 78 ((a 8).getD (0 : Int32).toNatClampNeg 0)) (by rfl) ?_ | refine ft_goS mi_k30 5 43 [.int x1, .int ((a 8).getD (0 : Int32).toNatClampNeg 0)] (by rfl) ?_ | refine ft_go mi_k30 5 43 [(3, .int ((a 9).getD (0 : Int32).toNatClampNeg 0)), (2, .int ((a 8).getD (0 : Int32).toNatClampNeg 0)), (0, .ref 1), (1, .int x1)] [.int x1, .int ((a 8).getD (0 : Int32).toNatClampNeg 0)] (ku ig1 78 ((a 8).getD (0 : Int32).toNatClampNeg 0)) ag1 qg1 rg1 (by rfl) ?_ | refine ko_steps mi_in30 5 _ (43, [(3, .int ((a 9).getD (0 : Int32).toNatClampNeg 0)), (2, .int ((a 8).getD (0 : Int32).toNatClampNeg 0)), (0, .ref 1), (1, .int x1)], [.int x1, .int ((a 8).getD (0 : Int32).toNatClampNeg 0)], (0, 0), ks (ku ig1 78 ((a 8).getD (0 : Int32).toNatClampNeg 0)) ag1 qg1 rg1) (by rfl) ?_
    refine ft_ifS mi_k30 (((a 8).getD (0 : Int32).toNatClampNeg 0) == x1) 54 46 [] (by rfl) (fun c => ?_) (fun c => ?_)
    ·
      have c53 : ((a 8).getD (0 : Int32).toNatClampNeg 0).toInt = x1.toInt := kd_eq c; clear c
      exact ft_ret mi_k30 (by rfl) (hP  _ _ _ _ hJ52 ⟨(oc20 z2), ((cT_eq (p := 1) (i := ku ig1 78 ((a 8).getD (0 : Int32).toNatClampNeg 0)) (a := ag1) (T := cRest (cT 1 i a)) (show ig1 450 = (cRest (cT 1 i a)).1 from by first | rfl | (simp only [q3, sMn, sMx, cGive, cRest, cCoin, cT]; done) | (simp only [q3, sMn, sMx, cGive, cRest, cCoin, cT]; rfl)) (show ag1 8 = (cRest (cT 1 i a)).2.1 from by first | rfl | (simp only [q4, sMn, sMx, cGive, cRest, cCoin, cT]; done) | (simp only [q4, sMn, sMx, cGive, cRest, cCoin, cT]; rfl)) (show ag1 9 = (cRest (cT 1 i a)).2.2.1 from by first | rfl | (simp only [q5, sMn, sMx, cGive, cRest, cCoin, cT]; done) | (simp only [q5, sMn, sMx, cGive, cRest, cCoin, cT]; rfl)) (show ag1 2 = (cRest (cT 1 i a)).2.2.2.1 from by first | rfl | (simp only [kg1.fa 2 rfl, sMn, sMx, cGive, cRest, cCoin, cT]; done) | (simp only [kg1.fa 2 rfl, sMn, sMx, cGive, cRest, cCoin, cT]; rfl)) (cY_pos (y := i 78) (d := (a 8).getD 0 0) (oc119 c51 efig1_78 koc8)) (show ig1 79 = (cRest (cT 1 i a)).2.2.2.2.2.1 from by first | rfl | (simp only [(kg1.fi 79 rfl : ig1 79 = i 79), sMn, sMx, cGive, cRest, cCoin, cT]; done) | (simp only [(kg1.fi 79 rfl : ig1 79 = i 79), sMn, sMx, cGive, cRest, cCoin, cT]; rfl)) (show ag1 14 = (cRest (cT 1 i a)).2.2.2.2.2.2.1 from by first | rfl | (simp only [kg1.fa 14 rfl, sMn, sMx, cGive, cRest, cCoin, cT]; done) | (simp only [kg1.fa 14 rfl, sMn, sMx, cGive, cRest, cCoin, cT]; rfl)) (fun u hu => match u, hu with | 0, _ => (show ag1 16 = cRow 1 a 0 from by rw [cRow_lt (p := 1) (a := a) (by decide : 0 < 8)]; first | rfl | (simp only [kg1.fa 16 rfl, sMn, sMx, cCoin, cT]; done) | (simp only [kg1.fa 16 rfl, sMn, sMx, cCoin, cT]; rfl)) | 1, _ => (show ag1 17 = cRow 1 a 1 from by rw [cRow_lt (p := 1) (a := a) (by decide : 1 < 8)]; first | rfl | (simp only [kg1.fa 17 rfl, sMn, sMx, cCoin, cT]; done) | (simp only [kg1.fa 17 rfl, sMn, sMx, cCoin, cT]; rfl)) | 2, _ => (show ag1 18 = cRow 1 a 2 from by rw [cRow_lt (p := 1) (a := a) (by decide : 2 < 8)]; first | rfl | (simp only [kg1.fa 18 rfl, sMn, sMx, cCoin, cT]; done) | (simp only [kg1.fa 18 rfl, sMn, sMx, cCoin, cT]; rfl)) | 3, _ => (show ag1 19 = cRow 1 a 3 from by rw [cRow_lt (p := 1) (a := a) (by decide : 3 < 8)]; first | rfl | (simp only [kg1.fa 19 rfl, sMn, sMx, cCoin, cT]; done) | (simp only [kg1.fa 19 rfl, sMn, sMx, cCoin, cT]; rfl)) | 4, _ => (show ag1 20 = cRow 1 a 4 from by rw [cRow_lt (p := 1) (a := a) (by decide : 4 < 8)]; first | rfl | (simp only [kg1.fa 20 rfl, sMn, sMx, cCoin, cT]; done) | (simp only [kg1.fa 20 rfl, sMn, sMx, cCoin, cT]; rfl)) | 5, _ => (show ag1 21 = cRow 1 a 5 from by rw [cRow_lt (p := 1) (a := a) (by decide : 5 < 8)]; first | rfl | (simp only [kg1.fa 21 rfl, sMn, sMx, cCoin, cT]; done) | (simp only [kg1.fa 21 rfl, sMn, sMx, cCoin, cT]; rfl)) | 6, _ => (show ag1 22 = cRow 1 a 6 from by rw [cRow_lt (p := 1) (a := a) (by decide : 6 < 8)]; first | rfl | (simp only [kg1.fa 22 rfl, sMn, sMx, cCoin, cT]; done) | (simp only [kg1.fa 22 rfl, sMn, sMx, cCoin, cT]; rfl)) | 7, _ => (show ag1 23 = cRow 1 a 7 from by rw [cRow_lt (p := 1) (a := a) (by decide : 7 < 8)]; first | rfl | (simp only [kg1.fa 23 rfl, sMn, sMx, cCoin, cT]; done) | (simp only [kg1.fa 23 rfl, sMn, sMx, cCoin, cT]; rfl)) | _ + 8, h => absurd h (by omega)) (fun u hu => cRow_ge hu)).trans (show cRest (cT 1 i a) = cPay (i 64) x1 (cT 1 i a) from (if_neg (oc21 c53)).symm))⟩)
    ·
      have c54 : ((a 8).getD (0 : Int32).toNatClampNeg 0).toInt ≠ x1.toInt := kd_eqF c; clear c
      first | refine fo_goS mi_k30 fz30_46_2_48 [.int ((a 8).getD (0 : Int32).toNatClampNeg 0), .ref 1] (by rfl) ?_ | refine ft_go mi_k30 2 48 [(3, .int ((a 9).getD (0 : Int32).toNatClampNeg 0)), (2, .int ((a 8).getD (0 : Int32).toNatClampNeg 0)), (0, .ref 1), (1, .int x1)] [.int ((a 8).getD (0 : Int32).toNatClampNeg 0), .ref 1] (ku ig1 78 ((a 8).getD (0 : Int32).toNatClampNeg 0)) ag1 qg1 rg1 (by rfl) ?_ | refine ko_steps mi_in30 2 _ (48, [(3, .int ((a 9).getD (0 : Int32).toNatClampNeg 0)), (2, .int ((a 8).getD (0 : Int32).toNatClampNeg 0)), (0, .ref 1), (1, .int x1)], [.int ((a 8).getD (0 : Int32).toNatClampNeg 0), .ref 1], (0, 0), ks (ku ig1 78 ((a 8).getD (0 : Int32).toNatClampNeg 0)) ag1 qg1 rg1) (by rfl) ?_
      refine ko_callPI mi_k30.1 (pc := 48) (ls := [(3, .int ((a 9).getD (0 : Int32).toNatClampNeg 0)), (2, .int ((a 8).getD (0 : Int32).toNatClampNeg 0)), (0, .ref 1), (1, .int x1)]) (st := [.int ((a 8).getD (0 : Int32).toNatClampNeg 0), .ref 1]) (h := ks (ku ig1 78 ((a 8).getD (0 : Int32).toNatClampNeg 0)) ag1 qg1 rg1) (i := (.invokevirtual 85, 3, 24, 0, 9, 0, 165)) (mi_k30.2 _ _ (by rfl)) (ft_invS mi_pq24 (by rfl)) (cy := mi_c24) mi_pq24 rfl (kc24_1 hJ52.I hJ52.R ((a 8).getD (0 : Int32).toNatClampNeg 0)) (by decide) ?_
      intro vg55 hg55
      rcases hg55 with ⟨eg55, hg55⟩ | ⟨eg55, hg55⟩
      ·
        subst eg55
        have fig1_64 : ((0 : Int) ≤ (ig1 64).toInt) ∧ ((ig1 64).toInt ≤ 8) := hJ52.I.1 64
        have efig1_64 : (ig1 64).toInt = (i 64).toInt := kg1.ti 64 rfl
        have z56 : ((0 : Int) ≤ ((a 8).getD (0 : Int32).toNatClampNeg 0).toInt) ∧ (((a 8).getD (0 : Int32).toNatClampNeg 0).toInt < (ig1 64).toInt) := hg55
        first | refine fo_goS mi_k30 fz30_51_5_61 [.int ((a 8).getD (0 : Int32).toNatClampNeg 0), .ref 2, .int ((a 9).getD (0 : Int32).toNatClampNeg 0)] (by rfl) ?_ | refine ft_goS mi_k30 5 61 [.int ((a 8).getD (0 : Int32).toNatClampNeg 0), .ref 2, .int ((a 9).getD (0 : Int32).toNatClampNeg 0)] (by rfl) ?_ | refine ft_go mi_k30 5 61 [(3, .int ((a 9).getD (0 : Int32).toNatClampNeg 0)), (2, .int ((a 8).getD (0 : Int32).toNatClampNeg 0)), (0, .ref 1), (1, .int x1)] [.int ((a 8).getD (0 : Int32).toNatClampNeg 0), .ref 2, .int ((a 9).getD (0 : Int32).toNatClampNeg 0)] (ku ig1 78 ((a 8).getD (0 : Int32).toNatClampNeg 0)) ag1 qg1 rg1 (by rfl) ?_ | refine ko_steps mi_in30 5 _ (61, [(3, .int ((a 9).getD (0 : Int32).toNatClampNeg 0)), (2, .int ((a 8).getD (0 : Int32).toNatClampNeg 0)), (0, .ref 1), (1, .int x1)], [.int ((a 8).getD (0 : Int32).toNatClampNeg 0), .ref 2, .int ((a 9).getD (0 : Int32).toNatClampNeg 0)], (0, 0), ks (ku ig1 78 ((a 8).getD (0 : Int32).toNatClampNeg 0)) ag1 qg1 rg1) (by rfl) ?_
        refine ko_iald3 mi_k30.1 (n := 8) (c := 8) (ax := (0, 0, 0, 0, 0)) (mi_k30.2 _ _ (by rfl)) (by rfl) (ksG2 _ _ _ _) (hJ52.I.2.1 2) rfl (oc1 z56.1) (oc27 fig1_64.2 z56.2) ?_
        have m58 : (((bif decide (((ag1 2).getD ((a 8).getD (0 : Int32).toNatClampNeg 0).toNatClampNeg 0) < ((a 9).getD (0 : Int32).toNatClampNeg 0)) then ((ag1 2).getD ((a 8).getD (0 : Int32).toNatClampNeg 0).toNatClampNeg 0) else ((a 9).getD (0 : Int32).toNatClampNeg 0)).toInt ≤ ((a 9).getD (0 : Int32).toNatClampNeg 0).toInt) ∧ ((bif decide (((ag1 2).getD ((a 8).getD (0 : Int32).toNatClampNeg 0).toNatClampNeg 0) < ((a 9).getD (0 : Int32).toNatClampNeg 0)) then ((ag1 2).getD ((a 8).getD (0 : Int32).toNatClampNeg 0).toNatClampNeg 0) else ((a 9).getD (0 : Int32).toNatClampNeg 0)).toInt ≤ ((ag1 2).getD ((a 8).getD (0 : Int32).toNatClampNeg 0).toNatClampNeg 0).toInt)) ∧ ((bif decide (((ag1 2).getD ((a 8).getD (0 : Int32).toNatClampNeg 0).toNatClampNeg 0) < ((a 9).getD (0 : Int32).toNatClampNeg 0)) then ((ag1 2).getD ((a 8).getD (0 : Int32).toNatClampNeg 0).toNatClampNeg 0) else ((a 9).getD (0 : Int32).toNatClampNeg 0)).toInt = ((a 9).getD (0 : Int32).toNatClampNeg 0).toInt ∨ (bif decide (((ag1 2).getD ((a 8).getD (0 : Int32).toNatClampNeg 0).toNatClampNeg 0) < ((a 9).getD (0 : Int32).toNatClampNeg 0)) then ((ag1 2).getD ((a 8).getD (0 : Int32).toNatClampNeg 0).toNatClampNeg 0) else ((a 9).getD (0 : Int32).toNatClampNeg 0)).toInt = ((ag1 2).getD ((a 8).getD (0 : Int32).toNatClampNeg 0).toNatClampNeg 0).toInt) := kd_min
        first | refine ft_goS mi_k30 1 65 [.int (bif decide (((ag1 2).getD ((a 8).getD (0 : Int32).toNatClampNeg 0).toNatClampNeg 0) < ((a 9).getD (0 : Int32).toNatClampNeg 0)) then ((ag1 2).getD ((a 8).getD (0 : Int32).toNatClampNeg 0).toNatClampNeg 0) else ((a 9).getD (0 : Int32).toNatClampNeg 0))] (by rfl) ?_ | refine ft_go mi_k30 1 65 [(3, .int ((a 9).getD (0 : Int32).toNatClampNeg 0)), (2, .int ((a 8).getD (0 : Int32).toNatClampNeg 0)), (0, .ref 1), (1, .int x1)] [.int (bif decide (((ag1 2).getD ((a 8).getD (0 : Int32).toNatClampNeg 0).toNatClampNeg 0) < ((a 9).getD (0 : Int32).toNatClampNeg 0)) then ((ag1 2).getD ((a 8).getD (0 : Int32).toNatClampNeg 0).toNatClampNeg 0) else ((a 9).getD (0 : Int32).toNatClampNeg 0))] (ku ig1 78 ((a 8).getD (0 : Int32).toNatClampNeg 0)) ag1 qg1 rg1 (by rfl) ?_ | refine ko_steps mi_in30 1 _ (65, [(3, .int ((a 9).getD (0 : Int32).toNatClampNeg 0)), (2, .int ((a 8).getD (0 : Int32).toNatClampNeg 0)), (0, .ref 1), (1, .int x1)], [.int (bif decide (((ag1 2).getD ((a 8).getD (0 : Int32).toNatClampNeg 0).toNatClampNeg 0) < ((a 9).getD (0 : Int32).toNatClampNeg 0)) then ((ag1 2).getD ((a 8).getD (0 : Int32).toNatClampNeg 0).toNatClampNeg 0) else ((a 9).getD (0 : Int32).toNatClampNeg 0))], (0, 0), ks (ku ig1 78 ((a 8).getD (0 : Int32).toNatClampNeg 0)) ag1 qg1 rg1) (by rfl) ?_
        generalize hm57 : (bif decide (((ag1 2).getD ((a 8).getD (0 : Int32).toNatClampNeg 0).toNatClampNeg 0) < ((a 9).getD (0 : Int32).toNatClampNeg 0)) then ((ag1 2).getD ((a 8).getD (0 : Int32).toNatClampNeg 0).toNatClampNeg 0) else ((a 9).getD (0 : Int32).toNatClampNeg 0)) = m57 at m58 ⊢
        have qm57 := hm57.symm
        first | refine fo_goL mi_k30 fz30_65_5_73 [(4, .int m57), (3, .int ((a 9).getD (0 : Int32).toNatClampNeg 0)), (2, .int ((a 8).getD (0 : Int32).toNatClampNeg 0)), (0, .ref 1), (1, .int x1)] [.int ((a 8).getD (0 : Int32).toNatClampNeg 0), .ref 2, .int ((a 8).getD (0 : Int32).toNatClampNeg 0), .ref 2] (by rfl) ?_ | refine ft_go mi_k30 5 73 [(4, .int m57), (3, .int ((a 9).getD (0 : Int32).toNatClampNeg 0)), (2, .int ((a 8).getD (0 : Int32).toNatClampNeg 0)), (0, .ref 1), (1, .int x1)] [.int ((a 8).getD (0 : Int32).toNatClampNeg 0), .ref 2, .int ((a 8).getD (0 : Int32).toNatClampNeg 0), .ref 2] (ku ig1 78 ((a 8).getD (0 : Int32).toNatClampNeg 0)) ag1 qg1 rg1 (by rfl) ?_ | refine ko_steps mi_in30 5 _ (73, [(4, .int m57), (3, .int ((a 9).getD (0 : Int32).toNatClampNeg 0)), (2, .int ((a 8).getD (0 : Int32).toNatClampNeg 0)), (0, .ref 1), (1, .int x1)], [.int ((a 8).getD (0 : Int32).toNatClampNeg 0), .ref 2, .int ((a 8).getD (0 : Int32).toNatClampNeg 0), .ref 2], (0, 0), ks (ku ig1 78 ((a 8).getD (0 : Int32).toNatClampNeg 0)) ag1 qg1 rg1) (by rfl) ?_
        refine ko_iald3 mi_k30.1 (n := 8) (c := 8) (ax := (0, 0, 0, 0, 0)) (mi_k30.2 _ _ (by rfl)) (by rfl) (ksG2 _ _ _ _) (hJ52.I.2.1 2) rfl (oc1 z56.1) (oc27 fig1_64.2 z56.2) ?_
        have b59 : ((-2147483648 : Int) ≤ ((ag1 2).getD ((a 8).getD (0 : Int32).toNatClampNeg 0).toNatClampNeg 0).toInt) ∧ (((ag1 2).getD ((a 8).getD (0 : Int32).toNatClampNeg 0).toNatClampNeg 0).toInt ≤ 2147483647) := kd_bd ((ag1 2).getD ((a 8).getD (0 : Int32).toNatClampNeg 0).toNatClampNeg 0)
        have b60 : ((-2147483648 : Int) ≤ m57.toInt) ∧ (m57.toInt ≤ 2147483647) := kd_bd m57
        first | refine fo_goS mi_k30 fz30_74_2_77 [.int (((ag1 2).getD ((a 8).getD (0 : Int32).toNatClampNeg 0).toNatClampNeg 0) - m57), .int ((a 8).getD (0 : Int32).toNatClampNeg 0), .ref 2] (by rfl) ?_ | refine ft_go mi_k30 2 77 [(4, .int m57), (3, .int ((a 9).getD (0 : Int32).toNatClampNeg 0)), (2, .int ((a 8).getD (0 : Int32).toNatClampNeg 0)), (0, .ref 1), (1, .int x1)] [.int (((ag1 2).getD ((a 8).getD (0 : Int32).toNatClampNeg 0).toNatClampNeg 0) - m57), .int ((a 8).getD (0 : Int32).toNatClampNeg 0), .ref 2] (ku ig1 78 ((a 8).getD (0 : Int32).toNatClampNeg 0)) ag1 qg1 rg1 (by rfl) ?_ | refine ko_steps mi_in30 2 _ (77, [(4, .int m57), (3, .int ((a 9).getD (0 : Int32).toNatClampNeg 0)), (2, .int ((a 8).getD (0 : Int32).toNatClampNeg 0)), (0, .ref 1), (1, .int x1)], [.int (((ag1 2).getD ((a 8).getD (0 : Int32).toNatClampNeg 0).toNatClampNeg 0) - m57), .int ((a 8).getD (0 : Int32).toNatClampNeg 0), .ref 2], (0, 0), ks (ku ig1 78 ((a 8).getD (0 : Int32).toNatClampNeg 0)) ag1 qg1 rg1) (by rfl) ?_
        refine ko_iast3 mi_k30.1 (n := 8) (c := 8) (ax := (0, 0, 0, 0, 0)) (mi_k30.2 _ _ (by rfl)) (by rfl) (ksG2 _ _ _ _) (ksA2 _ _ _ _) (hJ52.I.2.1 2) rfl (oc1 z56.1) (oc27 fig1_64.2 z56.2) ?_
        intro a61 ea61 fa61
        have hJ61 := kG_a3 hJ52 2 rfl ea61 fa61 (kd_bd _)
        first | refine fo_goS mi_k30 fz30_78_7_91 [.int x1, .ref 2, .int 999, .int x1, .ref 2] (by rfl) ?_ | refine ft_go mi_k30 7 91 [(4, .int m57), (3, .int ((a 9).getD (0 : Int32).toNatClampNeg 0)), (2, .int ((a 8).getD (0 : Int32).toNatClampNeg 0)), (0, .ref 1), (1, .int x1)] [.int x1, .ref 2, .int 999, .int x1, .ref 2] (ku ig1 78 ((a 8).getD (0 : Int32).toNatClampNeg 0)) a61 qg1 rg1 (by rfl) ?_ | refine ko_steps mi_in30 7 _ (91, [(4, .int m57), (3, .int ((a 9).getD (0 : Int32).toNatClampNeg 0)), (2, .int ((a 8).getD (0 : Int32).toNatClampNeg 0)), (0, .ref 1), (1, .int x1)], [.int x1, .ref 2, .int 999, .int x1, .ref 2], (0, 0), ks (ku ig1 78 ((a 8).getD (0 : Int32).toNatClampNeg 0)) a61 qg1 rg1) (by rfl) ?_
        refine ko_iald3 mi_k30.1 (n := 8) (c := 8) (ax := (0, 0, 0, 0, 0)) (mi_k30.2 _ _ (by rfl)) (by rfl) (ksG2 _ _ _ _) (hJ61.I.2.1 2) rfl (oc1 hp0.1) (oc28 hp0.2) ?_
        have b62 : ((-2147483648 : Int) ≤ ((a61 2).getD x1.toNatClampNeg 0).toInt) ∧ (((a61 2).getD x1.toNatClampNeg 0).toInt ≤ 2147483647) := kd_bd ((a61 2).getD x1.toNatClampNeg 0)
        first | refine fo_goS mi_k30 fz30_92_2_95 [.int (((a61 2).getD x1.toNatClampNeg 0) + m57), .int 999, .int x1, .ref 2] (by rfl) ?_ | refine ft_go mi_k30 2 95 [(4, .int m57), (3, .int ((a 9).getD (0 : Int32).toNatClampNeg 0)), (2, .int ((a 8).getD (0 : Int32).toNatClampNeg 0)), (0, .ref 1), (1, .int x1)] [.int (((a61 2).getD x1.toNatClampNeg 0) + m57), .int 999, .int x1, .ref 2] (ku ig1 78 ((a 8).getD (0 : Int32).toNatClampNeg 0)) a61 qg1 rg1 (by rfl) ?_ | refine ko_steps mi_in30 2 _ (95, [(4, .int m57), (3, .int ((a 9).getD (0 : Int32).toNatClampNeg 0)), (2, .int ((a 8).getD (0 : Int32).toNatClampNeg 0)), (0, .ref 1), (1, .int x1)], [.int (((a61 2).getD x1.toNatClampNeg 0) + m57), .int 999, .int x1, .ref 2], (0, 0), ks (ku ig1 78 ((a 8).getD (0 : Int32).toNatClampNeg 0)) a61 qg1 rg1) (by rfl) ?_
        have m64 : (((bif decide ((((a61 2).getD x1.toNatClampNeg 0) + m57) < 999) then (((a61 2).getD x1.toNatClampNeg 0) + m57) else 999).toInt ≤ (999 : Int32).toInt) ∧ ((bif decide ((((a61 2).getD x1.toNatClampNeg 0) + m57) < 999) then (((a61 2).getD x1.toNatClampNeg 0) + m57) else 999).toInt ≤ (((a61 2).getD x1.toNatClampNeg 0) + m57).toInt)) ∧ ((bif decide ((((a61 2).getD x1.toNatClampNeg 0) + m57) < 999) then (((a61 2).getD x1.toNatClampNeg 0) + m57) else 999).toInt = (999 : Int32).toInt ∨ (bif decide ((((a61 2).getD x1.toNatClampNeg 0) + m57) < 999) then (((a61 2).getD x1.toNatClampNeg 0) + m57) else 999).toInt = (((a61 2).getD x1.toNatClampNeg 0) + m57).toInt) := kd_min
        first | refine ft_goS mi_k30 1 98 [.int (bif decide ((((a61 2).getD x1.toNatClampNeg 0) + m57) < 999) then (((a61 2).getD x1.toNatClampNeg 0) + m57) else 999), .int x1, .ref 2] (by rfl) ?_ | refine ft_go mi_k30 1 98 [(4, .int m57), (3, .int ((a 9).getD (0 : Int32).toNatClampNeg 0)), (2, .int ((a 8).getD (0 : Int32).toNatClampNeg 0)), (0, .ref 1), (1, .int x1)] [.int (bif decide ((((a61 2).getD x1.toNatClampNeg 0) + m57) < 999) then (((a61 2).getD x1.toNatClampNeg 0) + m57) else 999), .int x1, .ref 2] (ku ig1 78 ((a 8).getD (0 : Int32).toNatClampNeg 0)) a61 qg1 rg1 (by rfl) ?_ | refine ko_steps mi_in30 1 _ (98, [(4, .int m57), (3, .int ((a 9).getD (0 : Int32).toNatClampNeg 0)), (2, .int ((a 8).getD (0 : Int32).toNatClampNeg 0)), (0, .ref 1), (1, .int x1)], [.int (bif decide ((((a61 2).getD x1.toNatClampNeg 0) + m57) < 999) then (((a61 2).getD x1.toNatClampNeg 0) + m57) else 999), .int x1, .ref 2], (0, 0), ks (ku ig1 78 ((a 8).getD (0 : Int32).toNatClampNeg 0)) a61 qg1 rg1) (by rfl) ?_
        generalize hm63 : (bif decide ((((a61 2).getD x1.toNatClampNeg 0) + m57) < 999) then (((a61 2).getD x1.toNatClampNeg 0) + m57) else 999) = m63 at m64 ⊢
        have qm63 := hm63.symm
        refine ko_iast3 mi_k30.1 (n := 8) (c := 8) (ax := (0, 0, 0, 0, 0)) (mi_k30.2 _ _ (by rfl)) (by rfl) (ksG2 _ _ _ _) (ksA2 _ _ _ _) (hJ61.I.2.1 2) rfl (oc1 hp0.1) (oc28 hp0.2) ?_
        intro a65 ea65 fa65
        have hJ65 := kG_a3 hJ61 2 rfl ea65 fa65 (kd_bd _)
        have b66 : ((-2147483648 : Int) ≤ (ig1 79).toInt) ∧ ((ig1 79).toInt ≤ 2147483647) := kd_bd (ig1 79)
        have hJ67 := kG_i hJ65 79 rfl (v := ((ig1 79) + m57)) (kd_bd _)
        first | refine fo_goI mi_k30 fz30_99_10_116 [.int 2, .ref 14, .int 2, .ref 14] (ku (ku ig1 78 ((a 8).getD (0 : Int32).toNatClampNeg 0)) 79 ((ig1 79) + m57)) (by rfl) ?_ | refine ft_go mi_k30 10 116 [(4, .int m57), (3, .int ((a 9).getD (0 : Int32).toNatClampNeg 0)), (2, .int ((a 8).getD (0 : Int32).toNatClampNeg 0)), (0, .ref 1), (1, .int x1)] [.int 2, .ref 14, .int 2, .ref 14] (ku (ku ig1 78 ((a 8).getD (0 : Int32).toNatClampNeg 0)) 79 ((ig1 79) + m57)) a65 qg1 rg1 (by rfl) ?_ | refine ko_steps mi_in30 10 _ (116, [(4, .int m57), (3, .int ((a 9).getD (0 : Int32).toNatClampNeg 0)), (2, .int ((a 8).getD (0 : Int32).toNatClampNeg 0)), (0, .ref 1), (1, .int x1)], [.int 2, .ref 14, .int 2, .ref 14], (0, 0), ks (ku (ku ig1 78 ((a 8).getD (0 : Int32).toNatClampNeg 0)) 79 ((ig1 79) + m57)) a65 qg1 rg1) (by rfl) ?_
        refine ko_iald3 mi_k30.1 (n := 5) (c := 5) (ax := (0, 0, 0, 0, 0)) (mi_k30.2 _ _ (by rfl)) (by rfl) (ksG14 _ _ _ _) (hJ67.I.2.1 14) rfl (oc29 koc2) (oc30 koc2) ?_
        have b68 : ((-2147483648 : Int) ≤ ((a 9).getD (0 : Int32).toNatClampNeg 0).toInt) ∧ (((a 9).getD (0 : Int32).toNatClampNeg 0).toInt ≤ 2147483647) := kd_bd ((a 9).getD (0 : Int32).toNatClampNeg 0)
        have b69 : ((-2147483648 : Int) ≤ ((a65 14).getD (2 : Int32).toNatClampNeg 0).toInt) ∧ (((a65 14).getD (2 : Int32).toNatClampNeg 0).toInt ≤ 2147483647) := kd_bd ((a65 14).getD (2 : Int32).toNatClampNeg 0)
        have b70 : ((-2147483648 : Int) ≤ (((a 9).getD (0 : Int32).toNatClampNeg 0) - m57).toInt) ∧ ((((a 9).getD (0 : Int32).toNatClampNeg 0) - m57).toInt ≤ 2147483647) := kd_bd (((a 9).getD (0 : Int32).toNatClampNeg 0) - m57)
        first | refine fo_goS mi_k30 fz30_117_4_122 [.int (((a65 14).getD (2 : Int32).toNatClampNeg 0) + (((a 9).getD (0 : Int32).toNatClampNeg 0) - m57)), .int 2, .ref 14] (by rfl) ?_ | refine ft_go mi_k30 4 122 [(4, .int m57), (3, .int ((a 9).getD (0 : Int32).toNatClampNeg 0)), (2, .int ((a 8).getD (0 : Int32).toNatClampNeg 0)), (0, .ref 1), (1, .int x1)] [.int (((a65 14).getD (2 : Int32).toNatClampNeg 0) + (((a 9).getD (0 : Int32).toNatClampNeg 0) - m57)), .int 2, .ref 14] (ku (ku ig1 78 ((a 8).getD (0 : Int32).toNatClampNeg 0)) 79 ((ig1 79) + m57)) a65 qg1 rg1 (by rfl) ?_ | refine ko_steps mi_in30 4 _ (122, [(4, .int m57), (3, .int ((a 9).getD (0 : Int32).toNatClampNeg 0)), (2, .int ((a 8).getD (0 : Int32).toNatClampNeg 0)), (0, .ref 1), (1, .int x1)], [.int (((a65 14).getD (2 : Int32).toNatClampNeg 0) + (((a 9).getD (0 : Int32).toNatClampNeg 0) - m57)), .int 2, .ref 14], (0, 0), ks (ku (ku ig1 78 ((a 8).getD (0 : Int32).toNatClampNeg 0)) 79 ((ig1 79) + m57)) a65 qg1 rg1) (by rfl) ?_
        refine ko_iast3 mi_k30.1 (n := 5) (c := 5) (ax := (0, 0, 0, 0, 0)) (mi_k30.2 _ _ (by rfl)) (by rfl) (ksG14 _ _ _ _) (ksA14 _ _ _ _) (hJ67.I.2.1 14) rfl (oc29 koc2) (oc30 koc2) ?_
        intro a71 ea71 fa71
        have hJ71 := kG_a3 hJ67 14 rfl ea71 fa71 (kd_bd _)
        first | refine fo_goS mi_k30 fz30_123_3_128 [.int ((a 8).getD (0 : Int32).toNatClampNeg 0), .ref 15] (by rfl) ?_ | refine ft_go mi_k30 3 128 [(4, .int m57), (3, .int ((a 9).getD (0 : Int32).toNatClampNeg 0)), (2, .int ((a 8).getD (0 : Int32).toNatClampNeg 0)), (0, .ref 1), (1, .int x1)] [.int ((a 8).getD (0 : Int32).toNatClampNeg 0), .ref 15] (ku (ku ig1 78 ((a 8).getD (0 : Int32).toNatClampNeg 0)) 79 ((ig1 79) + m57)) a71 qg1 rg1 (by rfl) ?_ | refine ko_steps mi_in30 3 _ (128, [(4, .int m57), (3, .int ((a 9).getD (0 : Int32).toNatClampNeg 0)), (2, .int ((a 8).getD (0 : Int32).toNatClampNeg 0)), (0, .ref 1), (1, .int x1)], [.int ((a 8).getD (0 : Int32).toNatClampNeg 0), .ref 15], (0, 0), ks (ku (ku ig1 78 ((a 8).getD (0 : Int32).toNatClampNeg 0)) 79 ((ig1 79) + m57)) a71 qg1 rg1) (by rfl) ?_
        by_cases w72 : ((a 8).getD (0 : Int32).toNatClampNeg 0).toInt = 0
        ·
          refine ft_alx mi_k30 (pc := 128) (v := 0) (p := 15) (z := 16) (kj_eq w72 (by decide) : ((a 8).getD (0 : Int32).toNatClampNeg 0) = 0) (by decide +kernel) (by decide +kernel) ?_
          first | refine fo_goS mi_k30 fz30_129_2_131 [.int x1, .ref 16, .int x1, .ref 16] (by rfl) ?_ | refine ft_go mi_k30 2 131 [(4, .int m57), (3, .int ((a 9).getD (0 : Int32).toNatClampNeg 0)), (2, .int ((a 8).getD (0 : Int32).toNatClampNeg 0)), (0, .ref 1), (1, .int x1)] [.int x1, .ref 16, .int x1, .ref 16] (ku (ku ig1 78 ((a 8).getD (0 : Int32).toNatClampNeg 0)) 79 ((ig1 79) + m57)) a71 qg1 rg1 (by rfl) ?_ | refine ko_steps mi_in30 2 _ (131, [(4, .int m57), (3, .int ((a 9).getD (0 : Int32).toNatClampNeg 0)), (2, .int ((a 8).getD (0 : Int32).toNatClampNeg 0)), (0, .ref 1), (1, .int x1)], [.int x1, .ref 16, .int x1, .ref 16], (0, 0), ks (ku (ku ig1 78 ((a 8).getD (0 : Int32).toNatClampNeg 0)) 79 ((ig1 79) + m57)) a71 qg1 rg1) (by rfl) ?_
          refine ko_iald3 mi_k30.1 (n := 8) (c := 8) (ax := (0, 0, 0, 0, 0)) (mi_k30.2 _ _ (by rfl)) (by rfl) (ksG16 _ _ _ _) (hJ71.I.2.1 16) rfl (oc1 hp0.1) (oc28 hp0.2) ?_
          have b73 : ((-2147483648 : Int) ≤ ((a71 16).getD x1.toNatClampNeg 0).toInt) ∧ (((a71 16).getD x1.toNatClampNeg 0).toInt ≤ 2147483647) := kd_bd ((a71 16).getD x1.toNatClampNeg 0)
          first | refine fo_goS mi_k30 fz30_132_2_135 [.int (((a71 16).getD x1.toNatClampNeg 0) + m57), .int x1, .ref 16] (by rfl) ?_ | refine ft_go mi_k30 2 135 [(4, .int m57), (3, .int ((a 9).getD (0 : Int32).toNatClampNeg 0)), (2, .int ((a 8).getD (0 : Int32).toNatClampNeg 0)), (0, .ref 1), (1, .int x1)] [.int (((a71 16).getD x1.toNatClampNeg 0) + m57), .int x1, .ref 16] (ku (ku ig1 78 ((a 8).getD (0 : Int32).toNatClampNeg 0)) 79 ((ig1 79) + m57)) a71 qg1 rg1 (by rfl) ?_ | refine ko_steps mi_in30 2 _ (135, [(4, .int m57), (3, .int ((a 9).getD (0 : Int32).toNatClampNeg 0)), (2, .int ((a 8).getD (0 : Int32).toNatClampNeg 0)), (0, .ref 1), (1, .int x1)], [.int (((a71 16).getD x1.toNatClampNeg 0) + m57), .int x1, .ref 16], (0, 0), ks (ku (ku ig1 78 ((a 8).getD (0 : Int32).toNatClampNeg 0)) 79 ((ig1 79) + m57)) a71 qg1 rg1) (by rfl) ?_
          refine ko_iast3 mi_k30.1 (n := 8) (c := 8) (ax := (0, 0, 0, 0, 0)) (mi_k30.2 _ _ (by rfl)) (by rfl) (ksG16 _ _ _ _) (ksA16 _ _ _ _) (hJ71.I.2.1 16) rfl (oc1 hp0.1) (oc28 hp0.2) ?_
          intro a74 ea74 fa74
          have hJ74 := kG_a3 hJ71 16 rfl ea74 fa74 (kd_bd _)
          exact ft_ret mi_k30 (by rfl) (hP  _ _ _ _ hJ74 ⟨(oc20 z2), ((cT_eq (p := 1) (i := ku (ku ig1 78 ((a 8).getD (0 : Int32).toNatClampNeg 0)) 79 ((ig1 79) + m57)) (a := a74) (T := cGive x1 (cT 1 i a)) (show ig1 450 = (cGive x1 (cT 1 i a)).1 from by first | rfl | (simp only [q3, sMn, sMx, cGive, cRest, cCoin, cT]; done) | (simp only [q3, sMn, sMx, cGive, cRest, cCoin, cT]; rfl)) (show a74 8 = (cGive x1 (cT 1 i a)).2.1 from by first | rfl | (simp only [fa74 8 (by decide), fa71 8 (by decide), fa65 8 (by decide), fa61 8 (by decide), q4, sMn, sMx, cGive, cRest, cCoin, cT]; done) | (simp only [fa74 8 (by decide), fa71 8 (by decide), fa65 8 (by decide), fa61 8 (by decide), q4, sMn, sMx, cGive, cRest, cCoin, cT]; rfl)) (show a74 9 = (cGive x1 (cT 1 i a)).2.2.1 from by first | rfl | (simp only [fa74 9 (by decide), fa71 9 (by decide), fa65 9 (by decide), fa61 9 (by decide), q5, sMn, sMx, cGive, cRest, cCoin, cT]; done) | (simp only [fa74 9 (by decide), fa71 9 (by decide), fa65 9 (by decide), fa61 9 (by decide), q5, sMn, sMx, cGive, cRest, cCoin, cT]; rfl)) (show a74 2 = (cGive x1 (cT 1 i a)).2.2.2.1 from by first | rfl | (simp only [fa74 2 (by decide), fa71 2 (by decide), ea65, ea61, qm63, qm57, kg1.fa 2 rfl, sMn, sMx, cGive, cRest, cCoin, cT]; done) | (simp only [fa74 2 (by decide), fa71 2 (by decide), ea65, ea61, qm63, qm57, kg1.fa 2 rfl, sMn, sMx, cGive, cRest, cCoin, cT]; rfl)) (cY_pos (y := i 78) (d := (a 8).getD 0 0) (oc119 c51 efig1_78 koc8)) (show ((ig1 79) + m57) = (cGive x1 (cT 1 i a)).2.2.2.2.2.1 from by first | rfl | (simp only [(kg1.fi 79 rfl : ig1 79 = i 79), qm57, kg1.fa 2 rfl, sMn, sMx, cGive, cRest, cCoin, cT]; done) | (simp only [(kg1.fi 79 rfl : ig1 79 = i 79), qm57, kg1.fa 2 rfl, sMn, sMx, cGive, cRest, cCoin, cT]; rfl)) (show a74 14 = (cGive x1 (cT 1 i a)).2.2.2.2.2.2.1 from by first | rfl | (simp only [fa74 14 (by decide), ea71, fa65 14 (by decide), qm57, kg1.fa 2 rfl, fa61 14 (by decide), kg1.fa 14 rfl, sMn, sMx, cGive, cRest, cCoin, cT]; done) | (simp only [fa74 14 (by decide), ea71, fa65 14 (by decide), qm57, kg1.fa 2 rfl, fa61 14 (by decide), kg1.fa 14 rfl, sMn, sMx, cGive, cRest, cCoin, cT]; rfl)) (fun u hu => match u, hu with | 0, _ => (Eq.trans (show a74 16 = (cRow 1 a 0).set x1.toNatClampNeg ((cRow 1 a 0).getD x1.toNatClampNeg 0 + cCoin (cT 1 i a)) from by rw [cRow_lt (p := 1) (a := a) (by decide : 0 < 8)]; first | rfl | (simp only [ea74, fa71 16 (by decide), qm57, kg1.fa 2 rfl, fa65 16 (by decide), fa61 16 (by decide), kg1.fa 16 rfl, sMn, sMx, cCoin, cT]; done) | (simp only [ea74, fa71 16 (by decide), qm57, kg1.fa 2 rfl, fa65 16 (by decide), fa61 16 (by decide), kg1.fa 16 rfl, sMn, sMx, cCoin, cT]; rfl)) (cG_t (c := x1) (T := (cT 1 i a)) (u := 0) (oc33 w72 z56.1))) | 1, _ => (Eq.trans (show a74 17 = cRow 1 a 1 from by rw [cRow_lt (p := 1) (a := a) (by decide : 1 < 8)]; first | rfl | (simp only [fa74 17 (by decide), fa71 17 (by decide), fa65 17 (by decide), fa61 17 (by decide), kg1.fa 17 rfl, sMn, sMx, cCoin, cT]; done) | (simp only [fa74 17 (by decide), fa71 17 (by decide), fa65 17 (by decide), fa61 17 (by decide), kg1.fa 17 rfl, sMn, sMx, cCoin, cT]; rfl)) (cG_f (c := x1) (T := (cT 1 i a)) (u := 1) (oc1 z56.1) (oc34 w72))) | 2, _ => (Eq.trans (show a74 18 = cRow 1 a 2 from by rw [cRow_lt (p := 1) (a := a) (by decide : 2 < 8)]; first | rfl | (simp only [fa74 18 (by decide), fa71 18 (by decide), fa65 18 (by decide), fa61 18 (by decide), kg1.fa 18 rfl, sMn, sMx, cCoin, cT]; done) | (simp only [fa74 18 (by decide), fa71 18 (by decide), fa65 18 (by decide), fa61 18 (by decide), kg1.fa 18 rfl, sMn, sMx, cCoin, cT]; rfl)) (cG_f (c := x1) (T := (cT 1 i a)) (u := 2) (oc1 z56.1) (oc35 w72))) | 3, _ => (Eq.trans (show a74 19 = cRow 1 a 3 from by rw [cRow_lt (p := 1) (a := a) (by decide : 3 < 8)]; first | rfl | (simp only [fa74 19 (by decide), fa71 19 (by decide), fa65 19 (by decide), fa61 19 (by decide), kg1.fa 19 rfl, sMn, sMx, cCoin, cT]; done) | (simp only [fa74 19 (by decide), fa71 19 (by decide), fa65 19 (by decide), fa61 19 (by decide), kg1.fa 19 rfl, sMn, sMx, cCoin, cT]; rfl)) (cG_f (c := x1) (T := (cT 1 i a)) (u := 3) (oc1 z56.1) (oc36 w72))) | 4, _ => (Eq.trans (show a74 20 = cRow 1 a 4 from by rw [cRow_lt (p := 1) (a := a) (by decide : 4 < 8)]; first | rfl | (simp only [fa74 20 (by decide), fa71 20 (by decide), fa65 20 (by decide), fa61 20 (by decide), kg1.fa 20 rfl, sMn, sMx, cCoin, cT]; done) | (simp only [fa74 20 (by decide), fa71 20 (by decide), fa65 20 (by decide), fa61 20 (by decide), kg1.fa 20 rfl, sMn, sMx, cCoin, cT]; rfl)) (cG_f (c := x1) (T := (cT 1 i a)) (u := 4) (oc1 z56.1) (oc37 w72))) | 5, _ => (Eq.trans (show a74 21 = cRow 1 a 5 from by rw [cRow_lt (p := 1) (a := a) (by decide : 5 < 8)]; first | rfl | (simp only [fa74 21 (by decide), fa71 21 (by decide), fa65 21 (by decide), fa61 21 (by decide), kg1.fa 21 rfl, sMn, sMx, cCoin, cT]; done) | (simp only [fa74 21 (by decide), fa71 21 (by decide), fa65 21 (by decide), fa61 21 (by decide), kg1.fa 21 rfl, sMn, sMx, cCoin, cT]; rfl)) (cG_f (c := x1) (T := (cT 1 i a)) (u := 5) (oc1 z56.1) (oc38 w72))) | 6, _ => (Eq.trans (show a74 22 = cRow 1 a 6 from by rw [cRow_lt (p := 1) (a := a) (by decide : 6 < 8)]; first | rfl | (simp only [fa74 22 (by decide), fa71 22 (by decide), fa65 22 (by decide), fa61 22 (by decide), kg1.fa 22 rfl, sMn, sMx, cCoin, cT]; done) | (simp only [fa74 22 (by decide), fa71 22 (by decide), fa65 22 (by decide), fa61 22 (by decide), kg1.fa 22 rfl, sMn, sMx, cCoin, cT]; rfl)) (cG_f (c := x1) (T := (cT 1 i a)) (u := 6) (oc1 z56.1) (oc39 w72))) | 7, _ => (Eq.trans (show a74 23 = cRow 1 a 7 from by rw [cRow_lt (p := 1) (a := a) (by decide : 7 < 8)]; first | rfl | (simp only [fa74 23 (by decide), fa71 23 (by decide), fa65 23 (by decide), fa61 23 (by decide), kg1.fa 23 rfl, sMn, sMx, cCoin, cT]; done) | (simp only [fa74 23 (by decide), fa71 23 (by decide), fa65 23 (by decide), fa61 23 (by decide), kg1.fa 23 rfl, sMn, sMx, cCoin, cT]; rfl)) (cG_f (c := x1) (T := (cT 1 i a)) (u := 7) (oc1 z56.1) (oc40 w72))) | _ + 8, h => absurd h (by omega)) (fun u hu => (cG_f (c := x1) (T := (cT 1 i a)) (oc1 z56.1) (kj_big hu (oc41 w72))).symm.trans (cRow_ge hu))).trans (show cGive x1 (cT 1 i a) = cPay (i 64) x1 (cT 1 i a) from (if_pos (oc32 c54 efig1_64 hp0.1 w72 z56.1 z56.2)).symm))⟩)
        by_cases w75 : ((a 8).getD (0 : Int32).toNatClampNeg 0).toInt = 1
        ·
          refine ft_alx mi_k30 (pc := 128) (v := 1) (p := 15) (z := 17) (kj_eq w75 (by decide) : ((a 8).getD (0 : Int32).toNatClampNeg 0) = 1) (by decide +kernel) (by decide +kernel) ?_
          first | refine fo_goS mi_k30 fz30_129_2_131 [.int x1, .ref 17, .int x1, .ref 17] (by rfl) ?_ | refine ft_go mi_k30 2 131 [(4, .int m57), (3, .int ((a 9).getD (0 : Int32).toNatClampNeg 0)), (2, .int ((a 8).getD (0 : Int32).toNatClampNeg 0)), (0, .ref 1), (1, .int x1)] [.int x1, .ref 17, .int x1, .ref 17] (ku (ku ig1 78 ((a 8).getD (0 : Int32).toNatClampNeg 0)) 79 ((ig1 79) + m57)) a71 qg1 rg1 (by rfl) ?_ | refine ko_steps mi_in30 2 _ (131, [(4, .int m57), (3, .int ((a 9).getD (0 : Int32).toNatClampNeg 0)), (2, .int ((a 8).getD (0 : Int32).toNatClampNeg 0)), (0, .ref 1), (1, .int x1)], [.int x1, .ref 17, .int x1, .ref 17], (0, 0), ks (ku (ku ig1 78 ((a 8).getD (0 : Int32).toNatClampNeg 0)) 79 ((ig1 79) + m57)) a71 qg1 rg1) (by rfl) ?_
          refine ko_iald3 mi_k30.1 (n := 8) (c := 8) (ax := (0, 0, 0, 0, 0)) (mi_k30.2 _ _ (by rfl)) (by rfl) (ksG17 _ _ _ _) (hJ71.I.2.1 17) rfl (oc1 hp0.1) (oc28 hp0.2) ?_
          have b76 : ((-2147483648 : Int) ≤ ((a71 17).getD x1.toNatClampNeg 0).toInt) ∧ (((a71 17).getD x1.toNatClampNeg 0).toInt ≤ 2147483647) := kd_bd ((a71 17).getD x1.toNatClampNeg 0)
          first | refine fo_goS mi_k30 fz30_132_2_135 [.int (((a71 17).getD x1.toNatClampNeg 0) + m57), .int x1, .ref 17] (by rfl) ?_ | refine ft_go mi_k30 2 135 [(4, .int m57), (3, .int ((a 9).getD (0 : Int32).toNatClampNeg 0)), (2, .int ((a 8).getD (0 : Int32).toNatClampNeg 0)), (0, .ref 1), (1, .int x1)] [.int (((a71 17).getD x1.toNatClampNeg 0) + m57), .int x1, .ref 17] (ku (ku ig1 78 ((a 8).getD (0 : Int32).toNatClampNeg 0)) 79 ((ig1 79) + m57)) a71 qg1 rg1 (by rfl) ?_ | refine ko_steps mi_in30 2 _ (135, [(4, .int m57), (3, .int ((a 9).getD (0 : Int32).toNatClampNeg 0)), (2, .int ((a 8).getD (0 : Int32).toNatClampNeg 0)), (0, .ref 1), (1, .int x1)], [.int (((a71 17).getD x1.toNatClampNeg 0) + m57), .int x1, .ref 17], (0, 0), ks (ku (ku ig1 78 ((a 8).getD (0 : Int32).toNatClampNeg 0)) 79 ((ig1 79) + m57)) a71 qg1 rg1) (by rfl) ?_
          refine ko_iast3 mi_k30.1 (n := 8) (c := 8) (ax := (0, 0, 0, 0, 0)) (mi_k30.2 _ _ (by rfl)) (by rfl) (ksG17 _ _ _ _) (ksA17 _ _ _ _) (hJ71.I.2.1 17) rfl (oc1 hp0.1) (oc28 hp0.2) ?_
          intro a77 ea77 fa77
          have hJ77 := kG_a3 hJ71 17 rfl ea77 fa77 (kd_bd _)
          exact ft_ret mi_k30 (by rfl) (hP  _ _ _ _ hJ77 ⟨(oc20 z2), ((cT_eq (p := 1) (i := ku (ku ig1 78 ((a 8).getD (0 : Int32).toNatClampNeg 0)) 79 ((ig1 79) + m57)) (a := a77) (T := cGive x1 (cT 1 i a)) (show ig1 450 = (cGive x1 (cT 1 i a)).1 from by first | rfl | (simp only [q3, sMn, sMx, cGive, cRest, cCoin, cT]; done) | (simp only [q3, sMn, sMx, cGive, cRest, cCoin, cT]; rfl)) (show a77 8 = (cGive x1 (cT 1 i a)).2.1 from by first | rfl | (simp only [fa77 8 (by decide), fa71 8 (by decide), fa65 8 (by decide), fa61 8 (by decide), q4, sMn, sMx, cGive, cRest, cCoin, cT]; done) | (simp only [fa77 8 (by decide), fa71 8 (by decide), fa65 8 (by decide), fa61 8 (by decide), q4, sMn, sMx, cGive, cRest, cCoin, cT]; rfl)) (show a77 9 = (cGive x1 (cT 1 i a)).2.2.1 from by first | rfl | (simp only [fa77 9 (by decide), fa71 9 (by decide), fa65 9 (by decide), fa61 9 (by decide), q5, sMn, sMx, cGive, cRest, cCoin, cT]; done) | (simp only [fa77 9 (by decide), fa71 9 (by decide), fa65 9 (by decide), fa61 9 (by decide), q5, sMn, sMx, cGive, cRest, cCoin, cT]; rfl)) (show a77 2 = (cGive x1 (cT 1 i a)).2.2.2.1 from by first | rfl | (simp only [fa77 2 (by decide), fa71 2 (by decide), ea65, ea61, qm63, qm57, kg1.fa 2 rfl, sMn, sMx, cGive, cRest, cCoin, cT]; done) | (simp only [fa77 2 (by decide), fa71 2 (by decide), ea65, ea61, qm63, qm57, kg1.fa 2 rfl, sMn, sMx, cGive, cRest, cCoin, cT]; rfl)) (cY_pos (y := i 78) (d := (a 8).getD 0 0) (oc119 c51 efig1_78 koc8)) (show ((ig1 79) + m57) = (cGive x1 (cT 1 i a)).2.2.2.2.2.1 from by first | rfl | (simp only [(kg1.fi 79 rfl : ig1 79 = i 79), qm57, kg1.fa 2 rfl, sMn, sMx, cGive, cRest, cCoin, cT]; done) | (simp only [(kg1.fi 79 rfl : ig1 79 = i 79), qm57, kg1.fa 2 rfl, sMn, sMx, cGive, cRest, cCoin, cT]; rfl)) (show a77 14 = (cGive x1 (cT 1 i a)).2.2.2.2.2.2.1 from by first | rfl | (simp only [fa77 14 (by decide), ea71, fa65 14 (by decide), qm57, kg1.fa 2 rfl, fa61 14 (by decide), kg1.fa 14 rfl, sMn, sMx, cGive, cRest, cCoin, cT]; done) | (simp only [fa77 14 (by decide), ea71, fa65 14 (by decide), qm57, kg1.fa 2 rfl, fa61 14 (by decide), kg1.fa 14 rfl, sMn, sMx, cGive, cRest, cCoin, cT]; rfl)) (fun u hu => match u, hu with | 0, _ => (Eq.trans (show a77 16 = cRow 1 a 0 from by rw [cRow_lt (p := 1) (a := a) (by decide : 0 < 8)]; first | rfl | (simp only [fa77 16 (by decide), fa71 16 (by decide), fa65 16 (by decide), fa61 16 (by decide), kg1.fa 16 rfl, sMn, sMx, cCoin, cT]; done) | (simp only [fa77 16 (by decide), fa71 16 (by decide), fa65 16 (by decide), fa61 16 (by decide), kg1.fa 16 rfl, sMn, sMx, cCoin, cT]; rfl)) (cG_f (c := x1) (T := (cT 1 i a)) (u := 0) (oc15 w75) (oc43 w75))) | 1, _ => (Eq.trans (show a77 17 = (cRow 1 a 1).set x1.toNatClampNeg ((cRow 1 a 1).getD x1.toNatClampNeg 0 + cCoin (cT 1 i a)) from by rw [cRow_lt (p := 1) (a := a) (by decide : 1 < 8)]; first | rfl | (simp only [ea77, fa71 17 (by decide), qm57, kg1.fa 2 rfl, fa65 17 (by decide), fa61 17 (by decide), kg1.fa 17 rfl, sMn, sMx, cCoin, cT]; done) | (simp only [ea77, fa71 17 (by decide), qm57, kg1.fa 2 rfl, fa65 17 (by decide), fa61 17 (by decide), kg1.fa 17 rfl, sMn, sMx, cCoin, cT]; rfl)) (cG_t (c := x1) (T := (cT 1 i a)) (u := 1) (oc44 w75))) | 2, _ => (Eq.trans (show a77 18 = cRow 1 a 2 from by rw [cRow_lt (p := 1) (a := a) (by decide : 2 < 8)]; first | rfl | (simp only [fa77 18 (by decide), fa71 18 (by decide), fa65 18 (by decide), fa61 18 (by decide), kg1.fa 18 rfl, sMn, sMx, cCoin, cT]; done) | (simp only [fa77 18 (by decide), fa71 18 (by decide), fa65 18 (by decide), fa61 18 (by decide), kg1.fa 18 rfl, sMn, sMx, cCoin, cT]; rfl)) (cG_f (c := x1) (T := (cT 1 i a)) (u := 2) (oc15 w75) (oc45 w75))) | 3, _ => (Eq.trans (show a77 19 = cRow 1 a 3 from by rw [cRow_lt (p := 1) (a := a) (by decide : 3 < 8)]; first | rfl | (simp only [fa77 19 (by decide), fa71 19 (by decide), fa65 19 (by decide), fa61 19 (by decide), kg1.fa 19 rfl, sMn, sMx, cCoin, cT]; done) | (simp only [fa77 19 (by decide), fa71 19 (by decide), fa65 19 (by decide), fa61 19 (by decide), kg1.fa 19 rfl, sMn, sMx, cCoin, cT]; rfl)) (cG_f (c := x1) (T := (cT 1 i a)) (u := 3) (oc15 w75) (oc46 w75))) | 4, _ => (Eq.trans (show a77 20 = cRow 1 a 4 from by rw [cRow_lt (p := 1) (a := a) (by decide : 4 < 8)]; first | rfl | (simp only [fa77 20 (by decide), fa71 20 (by decide), fa65 20 (by decide), fa61 20 (by decide), kg1.fa 20 rfl, sMn, sMx, cCoin, cT]; done) | (simp only [fa77 20 (by decide), fa71 20 (by decide), fa65 20 (by decide), fa61 20 (by decide), kg1.fa 20 rfl, sMn, sMx, cCoin, cT]; rfl)) (cG_f (c := x1) (T := (cT 1 i a)) (u := 4) (oc15 w75) (oc47 w75))) | 5, _ => (Eq.trans (show a77 21 = cRow 1 a 5 from by rw [cRow_lt (p := 1) (a := a) (by decide : 5 < 8)]; first | rfl | (simp only [fa77 21 (by decide), fa71 21 (by decide), fa65 21 (by decide), fa61 21 (by decide), kg1.fa 21 rfl, sMn, sMx, cCoin, cT]; done) | (simp only [fa77 21 (by decide), fa71 21 (by decide), fa65 21 (by decide), fa61 21 (by decide), kg1.fa 21 rfl, sMn, sMx, cCoin, cT]; rfl)) (cG_f (c := x1) (T := (cT 1 i a)) (u := 5) (oc15 w75) (oc48 w75))) | 6, _ => (Eq.trans (show a77 22 = cRow 1 a 6 from by rw [cRow_lt (p := 1) (a := a) (by decide : 6 < 8)]; first | rfl | (simp only [fa77 22 (by decide), fa71 22 (by decide), fa65 22 (by decide), fa61 22 (by decide), kg1.fa 22 rfl, sMn, sMx, cCoin, cT]; done) | (simp only [fa77 22 (by decide), fa71 22 (by decide), fa65 22 (by decide), fa61 22 (by decide), kg1.fa 22 rfl, sMn, sMx, cCoin, cT]; rfl)) (cG_f (c := x1) (T := (cT 1 i a)) (u := 6) (oc15 w75) (oc49 w75))) | 7, _ => (Eq.trans (show a77 23 = cRow 1 a 7 from by rw [cRow_lt (p := 1) (a := a) (by decide : 7 < 8)]; first | rfl | (simp only [fa77 23 (by decide), fa71 23 (by decide), fa65 23 (by decide), fa61 23 (by decide), kg1.fa 23 rfl, sMn, sMx, cCoin, cT]; done) | (simp only [fa77 23 (by decide), fa71 23 (by decide), fa65 23 (by decide), fa61 23 (by decide), kg1.fa 23 rfl, sMn, sMx, cCoin, cT]; rfl)) (cG_f (c := x1) (T := (cT 1 i a)) (u := 7) (oc15 w75) (oc50 w75))) | _ + 8, h => absurd h (by omega)) (fun u hu => (cG_f (c := x1) (T := (cT 1 i a)) (oc15 w75) (kj_big hu (oc51 w75))).symm.trans (cRow_ge hu))).trans (show cGive x1 (cT 1 i a) = cPay (i 64) x1 (cT 1 i a) from (if_pos (oc42 c54 efig1_64 w75 z56.2)).symm))⟩)
        by_cases w78 : ((a 8).getD (0 : Int32).toNatClampNeg 0).toInt = 2
        ·
          refine ft_alx mi_k30 (pc := 128) (v := 2) (p := 15) (z := 18) (kj_eq w78 (by decide) : ((a 8).getD (0 : Int32).toNatClampNeg 0) = 2) (by decide +kernel) (by decide +kernel) ?_
          first | refine fo_goS mi_k30 fz30_129_2_131 [.int x1, .ref 18, .int x1, .ref 18] (by rfl) ?_ | refine ft_go mi_k30 2 131 [(4, .int m57), (3, .int ((a 9).getD (0 : Int32).toNatClampNeg 0)), (2, .int ((a 8).getD (0 : Int32).toNatClampNeg 0)), (0, .ref 1), (1, .int x1)] [.int x1, .ref 18, .int x1, .ref 18] (ku (ku ig1 78 ((a 8).getD (0 : Int32).toNatClampNeg 0)) 79 ((ig1 79) + m57)) a71 qg1 rg1 (by rfl) ?_ | refine ko_steps mi_in30 2 _ (131, [(4, .int m57), (3, .int ((a 9).getD (0 : Int32).toNatClampNeg 0)), (2, .int ((a 8).getD (0 : Int32).toNatClampNeg 0)), (0, .ref 1), (1, .int x1)], [.int x1, .ref 18, .int x1, .ref 18], (0, 0), ks (ku (ku ig1 78 ((a 8).getD (0 : Int32).toNatClampNeg 0)) 79 ((ig1 79) + m57)) a71 qg1 rg1) (by rfl) ?_
          refine ko_iald3 mi_k30.1 (n := 8) (c := 8) (ax := (0, 0, 0, 0, 0)) (mi_k30.2 _ _ (by rfl)) (by rfl) (ksG18 _ _ _ _) (hJ71.I.2.1 18) rfl (oc1 hp0.1) (oc28 hp0.2) ?_
          have b79 : ((-2147483648 : Int) ≤ ((a71 18).getD x1.toNatClampNeg 0).toInt) ∧ (((a71 18).getD x1.toNatClampNeg 0).toInt ≤ 2147483647) := kd_bd ((a71 18).getD x1.toNatClampNeg 0)
          first | refine fo_goS mi_k30 fz30_132_2_135 [.int (((a71 18).getD x1.toNatClampNeg 0) + m57), .int x1, .ref 18] (by rfl) ?_ | refine ft_go mi_k30 2 135 [(4, .int m57), (3, .int ((a 9).getD (0 : Int32).toNatClampNeg 0)), (2, .int ((a 8).getD (0 : Int32).toNatClampNeg 0)), (0, .ref 1), (1, .int x1)] [.int (((a71 18).getD x1.toNatClampNeg 0) + m57), .int x1, .ref 18] (ku (ku ig1 78 ((a 8).getD (0 : Int32).toNatClampNeg 0)) 79 ((ig1 79) + m57)) a71 qg1 rg1 (by rfl) ?_ | refine ko_steps mi_in30 2 _ (135, [(4, .int m57), (3, .int ((a 9).getD (0 : Int32).toNatClampNeg 0)), (2, .int ((a 8).getD (0 : Int32).toNatClampNeg 0)), (0, .ref 1), (1, .int x1)], [.int (((a71 18).getD x1.toNatClampNeg 0) + m57), .int x1, .ref 18], (0, 0), ks (ku (ku ig1 78 ((a 8).getD (0 : Int32).toNatClampNeg 0)) 79 ((ig1 79) + m57)) a71 qg1 rg1) (by rfl) ?_
          refine ko_iast3 mi_k30.1 (n := 8) (c := 8) (ax := (0, 0, 0, 0, 0)) (mi_k30.2 _ _ (by rfl)) (by rfl) (ksG18 _ _ _ _) (ksA18 _ _ _ _) (hJ71.I.2.1 18) rfl (oc1 hp0.1) (oc28 hp0.2) ?_
          intro a80 ea80 fa80
          have hJ80 := kG_a3 hJ71 18 rfl ea80 fa80 (kd_bd _)
          exact ft_ret mi_k30 (by rfl) (hP  _ _ _ _ hJ80 ⟨(oc20 z2), ((cT_eq (p := 1) (i := ku (ku ig1 78 ((a 8).getD (0 : Int32).toNatClampNeg 0)) 79 ((ig1 79) + m57)) (a := a80) (T := cGive x1 (cT 1 i a)) (show ig1 450 = (cGive x1 (cT 1 i a)).1 from by first | rfl | (simp only [q3, sMn, sMx, cGive, cRest, cCoin, cT]; done) | (simp only [q3, sMn, sMx, cGive, cRest, cCoin, cT]; rfl)) (show a80 8 = (cGive x1 (cT 1 i a)).2.1 from by first | rfl | (simp only [fa80 8 (by decide), fa71 8 (by decide), fa65 8 (by decide), fa61 8 (by decide), q4, sMn, sMx, cGive, cRest, cCoin, cT]; done) | (simp only [fa80 8 (by decide), fa71 8 (by decide), fa65 8 (by decide), fa61 8 (by decide), q4, sMn, sMx, cGive, cRest, cCoin, cT]; rfl)) (show a80 9 = (cGive x1 (cT 1 i a)).2.2.1 from by first | rfl | (simp only [fa80 9 (by decide), fa71 9 (by decide), fa65 9 (by decide), fa61 9 (by decide), q5, sMn, sMx, cGive, cRest, cCoin, cT]; done) | (simp only [fa80 9 (by decide), fa71 9 (by decide), fa65 9 (by decide), fa61 9 (by decide), q5, sMn, sMx, cGive, cRest, cCoin, cT]; rfl)) (show a80 2 = (cGive x1 (cT 1 i a)).2.2.2.1 from by first | rfl | (simp only [fa80 2 (by decide), fa71 2 (by decide), ea65, ea61, qm63, qm57, kg1.fa 2 rfl, sMn, sMx, cGive, cRest, cCoin, cT]; done) | (simp only [fa80 2 (by decide), fa71 2 (by decide), ea65, ea61, qm63, qm57, kg1.fa 2 rfl, sMn, sMx, cGive, cRest, cCoin, cT]; rfl)) (cY_pos (y := i 78) (d := (a 8).getD 0 0) (oc119 c51 efig1_78 koc8)) (show ((ig1 79) + m57) = (cGive x1 (cT 1 i a)).2.2.2.2.2.1 from by first | rfl | (simp only [(kg1.fi 79 rfl : ig1 79 = i 79), qm57, kg1.fa 2 rfl, sMn, sMx, cGive, cRest, cCoin, cT]; done) | (simp only [(kg1.fi 79 rfl : ig1 79 = i 79), qm57, kg1.fa 2 rfl, sMn, sMx, cGive, cRest, cCoin, cT]; rfl)) (show a80 14 = (cGive x1 (cT 1 i a)).2.2.2.2.2.2.1 from by first | rfl | (simp only [fa80 14 (by decide), ea71, fa65 14 (by decide), qm57, kg1.fa 2 rfl, fa61 14 (by decide), kg1.fa 14 rfl, sMn, sMx, cGive, cRest, cCoin, cT]; done) | (simp only [fa80 14 (by decide), ea71, fa65 14 (by decide), qm57, kg1.fa 2 rfl, fa61 14 (by decide), kg1.fa 14 rfl, sMn, sMx, cGive, cRest, cCoin, cT]; rfl)) (fun u hu => match u, hu with | 0, _ => (Eq.trans (show a80 16 = cRow 1 a 0 from by rw [cRow_lt (p := 1) (a := a) (by decide : 0 < 8)]; first | rfl | (simp only [fa80 16 (by decide), fa71 16 (by decide), fa65 16 (by decide), fa61 16 (by decide), kg1.fa 16 rfl, sMn, sMx, cCoin, cT]; done) | (simp only [fa80 16 (by decide), fa71 16 (by decide), fa65 16 (by decide), fa61 16 (by decide), kg1.fa 16 rfl, sMn, sMx, cCoin, cT]; rfl)) (cG_f (c := x1) (T := (cT 1 i a)) (u := 0) (oc29 w78) (oc53 w78))) | 1, _ => (Eq.trans (show a80 17 = cRow 1 a 1 from by rw [cRow_lt (p := 1) (a := a) (by decide : 1 < 8)]; first | rfl | (simp only [fa80 17 (by decide), fa71 17 (by decide), fa65 17 (by decide), fa61 17 (by decide), kg1.fa 17 rfl, sMn, sMx, cCoin, cT]; done) | (simp only [fa80 17 (by decide), fa71 17 (by decide), fa65 17 (by decide), fa61 17 (by decide), kg1.fa 17 rfl, sMn, sMx, cCoin, cT]; rfl)) (cG_f (c := x1) (T := (cT 1 i a)) (u := 1) (oc29 w78) (oc54 w78))) | 2, _ => (Eq.trans (show a80 18 = (cRow 1 a 2).set x1.toNatClampNeg ((cRow 1 a 2).getD x1.toNatClampNeg 0 + cCoin (cT 1 i a)) from by rw [cRow_lt (p := 1) (a := a) (by decide : 2 < 8)]; first | rfl | (simp only [ea80, fa71 18 (by decide), qm57, kg1.fa 2 rfl, fa65 18 (by decide), fa61 18 (by decide), kg1.fa 18 rfl, sMn, sMx, cCoin, cT]; done) | (simp only [ea80, fa71 18 (by decide), qm57, kg1.fa 2 rfl, fa65 18 (by decide), fa61 18 (by decide), kg1.fa 18 rfl, sMn, sMx, cCoin, cT]; rfl)) (cG_t (c := x1) (T := (cT 1 i a)) (u := 2) (oc55 w78))) | 3, _ => (Eq.trans (show a80 19 = cRow 1 a 3 from by rw [cRow_lt (p := 1) (a := a) (by decide : 3 < 8)]; first | rfl | (simp only [fa80 19 (by decide), fa71 19 (by decide), fa65 19 (by decide), fa61 19 (by decide), kg1.fa 19 rfl, sMn, sMx, cCoin, cT]; done) | (simp only [fa80 19 (by decide), fa71 19 (by decide), fa65 19 (by decide), fa61 19 (by decide), kg1.fa 19 rfl, sMn, sMx, cCoin, cT]; rfl)) (cG_f (c := x1) (T := (cT 1 i a)) (u := 3) (oc29 w78) (oc56 w78))) | 4, _ => (Eq.trans (show a80 20 = cRow 1 a 4 from by rw [cRow_lt (p := 1) (a := a) (by decide : 4 < 8)]; first | rfl | (simp only [fa80 20 (by decide), fa71 20 (by decide), fa65 20 (by decide), fa61 20 (by decide), kg1.fa 20 rfl, sMn, sMx, cCoin, cT]; done) | (simp only [fa80 20 (by decide), fa71 20 (by decide), fa65 20 (by decide), fa61 20 (by decide), kg1.fa 20 rfl, sMn, sMx, cCoin, cT]; rfl)) (cG_f (c := x1) (T := (cT 1 i a)) (u := 4) (oc29 w78) (oc57 w78))) | 5, _ => (Eq.trans (show a80 21 = cRow 1 a 5 from by rw [cRow_lt (p := 1) (a := a) (by decide : 5 < 8)]; first | rfl | (simp only [fa80 21 (by decide), fa71 21 (by decide), fa65 21 (by decide), fa61 21 (by decide), kg1.fa 21 rfl, sMn, sMx, cCoin, cT]; done) | (simp only [fa80 21 (by decide), fa71 21 (by decide), fa65 21 (by decide), fa61 21 (by decide), kg1.fa 21 rfl, sMn, sMx, cCoin, cT]; rfl)) (cG_f (c := x1) (T := (cT 1 i a)) (u := 5) (oc29 w78) (oc58 w78))) | 6, _ => (Eq.trans (show a80 22 = cRow 1 a 6 from by rw [cRow_lt (p := 1) (a := a) (by decide : 6 < 8)]; first | rfl | (simp only [fa80 22 (by decide), fa71 22 (by decide), fa65 22 (by decide), fa61 22 (by decide), kg1.fa 22 rfl, sMn, sMx, cCoin, cT]; done) | (simp only [fa80 22 (by decide), fa71 22 (by decide), fa65 22 (by decide), fa61 22 (by decide), kg1.fa 22 rfl, sMn, sMx, cCoin, cT]; rfl)) (cG_f (c := x1) (T := (cT 1 i a)) (u := 6) (oc29 w78) (oc59 w78))) | 7, _ => (Eq.trans (show a80 23 = cRow 1 a 7 from by rw [cRow_lt (p := 1) (a := a) (by decide : 7 < 8)]; first | rfl | (simp only [fa80 23 (by decide), fa71 23 (by decide), fa65 23 (by decide), fa61 23 (by decide), kg1.fa 23 rfl, sMn, sMx, cCoin, cT]; done) | (simp only [fa80 23 (by decide), fa71 23 (by decide), fa65 23 (by decide), fa61 23 (by decide), kg1.fa 23 rfl, sMn, sMx, cCoin, cT]; rfl)) (cG_f (c := x1) (T := (cT 1 i a)) (u := 7) (oc29 w78) (oc60 w78))) | _ + 8, h => absurd h (by omega)) (fun u hu => (cG_f (c := x1) (T := (cT 1 i a)) (oc29 w78) (kj_big hu (oc61 w78))).symm.trans (cRow_ge hu))).trans (show cGive x1 (cT 1 i a) = cPay (i 64) x1 (cT 1 i a) from (if_pos (oc52 c54 efig1_64 w78 z56.2)).symm))⟩)
        by_cases w81 : ((a 8).getD (0 : Int32).toNatClampNeg 0).toInt = 3
        ·
          refine ft_alx mi_k30 (pc := 128) (v := 3) (p := 15) (z := 19) (kj_eq w81 (by decide) : ((a 8).getD (0 : Int32).toNatClampNeg 0) = 3) (by decide +kernel) (by decide +kernel) ?_
          first | refine fo_goS mi_k30 fz30_129_2_131 [.int x1, .ref 19, .int x1, .ref 19] (by rfl) ?_ | refine ft_go mi_k30 2 131 [(4, .int m57), (3, .int ((a 9).getD (0 : Int32).toNatClampNeg 0)), (2, .int ((a 8).getD (0 : Int32).toNatClampNeg 0)), (0, .ref 1), (1, .int x1)] [.int x1, .ref 19, .int x1, .ref 19] (ku (ku ig1 78 ((a 8).getD (0 : Int32).toNatClampNeg 0)) 79 ((ig1 79) + m57)) a71 qg1 rg1 (by rfl) ?_ | refine ko_steps mi_in30 2 _ (131, [(4, .int m57), (3, .int ((a 9).getD (0 : Int32).toNatClampNeg 0)), (2, .int ((a 8).getD (0 : Int32).toNatClampNeg 0)), (0, .ref 1), (1, .int x1)], [.int x1, .ref 19, .int x1, .ref 19], (0, 0), ks (ku (ku ig1 78 ((a 8).getD (0 : Int32).toNatClampNeg 0)) 79 ((ig1 79) + m57)) a71 qg1 rg1) (by rfl) ?_
          refine ko_iald3 mi_k30.1 (n := 8) (c := 8) (ax := (0, 0, 0, 0, 0)) (mi_k30.2 _ _ (by rfl)) (by rfl) (ksG19 _ _ _ _) (hJ71.I.2.1 19) rfl (oc1 hp0.1) (oc28 hp0.2) ?_
          have b82 : ((-2147483648 : Int) ≤ ((a71 19).getD x1.toNatClampNeg 0).toInt) ∧ (((a71 19).getD x1.toNatClampNeg 0).toInt ≤ 2147483647) := kd_bd ((a71 19).getD x1.toNatClampNeg 0)
          first | refine fo_goS mi_k30 fz30_132_2_135 [.int (((a71 19).getD x1.toNatClampNeg 0) + m57), .int x1, .ref 19] (by rfl) ?_ | refine ft_go mi_k30 2 135 [(4, .int m57), (3, .int ((a 9).getD (0 : Int32).toNatClampNeg 0)), (2, .int ((a 8).getD (0 : Int32).toNatClampNeg 0)), (0, .ref 1), (1, .int x1)] [.int (((a71 19).getD x1.toNatClampNeg 0) + m57), .int x1, .ref 19] (ku (ku ig1 78 ((a 8).getD (0 : Int32).toNatClampNeg 0)) 79 ((ig1 79) + m57)) a71 qg1 rg1 (by rfl) ?_ | refine ko_steps mi_in30 2 _ (135, [(4, .int m57), (3, .int ((a 9).getD (0 : Int32).toNatClampNeg 0)), (2, .int ((a 8).getD (0 : Int32).toNatClampNeg 0)), (0, .ref 1), (1, .int x1)], [.int (((a71 19).getD x1.toNatClampNeg 0) + m57), .int x1, .ref 19], (0, 0), ks (ku (ku ig1 78 ((a 8).getD (0 : Int32).toNatClampNeg 0)) 79 ((ig1 79) + m57)) a71 qg1 rg1) (by rfl) ?_
          refine ko_iast3 mi_k30.1 (n := 8) (c := 8) (ax := (0, 0, 0, 0, 0)) (mi_k30.2 _ _ (by rfl)) (by rfl) (ksG19 _ _ _ _) (ksA19 _ _ _ _) (hJ71.I.2.1 19) rfl (oc1 hp0.1) (oc28 hp0.2) ?_
          intro a83 ea83 fa83
          have hJ83 := kG_a3 hJ71 19 rfl ea83 fa83 (kd_bd _)
          exact ft_ret mi_k30 (by rfl) (hP  _ _ _ _ hJ83 ⟨(oc20 z2), ((cT_eq (p := 1) (i := ku (ku ig1 78 ((a 8).getD (0 : Int32).toNatClampNeg 0)) 79 ((ig1 79) + m57)) (a := a83) (T := cGive x1 (cT 1 i a)) (show ig1 450 = (cGive x1 (cT 1 i a)).1 from by first | rfl | (simp only [q3, sMn, sMx, cGive, cRest, cCoin, cT]; done) | (simp only [q3, sMn, sMx, cGive, cRest, cCoin, cT]; rfl)) (show a83 8 = (cGive x1 (cT 1 i a)).2.1 from by first | rfl | (simp only [fa83 8 (by decide), fa71 8 (by decide), fa65 8 (by decide), fa61 8 (by decide), q4, sMn, sMx, cGive, cRest, cCoin, cT]; done) | (simp only [fa83 8 (by decide), fa71 8 (by decide), fa65 8 (by decide), fa61 8 (by decide), q4, sMn, sMx, cGive, cRest, cCoin, cT]; rfl)) (show a83 9 = (cGive x1 (cT 1 i a)).2.2.1 from by first | rfl | (simp only [fa83 9 (by decide), fa71 9 (by decide), fa65 9 (by decide), fa61 9 (by decide), q5, sMn, sMx, cGive, cRest, cCoin, cT]; done) | (simp only [fa83 9 (by decide), fa71 9 (by decide), fa65 9 (by decide), fa61 9 (by decide), q5, sMn, sMx, cGive, cRest, cCoin, cT]; rfl)) (show a83 2 = (cGive x1 (cT 1 i a)).2.2.2.1 from by first | rfl | (simp only [fa83 2 (by decide), fa71 2 (by decide), ea65, ea61, qm63, qm57, kg1.fa 2 rfl, sMn, sMx, cGive, cRest, cCoin, cT]; done) | (simp only [fa83 2 (by decide), fa71 2 (by decide), ea65, ea61, qm63, qm57, kg1.fa 2 rfl, sMn, sMx, cGive, cRest, cCoin, cT]; rfl)) (cY_pos (y := i 78) (d := (a 8).getD 0 0) (oc119 c51 efig1_78 koc8)) (show ((ig1 79) + m57) = (cGive x1 (cT 1 i a)).2.2.2.2.2.1 from by first | rfl | (simp only [(kg1.fi 79 rfl : ig1 79 = i 79), qm57, kg1.fa 2 rfl, sMn, sMx, cGive, cRest, cCoin, cT]; done) | (simp only [(kg1.fi 79 rfl : ig1 79 = i 79), qm57, kg1.fa 2 rfl, sMn, sMx, cGive, cRest, cCoin, cT]; rfl)) (show a83 14 = (cGive x1 (cT 1 i a)).2.2.2.2.2.2.1 from by first | rfl | (simp only [fa83 14 (by decide), ea71, fa65 14 (by decide), qm57, kg1.fa 2 rfl, fa61 14 (by decide), kg1.fa 14 rfl, sMn, sMx, cGive, cRest, cCoin, cT]; done) | (simp only [fa83 14 (by decide), ea71, fa65 14 (by decide), qm57, kg1.fa 2 rfl, fa61 14 (by decide), kg1.fa 14 rfl, sMn, sMx, cGive, cRest, cCoin, cT]; rfl)) (fun u hu => match u, hu with | 0, _ => (Eq.trans (show a83 16 = cRow 1 a 0 from by rw [cRow_lt (p := 1) (a := a) (by decide : 0 < 8)]; first | rfl | (simp only [fa83 16 (by decide), fa71 16 (by decide), fa65 16 (by decide), fa61 16 (by decide), kg1.fa 16 rfl, sMn, sMx, cCoin, cT]; done) | (simp only [fa83 16 (by decide), fa71 16 (by decide), fa65 16 (by decide), fa61 16 (by decide), kg1.fa 16 rfl, sMn, sMx, cCoin, cT]; rfl)) (cG_f (c := x1) (T := (cT 1 i a)) (u := 0) (oc63 w81) (oc64 w81))) | 1, _ => (Eq.trans (show a83 17 = cRow 1 a 1 from by rw [cRow_lt (p := 1) (a := a) (by decide : 1 < 8)]; first | rfl | (simp only [fa83 17 (by decide), fa71 17 (by decide), fa65 17 (by decide), fa61 17 (by decide), kg1.fa 17 rfl, sMn, sMx, cCoin, cT]; done) | (simp only [fa83 17 (by decide), fa71 17 (by decide), fa65 17 (by decide), fa61 17 (by decide), kg1.fa 17 rfl, sMn, sMx, cCoin, cT]; rfl)) (cG_f (c := x1) (T := (cT 1 i a)) (u := 1) (oc63 w81) (oc65 w81))) | 2, _ => (Eq.trans (show a83 18 = cRow 1 a 2 from by rw [cRow_lt (p := 1) (a := a) (by decide : 2 < 8)]; first | rfl | (simp only [fa83 18 (by decide), fa71 18 (by decide), fa65 18 (by decide), fa61 18 (by decide), kg1.fa 18 rfl, sMn, sMx, cCoin, cT]; done) | (simp only [fa83 18 (by decide), fa71 18 (by decide), fa65 18 (by decide), fa61 18 (by decide), kg1.fa 18 rfl, sMn, sMx, cCoin, cT]; rfl)) (cG_f (c := x1) (T := (cT 1 i a)) (u := 2) (oc63 w81) (oc66 w81))) | 3, _ => (Eq.trans (show a83 19 = (cRow 1 a 3).set x1.toNatClampNeg ((cRow 1 a 3).getD x1.toNatClampNeg 0 + cCoin (cT 1 i a)) from by rw [cRow_lt (p := 1) (a := a) (by decide : 3 < 8)]; first | rfl | (simp only [ea83, fa71 19 (by decide), qm57, kg1.fa 2 rfl, fa65 19 (by decide), fa61 19 (by decide), kg1.fa 19 rfl, sMn, sMx, cCoin, cT]; done) | (simp only [ea83, fa71 19 (by decide), qm57, kg1.fa 2 rfl, fa65 19 (by decide), fa61 19 (by decide), kg1.fa 19 rfl, sMn, sMx, cCoin, cT]; rfl)) (cG_t (c := x1) (T := (cT 1 i a)) (u := 3) (oc67 w81))) | 4, _ => (Eq.trans (show a83 20 = cRow 1 a 4 from by rw [cRow_lt (p := 1) (a := a) (by decide : 4 < 8)]; first | rfl | (simp only [fa83 20 (by decide), fa71 20 (by decide), fa65 20 (by decide), fa61 20 (by decide), kg1.fa 20 rfl, sMn, sMx, cCoin, cT]; done) | (simp only [fa83 20 (by decide), fa71 20 (by decide), fa65 20 (by decide), fa61 20 (by decide), kg1.fa 20 rfl, sMn, sMx, cCoin, cT]; rfl)) (cG_f (c := x1) (T := (cT 1 i a)) (u := 4) (oc63 w81) (oc68 w81))) | 5, _ => (Eq.trans (show a83 21 = cRow 1 a 5 from by rw [cRow_lt (p := 1) (a := a) (by decide : 5 < 8)]; first | rfl | (simp only [fa83 21 (by decide), fa71 21 (by decide), fa65 21 (by decide), fa61 21 (by decide), kg1.fa 21 rfl, sMn, sMx, cCoin, cT]; done) | (simp only [fa83 21 (by decide), fa71 21 (by decide), fa65 21 (by decide), fa61 21 (by decide), kg1.fa 21 rfl, sMn, sMx, cCoin, cT]; rfl)) (cG_f (c := x1) (T := (cT 1 i a)) (u := 5) (oc63 w81) (oc69 w81))) | 6, _ => (Eq.trans (show a83 22 = cRow 1 a 6 from by rw [cRow_lt (p := 1) (a := a) (by decide : 6 < 8)]; first | rfl | (simp only [fa83 22 (by decide), fa71 22 (by decide), fa65 22 (by decide), fa61 22 (by decide), kg1.fa 22 rfl, sMn, sMx, cCoin, cT]; done) | (simp only [fa83 22 (by decide), fa71 22 (by decide), fa65 22 (by decide), fa61 22 (by decide), kg1.fa 22 rfl, sMn, sMx, cCoin, cT]; rfl)) (cG_f (c := x1) (T := (cT 1 i a)) (u := 6) (oc63 w81) (oc70 w81))) | 7, _ => (Eq.trans (show a83 23 = cRow 1 a 7 from by rw [cRow_lt (p := 1) (a := a) (by decide : 7 < 8)]; first | rfl | (simp only [fa83 23 (by decide), fa71 23 (by decide), fa65 23 (by decide), fa61 23 (by decide), kg1.fa 23 rfl, sMn, sMx, cCoin, cT]; done) | (simp only [fa83 23 (by decide), fa71 23 (by decide), fa65 23 (by decide), fa61 23 (by decide), kg1.fa 23 rfl, sMn, sMx, cCoin, cT]; rfl)) (cG_f (c := x1) (T := (cT 1 i a)) (u := 7) (oc63 w81) (oc71 w81))) | _ + 8, h => absurd h (by omega)) (fun u hu => (cG_f (c := x1) (T := (cT 1 i a)) (oc63 w81) (kj_big hu (oc72 w81))).symm.trans (cRow_ge hu))).trans (show cGive x1 (cT 1 i a) = cPay (i 64) x1 (cT 1 i a) from (if_pos (oc62 c54 efig1_64 w81 z56.2)).symm))⟩)
        by_cases w84 : ((a 8).getD (0 : Int32).toNatClampNeg 0).toInt = 4
        ·
          refine ft_alx mi_k30 (pc := 128) (v := 4) (p := 15) (z := 20) (kj_eq w84 (by decide) : ((a 8).getD (0 : Int32).toNatClampNeg 0) = 4) (by decide +kernel) (by decide +kernel) ?_
          first | refine fo_goS mi_k30 fz30_129_2_131 [.int x1, .ref 20, .int x1, .ref 20] (by rfl) ?_ | refine ft_go mi_k30 2 131 [(4, .int m57), (3, .int ((a 9).getD (0 : Int32).toNatClampNeg 0)), (2, .int ((a 8).getD (0 : Int32).toNatClampNeg 0)), (0, .ref 1), (1, .int x1)] [.int x1, .ref 20, .int x1, .ref 20] (ku (ku ig1 78 ((a 8).getD (0 : Int32).toNatClampNeg 0)) 79 ((ig1 79) + m57)) a71 qg1 rg1 (by rfl) ?_ | refine ko_steps mi_in30 2 _ (131, [(4, .int m57), (3, .int ((a 9).getD (0 : Int32).toNatClampNeg 0)), (2, .int ((a 8).getD (0 : Int32).toNatClampNeg 0)), (0, .ref 1), (1, .int x1)], [.int x1, .ref 20, .int x1, .ref 20], (0, 0), ks (ku (ku ig1 78 ((a 8).getD (0 : Int32).toNatClampNeg 0)) 79 ((ig1 79) + m57)) a71 qg1 rg1) (by rfl) ?_
          refine ko_iald3 mi_k30.1 (n := 8) (c := 8) (ax := (0, 0, 0, 0, 0)) (mi_k30.2 _ _ (by rfl)) (by rfl) (ksG20 _ _ _ _) (hJ71.I.2.1 20) rfl (oc1 hp0.1) (oc28 hp0.2) ?_
          have b85 : ((-2147483648 : Int) ≤ ((a71 20).getD x1.toNatClampNeg 0).toInt) ∧ (((a71 20).getD x1.toNatClampNeg 0).toInt ≤ 2147483647) := kd_bd ((a71 20).getD x1.toNatClampNeg 0)
          first | refine fo_goS mi_k30 fz30_132_2_135 [.int (((a71 20).getD x1.toNatClampNeg 0) + m57), .int x1, .ref 20] (by rfl) ?_ | refine ft_go mi_k30 2 135 [(4, .int m57), (3, .int ((a 9).getD (0 : Int32).toNatClampNeg 0)), (2, .int ((a 8).getD (0 : Int32).toNatClampNeg 0)), (0, .ref 1), (1, .int x1)] [.int (((a71 20).getD x1.toNatClampNeg 0) + m57), .int x1, .ref 20] (ku (ku ig1 78 ((a 8).getD (0 : Int32).toNatClampNeg 0)) 79 ((ig1 79) + m57)) a71 qg1 rg1 (by rfl) ?_ | refine ko_steps mi_in30 2 _ (135, [(4, .int m57), (3, .int ((a 9).getD (0 : Int32).toNatClampNeg 0)), (2, .int ((a 8).getD (0 : Int32).toNatClampNeg 0)), (0, .ref 1), (1, .int x1)], [.int (((a71 20).getD x1.toNatClampNeg 0) + m57), .int x1, .ref 20], (0, 0), ks (ku (ku ig1 78 ((a 8).getD (0 : Int32).toNatClampNeg 0)) 79 ((ig1 79) + m57)) a71 qg1 rg1) (by rfl) ?_
          refine ko_iast3 mi_k30.1 (n := 8) (c := 8) (ax := (0, 0, 0, 0, 0)) (mi_k30.2 _ _ (by rfl)) (by rfl) (ksG20 _ _ _ _) (ksA20 _ _ _ _) (hJ71.I.2.1 20) rfl (oc1 hp0.1) (oc28 hp0.2) ?_
          intro a86 ea86 fa86
          have hJ86 := kG_a3 hJ71 20 rfl ea86 fa86 (kd_bd _)
          exact ft_ret mi_k30 (by rfl) (hP  _ _ _ _ hJ86 ⟨(oc20 z2), ((cT_eq (p := 1) (i := ku (ku ig1 78 ((a 8).getD (0 : Int32).toNatClampNeg 0)) 79 ((ig1 79) + m57)) (a := a86) (T := cGive x1 (cT 1 i a)) (show ig1 450 = (cGive x1 (cT 1 i a)).1 from by first | rfl | (simp only [q3, sMn, sMx, cGive, cRest, cCoin, cT]; done) | (simp only [q3, sMn, sMx, cGive, cRest, cCoin, cT]; rfl)) (show a86 8 = (cGive x1 (cT 1 i a)).2.1 from by first | rfl | (simp only [fa86 8 (by decide), fa71 8 (by decide), fa65 8 (by decide), fa61 8 (by decide), q4, sMn, sMx, cGive, cRest, cCoin, cT]; done) | (simp only [fa86 8 (by decide), fa71 8 (by decide), fa65 8 (by decide), fa61 8 (by decide), q4, sMn, sMx, cGive, cRest, cCoin, cT]; rfl)) (show a86 9 = (cGive x1 (cT 1 i a)).2.2.1 from by first | rfl | (simp only [fa86 9 (by decide), fa71 9 (by decide), fa65 9 (by decide), fa61 9 (by decide), q5, sMn, sMx, cGive, cRest, cCoin, cT]; done) | (simp only [fa86 9 (by decide), fa71 9 (by decide), fa65 9 (by decide), fa61 9 (by decide), q5, sMn, sMx, cGive, cRest, cCoin, cT]; rfl)) (show a86 2 = (cGive x1 (cT 1 i a)).2.2.2.1 from by first | rfl | (simp only [fa86 2 (by decide), fa71 2 (by decide), ea65, ea61, qm63, qm57, kg1.fa 2 rfl, sMn, sMx, cGive, cRest, cCoin, cT]; done) | (simp only [fa86 2 (by decide), fa71 2 (by decide), ea65, ea61, qm63, qm57, kg1.fa 2 rfl, sMn, sMx, cGive, cRest, cCoin, cT]; rfl)) (cY_pos (y := i 78) (d := (a 8).getD 0 0) (oc119 c51 efig1_78 koc8)) (show ((ig1 79) + m57) = (cGive x1 (cT 1 i a)).2.2.2.2.2.1 from by first | rfl | (simp only [(kg1.fi 79 rfl : ig1 79 = i 79), qm57, kg1.fa 2 rfl, sMn, sMx, cGive, cRest, cCoin, cT]; done) | (simp only [(kg1.fi 79 rfl : ig1 79 = i 79), qm57, kg1.fa 2 rfl, sMn, sMx, cGive, cRest, cCoin, cT]; rfl)) (show a86 14 = (cGive x1 (cT 1 i a)).2.2.2.2.2.2.1 from by first | rfl | (simp only [fa86 14 (by decide), ea71, fa65 14 (by decide), qm57, kg1.fa 2 rfl, fa61 14 (by decide), kg1.fa 14 rfl, sMn, sMx, cGive, cRest, cCoin, cT]; done) | (simp only [fa86 14 (by decide), ea71, fa65 14 (by decide), qm57, kg1.fa 2 rfl, fa61 14 (by decide), kg1.fa 14 rfl, sMn, sMx, cGive, cRest, cCoin, cT]; rfl)) (fun u hu => match u, hu with | 0, _ => (Eq.trans (show a86 16 = cRow 1 a 0 from by rw [cRow_lt (p := 1) (a := a) (by decide : 0 < 8)]; first | rfl | (simp only [fa86 16 (by decide), fa71 16 (by decide), fa65 16 (by decide), fa61 16 (by decide), kg1.fa 16 rfl, sMn, sMx, cCoin, cT]; done) | (simp only [fa86 16 (by decide), fa71 16 (by decide), fa65 16 (by decide), fa61 16 (by decide), kg1.fa 16 rfl, sMn, sMx, cCoin, cT]; rfl)) (cG_f (c := x1) (T := (cT 1 i a)) (u := 0) (oc74 w84) (oc75 w84))) | 1, _ => (Eq.trans (show a86 17 = cRow 1 a 1 from by rw [cRow_lt (p := 1) (a := a) (by decide : 1 < 8)]; first | rfl | (simp only [fa86 17 (by decide), fa71 17 (by decide), fa65 17 (by decide), fa61 17 (by decide), kg1.fa 17 rfl, sMn, sMx, cCoin, cT]; done) | (simp only [fa86 17 (by decide), fa71 17 (by decide), fa65 17 (by decide), fa61 17 (by decide), kg1.fa 17 rfl, sMn, sMx, cCoin, cT]; rfl)) (cG_f (c := x1) (T := (cT 1 i a)) (u := 1) (oc74 w84) (oc76 w84))) | 2, _ => (Eq.trans (show a86 18 = cRow 1 a 2 from by rw [cRow_lt (p := 1) (a := a) (by decide : 2 < 8)]; first | rfl | (simp only [fa86 18 (by decide), fa71 18 (by decide), fa65 18 (by decide), fa61 18 (by decide), kg1.fa 18 rfl, sMn, sMx, cCoin, cT]; done) | (simp only [fa86 18 (by decide), fa71 18 (by decide), fa65 18 (by decide), fa61 18 (by decide), kg1.fa 18 rfl, sMn, sMx, cCoin, cT]; rfl)) (cG_f (c := x1) (T := (cT 1 i a)) (u := 2) (oc74 w84) (oc77 w84))) | 3, _ => (Eq.trans (show a86 19 = cRow 1 a 3 from by rw [cRow_lt (p := 1) (a := a) (by decide : 3 < 8)]; first | rfl | (simp only [fa86 19 (by decide), fa71 19 (by decide), fa65 19 (by decide), fa61 19 (by decide), kg1.fa 19 rfl, sMn, sMx, cCoin, cT]; done) | (simp only [fa86 19 (by decide), fa71 19 (by decide), fa65 19 (by decide), fa61 19 (by decide), kg1.fa 19 rfl, sMn, sMx, cCoin, cT]; rfl)) (cG_f (c := x1) (T := (cT 1 i a)) (u := 3) (oc74 w84) (oc78 w84))) | 4, _ => (Eq.trans (show a86 20 = (cRow 1 a 4).set x1.toNatClampNeg ((cRow 1 a 4).getD x1.toNatClampNeg 0 + cCoin (cT 1 i a)) from by rw [cRow_lt (p := 1) (a := a) (by decide : 4 < 8)]; first | rfl | (simp only [ea86, fa71 20 (by decide), qm57, kg1.fa 2 rfl, fa65 20 (by decide), fa61 20 (by decide), kg1.fa 20 rfl, sMn, sMx, cCoin, cT]; done) | (simp only [ea86, fa71 20 (by decide), qm57, kg1.fa 2 rfl, fa65 20 (by decide), fa61 20 (by decide), kg1.fa 20 rfl, sMn, sMx, cCoin, cT]; rfl)) (cG_t (c := x1) (T := (cT 1 i a)) (u := 4) (oc79 w84))) | 5, _ => (Eq.trans (show a86 21 = cRow 1 a 5 from by rw [cRow_lt (p := 1) (a := a) (by decide : 5 < 8)]; first | rfl | (simp only [fa86 21 (by decide), fa71 21 (by decide), fa65 21 (by decide), fa61 21 (by decide), kg1.fa 21 rfl, sMn, sMx, cCoin, cT]; done) | (simp only [fa86 21 (by decide), fa71 21 (by decide), fa65 21 (by decide), fa61 21 (by decide), kg1.fa 21 rfl, sMn, sMx, cCoin, cT]; rfl)) (cG_f (c := x1) (T := (cT 1 i a)) (u := 5) (oc74 w84) (oc80 w84))) | 6, _ => (Eq.trans (show a86 22 = cRow 1 a 6 from by rw [cRow_lt (p := 1) (a := a) (by decide : 6 < 8)]; first | rfl | (simp only [fa86 22 (by decide), fa71 22 (by decide), fa65 22 (by decide), fa61 22 (by decide), kg1.fa 22 rfl, sMn, sMx, cCoin, cT]; done) | (simp only [fa86 22 (by decide), fa71 22 (by decide), fa65 22 (by decide), fa61 22 (by decide), kg1.fa 22 rfl, sMn, sMx, cCoin, cT]; rfl)) (cG_f (c := x1) (T := (cT 1 i a)) (u := 6) (oc74 w84) (oc81 w84))) | 7, _ => (Eq.trans (show a86 23 = cRow 1 a 7 from by rw [cRow_lt (p := 1) (a := a) (by decide : 7 < 8)]; first | rfl | (simp only [fa86 23 (by decide), fa71 23 (by decide), fa65 23 (by decide), fa61 23 (by decide), kg1.fa 23 rfl, sMn, sMx, cCoin, cT]; done) | (simp only [fa86 23 (by decide), fa71 23 (by decide), fa65 23 (by decide), fa61 23 (by decide), kg1.fa 23 rfl, sMn, sMx, cCoin, cT]; rfl)) (cG_f (c := x1) (T := (cT 1 i a)) (u := 7) (oc74 w84) (oc82 w84))) | _ + 8, h => absurd h (by omega)) (fun u hu => (cG_f (c := x1) (T := (cT 1 i a)) (oc74 w84) (kj_big hu (oc83 w84))).symm.trans (cRow_ge hu))).trans (show cGive x1 (cT 1 i a) = cPay (i 64) x1 (cT 1 i a) from (if_pos (oc73 c54 efig1_64 w84 z56.2)).symm))⟩)
        by_cases w87 : ((a 8).getD (0 : Int32).toNatClampNeg 0).toInt = 5
        ·
          refine ft_alx mi_k30 (pc := 128) (v := 5) (p := 15) (z := 21) (kj_eq w87 (by decide) : ((a 8).getD (0 : Int32).toNatClampNeg 0) = 5) (by decide +kernel) (by decide +kernel) ?_
          first | refine fo_goS mi_k30 fz30_129_2_131 [.int x1, .ref 21, .int x1, .ref 21] (by rfl) ?_ | refine ft_go mi_k30 2 131 [(4, .int m57), (3, .int ((a 9).getD (0 : Int32).toNatClampNeg 0)), (2, .int ((a 8).getD (0 : Int32).toNatClampNeg 0)), (0, .ref 1), (1, .int x1)] [.int x1, .ref 21, .int x1, .ref 21] (ku (ku ig1 78 ((a 8).getD (0 : Int32).toNatClampNeg 0)) 79 ((ig1 79) + m57)) a71 qg1 rg1 (by rfl) ?_ | refine ko_steps mi_in30 2 _ (131, [(4, .int m57), (3, .int ((a 9).getD (0 : Int32).toNatClampNeg 0)), (2, .int ((a 8).getD (0 : Int32).toNatClampNeg 0)), (0, .ref 1), (1, .int x1)], [.int x1, .ref 21, .int x1, .ref 21], (0, 0), ks (ku (ku ig1 78 ((a 8).getD (0 : Int32).toNatClampNeg 0)) 79 ((ig1 79) + m57)) a71 qg1 rg1) (by rfl) ?_
          refine ko_iald3 mi_k30.1 (n := 8) (c := 8) (ax := (0, 0, 0, 0, 0)) (mi_k30.2 _ _ (by rfl)) (by rfl) (ksG21 _ _ _ _) (hJ71.I.2.1 21) rfl (oc1 hp0.1) (oc28 hp0.2) ?_
          have b88 : ((-2147483648 : Int) ≤ ((a71 21).getD x1.toNatClampNeg 0).toInt) ∧ (((a71 21).getD x1.toNatClampNeg 0).toInt ≤ 2147483647) := kd_bd ((a71 21).getD x1.toNatClampNeg 0)
          first | refine fo_goS mi_k30 fz30_132_2_135 [.int (((a71 21).getD x1.toNatClampNeg 0) + m57), .int x1, .ref 21] (by rfl) ?_ | refine ft_go mi_k30 2 135 [(4, .int m57), (3, .int ((a 9).getD (0 : Int32).toNatClampNeg 0)), (2, .int ((a 8).getD (0 : Int32).toNatClampNeg 0)), (0, .ref 1), (1, .int x1)] [.int (((a71 21).getD x1.toNatClampNeg 0) + m57), .int x1, .ref 21] (ku (ku ig1 78 ((a 8).getD (0 : Int32).toNatClampNeg 0)) 79 ((ig1 79) + m57)) a71 qg1 rg1 (by rfl) ?_ | refine ko_steps mi_in30 2 _ (135, [(4, .int m57), (3, .int ((a 9).getD (0 : Int32).toNatClampNeg 0)), (2, .int ((a 8).getD (0 : Int32).toNatClampNeg 0)), (0, .ref 1), (1, .int x1)], [.int (((a71 21).getD x1.toNatClampNeg 0) + m57), .int x1, .ref 21], (0, 0), ks (ku (ku ig1 78 ((a 8).getD (0 : Int32).toNatClampNeg 0)) 79 ((ig1 79) + m57)) a71 qg1 rg1) (by rfl) ?_
          refine ko_iast3 mi_k30.1 (n := 8) (c := 8) (ax := (0, 0, 0, 0, 0)) (mi_k30.2 _ _ (by rfl)) (by rfl) (ksG21 _ _ _ _) (ksA21 _ _ _ _) (hJ71.I.2.1 21) rfl (oc1 hp0.1) (oc28 hp0.2) ?_
          intro a89 ea89 fa89
          have hJ89 := kG_a3 hJ71 21 rfl ea89 fa89 (kd_bd _)
          exact ft_ret mi_k30 (by rfl) (hP  _ _ _ _ hJ89 ⟨(oc20 z2), ((cT_eq (p := 1) (i := ku (ku ig1 78 ((a 8).getD (0 : Int32).toNatClampNeg 0)) 79 ((ig1 79) + m57)) (a := a89) (T := cGive x1 (cT 1 i a)) (show ig1 450 = (cGive x1 (cT 1 i a)).1 from by first | rfl | (simp only [q3, sMn, sMx, cGive, cRest, cCoin, cT]; done) | (simp only [q3, sMn, sMx, cGive, cRest, cCoin, cT]; rfl)) (show a89 8 = (cGive x1 (cT 1 i a)).2.1 from by first | rfl | (simp only [fa89 8 (by decide), fa71 8 (by decide), fa65 8 (by decide), fa61 8 (by decide), q4, sMn, sMx, cGive, cRest, cCoin, cT]; done) | (simp only [fa89 8 (by decide), fa71 8 (by decide), fa65 8 (by decide), fa61 8 (by decide), q4, sMn, sMx, cGive, cRest, cCoin, cT]; rfl)) (show a89 9 = (cGive x1 (cT 1 i a)).2.2.1 from by first | rfl | (simp only [fa89 9 (by decide), fa71 9 (by decide), fa65 9 (by decide), fa61 9 (by decide), q5, sMn, sMx, cGive, cRest, cCoin, cT]; done) | (simp only [fa89 9 (by decide), fa71 9 (by decide), fa65 9 (by decide), fa61 9 (by decide), q5, sMn, sMx, cGive, cRest, cCoin, cT]; rfl)) (show a89 2 = (cGive x1 (cT 1 i a)).2.2.2.1 from by first | rfl | (simp only [fa89 2 (by decide), fa71 2 (by decide), ea65, ea61, qm63, qm57, kg1.fa 2 rfl, sMn, sMx, cGive, cRest, cCoin, cT]; done) | (simp only [fa89 2 (by decide), fa71 2 (by decide), ea65, ea61, qm63, qm57, kg1.fa 2 rfl, sMn, sMx, cGive, cRest, cCoin, cT]; rfl)) (cY_pos (y := i 78) (d := (a 8).getD 0 0) (oc119 c51 efig1_78 koc8)) (show ((ig1 79) + m57) = (cGive x1 (cT 1 i a)).2.2.2.2.2.1 from by first | rfl | (simp only [(kg1.fi 79 rfl : ig1 79 = i 79), qm57, kg1.fa 2 rfl, sMn, sMx, cGive, cRest, cCoin, cT]; done) | (simp only [(kg1.fi 79 rfl : ig1 79 = i 79), qm57, kg1.fa 2 rfl, sMn, sMx, cGive, cRest, cCoin, cT]; rfl)) (show a89 14 = (cGive x1 (cT 1 i a)).2.2.2.2.2.2.1 from by first | rfl | (simp only [fa89 14 (by decide), ea71, fa65 14 (by decide), qm57, kg1.fa 2 rfl, fa61 14 (by decide), kg1.fa 14 rfl, sMn, sMx, cGive, cRest, cCoin, cT]; done) | (simp only [fa89 14 (by decide), ea71, fa65 14 (by decide), qm57, kg1.fa 2 rfl, fa61 14 (by decide), kg1.fa 14 rfl, sMn, sMx, cGive, cRest, cCoin, cT]; rfl)) (fun u hu => match u, hu with | 0, _ => (Eq.trans (show a89 16 = cRow 1 a 0 from by rw [cRow_lt (p := 1) (a := a) (by decide : 0 < 8)]; first | rfl | (simp only [fa89 16 (by decide), fa71 16 (by decide), fa65 16 (by decide), fa61 16 (by decide), kg1.fa 16 rfl, sMn, sMx, cCoin, cT]; done) | (simp only [fa89 16 (by decide), fa71 16 (by decide), fa65 16 (by decide), fa61 16 (by decide), kg1.fa 16 rfl, sMn, sMx, cCoin, cT]; rfl)) (cG_f (c := x1) (T := (cT 1 i a)) (u := 0) (oc85 w87) (oc86 w87))) | 1, _ => (Eq.trans (show a89 17 = cRow 1 a 1 from by rw [cRow_lt (p := 1) (a := a) (by decide : 1 < 8)]; first | rfl | (simp only [fa89 17 (by decide), fa71 17 (by decide), fa65 17 (by decide), fa61 17 (by decide), kg1.fa 17 rfl, sMn, sMx, cCoin, cT]; done) | (simp only [fa89 17 (by decide), fa71 17 (by decide), fa65 17 (by decide), fa61 17 (by decide), kg1.fa 17 rfl, sMn, sMx, cCoin, cT]; rfl)) (cG_f (c := x1) (T := (cT 1 i a)) (u := 1) (oc85 w87) (oc87 w87))) | 2, _ => (Eq.trans (show a89 18 = cRow 1 a 2 from by rw [cRow_lt (p := 1) (a := a) (by decide : 2 < 8)]; first | rfl | (simp only [fa89 18 (by decide), fa71 18 (by decide), fa65 18 (by decide), fa61 18 (by decide), kg1.fa 18 rfl, sMn, sMx, cCoin, cT]; done) | (simp only [fa89 18 (by decide), fa71 18 (by decide), fa65 18 (by decide), fa61 18 (by decide), kg1.fa 18 rfl, sMn, sMx, cCoin, cT]; rfl)) (cG_f (c := x1) (T := (cT 1 i a)) (u := 2) (oc85 w87) (oc88 w87))) | 3, _ => (Eq.trans (show a89 19 = cRow 1 a 3 from by rw [cRow_lt (p := 1) (a := a) (by decide : 3 < 8)]; first | rfl | (simp only [fa89 19 (by decide), fa71 19 (by decide), fa65 19 (by decide), fa61 19 (by decide), kg1.fa 19 rfl, sMn, sMx, cCoin, cT]; done) | (simp only [fa89 19 (by decide), fa71 19 (by decide), fa65 19 (by decide), fa61 19 (by decide), kg1.fa 19 rfl, sMn, sMx, cCoin, cT]; rfl)) (cG_f (c := x1) (T := (cT 1 i a)) (u := 3) (oc85 w87) (oc89 w87))) | 4, _ => (Eq.trans (show a89 20 = cRow 1 a 4 from by rw [cRow_lt (p := 1) (a := a) (by decide : 4 < 8)]; first | rfl | (simp only [fa89 20 (by decide), fa71 20 (by decide), fa65 20 (by decide), fa61 20 (by decide), kg1.fa 20 rfl, sMn, sMx, cCoin, cT]; done) | (simp only [fa89 20 (by decide), fa71 20 (by decide), fa65 20 (by decide), fa61 20 (by decide), kg1.fa 20 rfl, sMn, sMx, cCoin, cT]; rfl)) (cG_f (c := x1) (T := (cT 1 i a)) (u := 4) (oc85 w87) (oc90 w87))) | 5, _ => (Eq.trans (show a89 21 = (cRow 1 a 5).set x1.toNatClampNeg ((cRow 1 a 5).getD x1.toNatClampNeg 0 + cCoin (cT 1 i a)) from by rw [cRow_lt (p := 1) (a := a) (by decide : 5 < 8)]; first | rfl | (simp only [ea89, fa71 21 (by decide), qm57, kg1.fa 2 rfl, fa65 21 (by decide), fa61 21 (by decide), kg1.fa 21 rfl, sMn, sMx, cCoin, cT]; done) | (simp only [ea89, fa71 21 (by decide), qm57, kg1.fa 2 rfl, fa65 21 (by decide), fa61 21 (by decide), kg1.fa 21 rfl, sMn, sMx, cCoin, cT]; rfl)) (cG_t (c := x1) (T := (cT 1 i a)) (u := 5) (oc91 w87))) | 6, _ => (Eq.trans (show a89 22 = cRow 1 a 6 from by rw [cRow_lt (p := 1) (a := a) (by decide : 6 < 8)]; first | rfl | (simp only [fa89 22 (by decide), fa71 22 (by decide), fa65 22 (by decide), fa61 22 (by decide), kg1.fa 22 rfl, sMn, sMx, cCoin, cT]; done) | (simp only [fa89 22 (by decide), fa71 22 (by decide), fa65 22 (by decide), fa61 22 (by decide), kg1.fa 22 rfl, sMn, sMx, cCoin, cT]; rfl)) (cG_f (c := x1) (T := (cT 1 i a)) (u := 6) (oc85 w87) (oc92 w87))) | 7, _ => (Eq.trans (show a89 23 = cRow 1 a 7 from by rw [cRow_lt (p := 1) (a := a) (by decide : 7 < 8)]; first | rfl | (simp only [fa89 23 (by decide), fa71 23 (by decide), fa65 23 (by decide), fa61 23 (by decide), kg1.fa 23 rfl, sMn, sMx, cCoin, cT]; done) | (simp only [fa89 23 (by decide), fa71 23 (by decide), fa65 23 (by decide), fa61 23 (by decide), kg1.fa 23 rfl, sMn, sMx, cCoin, cT]; rfl)) (cG_f (c := x1) (T := (cT 1 i a)) (u := 7) (oc85 w87) (oc93 w87))) | _ + 8, h => absurd h (by omega)) (fun u hu => (cG_f (c := x1) (T := (cT 1 i a)) (oc85 w87) (kj_big hu (oc94 w87))).symm.trans (cRow_ge hu))).trans (show cGive x1 (cT 1 i a) = cPay (i 64) x1 (cT 1 i a) from (if_pos (oc84 c54 efig1_64 w87 z56.2)).symm))⟩)
        by_cases w90 : ((a 8).getD (0 : Int32).toNatClampNeg 0).toInt = 6
        ·
          refine ft_alx mi_k30 (pc := 128) (v := 6) (p := 15) (z := 22) (kj_eq w90 (by decide) : ((a 8).getD (0 : Int32).toNatClampNeg 0) = 6) (by decide +kernel) (by decide +kernel) ?_
          first | refine fo_goS mi_k30 fz30_129_2_131 [.int x1, .ref 22, .int x1, .ref 22] (by rfl) ?_ | refine ft_go mi_k30 2 131 [(4, .int m57), (3, .int ((a 9).getD (0 : Int32).toNatClampNeg 0)), (2, .int ((a 8).getD (0 : Int32).toNatClampNeg 0)), (0, .ref 1), (1, .int x1)] [.int x1, .ref 22, .int x1, .ref 22] (ku (ku ig1 78 ((a 8).getD (0 : Int32).toNatClampNeg 0)) 79 ((ig1 79) + m57)) a71 qg1 rg1 (by rfl) ?_ | refine ko_steps mi_in30 2 _ (131, [(4, .int m57), (3, .int ((a 9).getD (0 : Int32).toNatClampNeg 0)), (2, .int ((a 8).getD (0 : Int32).toNatClampNeg 0)), (0, .ref 1), (1, .int x1)], [.int x1, .ref 22, .int x1, .ref 22], (0, 0), ks (ku (ku ig1 78 ((a 8).getD (0 : Int32).toNatClampNeg 0)) 79 ((ig1 79) + m57)) a71 qg1 rg1) (by rfl) ?_
          refine ko_iald3 mi_k30.1 (n := 8) (c := 8) (ax := (0, 0, 0, 0, 0)) (mi_k30.2 _ _ (by rfl)) (by rfl) (ksG22 _ _ _ _) (hJ71.I.2.1 22) rfl (oc1 hp0.1) (oc28 hp0.2) ?_
          have b91 : ((-2147483648 : Int) ≤ ((a71 22).getD x1.toNatClampNeg 0).toInt) ∧ (((a71 22).getD x1.toNatClampNeg 0).toInt ≤ 2147483647) := kd_bd ((a71 22).getD x1.toNatClampNeg 0)
          first | refine fo_goS mi_k30 fz30_132_2_135 [.int (((a71 22).getD x1.toNatClampNeg 0) + m57), .int x1, .ref 22] (by rfl) ?_ | refine ft_go mi_k30 2 135 [(4, .int m57), (3, .int ((a 9).getD (0 : Int32).toNatClampNeg 0)), (2, .int ((a 8).getD (0 : Int32).toNatClampNeg 0)), (0, .ref 1), (1, .int x1)] [.int (((a71 22).getD x1.toNatClampNeg 0) + m57), .int x1, .ref 22] (ku (ku ig1 78 ((a 8).getD (0 : Int32).toNatClampNeg 0)) 79 ((ig1 79) + m57)) a71 qg1 rg1 (by rfl) ?_ | refine ko_steps mi_in30 2 _ (135, [(4, .int m57), (3, .int ((a 9).getD (0 : Int32).toNatClampNeg 0)), (2, .int ((a 8).getD (0 : Int32).toNatClampNeg 0)), (0, .ref 1), (1, .int x1)], [.int (((a71 22).getD x1.toNatClampNeg 0) + m57), .int x1, .ref 22], (0, 0), ks (ku (ku ig1 78 ((a 8).getD (0 : Int32).toNatClampNeg 0)) 79 ((ig1 79) + m57)) a71 qg1 rg1) (by rfl) ?_
          refine ko_iast3 mi_k30.1 (n := 8) (c := 8) (ax := (0, 0, 0, 0, 0)) (mi_k30.2 _ _ (by rfl)) (by rfl) (ksG22 _ _ _ _) (ksA22 _ _ _ _) (hJ71.I.2.1 22) rfl (oc1 hp0.1) (oc28 hp0.2) ?_
          intro a92 ea92 fa92
          have hJ92 := kG_a3 hJ71 22 rfl ea92 fa92 (kd_bd _)
          exact ft_ret mi_k30 (by rfl) (hP  _ _ _ _ hJ92 ⟨(oc20 z2), ((cT_eq (p := 1) (i := ku (ku ig1 78 ((a 8).getD (0 : Int32).toNatClampNeg 0)) 79 ((ig1 79) + m57)) (a := a92) (T := cGive x1 (cT 1 i a)) (show ig1 450 = (cGive x1 (cT 1 i a)).1 from by first | rfl | (simp only [q3, sMn, sMx, cGive, cRest, cCoin, cT]; done) | (simp only [q3, sMn, sMx, cGive, cRest, cCoin, cT]; rfl)) (show a92 8 = (cGive x1 (cT 1 i a)).2.1 from by first | rfl | (simp only [fa92 8 (by decide), fa71 8 (by decide), fa65 8 (by decide), fa61 8 (by decide), q4, sMn, sMx, cGive, cRest, cCoin, cT]; done) | (simp only [fa92 8 (by decide), fa71 8 (by decide), fa65 8 (by decide), fa61 8 (by decide), q4, sMn, sMx, cGive, cRest, cCoin, cT]; rfl)) (show a92 9 = (cGive x1 (cT 1 i a)).2.2.1 from by first | rfl | (simp only [fa92 9 (by decide), fa71 9 (by decide), fa65 9 (by decide), fa61 9 (by decide), q5, sMn, sMx, cGive, cRest, cCoin, cT]; done) | (simp only [fa92 9 (by decide), fa71 9 (by decide), fa65 9 (by decide), fa61 9 (by decide), q5, sMn, sMx, cGive, cRest, cCoin, cT]; rfl)) (show a92 2 = (cGive x1 (cT 1 i a)).2.2.2.1 from by first | rfl | (simp only [fa92 2 (by decide), fa71 2 (by decide), ea65, ea61, qm63, qm57, kg1.fa 2 rfl, sMn, sMx, cGive, cRest, cCoin, cT]; done) | (simp only [fa92 2 (by decide), fa71 2 (by decide), ea65, ea61, qm63, qm57, kg1.fa 2 rfl, sMn, sMx, cGive, cRest, cCoin, cT]; rfl)) (cY_pos (y := i 78) (d := (a 8).getD 0 0) (oc119 c51 efig1_78 koc8)) (show ((ig1 79) + m57) = (cGive x1 (cT 1 i a)).2.2.2.2.2.1 from by first | rfl | (simp only [(kg1.fi 79 rfl : ig1 79 = i 79), qm57, kg1.fa 2 rfl, sMn, sMx, cGive, cRest, cCoin, cT]; done) | (simp only [(kg1.fi 79 rfl : ig1 79 = i 79), qm57, kg1.fa 2 rfl, sMn, sMx, cGive, cRest, cCoin, cT]; rfl)) (show a92 14 = (cGive x1 (cT 1 i a)).2.2.2.2.2.2.1 from by first | rfl | (simp only [fa92 14 (by decide), ea71, fa65 14 (by decide), qm57, kg1.fa 2 rfl, fa61 14 (by decide), kg1.fa 14 rfl, sMn, sMx, cGive, cRest, cCoin, cT]; done) | (simp only [fa92 14 (by decide), ea71, fa65 14 (by decide), qm57, kg1.fa 2 rfl, fa61 14 (by decide), kg1.fa 14 rfl, sMn, sMx, cGive, cRest, cCoin, cT]; rfl)) (fun u hu => match u, hu with | 0, _ => (Eq.trans (show a92 16 = cRow 1 a 0 from by rw [cRow_lt (p := 1) (a := a) (by decide : 0 < 8)]; first | rfl | (simp only [fa92 16 (by decide), fa71 16 (by decide), fa65 16 (by decide), fa61 16 (by decide), kg1.fa 16 rfl, sMn, sMx, cCoin, cT]; done) | (simp only [fa92 16 (by decide), fa71 16 (by decide), fa65 16 (by decide), fa61 16 (by decide), kg1.fa 16 rfl, sMn, sMx, cCoin, cT]; rfl)) (cG_f (c := x1) (T := (cT 1 i a)) (u := 0) (oc96 w90) (oc97 w90))) | 1, _ => (Eq.trans (show a92 17 = cRow 1 a 1 from by rw [cRow_lt (p := 1) (a := a) (by decide : 1 < 8)]; first | rfl | (simp only [fa92 17 (by decide), fa71 17 (by decide), fa65 17 (by decide), fa61 17 (by decide), kg1.fa 17 rfl, sMn, sMx, cCoin, cT]; done) | (simp only [fa92 17 (by decide), fa71 17 (by decide), fa65 17 (by decide), fa61 17 (by decide), kg1.fa 17 rfl, sMn, sMx, cCoin, cT]; rfl)) (cG_f (c := x1) (T := (cT 1 i a)) (u := 1) (oc96 w90) (oc98 w90))) | 2, _ => (Eq.trans (show a92 18 = cRow 1 a 2 from by rw [cRow_lt (p := 1) (a := a) (by decide : 2 < 8)]; first | rfl | (simp only [fa92 18 (by decide), fa71 18 (by decide), fa65 18 (by decide), fa61 18 (by decide), kg1.fa 18 rfl, sMn, sMx, cCoin, cT]; done) | (simp only [fa92 18 (by decide), fa71 18 (by decide), fa65 18 (by decide), fa61 18 (by decide), kg1.fa 18 rfl, sMn, sMx, cCoin, cT]; rfl)) (cG_f (c := x1) (T := (cT 1 i a)) (u := 2) (oc96 w90) (oc99 w90))) | 3, _ => (Eq.trans (show a92 19 = cRow 1 a 3 from by rw [cRow_lt (p := 1) (a := a) (by decide : 3 < 8)]; first | rfl | (simp only [fa92 19 (by decide), fa71 19 (by decide), fa65 19 (by decide), fa61 19 (by decide), kg1.fa 19 rfl, sMn, sMx, cCoin, cT]; done) | (simp only [fa92 19 (by decide), fa71 19 (by decide), fa65 19 (by decide), fa61 19 (by decide), kg1.fa 19 rfl, sMn, sMx, cCoin, cT]; rfl)) (cG_f (c := x1) (T := (cT 1 i a)) (u := 3) (oc96 w90) (oc100 w90))) | 4, _ => (Eq.trans (show a92 20 = cRow 1 a 4 from by rw [cRow_lt (p := 1) (a := a) (by decide : 4 < 8)]; first | rfl | (simp only [fa92 20 (by decide), fa71 20 (by decide), fa65 20 (by decide), fa61 20 (by decide), kg1.fa 20 rfl, sMn, sMx, cCoin, cT]; done) | (simp only [fa92 20 (by decide), fa71 20 (by decide), fa65 20 (by decide), fa61 20 (by decide), kg1.fa 20 rfl, sMn, sMx, cCoin, cT]; rfl)) (cG_f (c := x1) (T := (cT 1 i a)) (u := 4) (oc96 w90) (oc101 w90))) | 5, _ => (Eq.trans (show a92 21 = cRow 1 a 5 from by rw [cRow_lt (p := 1) (a := a) (by decide : 5 < 8)]; first | rfl | (simp only [fa92 21 (by decide), fa71 21 (by decide), fa65 21 (by decide), fa61 21 (by decide), kg1.fa 21 rfl, sMn, sMx, cCoin, cT]; done) | (simp only [fa92 21 (by decide), fa71 21 (by decide), fa65 21 (by decide), fa61 21 (by decide), kg1.fa 21 rfl, sMn, sMx, cCoin, cT]; rfl)) (cG_f (c := x1) (T := (cT 1 i a)) (u := 5) (oc96 w90) (oc102 w90))) | 6, _ => (Eq.trans (show a92 22 = (cRow 1 a 6).set x1.toNatClampNeg ((cRow 1 a 6).getD x1.toNatClampNeg 0 + cCoin (cT 1 i a)) from by rw [cRow_lt (p := 1) (a := a) (by decide : 6 < 8)]; first | rfl | (simp only [ea92, fa71 22 (by decide), qm57, kg1.fa 2 rfl, fa65 22 (by decide), fa61 22 (by decide), kg1.fa 22 rfl, sMn, sMx, cCoin, cT]; done) | (simp only [ea92, fa71 22 (by decide), qm57, kg1.fa 2 rfl, fa65 22 (by decide), fa61 22 (by decide), kg1.fa 22 rfl, sMn, sMx, cCoin, cT]; rfl)) (cG_t (c := x1) (T := (cT 1 i a)) (u := 6) (oc103 w90))) | 7, _ => (Eq.trans (show a92 23 = cRow 1 a 7 from by rw [cRow_lt (p := 1) (a := a) (by decide : 7 < 8)]; first | rfl | (simp only [fa92 23 (by decide), fa71 23 (by decide), fa65 23 (by decide), fa61 23 (by decide), kg1.fa 23 rfl, sMn, sMx, cCoin, cT]; done) | (simp only [fa92 23 (by decide), fa71 23 (by decide), fa65 23 (by decide), fa61 23 (by decide), kg1.fa 23 rfl, sMn, sMx, cCoin, cT]; rfl)) (cG_f (c := x1) (T := (cT 1 i a)) (u := 7) (oc96 w90) (oc104 w90))) | _ + 8, h => absurd h (by omega)) (fun u hu => (cG_f (c := x1) (T := (cT 1 i a)) (oc96 w90) (kj_big hu (oc105 w90))).symm.trans (cRow_ge hu))).trans (show cGive x1 (cT 1 i a) = cPay (i 64) x1 (cT 1 i a) from (if_pos (oc95 c54 efig1_64 w90 z56.2)).symm))⟩)
        by_cases w93 : ((a 8).getD (0 : Int32).toNatClampNeg 0).toInt = 7
        ·
          refine ft_alx mi_k30 (pc := 128) (v := 7) (p := 15) (z := 23) (kj_eq w93 (by decide) : ((a 8).getD (0 : Int32).toNatClampNeg 0) = 7) (by decide +kernel) (by decide +kernel) ?_
          first | refine fo_goS mi_k30 fz30_129_2_131 [.int x1, .ref 23, .int x1, .ref 23] (by rfl) ?_ | refine ft_go mi_k30 2 131 [(4, .int m57), (3, .int ((a 9).getD (0 : Int32).toNatClampNeg 0)), (2, .int ((a 8).getD (0 : Int32).toNatClampNeg 0)), (0, .ref 1), (1, .int x1)] [.int x1, .ref 23, .int x1, .ref 23] (ku (ku ig1 78 ((a 8).getD (0 : Int32).toNatClampNeg 0)) 79 ((ig1 79) + m57)) a71 qg1 rg1 (by rfl) ?_ | refine ko_steps mi_in30 2 _ (131, [(4, .int m57), (3, .int ((a 9).getD (0 : Int32).toNatClampNeg 0)), (2, .int ((a 8).getD (0 : Int32).toNatClampNeg 0)), (0, .ref 1), (1, .int x1)], [.int x1, .ref 23, .int x1, .ref 23], (0, 0), ks (ku (ku ig1 78 ((a 8).getD (0 : Int32).toNatClampNeg 0)) 79 ((ig1 79) + m57)) a71 qg1 rg1) (by rfl) ?_
          refine ko_iald3 mi_k30.1 (n := 8) (c := 8) (ax := (0, 0, 0, 0, 0)) (mi_k30.2 _ _ (by rfl)) (by rfl) (ksG23 _ _ _ _) (hJ71.I.2.1 23) rfl (oc1 hp0.1) (oc28 hp0.2) ?_
          have b94 : ((-2147483648 : Int) ≤ ((a71 23).getD x1.toNatClampNeg 0).toInt) ∧ (((a71 23).getD x1.toNatClampNeg 0).toInt ≤ 2147483647) := kd_bd ((a71 23).getD x1.toNatClampNeg 0)
          first | refine fo_goS mi_k30 fz30_132_2_135 [.int (((a71 23).getD x1.toNatClampNeg 0) + m57), .int x1, .ref 23] (by rfl) ?_ | refine ft_go mi_k30 2 135 [(4, .int m57), (3, .int ((a 9).getD (0 : Int32).toNatClampNeg 0)), (2, .int ((a 8).getD (0 : Int32).toNatClampNeg 0)), (0, .ref 1), (1, .int x1)] [.int (((a71 23).getD x1.toNatClampNeg 0) + m57), .int x1, .ref 23] (ku (ku ig1 78 ((a 8).getD (0 : Int32).toNatClampNeg 0)) 79 ((ig1 79) + m57)) a71 qg1 rg1 (by rfl) ?_ | refine ko_steps mi_in30 2 _ (135, [(4, .int m57), (3, .int ((a 9).getD (0 : Int32).toNatClampNeg 0)), (2, .int ((a 8).getD (0 : Int32).toNatClampNeg 0)), (0, .ref 1), (1, .int x1)], [.int (((a71 23).getD x1.toNatClampNeg 0) + m57), .int x1, .ref 23], (0, 0), ks (ku (ku ig1 78 ((a 8).getD (0 : Int32).toNatClampNeg 0)) 79 ((ig1 79) + m57)) a71 qg1 rg1) (by rfl) ?_
          refine ko_iast3 mi_k30.1 (n := 8) (c := 8) (ax := (0, 0, 0, 0, 0)) (mi_k30.2 _ _ (by rfl)) (by rfl) (ksG23 _ _ _ _) (ksA23 _ _ _ _) (hJ71.I.2.1 23) rfl (oc1 hp0.1) (oc28 hp0.2) ?_
          intro a95 ea95 fa95
          have hJ95 := kG_a3 hJ71 23 rfl ea95 fa95 (kd_bd _)
          exact ft_ret mi_k30 (by rfl) (hP  _ _ _ _ hJ95 ⟨(oc20 z2), ((cT_eq (p := 1) (i := ku (ku ig1 78 ((a 8).getD (0 : Int32).toNatClampNeg 0)) 79 ((ig1 79) + m57)) (a := a95) (T := cGive x1 (cT 1 i a)) (show ig1 450 = (cGive x1 (cT 1 i a)).1 from by first | rfl | (simp only [q3, sMn, sMx, cGive, cRest, cCoin, cT]; done) | (simp only [q3, sMn, sMx, cGive, cRest, cCoin, cT]; rfl)) (show a95 8 = (cGive x1 (cT 1 i a)).2.1 from by first | rfl | (simp only [fa95 8 (by decide), fa71 8 (by decide), fa65 8 (by decide), fa61 8 (by decide), q4, sMn, sMx, cGive, cRest, cCoin, cT]; done) | (simp only [fa95 8 (by decide), fa71 8 (by decide), fa65 8 (by decide), fa61 8 (by decide), q4, sMn, sMx, cGive, cRest, cCoin, cT]; rfl)) (show a95 9 = (cGive x1 (cT 1 i a)).2.2.1 from by first | rfl | (simp only [fa95 9 (by decide), fa71 9 (by decide), fa65 9 (by decide), fa61 9 (by decide), q5, sMn, sMx, cGive, cRest, cCoin, cT]; done) | (simp only [fa95 9 (by decide), fa71 9 (by decide), fa65 9 (by decide), fa61 9 (by decide), q5, sMn, sMx, cGive, cRest, cCoin, cT]; rfl)) (show a95 2 = (cGive x1 (cT 1 i a)).2.2.2.1 from by first | rfl | (simp only [fa95 2 (by decide), fa71 2 (by decide), ea65, ea61, qm63, qm57, kg1.fa 2 rfl, sMn, sMx, cGive, cRest, cCoin, cT]; done) | (simp only [fa95 2 (by decide), fa71 2 (by decide), ea65, ea61, qm63, qm57, kg1.fa 2 rfl, sMn, sMx, cGive, cRest, cCoin, cT]; rfl)) (cY_pos (y := i 78) (d := (a 8).getD 0 0) (oc119 c51 efig1_78 koc8)) (show ((ig1 79) + m57) = (cGive x1 (cT 1 i a)).2.2.2.2.2.1 from by first | rfl | (simp only [(kg1.fi 79 rfl : ig1 79 = i 79), qm57, kg1.fa 2 rfl, sMn, sMx, cGive, cRest, cCoin, cT]; done) | (simp only [(kg1.fi 79 rfl : ig1 79 = i 79), qm57, kg1.fa 2 rfl, sMn, sMx, cGive, cRest, cCoin, cT]; rfl)) (show a95 14 = (cGive x1 (cT 1 i a)).2.2.2.2.2.2.1 from by first | rfl | (simp only [fa95 14 (by decide), ea71, fa65 14 (by decide), qm57, kg1.fa 2 rfl, fa61 14 (by decide), kg1.fa 14 rfl, sMn, sMx, cGive, cRest, cCoin, cT]; done) | (simp only [fa95 14 (by decide), ea71, fa65 14 (by decide), qm57, kg1.fa 2 rfl, fa61 14 (by decide), kg1.fa 14 rfl, sMn, sMx, cGive, cRest, cCoin, cT]; rfl)) (fun u hu => match u, hu with | 0, _ => (Eq.trans (show a95 16 = cRow 1 a 0 from by rw [cRow_lt (p := 1) (a := a) (by decide : 0 < 8)]; first | rfl | (simp only [fa95 16 (by decide), fa71 16 (by decide), fa65 16 (by decide), fa61 16 (by decide), kg1.fa 16 rfl, sMn, sMx, cCoin, cT]; done) | (simp only [fa95 16 (by decide), fa71 16 (by decide), fa65 16 (by decide), fa61 16 (by decide), kg1.fa 16 rfl, sMn, sMx, cCoin, cT]; rfl)) (cG_f (c := x1) (T := (cT 1 i a)) (u := 0) (oc107 w93) (oc108 w93))) | 1, _ => (Eq.trans (show a95 17 = cRow 1 a 1 from by rw [cRow_lt (p := 1) (a := a) (by decide : 1 < 8)]; first | rfl | (simp only [fa95 17 (by decide), fa71 17 (by decide), fa65 17 (by decide), fa61 17 (by decide), kg1.fa 17 rfl, sMn, sMx, cCoin, cT]; done) | (simp only [fa95 17 (by decide), fa71 17 (by decide), fa65 17 (by decide), fa61 17 (by decide), kg1.fa 17 rfl, sMn, sMx, cCoin, cT]; rfl)) (cG_f (c := x1) (T := (cT 1 i a)) (u := 1) (oc107 w93) (oc109 w93))) | 2, _ => (Eq.trans (show a95 18 = cRow 1 a 2 from by rw [cRow_lt (p := 1) (a := a) (by decide : 2 < 8)]; first | rfl | (simp only [fa95 18 (by decide), fa71 18 (by decide), fa65 18 (by decide), fa61 18 (by decide), kg1.fa 18 rfl, sMn, sMx, cCoin, cT]; done) | (simp only [fa95 18 (by decide), fa71 18 (by decide), fa65 18 (by decide), fa61 18 (by decide), kg1.fa 18 rfl, sMn, sMx, cCoin, cT]; rfl)) (cG_f (c := x1) (T := (cT 1 i a)) (u := 2) (oc107 w93) (oc110 w93))) | 3, _ => (Eq.trans (show a95 19 = cRow 1 a 3 from by rw [cRow_lt (p := 1) (a := a) (by decide : 3 < 8)]; first | rfl | (simp only [fa95 19 (by decide), fa71 19 (by decide), fa65 19 (by decide), fa61 19 (by decide), kg1.fa 19 rfl, sMn, sMx, cCoin, cT]; done) | (simp only [fa95 19 (by decide), fa71 19 (by decide), fa65 19 (by decide), fa61 19 (by decide), kg1.fa 19 rfl, sMn, sMx, cCoin, cT]; rfl)) (cG_f (c := x1) (T := (cT 1 i a)) (u := 3) (oc107 w93) (oc111 w93))) | 4, _ => (Eq.trans (show a95 20 = cRow 1 a 4 from by rw [cRow_lt (p := 1) (a := a) (by decide : 4 < 8)]; first | rfl | (simp only [fa95 20 (by decide), fa71 20 (by decide), fa65 20 (by decide), fa61 20 (by decide), kg1.fa 20 rfl, sMn, sMx, cCoin, cT]; done) | (simp only [fa95 20 (by decide), fa71 20 (by decide), fa65 20 (by decide), fa61 20 (by decide), kg1.fa 20 rfl, sMn, sMx, cCoin, cT]; rfl)) (cG_f (c := x1) (T := (cT 1 i a)) (u := 4) (oc107 w93) (oc112 w93))) | 5, _ => (Eq.trans (show a95 21 = cRow 1 a 5 from by rw [cRow_lt (p := 1) (a := a) (by decide : 5 < 8)]; first | rfl | (simp only [fa95 21 (by decide), fa71 21 (by decide), fa65 21 (by decide), fa61 21 (by decide), kg1.fa 21 rfl, sMn, sMx, cCoin, cT]; done) | (simp only [fa95 21 (by decide), fa71 21 (by decide), fa65 21 (by decide), fa61 21 (by decide), kg1.fa 21 rfl, sMn, sMx, cCoin, cT]; rfl)) (cG_f (c := x1) (T := (cT 1 i a)) (u := 5) (oc107 w93) (oc113 w93))) | 6, _ => (Eq.trans (show a95 22 = cRow 1 a 6 from by rw [cRow_lt (p := 1) (a := a) (by decide : 6 < 8)]; first | rfl | (simp only [fa95 22 (by decide), fa71 22 (by decide), fa65 22 (by decide), fa61 22 (by decide), kg1.fa 22 rfl, sMn, sMx, cCoin, cT]; done) | (simp only [fa95 22 (by decide), fa71 22 (by decide), fa65 22 (by decide), fa61 22 (by decide), kg1.fa 22 rfl, sMn, sMx, cCoin, cT]; rfl)) (cG_f (c := x1) (T := (cT 1 i a)) (u := 6) (oc107 w93) (oc114 w93))) | 7, _ => (Eq.trans (show a95 23 = (cRow 1 a 7).set x1.toNatClampNeg ((cRow 1 a 7).getD x1.toNatClampNeg 0 + cCoin (cT 1 i a)) from by rw [cRow_lt (p := 1) (a := a) (by decide : 7 < 8)]; first | rfl | (simp only [ea95, fa71 23 (by decide), qm57, kg1.fa 2 rfl, fa65 23 (by decide), fa61 23 (by decide), kg1.fa 23 rfl, sMn, sMx, cCoin, cT]; done) | (simp only [ea95, fa71 23 (by decide), qm57, kg1.fa 2 rfl, fa65 23 (by decide), fa61 23 (by decide), kg1.fa 23 rfl, sMn, sMx, cCoin, cT]; rfl)) (cG_t (c := x1) (T := (cT 1 i a)) (u := 7) (oc115 w93))) | _ + 8, h => absurd h (by omega)) (fun u hu => (cG_f (c := x1) (T := (cT 1 i a)) (oc107 w93) (kj_big hu (oc116 w93))).symm.trans (cRow_ge hu))).trans (show cGive x1 (cT 1 i a) = cPay (i 64) x1 (cT 1 i a) from (if_pos (oc106 c54 efig1_64 hp0.2 w93 z56.2)).symm))⟩)
        exact (oc117 fig1_64.2 w72 w75 w78 w81 w84 w87 w90 w93 z56.1 z56.2).elim
      ·
        subst eg55
        have efig1_64 : (ig1 64).toInt = (i 64).toInt := kg1.ti 64 rfl
        have z96 : ¬ (((0 : Int) ≤ ((a 8).getD (0 : Int32).toNatClampNeg 0).toInt) ∧ (((a 8).getD (0 : Int32).toNatClampNeg 0).toInt < (ig1 64).toInt)) := hg55
        first | refine fo_goS mi_k30 fz30_51_1_54 [] (by rfl) ?_ | refine ft_goS mi_k30 1 54 [] (by rfl) ?_ | refine ft_go mi_k30 1 54 [(3, .int ((a 9).getD (0 : Int32).toNatClampNeg 0)), (2, .int ((a 8).getD (0 : Int32).toNatClampNeg 0)), (0, .ref 1), (1, .int x1)] [] (ku ig1 78 ((a 8).getD (0 : Int32).toNatClampNeg 0)) ag1 qg1 rg1 (by rfl) ?_ | refine ko_steps mi_in30 1 _ (54, [(3, .int ((a 9).getD (0 : Int32).toNatClampNeg 0)), (2, .int ((a 8).getD (0 : Int32).toNatClampNeg 0)), (0, .ref 1), (1, .int x1)], [], (0, 0), ks (ku ig1 78 ((a 8).getD (0 : Int32).toNatClampNeg 0)) ag1 qg1 rg1) (by rfl) ?_
        exact ft_ret mi_k30 (by rfl) (hP  _ _ _ _ hJ52 ⟨(oc20 z2), ((cT_eq (p := 1) (i := ku ig1 78 ((a 8).getD (0 : Int32).toNatClampNeg 0)) (a := ag1) (T := cRest (cT 1 i a)) (show ig1 450 = (cRest (cT 1 i a)).1 from by first | rfl | (simp only [q3, sMn, sMx, cGive, cRest, cCoin, cT]; done) | (simp only [q3, sMn, sMx, cGive, cRest, cCoin, cT]; rfl)) (show ag1 8 = (cRest (cT 1 i a)).2.1 from by first | rfl | (simp only [q4, sMn, sMx, cGive, cRest, cCoin, cT]; done) | (simp only [q4, sMn, sMx, cGive, cRest, cCoin, cT]; rfl)) (show ag1 9 = (cRest (cT 1 i a)).2.2.1 from by first | rfl | (simp only [q5, sMn, sMx, cGive, cRest, cCoin, cT]; done) | (simp only [q5, sMn, sMx, cGive, cRest, cCoin, cT]; rfl)) (show ag1 2 = (cRest (cT 1 i a)).2.2.2.1 from by first | rfl | (simp only [kg1.fa 2 rfl, sMn, sMx, cGive, cRest, cCoin, cT]; done) | (simp only [kg1.fa 2 rfl, sMn, sMx, cGive, cRest, cCoin, cT]; rfl)) (cY_pos (y := i 78) (d := (a 8).getD 0 0) (oc119 c51 efig1_78 koc8)) (show ig1 79 = (cRest (cT 1 i a)).2.2.2.2.2.1 from by first | rfl | (simp only [(kg1.fi 79 rfl : ig1 79 = i 79), sMn, sMx, cGive, cRest, cCoin, cT]; done) | (simp only [(kg1.fi 79 rfl : ig1 79 = i 79), sMn, sMx, cGive, cRest, cCoin, cT]; rfl)) (show ag1 14 = (cRest (cT 1 i a)).2.2.2.2.2.2.1 from by first | rfl | (simp only [kg1.fa 14 rfl, sMn, sMx, cGive, cRest, cCoin, cT]; done) | (simp only [kg1.fa 14 rfl, sMn, sMx, cGive, cRest, cCoin, cT]; rfl)) (fun u hu => match u, hu with | 0, _ => (show ag1 16 = cRow 1 a 0 from by rw [cRow_lt (p := 1) (a := a) (by decide : 0 < 8)]; first | rfl | (simp only [kg1.fa 16 rfl, sMn, sMx, cCoin, cT]; done) | (simp only [kg1.fa 16 rfl, sMn, sMx, cCoin, cT]; rfl)) | 1, _ => (show ag1 17 = cRow 1 a 1 from by rw [cRow_lt (p := 1) (a := a) (by decide : 1 < 8)]; first | rfl | (simp only [kg1.fa 17 rfl, sMn, sMx, cCoin, cT]; done) | (simp only [kg1.fa 17 rfl, sMn, sMx, cCoin, cT]; rfl)) | 2, _ => (show ag1 18 = cRow 1 a 2 from by rw [cRow_lt (p := 1) (a := a) (by decide : 2 < 8)]; first | rfl | (simp only [kg1.fa 18 rfl, sMn, sMx, cCoin, cT]; done) | (simp only [kg1.fa 18 rfl, sMn, sMx, cCoin, cT]; rfl)) | 3, _ => (show ag1 19 = cRow 1 a 3 from by rw [cRow_lt (p := 1) (a := a) (by decide : 3 < 8)]; first | rfl | (simp only [kg1.fa 19 rfl, sMn, sMx, cCoin, cT]; done) | (simp only [kg1.fa 19 rfl, sMn, sMx, cCoin, cT]; rfl)) | 4, _ => (show ag1 20 = cRow 1 a 4 from by rw [cRow_lt (p := 1) (a := a) (by decide : 4 < 8)]; first | rfl | (simp only [kg1.fa 20 rfl, sMn, sMx, cCoin, cT]; done) | (simp only [kg1.fa 20 rfl, sMn, sMx, cCoin, cT]; rfl)) | 5, _ => (show ag1 21 = cRow 1 a 5 from by rw [cRow_lt (p := 1) (a := a) (by decide : 5 < 8)]; first | rfl | (simp only [kg1.fa 21 rfl, sMn, sMx, cCoin, cT]; done) | (simp only [kg1.fa 21 rfl, sMn, sMx, cCoin, cT]; rfl)) | 6, _ => (show ag1 22 = cRow 1 a 6 from by rw [cRow_lt (p := 1) (a := a) (by decide : 6 < 8)]; first | rfl | (simp only [kg1.fa 22 rfl, sMn, sMx, cCoin, cT]; done) | (simp only [kg1.fa 22 rfl, sMn, sMx, cCoin, cT]; rfl)) | 7, _ => (show ag1 23 = cRow 1 a 7 from by rw [cRow_lt (p := 1) (a := a) (by decide : 7 < 8)]; first | rfl | (simp only [kg1.fa 23 rfl, sMn, sMx, cCoin, cT]; done) | (simp only [kg1.fa 23 rfl, sMn, sMx, cCoin, cT]; rfl)) | _ + 8, h => absurd h (by omega)) (fun u hu => cRow_ge hu)).trans (show cRest (cT 1 i a) = cPay (i 64) x1 (cT 1 i a) from (if_neg (oc118 efig1_64 z96)).symm))⟩)
end
section
/-! THE LAW AT WORK, PURELY: the class's steps with a stack -/
def lPush (s : List Int32 × Int32) (v : Int32) : List Int32 × Int32 := if s.2.toInt ≤ 120 then (s.1.set s.2.toNatClampNeg v, s.2 + 1) else s
def lPop (s : List Int32 × Int32) : Int32 × (List Int32 × Int32) := if 1 ≤ s.2.toInt then (s.1.getD (s.2 - 1).toNatClampNeg 0, (s.1, s.2 - 1)) else (0, s)
def cJoin (k x y : Int32) : Int32 :=
  if k.toInt = 124 then (if x.toInt ≠ 0 ∨ y.toInt ≠ 0 then 1 else 0)
  else if k.toInt = 38 then (if x.toInt ≠ 0 ∧ y.toInt ≠ 0 then 1 else 0)
  else if k.toInt = 60 then (if x.toInt < y.toInt then 1 else 0)
  else if k.toInt = 61 then (if x.toInt = y.toInt then 1 else 0)
  else if k.toInt = 62 then (if y.toInt < x.toInt then 1 else 0)
  else if k.toInt = 43 then x + y
  else if k.toInt = 45 then x - y
  else if k.toInt = 42 then x * y
  else if k.toInt = 47 then (if y.toInt = 0 then 0 else x / y)
  else if k.toInt = 37 then (if y.toInt = 0 then 0 else x - x / y * y)
  else 0
/-- what n steps at most answer -/
def lRun (st wi nm : List Int32) (len : Int32) : Nat → Int32 → (List Int32 × Int32) → Int32
  | 0, _, _ => 0
  | n + 1, p, s =>
    if 0 ≤ p.toInt ∧ p.toInt < len.toInt then
      (if (st.getD p.toNatClampNeg 0).toInt = 0 then lRun st wi nm len n (p + 1) (lPush s (wi.getD p.toNatClampNeg 0))
      else if (st.getD p.toNatClampNeg 0).toInt = 1 then lRun st wi nm len n (p + 1) (lPush s (if 0 ≤ (wi.getD p.toNatClampNeg 0).toInt ∧ (wi.getD p.toNatClampNeg 0).toInt < 6 then nm.getD (wi.getD p.toNatClampNeg 0).toNatClampNeg 0 else 0))
      else if (st.getD p.toNatClampNeg 0).toInt = 2 then (lPop s).1
      else if (st.getD p.toNatClampNeg 0).toInt = 3 then lRun st wi nm len n (if (lPop s).1.toInt = 0 then wi.getD p.toNatClampNeg 0 else p + 1) (lPop s).2
      else if (st.getD p.toNatClampNeg 0).toInt = 33 then lRun st wi nm len n (p + 1) (lPush (lPop s).2 (if (lPop s).1.toInt = 0 then 1 else 0))
      else if (st.getD p.toNatClampNeg 0).toInt = 126 then lRun st wi nm len n (p + 1) (lPush (lPop s).2 (-(lPop s).1))
      else lRun st wi nm len n (p + 1) (lPush (lPop (lPop s).2).2 (cJoin (st.getD p.toNatClampNeg 0) (lPop (lPop s).2).1 (lPop s).1)))
    else 0
section LR
variable {st wi nm : List Int32} {len : Int32} {n : Nat} {p : Int32} {s s1 s2 s3 : List Int32 × Int32} {R v w : Int32}
theorem lRun_out (h : lRun st wi nm len n p s = R) (hp : ¬ (0 ≤ p.toInt ∧ p.toInt < len.toInt)) : R = 0 := by
  cases n with
  | zero => exact h.symm
  | succ n =>
    unfold lRun at h
    rw [if_neg hp] at h
    exact h.symm
theorem lRun_end (h : lRun st wi nm len n p s = R) (hn : n = 0) : R = 0 := by
  subst hn
  exact h.symm
theorem lRun_num {m : Nat} (h : lRun st wi nm len m p s = R) (hm : m = n + 1) (hp : 0 ≤ p.toInt ∧ p.toInt < len.toInt) (hk : (st.getD p.toNatClampNeg 0).toInt = 0) (hw : w = wi.getD p.toNatClampNeg 0) (o : s1 = lPush s w) : lRun st wi nm len n (p + 1) s1 = R := by
  subst hm
  unfold lRun at h
  rw [if_pos hp, if_pos hk] at h
  rw [o, hw]
  exact h
theorem lRun_name {m : Nat} (h : lRun st wi nm len m p s = R) (hm : m = n + 1) (hp : 0 ≤ p.toInt ∧ p.toInt < len.toInt) (hk : (st.getD p.toNatClampNeg 0).toInt = 1) (hw : w = if 0 ≤ (wi.getD p.toNatClampNeg 0).toInt ∧ (wi.getD p.toNatClampNeg 0).toInt < 6 then nm.getD (wi.getD p.toNatClampNeg 0).toNatClampNeg 0 else 0) (o : s1 = lPush s w) : lRun st wi nm len n (p + 1) s1 = R := by
  subst hm
  unfold lRun at h
  rw [if_pos hp, if_neg (by omega), if_pos hk] at h
  rw [o, hw]
  exact h
theorem lRun_ans {m : Nat} (h : lRun st wi nm len m p s = R) (hm : m = n + 1) (hp : 0 ≤ p.toInt ∧ p.toInt < len.toInt) (hk : (st.getD p.toNatClampNeg 0).toInt = 2) (o : (v, s1) = lPop s) : v = R := by
  subst hm
  unfold lRun at h
  rw [if_pos hp, if_neg (by omega), if_neg (by omega), if_pos hk, ← o] at h
  exact h
theorem lRun_skip {m : Nat} {p1 : Int32} (h : lRun st wi nm len m p s = R) (hm : m = n + 1) (hp : 0 ≤ p.toInt ∧ p.toInt < len.toInt) (hk : (st.getD p.toNatClampNeg 0).toInt = 3) (o : (v, s1) = lPop s) (h1 : p1 = if v.toInt = 0 then wi.getD p.toNatClampNeg 0 else p + 1) : lRun st wi nm len n p1 s1 = R := by
  subst hm
  unfold lRun at h
  rw [if_pos hp, if_neg (by omega), if_neg (by omega), if_neg (by omega), if_pos hk, ← o] at h
  rw [h1]
  exact h
theorem lRun_not {m : Nat} (h : lRun st wi nm len m p s = R) (hm : m = n + 1) (hp : 0 ≤ p.toInt ∧ p.toInt < len.toInt) (hk : (st.getD p.toNatClampNeg 0).toInt = 33) (o : (v, s1) = lPop s) (hw : w = if v.toInt = 0 then 1 else 0) (o2 : s2 = lPush s1 w) : lRun st wi nm len n (p + 1) s2 = R := by
  subst hm
  unfold lRun at h
  rw [if_pos hp, if_neg (by omega), if_neg (by omega), if_neg (by omega), if_neg (by omega), if_pos hk, ← o] at h
  rw [o2, hw]
  exact h
theorem lRun_neg {m : Nat} (h : lRun st wi nm len m p s = R) (hm : m = n + 1) (hp : 0 ≤ p.toInt ∧ p.toInt < len.toInt) (hk : (st.getD p.toNatClampNeg 0).toInt = 126) (o : (v, s1) = lPop s) (hw : w = -v) (o2 : s2 = lPush s1 w) : lRun st wi nm len n (p + 1) s2 = R := by
  subst hm
  unfold lRun at h
  rw [if_pos hp, if_neg (by omega), if_neg (by omega), if_neg (by omega), if_neg (by omega), if_neg (by omega), if_pos hk, ← o] at h
  rw [o2, hw]
  exact h
theorem lRun_bin {m : Nat} {y : Int32} (h : lRun st wi nm len m p s = R) (hm : m = n + 1) (hp : 0 ≤ p.toInt ∧ p.toInt < len.toInt) (h0 : (st.getD p.toNatClampNeg 0).toInt ≠ 0) (h1 : (st.getD p.toNatClampNeg 0).toInt ≠ 1) (h2 : (st.getD p.toNatClampNeg 0).toInt ≠ 2) (h3 : (st.getD p.toNatClampNeg 0).toInt ≠ 3) (h4 : (st.getD p.toNatClampNeg 0).toInt ≠ 33) (h5 : (st.getD p.toNatClampNeg 0).toInt ≠ 126) (o : (v, s1) = lPop s) (o2 : (y, s2) = lPop s1) (hw : w = cJoin (st.getD p.toNatClampNeg 0) y v) (o3 : s3 = lPush s2 w) : lRun st wi nm len n (p + 1) s3 = R := by
  subst hm
  unfold lRun at h
  rw [if_pos hp, if_neg h0, if_neg h1, if_neg h2, if_neg h3, if_neg h4, if_neg h5, ← o] at h
  dsimp only at h
  rw [← o2] at h
  rw [o3, hw]
  exact h
end LR
theorem kL_cast {l l1 : List Int32} {j : Nat} {c : Int} (e : l1 = l) (h : (l1.getD j 0).toInt = c) : (l.getD j 0).toInt = c := by subst e; exact h
theorem kL_castn {l l1 : List Int32} {j : Nat} {c : Int} (e : l1 = l) (h : (l1.getD j 0).toInt ≠ c) : (l.getD j 0).toInt ≠ c := by subst e; exact h
theorem kj_left {x x1 : Int} (h : x < 121) (e : x1 = x + 1) : (121 - x).toNat = (121 - x1).toNat + 1 := by omega
theorem kj_left2 {x : Int} (h : x < 121) : (121 - x).toNat = (120 - x).toNat + 1 := by omega
theorem kj_none {x : Int} (h : 121 ≤ x) : (121 - x).toNat = 0 := by omega
def cBuyV (told : Int32) (st wi stk : List Int32) (len w pu h c o d : Int32) : Int32 := sMx 0 (sMn 99 (if told.toInt = 0 then 5 * w + h - 2 * o else lRun st wi [w, pu, h, c, o, d] len 121 0 (stk, 0)))
theorem kNames {l : List Int32} {a b c d e f : Int32} (h : l.length = 6) : ((((((l.set (0 : Int32).toNatClampNeg a).set (1 : Int32).toNatClampNeg b).set (2 : Int32).toNatClampNeg c).set (3 : Int32).toNatClampNeg d).set (4 : Int32).toNatClampNeg e).set (5 : Int32).toNatClampNeg f) = [a, b, c, d, e, f] := by
  match l, h with
  | [_, _, _, _, _, _], _ => rfl
end
section
theorem kod0 : (0 : Int32).toInt = 0 := by decide
theorem kod121 : (121 : Int32).toInt = 121 := by decide
theorem kod1 : (1 : Int32).toInt = 1 := by decide
theorem kod6 : (6 : Int32).toInt = 6 := by decide
theorem kod2 : (2 : Int32).toInt = 2 := by decide
theorem kod3 : (3 : Int32).toInt = 3 := by decide
theorem kod5 : (5 : Int32).toInt = 5 := by decide
theorem kod4 : (4 : Int32).toInt = 4 := by decide
theorem od0 {a0 : Int} (h0 : a0 = 0) : (0 : Int) ≤ a0 := oz46 h0
theorem od1 {a0 : Int} (h0 : a0 = 0) : a0 ≤ 121 := oz1033 h0
theorem od2 {a0 a1 : Int} (h0 : a0 ≤ a1) (h1 : a0 = 121) : 121 ≤ a1 := by omega
theorem od3 {a0 a1 a2 : Int} (h0 : a0 < a1) (h1 : a1 = 0) : ¬ (0 ≤ a0 ∧ a0 < a2) := by omega
theorem od4 {a0 a1 a2 : Int} (h0 : a0 ≤ a1) (h1 : a0 = a2) : ¬ (0 ≤ a1 ∧ a1 < a2) := by omega
theorem od5 {a0 a1 : Int} (h0 : a0 ≤ a1) (h1 : a0 = 0) : (0 : Int) ≤ a1 := oz389 h0 h1
theorem od6 {a0 a1 : Int} (h0 : a0 < a1) (h1 : a1 ≤ 121) : a0 < 121 := oz1034 h0 h1
theorem od7 {a0 a1 a2 : Int} (h0 : a0 ≤ a1) (h1 : a0 = 0) (h2 : a2 = 1) : (-2147483648 : Int) ≤ a1 + a2 := oz950 h0 h1 h2
theorem od8 {a0 a1 a2 : Int} (h0 : a0 < a1) (h1 : a1 ≤ 121) (h2 : a2 = 1) : a0 + a2 ≤ 2147483647 := oz1035 h0 h1 h2
theorem od9 {a0 a1 : Int} (h0 : a0 ≤ a1) (h1 : a0 = 121) : ((a1 ≤ 120) ∧ (a1 = (a1 + 1))) ∨ (((121 : Int) ≤ a1) ∧ (a1 = a1)) := by omega
theorem od10 {a0 a1 : Int} (h0 : a0 ≤ a1) (h1 : a0 = 121) : ¬ (a1 ≤ 120) := by omega
theorem od11 {a0 : Int} (h0 : (0 : Int) ≤ a0) : (0 : Int) ≤ a0 := oz3 h0
theorem od12 {a0 a1 : Int} (h0 : a0 < a1) (h1 : a1 = 121) : a0 < 121 := oz912 h0 h1
theorem od13 {a0 a1 : Int} (h0 : (0 : Int) ≤ a0) (h1 : a1 = 1) : (-2147483648 : Int) ≤ a0 + a1 := oz12 h0 h1
theorem od14 {a0 a1 : Int} (h0 : a0 ≤ 121) (h1 : a1 = 1) : a0 + a1 ≤ 2147483647 := oz913 h0 h1
theorem od15 {a0 a1 a2 : Int} (h0 : (0 : Int) ≤ a0) (h1 : a1 = a0 + a2) (h2 : a2 = 1) : (0 : Int) ≤ a1 := oz14 h0 h1 h2
theorem od16 {a0 a1 a2 a3 : Int} (h0 : a0 < a1) (h1 : a2 = a0 + a3) (h2 : a1 = 121) (h3 : a3 = 1) : a2 ≤ 121 := oz914 h0 h1 h2 h3
theorem od17 {a0 a1 a2 a3 : Int} (h0 : a0 < a1) (h1 : a2 = a0 + a3) (h2 : a1 = 121) (h3 : a3 = 1) : ((a0 ≤ 120) ∧ (a2 = (a0 + 1))) ∨ (((121 : Int) ≤ a0) ∧ (a2 = a0)) := by omega
theorem od18 {a0 a1 : Int} (h0 : a0 < a1) (h1 : a1 = 121) : a0 ≤ 120 := by omega
theorem od19 {a0 a1 a2 : Int} (h0 : a0 < a1) (h1 : a1 = 121) (h2 : a2 = 1) : a0 + a2 ≤ 2147483647 := oz1036 h0 h1 h2
theorem od20 {a0 a1 a2 : Int} (h0 : a0 < a1) (h1 : a1 = a2) : a0 < a2 := by omega
theorem od21 {a0 a1 a2 : Int} (h0 : a0 = a1 + a2) (h1 : a2 = 1) : a0 = a1 + 1 := oz169 h0 h1
theorem od22 {a0 : Int} (h0 : a0 = 0) : a0 = 0 := oz236 h0
theorem od23 {a0 a1 a2 : Int} (h0 : a0 = a1 + a2) (h1 : a2 = 1) : (121 - a0) < (121 - a1) := oz1037 h0 h1
theorem od24 {a0 a1 : Int} (h0 : a0 < a1) (h1 : a1 = 121) : (1 : Int) ≤ (121 - a0) := oz1038 h0 h1
theorem od25 {a0 : Int} (h0 : a0 = 1) : a0 = 1 := oz1381 h0
theorem od26 {a0 a1 : Int} (h0 : a0 < a1) (h1 : a1 = 6) : a0 < 6 := oz1039 h0 h1
theorem od27 {a0 a1 a2 : Int} (h0 : a0 < a1) (h1 : a0 = 0) (h2 : a2 = 1) : (-2147483648 : Int) ≤ a1 - a2 := oz1040 h0 h1 h2
theorem od28 {a0 a1 : Int} (h0 : a0 ≤ 121) (h1 : a1 = 1) : a0 - a1 ≤ 2147483647 := oz911 h0 h1
theorem od29 {a0 a1 a2 a3 : Int} (h0 : a0 < a1) (h1 : a2 = a1 - a3) (h2 : a0 = 0) (h3 : a3 = 1) : (0 : Int) ≤ a2 := oz1041 h0 h1 h2 h3
theorem od30 {a0 a1 a2 : Int} (h0 : a0 ≤ 121) (h1 : a1 = a0 - a2) (h2 : a2 = 1) : a1 ≤ 121 := oz1042 h0 h1 h2
theorem od31 {a0 a1 a2 : Int} (h0 : a0 ≤ 121) (h1 : a1 = a0 - a2) (h2 : a2 = 1) : a1 < 121 := oz1043 h0 h1 h2
theorem od32 {a0 a1 a2 a3 : Int} (h0 : a0 < a1) (h1 : a2 = a1 - a3) (h2 : a0 = 0) (h3 : a3 = 1) : (((1 : Int) ≤ a1) ∧ (a2 = (a1 - 1))) ∨ ((a1 ≤ 0) ∧ (a2 = a1)) := by omega
theorem od33 {a0 a1 : Int} (h0 : a0 < a1) (h1 : a0 = 0) : 1 ≤ a1 := by omega
theorem od34 {a0 a1 : Int} (h0 : a0 ≤ a1) (h1 : a1 = 0) : (((1 : Int) ≤ a0) ∧ (a0 = (a0 - 1))) ∨ ((a0 ≤ 0) ∧ (a0 = a0)) := by omega
theorem od35 {a0 a1 : Int} (h0 : a0 ≤ a1) (h1 : a1 = 0) : ¬ (1 ≤ a0) := by omega
theorem od36 {a0 : Int} (h0 : a0 = 2) : a0 = 2 := oz1411 h0
theorem od37 {a0 : Int} (h0 : a0 = 3) : a0 = 3 := oz1421 h0
theorem od38 {a0 : Int} (h0 : a0 = 33) : a0 = 33 := by omega
theorem od39 {a0 : Int} (h0 : a0 = 126) : a0 = 126 := by omega
theorem od40 {a0 a1 : Int} (h0 : a0 ≠ a1) (h1 : a1 = 0) : a0 ≠ 0 := oz295 h0 h1
theorem od41 {a0 : Int} (h0 : ¬ (a0 = 0)) : a0 ≠ 0 := oz1718 h0
theorem od42 {a0 : Int} (h0 : ¬ (a0 = 0)) (h1 : ¬ (a0 = 1)) : a0 ≠ 1 := oz1719 h0 h1
theorem od43 {a0 : Int} (h0 : ¬ (a0 = 0)) (h1 : ¬ (a0 = 1)) (h2 : ¬ (a0 = 2)) : a0 ≠ 2 := oz1720 h0 h1 h2
theorem od44 {a0 : Int} (h0 : ¬ (a0 = 0)) (h1 : ¬ (a0 = 1)) (h2 : ¬ (a0 = 2)) (h3 : ¬ (a0 = 3)) : a0 ≠ 3 := by omega
theorem od45 {a0 : Int} (h0 : ¬ (a0 = 33)) : a0 ≠ 33 := by omega
theorem od46 {a0 : Int} (h0 : ¬ (a0 = 126)) : a0 ≠ 126 := by omega
theorem od47 {a0 : Int} (h0 : a0 ≤ 7) : a0 < 8 := oz1032 h0
theorem od48 {a0 a1 : Int} (h0 : a0 = a1) (h1 : (0 : Int) ≤ a0) (h2 : a1 = 0) : a0 = 0 := by omega
theorem od49 {a0 : Int} (h0 : a0 = 0) : a0 < 6 := oz255 h0
theorem od50 {a0 : Int} (h0 : a0 = 1) : (0 : Int) ≤ a0 := oz246 h0
theorem od51 {a0 : Int} (h0 : a0 = 1) : a0 < 6 := oz247 h0
theorem od52 {a0 : Int} (h0 : a0 = 2) : (0 : Int) ≤ a0 := oz256 h0
theorem od53 {a0 : Int} (h0 : a0 = 2) : a0 < 6 := oz257 h0
theorem od54 {a0 : Int} (h0 : a0 = 3) : (0 : Int) ≤ a0 := oz260 h0
theorem od55 {a0 : Int} (h0 : a0 = 3) : a0 < 6 := oz261 h0
theorem od56 {a0 : Int} (h0 : a0 = 4) : (0 : Int) ≤ a0 := oz262 h0
theorem od57 {a0 : Int} (h0 : a0 = 4) : a0 < 6 := oz263 h0
theorem od58 {a0 : Int} (h0 : a0 = 5) : (0 : Int) ≤ a0 := oz264 h0
theorem od59 {a0 : Int} (h0 : a0 = 5) : a0 < 6 := oz265 h0
theorem od60 {a0 a1 : Int} (h0 : a0 ≠ a1) (h1 : (0 : Int) ≤ a0) (h2 : a1 = 0) : ¬ (a0 = 0) := by omega
def yw19_10 : kW := ([645], [13], [], [])
set_option maxRecDepth 100000 in
theorem ke19_10 {i : Nat → Int32} {a : Nat → List Int32} {q : Nat → List Int64} {r : Nat → Nat} (hI : kI i a q) (hr : kr r) (x1 : Int32) : km 1 19 [.ref 10, .int x1] (ks i a q r) (kVN yw19_10 i a q r (fun i1 a1 q1 r1 => ((((i 645).toInt ≤ 120) ∧ ((i1 645).toInt = ((i 645).toInt + 1))) ∨ (((121 : Int) ≤ (i 645).toInt) ∧ ((i1 645).toInt = (i 645).toInt))) ∧ (a1 13, i1 645) = lPush (a 13, i 645) x1)) := by
  have hG := kG_self yw19_10 hI hr
  refine km_ofN (q := (mi_h19, mi_c19)) rfl (by decide) (Nat.le_of_ble_eq_true rfl) ?_
  intro P hP
  have fi_645 : ((0 : Int) ≤ (i 645).toInt) ∧ ((i 645).toInt ≤ 121) := hG.I.1 645
  first | refine fo_goL mi_k19 fz19_0_3_6 [(0, .ref 10), (1, .int x1)] [.int 121, .int (i 645)] (by rfl) ?_ | refine ft_go mi_k19 3 6 [(0, .ref 10), (1, .int x1)] [.int 121, .int (i 645)] i a q r (by rfl) ?_
  refine ft_ifS mi_k19 (decide (121 ≤ (i 645))) 29 9 [] (by rfl) (fun c => ?_) (fun c => ?_)
  ·
    have c1 : (121 : Int32).toInt ≤ (i 645).toInt := kd_le c; clear c
    exact ft_ret mi_k19 (by rfl) (hP  _ _ _ _ hG ⟨(od9 c1 kod121), ((show (a 13, i 645) = (a 13, i 645) from rfl).trans (if_neg (od10 c1 kod121)).symm)⟩)
  ·
    have c2 : (i 645).toInt < (121 : Int32).toInt := kd_leF c; clear c
    first | refine fo_goS mi_k19 fz19_9_5_18 [.int x1, .int (i 645), .ref 13] (by rfl) ?_ | refine ft_go mi_k19 5 18 [(0, .ref 10), (1, .int x1)] [.int x1, .int (i 645), .ref 13] i a q r (by rfl) ?_
    refine ko_iast3 mi_k19.1 (n := 121) (c := 121) (ax := (0, 0, 0, 0, 0)) (mi_k19.2 _ _ (by rfl)) (by rfl) (ksG13 _ _ _ _) (ksA13 _ _ _ _) (hG.I.2.1 13) rfl (od11 fi_645.1) (od12 c2 kod121) ?_
    intro a3 ea3 fa3
    have hJ3 := kG_a3 hG 13 rfl ea3 fa3 (kd_bd _)
    have s4 : ((i 645) + 1).toInt = (i 645).toInt + (1 : Int32).toInt := kd_add (od13 fi_645.1 kod1) (od14 fi_645.2 kod1)
    have hJ5 := kG_i hJ3 645 rfl (v := ((i 645) + 1)) ⟨(od15 fi_645.1 s4 kod1), (od16 c2 s4 kod121 kod1)⟩
    first | refine fo_goI mi_k19 fz19_19_6_29 [] (ku i 645 ((i 645) + 1)) (by rfl) ?_ | refine ft_go mi_k19 6 29 [(0, .ref 10), (1, .int x1)] [] (ku i 645 ((i 645) + 1)) a3 q r (by rfl) ?_
    exact ft_ret mi_k19 (by rfl) (hP  _ _ _ _ hJ5 ⟨(od17 c2 s4 kod121 kod1), ((show (a3 13, ((i 645) + 1)) = ((a 13).set (i 645).toNatClampNeg x1, i 645 + 1) from by rw [ea3]).trans (if_pos (od18 c2 kod121)).symm)⟩)
def yw20_10 : kW := ([645], [], [], [])
set_option maxRecDepth 100000 in
theorem ke20_10 {i : Nat → Int32} {a : Nat → List Int32} {q : Nat → List Int64} {r : Nat → Nat} (hI : kI i a q) (hr : kr r)  : km 1 20 [.ref 10] (ks i a q r) (kVI yw20_10 i a q r (fun v i1 a1 q1 r1 => ((((1 : Int) ≤ (i 645).toInt) ∧ ((i1 645).toInt = ((i 645).toInt - 1))) ∨ (((i 645).toInt ≤ 0) ∧ ((i1 645).toInt = (i 645).toInt))) ∧ (v, (a1 13, i1 645)) = lPop (a 13, i 645))) := by
  have hG := kG_self yw20_10 hI hr
  refine km_ofI (q := (mi_h20, mi_c20)) rfl (by decide) (Nat.le_of_ble_eq_true rfl) ?_
  intro P hP
  have fi_645 : ((0 : Int) ≤ (i 645).toInt) ∧ ((i 645).toInt ≤ 121) := hG.I.1 645
  first | refine fo_goL mi_k20 fz20_0_2_4 [(0, .ref 10)] [.int (i 645)] (by rfl) ?_ | refine ft_go mi_k20 2 4 [(0, .ref 10)] [.int (i 645)] i a q r (by rfl) ?_
  refine ft_ifS mi_k20 (decide (0 < (i 645))) 9 7 [] (by rfl) (fun c => ?_) (fun c => ?_)
  ·
    have c1 : (0 : Int32).toInt < (i 645).toInt := kd_lt c; clear c
    have s2 : ((i 645) - 1).toInt = (i 645).toInt - (1 : Int32).toInt := kd_sub (od27 c1 kod0 kod1) (od28 fi_645.2 kod1)
    have hJ3 := kG_i hG 645 rfl (v := ((i 645) - 1)) ⟨(od29 c1 s2 kod0 kod1), (od30 fi_645.2 s2 kod1)⟩
    first | refine fo_goI mi_k20 fz20_9_10_27 [.int ((i 645) - 1), .ref 13] (ku i 645 ((i 645) - 1)) (by rfl) ?_ | refine ft_go mi_k20 10 27 [(0, .ref 10)] [.int ((i 645) - 1), .ref 13] (ku i 645 ((i 645) - 1)) a q r (by rfl) ?_
    refine ko_iald3 mi_k20.1 (n := 121) (c := 121) (ax := (0, 0, 0, 0, 0)) (mi_k20.2 _ _ (by rfl)) (by rfl) (ksG13 _ _ _ _) (hJ3.I.2.1 13) rfl (od29 c1 s2 kod0 kod1) (od31 fi_645.2 s2 kod1) ?_
    exact ft_ret mi_k20 (by rfl) (hP ((a 13).getD ((i 645) - 1).toNatClampNeg 0) _ _ _ _ hJ3 ⟨(od32 c1 s2 kod0 kod1), ((show (((a 13).getD ((i 645) - 1).toNatClampNeg 0), (a 13, ((i 645) - 1))) = ((a 13).getD (i 645 - 1).toNatClampNeg 0, (a 13, i 645 - 1)) from rfl).trans (if_pos (od33 c1 kod0)).symm)⟩)
  ·
    have c4 : (i 645).toInt ≤ (0 : Int32).toInt := kd_ltF c; clear c
    first | refine fo_goS mi_k20 fz20_7_1_8 [.int 0] (by rfl) ?_ | refine ft_go mi_k20 1 8 [(0, .ref 10)] [.int 0] i a q r (by rfl) ?_
    exact ft_ret mi_k20 (by rfl) (hP 0 _ _ _ _ hG ⟨(od34 c4 kod0), ((show ((0 : Int32), (a 13, i 645)) = (0, (a 13, i 645)) from rfl).trans (if_neg (od35 c4 kod0)).symm)⟩)
set_option maxRecDepth 100000 in
theorem ke22 {i : Nat → Int32} {a : Nat → List Int32} {q : Nat → List Int64} {r : Nat → Nat} (hI : kI i a q) (hr : kr r) (x1 : Int32) (x2 : Int32) (x3 : Int32) : km 1 22 [.int x1, .int x2, .int x3] (ks i a q r) (kPI (ks i a q r) (fun v => (True) ∧ v = cJoin x1 x2 x3)) := by
  have hG := kG_self kW0 hI hr
  refine km_ofPI (q := (mi_h22, mi_c22)) rfl (by decide) (Nat.le_of_ble_eq_true rfl) ?_
  intro P hP
  first | refine ft_goL mi_k22 1 1 [(0, .int x1), (1, .int x2), (2, .int x3)] [.int x1] (by rfl) ?_ | refine ft_go mi_k22 1 1 [(0, .int x1), (1, .int x2), (2, .int x3)] [.int x1] i a q r (by rfl) ?_
  by_cases w1 : x1.toInt = 37
  ·
    refine ft_swx mi_k22 (pc := 1) (v := 37) (t := 177) (kj_eq w1 (by decide) : x1 = 37) (by decide +kernel) ?_
    first | refine ft_goS mi_k22 1 178 [.int x3] (by rfl) ?_ | refine ft_go mi_k22 1 178 [(0, .int x1), (1, .int x2), (2, .int x3)] [.int x3] i a q r (by rfl) ?_
    refine ft_ifS mi_k22 (x3 != 0) 185 181 [] (by rfl) (fun c => ?_) (fun c => ?_)
    ·
      have c2 : x3.toInt ≠ (0 : Int32).toInt := kd_ne c; clear c
      first | refine ft_goS mi_k22 2 187 [.int x3, .int x2] (by rfl) ?_ | refine ft_go mi_k22 2 187 [(0, .int x1), (1, .int x2), (2, .int x3)] [.int x3, .int x2] i a q r (by rfl) ?_
      refine ko_irem mi_k22.1 (ax := (0, 0, 0, 0, 0)) (mi_k22.2 _ _ (by rfl)) (od40 c2 kod0) ?_
      exact ft_ret mi_k22 (by rfl) (hP (x2 - x2 / x3 * x3) ⟨trivial, (show (x2 - x2 / x3 * x3) = cJoin x1 x2 x3 from (by have k0_ : (0 : Int32).toInt = 0 := (by decide); have k6_ : (6 : Int32).toInt = 6 := (by decide); first | (unfold cJoin; rw [if_neg (show ¬ (x1.toInt = 124) by omega), if_neg (show ¬ (x1.toInt = 38) by omega), if_neg (show ¬ (x1.toInt = 60) by omega), if_neg (show ¬ (x1.toInt = 61) by omega), if_neg (show ¬ (x1.toInt = 62) by omega), if_neg (show ¬ (x1.toInt = 43) by omega), if_neg (show ¬ (x1.toInt = 45) by omega), if_neg (show ¬ (x1.toInt = 42) by omega), if_neg (show ¬ (x1.toInt = 47) by omega), if_pos w1]; all_goals first | (split <;> first | rfl | (exfalso; omega)) | rfl) | (unfold cJoin; (repeat' split) <;> first | rfl | (exfalso; omega))))⟩)
    ·
      have c3 : x3.toInt = (0 : Int32).toInt := kd_neF c; clear c
      first | refine ft_goS mi_k22 2 188 [.int 0] (by rfl) ?_ | refine ft_go mi_k22 2 188 [(0, .int x1), (1, .int x2), (2, .int x3)] [.int 0] i a q r (by rfl) ?_
      exact ft_ret mi_k22 (by rfl) (hP 0 ⟨trivial, (show (0 : Int32) = cJoin x1 x2 x3 from (by have k0_ : (0 : Int32).toInt = 0 := (by decide); have k6_ : (6 : Int32).toInt = 6 := (by decide); first | (unfold cJoin; rw [if_neg (show ¬ (x1.toInt = 124) by omega), if_neg (show ¬ (x1.toInt = 38) by omega), if_neg (show ¬ (x1.toInt = 60) by omega), if_neg (show ¬ (x1.toInt = 61) by omega), if_neg (show ¬ (x1.toInt = 62) by omega), if_neg (show ¬ (x1.toInt = 43) by omega), if_neg (show ¬ (x1.toInt = 45) by omega), if_neg (show ¬ (x1.toInt = 42) by omega), if_neg (show ¬ (x1.toInt = 47) by omega), if_pos w1]; all_goals first | (split <;> first | rfl | (exfalso; omega)) | rfl) | (unfold cJoin; (repeat' split) <;> first | rfl | (exfalso; omega))))⟩)
  by_cases w4 : x1.toInt = 38
  ·
    refine ft_swx mi_k22 (pc := 1) (v := 38) (t := 106) (kj_eq w4 (by decide) : x1 = 38) (by decide +kernel) ?_
    first | refine ft_goS mi_k22 1 107 [.int x2] (by rfl) ?_ | refine ft_go mi_k22 1 107 [(0, .int x1), (1, .int x2), (2, .int x3)] [.int x2] i a q r (by rfl) ?_
    refine ft_ifS mi_k22 (x2 == 0) 118 110 [] (by rfl) (fun c => ?_) (fun c => ?_)
    ·
      have c5 : x2.toInt = (0 : Int32).toInt := kd_eq c; clear c
      first | refine ft_goS mi_k22 1 119 [.int 0] (by rfl) ?_ | refine ft_go mi_k22 1 119 [(0, .int x1), (1, .int x2), (2, .int x3)] [.int 0] i a q r (by rfl) ?_
      exact ft_ret mi_k22 (by rfl) (hP 0 ⟨trivial, (show (0 : Int32) = cJoin x1 x2 x3 from (by have k0_ : (0 : Int32).toInt = 0 := (by decide); have k6_ : (6 : Int32).toInt = 6 := (by decide); first | (unfold cJoin; rw [if_neg (show ¬ (x1.toInt = 124) by omega), if_pos w4]; all_goals first | (split <;> first | rfl | (exfalso; omega)) | rfl) | (unfold cJoin; (repeat' split) <;> first | rfl | (exfalso; omega))))⟩)
    ·
      have c6 : x2.toInt ≠ (0 : Int32).toInt := kd_eqF c; clear c
      first | refine ft_goS mi_k22 1 111 [.int x3] (by rfl) ?_ | refine ft_go mi_k22 1 111 [(0, .int x1), (1, .int x2), (2, .int x3)] [.int x3] i a q r (by rfl) ?_
      refine ft_ifS mi_k22 (x3 == 0) 118 114 [] (by rfl) (fun c => ?_) (fun c => ?_)
      ·
        have c7 : x3.toInt = (0 : Int32).toInt := kd_eq c; clear c
        first | refine ft_goS mi_k22 1 119 [.int 0] (by rfl) ?_ | refine ft_go mi_k22 1 119 [(0, .int x1), (1, .int x2), (2, .int x3)] [.int 0] i a q r (by rfl) ?_
        exact ft_ret mi_k22 (by rfl) (hP 0 ⟨trivial, (show (0 : Int32) = cJoin x1 x2 x3 from (by have k0_ : (0 : Int32).toInt = 0 := (by decide); have k6_ : (6 : Int32).toInt = 6 := (by decide); first | (unfold cJoin; rw [if_neg (show ¬ (x1.toInt = 124) by omega), if_pos w4]; all_goals first | (split <;> first | rfl | (exfalso; omega)) | rfl) | (unfold cJoin; (repeat' split) <;> first | rfl | (exfalso; omega))))⟩)
      ·
        have c8 : x3.toInt ≠ (0 : Int32).toInt := kd_eqF c; clear c
        first | refine ft_goS mi_k22 2 119 [.int 1] (by rfl) ?_ | refine ft_go mi_k22 2 119 [(0, .int x1), (1, .int x2), (2, .int x3)] [.int 1] i a q r (by rfl) ?_
        exact ft_ret mi_k22 (by rfl) (hP 1 ⟨trivial, (show (1 : Int32) = cJoin x1 x2 x3 from (by have k0_ : (0 : Int32).toInt = 0 := (by decide); have k6_ : (6 : Int32).toInt = 6 := (by decide); first | (unfold cJoin; rw [if_neg (show ¬ (x1.toInt = 124) by omega), if_pos w4]; all_goals first | (split <;> first | rfl | (exfalso; omega)) | rfl) | (unfold cJoin; (repeat' split) <;> first | rfl | (exfalso; omega))))⟩)
  by_cases w9 : x1.toInt = 42
  ·
    refine ft_swx mi_k22 (pc := 1) (v := 42) (t := 161) (kj_eq w9 (by decide) : x1 = 42) (by decide +kernel) ?_
    first | refine fo_goS mi_k22 fz22_161_3_164 [.int (x2 * x3)] (by rfl) ?_ | refine ft_go mi_k22 3 164 [(0, .int x1), (1, .int x2), (2, .int x3)] [.int (x2 * x3)] i a q r (by rfl) ?_
    exact ft_ret mi_k22 (by rfl) (hP (x2 * x3) ⟨trivial, (show (x2 * x3) = cJoin x1 x2 x3 from (by have k0_ : (0 : Int32).toInt = 0 := (by decide); have k6_ : (6 : Int32).toInt = 6 := (by decide); first | (unfold cJoin; rw [if_neg (show ¬ (x1.toInt = 124) by omega), if_neg w4, if_neg (show ¬ (x1.toInt = 60) by omega), if_neg (show ¬ (x1.toInt = 61) by omega), if_neg (show ¬ (x1.toInt = 62) by omega), if_neg (show ¬ (x1.toInt = 43) by omega), if_neg (show ¬ (x1.toInt = 45) by omega), if_pos w9]; all_goals first | (split <;> first | rfl | (exfalso; omega)) | rfl) | (unfold cJoin; (repeat' split) <;> first | rfl | (exfalso; omega))))⟩)
  by_cases w10 : x1.toInt = 43
  ·
    refine ko_eq (x1 := (1, [(0, .int x1), (1, .int x2), (2, .int x3)], [.int 43], (0, 0), ks i a q r)) (by rw [(kj_eq w10 (by decide) : x1 = 43)]) ?_
    have b11 : ((-2147483648 : Int) ≤ x2.toInt) ∧ (x2.toInt ≤ 2147483647) := kd_bd x2
    have b12 : ((-2147483648 : Int) ≤ x3.toInt) ∧ (x3.toInt ≤ 2147483647) := kd_bd x3
    first | refine ft_goS mi_k22 4 156 [.int (x2 + x3)] (by rfl) ?_ | refine ft_go mi_k22 4 156 [(0, .int x1), (1, .int x2), (2, .int x3)] [.int (x2 + x3)] i a q r (by rfl) ?_
    exact ft_ret mi_k22 (by rfl) (hP (x2 + x3) ⟨trivial, (show (x2 + x3) = cJoin x1 x2 x3 from (by have k0_ : (0 : Int32).toInt = 0 := (by decide); have k6_ : (6 : Int32).toInt = 6 := (by decide); first | (unfold cJoin; rw [if_neg (show ¬ (x1.toInt = 124) by omega), if_neg w4, if_neg (show ¬ (x1.toInt = 60) by omega), if_neg (show ¬ (x1.toInt = 61) by omega), if_neg (show ¬ (x1.toInt = 62) by omega), if_pos w10]; all_goals first | (split <;> first | rfl | (exfalso; omega)) | rfl) | (unfold cJoin; (repeat' split) <;> first | rfl | (exfalso; omega))))⟩)
  by_cases w13 : x1.toInt = 45
  ·
    refine ko_eq (x1 := (1, [(0, .int x1), (1, .int x2), (2, .int x3)], [.int 45], (0, 0), ks i a q r)) (by rw [(kj_eq w13 (by decide) : x1 = 45)]) ?_
    have b14 : ((-2147483648 : Int) ≤ x2.toInt) ∧ (x2.toInt ≤ 2147483647) := kd_bd x2
    have b15 : ((-2147483648 : Int) ≤ x3.toInt) ∧ (x3.toInt ≤ 2147483647) := kd_bd x3
    first | refine ft_goS mi_k22 4 160 [.int (x2 - x3)] (by rfl) ?_ | refine ft_go mi_k22 4 160 [(0, .int x1), (1, .int x2), (2, .int x3)] [.int (x2 - x3)] i a q r (by rfl) ?_
    exact ft_ret mi_k22 (by rfl) (hP (x2 - x3) ⟨trivial, (show (x2 - x3) = cJoin x1 x2 x3 from (by have k0_ : (0 : Int32).toInt = 0 := (by decide); have k6_ : (6 : Int32).toInt = 6 := (by decide); first | (unfold cJoin; rw [if_neg (show ¬ (x1.toInt = 124) by omega), if_neg w4, if_neg (show ¬ (x1.toInt = 60) by omega), if_neg (show ¬ (x1.toInt = 61) by omega), if_neg (show ¬ (x1.toInt = 62) by omega), if_neg w10, if_pos w13]; all_goals first | (split <;> first | rfl | (exfalso; omega)) | rfl) | (unfold cJoin; (repeat' split) <;> first | rfl | (exfalso; omega))))⟩)
  by_cases w16 : x1.toInt = 47
  ·
    refine ft_swx mi_k22 (pc := 1) (v := 47) (t := 165) (kj_eq w16 (by decide) : x1 = 47) (by decide +kernel) ?_
    first | refine ft_goS mi_k22 1 166 [.int x3] (by rfl) ?_ | refine ft_go mi_k22 1 166 [(0, .int x1), (1, .int x2), (2, .int x3)] [.int x3] i a q r (by rfl) ?_
    refine ft_ifS mi_k22 (x3 != 0) 173 169 [] (by rfl) (fun c => ?_) (fun c => ?_)
    ·
      have c17 : x3.toInt ≠ (0 : Int32).toInt := kd_ne c; clear c
      first | refine ft_goS mi_k22 2 175 [.int x3, .int x2] (by rfl) ?_ | refine ft_go mi_k22 2 175 [(0, .int x1), (1, .int x2), (2, .int x3)] [.int x3, .int x2] i a q r (by rfl) ?_
      refine ko_idiv mi_k22.1 (ax := (0, 0, 0, 0, 0)) (mi_k22.2 _ _ (by rfl)) (od40 c17 kod0) ?_
      exact ft_ret mi_k22 (by rfl) (hP (x2 / x3) ⟨trivial, (show (x2 / x3) = cJoin x1 x2 x3 from (by have k0_ : (0 : Int32).toInt = 0 := (by decide); have k6_ : (6 : Int32).toInt = 6 := (by decide); first | (unfold cJoin; rw [if_neg (show ¬ (x1.toInt = 124) by omega), if_neg w4, if_neg (show ¬ (x1.toInt = 60) by omega), if_neg (show ¬ (x1.toInt = 61) by omega), if_neg (show ¬ (x1.toInt = 62) by omega), if_neg w10, if_neg w13, if_neg w9, if_pos w16]; all_goals first | (split <;> first | rfl | (exfalso; omega)) | rfl) | (unfold cJoin; (repeat' split) <;> first | rfl | (exfalso; omega))))⟩)
    ·
      have c18 : x3.toInt = (0 : Int32).toInt := kd_neF c; clear c
      first | refine ft_goS mi_k22 2 176 [.int 0] (by rfl) ?_ | refine ft_go mi_k22 2 176 [(0, .int x1), (1, .int x2), (2, .int x3)] [.int 0] i a q r (by rfl) ?_
      exact ft_ret mi_k22 (by rfl) (hP 0 ⟨trivial, (show (0 : Int32) = cJoin x1 x2 x3 from (by have k0_ : (0 : Int32).toInt = 0 := (by decide); have k6_ : (6 : Int32).toInt = 6 := (by decide); first | (unfold cJoin; rw [if_neg (show ¬ (x1.toInt = 124) by omega), if_neg w4, if_neg (show ¬ (x1.toInt = 60) by omega), if_neg (show ¬ (x1.toInt = 61) by omega), if_neg (show ¬ (x1.toInt = 62) by omega), if_neg w10, if_neg w13, if_neg w9, if_pos w16]; all_goals first | (split <;> first | rfl | (exfalso; omega)) | rfl) | (unfold cJoin; (repeat' split) <;> first | rfl | (exfalso; omega))))⟩)
  by_cases w19 : x1.toInt = 60
  ·
    refine ft_swx mi_k22 (pc := 1) (v := 60) (t := 120) (kj_eq w19 (by decide) : x1 = 60) (by decide +kernel) ?_
    first | refine ft_goS mi_k22 2 122 [.int x3, .int x2] (by rfl) ?_ | refine ft_go mi_k22 2 122 [(0, .int x1), (1, .int x2), (2, .int x3)] [.int x3, .int x2] i a q r (by rfl) ?_
    refine ft_ifS mi_k22 (decide (x3 ≤ x2)) 129 125 [] (by rfl) (fun c => ?_) (fun c => ?_)
    ·
      have c20 : x3.toInt ≤ x2.toInt := kd_le c; clear c
      first | refine ft_goS mi_k22 1 130 [.int 0] (by rfl) ?_ | refine ft_go mi_k22 1 130 [(0, .int x1), (1, .int x2), (2, .int x3)] [.int 0] i a q r (by rfl) ?_
      exact ft_ret mi_k22 (by rfl) (hP 0 ⟨trivial, (show (0 : Int32) = cJoin x1 x2 x3 from (by have k0_ : (0 : Int32).toInt = 0 := (by decide); have k6_ : (6 : Int32).toInt = 6 := (by decide); first | (unfold cJoin; rw [if_neg (show ¬ (x1.toInt = 124) by omega), if_neg w4, if_pos w19]; all_goals first | (split <;> first | rfl | (exfalso; omega)) | rfl) | (unfold cJoin; (repeat' split) <;> first | rfl | (exfalso; omega))))⟩)
    ·
      have c21 : x2.toInt < x3.toInt := kd_leF c; clear c
      first | refine ft_goS mi_k22 2 130 [.int 1] (by rfl) ?_ | refine ft_go mi_k22 2 130 [(0, .int x1), (1, .int x2), (2, .int x3)] [.int 1] i a q r (by rfl) ?_
      exact ft_ret mi_k22 (by rfl) (hP 1 ⟨trivial, (show (1 : Int32) = cJoin x1 x2 x3 from (by have k0_ : (0 : Int32).toInt = 0 := (by decide); have k6_ : (6 : Int32).toInt = 6 := (by decide); first | (unfold cJoin; rw [if_neg (show ¬ (x1.toInt = 124) by omega), if_neg w4, if_pos w19]; all_goals first | (split <;> first | rfl | (exfalso; omega)) | rfl) | (unfold cJoin; (repeat' split) <;> first | rfl | (exfalso; omega))))⟩)
  by_cases w22 : x1.toInt = 61
  ·
    refine ft_swx mi_k22 (pc := 1) (v := 61) (t := 131) (kj_eq w22 (by decide) : x1 = 61) (by decide +kernel) ?_
    first | refine ft_goS mi_k22 2 133 [.int x3, .int x2] (by rfl) ?_ | refine ft_go mi_k22 2 133 [(0, .int x1), (1, .int x2), (2, .int x3)] [.int x3, .int x2] i a q r (by rfl) ?_
    refine ft_ifS mi_k22 (x2 != x3) 140 136 [] (by rfl) (fun c => ?_) (fun c => ?_)
    ·
      have c23 : x2.toInt ≠ x3.toInt := kd_ne c; clear c
      first | refine ft_goS mi_k22 1 141 [.int 0] (by rfl) ?_ | refine ft_go mi_k22 1 141 [(0, .int x1), (1, .int x2), (2, .int x3)] [.int 0] i a q r (by rfl) ?_
      exact ft_ret mi_k22 (by rfl) (hP 0 ⟨trivial, (show (0 : Int32) = cJoin x1 x2 x3 from (by have k0_ : (0 : Int32).toInt = 0 := (by decide); have k6_ : (6 : Int32).toInt = 6 := (by decide); first | (unfold cJoin; rw [if_neg (show ¬ (x1.toInt = 124) by omega), if_neg w4, if_neg w19, if_pos w22]; all_goals first | (split <;> first | rfl | (exfalso; omega)) | rfl) | (unfold cJoin; (repeat' split) <;> first | rfl | (exfalso; omega))))⟩)
    ·
      have c24 : x2.toInt = x3.toInt := kd_neF c; clear c
      first | refine ft_goS mi_k22 2 141 [.int 1] (by rfl) ?_ | refine ft_go mi_k22 2 141 [(0, .int x1), (1, .int x2), (2, .int x3)] [.int 1] i a q r (by rfl) ?_
      exact ft_ret mi_k22 (by rfl) (hP 1 ⟨trivial, (show (1 : Int32) = cJoin x1 x2 x3 from (by have k0_ : (0 : Int32).toInt = 0 := (by decide); have k6_ : (6 : Int32).toInt = 6 := (by decide); first | (unfold cJoin; rw [if_neg (show ¬ (x1.toInt = 124) by omega), if_neg w4, if_neg w19, if_pos w22]; all_goals first | (split <;> first | rfl | (exfalso; omega)) | rfl) | (unfold cJoin; (repeat' split) <;> first | rfl | (exfalso; omega))))⟩)
  by_cases w25 : x1.toInt = 62
  ·
    refine ft_swx mi_k22 (pc := 1) (v := 62) (t := 142) (kj_eq w25 (by decide) : x1 = 62) (by decide +kernel) ?_
    first | refine ft_goS mi_k22 2 144 [.int x3, .int x2] (by rfl) ?_ | refine ft_go mi_k22 2 144 [(0, .int x1), (1, .int x2), (2, .int x3)] [.int x3, .int x2] i a q r (by rfl) ?_
    refine ft_ifS mi_k22 (decide (x2 ≤ x3)) 151 147 [] (by rfl) (fun c => ?_) (fun c => ?_)
    ·
      have c26 : x2.toInt ≤ x3.toInt := kd_le c; clear c
      first | refine ft_goS mi_k22 1 152 [.int 0] (by rfl) ?_ | refine ft_go mi_k22 1 152 [(0, .int x1), (1, .int x2), (2, .int x3)] [.int 0] i a q r (by rfl) ?_
      exact ft_ret mi_k22 (by rfl) (hP 0 ⟨trivial, (show (0 : Int32) = cJoin x1 x2 x3 from (by have k0_ : (0 : Int32).toInt = 0 := (by decide); have k6_ : (6 : Int32).toInt = 6 := (by decide); first | (unfold cJoin; rw [if_neg (show ¬ (x1.toInt = 124) by omega), if_neg w4, if_neg w19, if_neg w22, if_pos w25]; all_goals first | (split <;> first | rfl | (exfalso; omega)) | rfl) | (unfold cJoin; (repeat' split) <;> first | rfl | (exfalso; omega))))⟩)
    ·
      have c27 : x3.toInt < x2.toInt := kd_leF c; clear c
      first | refine ft_goS mi_k22 2 152 [.int 1] (by rfl) ?_ | refine ft_go mi_k22 2 152 [(0, .int x1), (1, .int x2), (2, .int x3)] [.int 1] i a q r (by rfl) ?_
      exact ft_ret mi_k22 (by rfl) (hP 1 ⟨trivial, (show (1 : Int32) = cJoin x1 x2 x3 from (by have k0_ : (0 : Int32).toInt = 0 := (by decide); have k6_ : (6 : Int32).toInt = 6 := (by decide); first | (unfold cJoin; rw [if_neg (show ¬ (x1.toInt = 124) by omega), if_neg w4, if_neg w19, if_neg w22, if_pos w25]; all_goals first | (split <;> first | rfl | (exfalso; omega)) | rfl) | (unfold cJoin; (repeat' split) <;> first | rfl | (exfalso; omega))))⟩)
  by_cases w28 : x1.toInt = 124
  ·
    refine ft_swx mi_k22 (pc := 1) (v := 124) (t := 92) (kj_eq w28 (by decide) : x1 = 124) (by decide +kernel) ?_
    first | refine ft_goS mi_k22 1 93 [.int x2] (by rfl) ?_ | refine ft_go mi_k22 1 93 [(0, .int x1), (1, .int x2), (2, .int x3)] [.int x2] i a q r (by rfl) ?_
    refine ft_ifS mi_k22 (x2 != 0) 100 96 [] (by rfl) (fun c => ?_) (fun c => ?_)
    ·
      have c29 : x2.toInt ≠ (0 : Int32).toInt := kd_ne c; clear c
      first | refine fo_goS mi_k22 fz22_100_2_105 [.int 1] (by rfl) ?_ | refine fo_goS mi_k22 fz22_97_2_105 [.int 1] (by rfl) ?_ | refine ft_go mi_k22 2 105 [(0, .int x1), (1, .int x2), (2, .int x3)] [.int 1] i a q r (by rfl) ?_
      exact ft_ret mi_k22 (by rfl) (hP 1 ⟨trivial, (show (1 : Int32) = cJoin x1 x2 x3 from (by have k0_ : (0 : Int32).toInt = 0 := (by decide); have k6_ : (6 : Int32).toInt = 6 := (by decide); first | (unfold cJoin; rw [if_pos w28]; all_goals first | (split <;> first | rfl | (exfalso; omega)) | rfl) | (unfold cJoin; (repeat' split) <;> first | rfl | (exfalso; omega))))⟩)
    ·
      have c30 : x2.toInt = (0 : Int32).toInt := kd_neF c; clear c
      first | refine ft_goS mi_k22 1 97 [.int x3] (by rfl) ?_ | refine ft_go mi_k22 1 97 [(0, .int x1), (1, .int x2), (2, .int x3)] [.int x3] i a q r (by rfl) ?_
      refine ft_ifS mi_k22 (x3 == 0) 104 100 [] (by rfl) (fun c => ?_) (fun c => ?_)
      ·
        have c31 : x3.toInt = (0 : Int32).toInt := kd_eq c; clear c
        first | refine ft_goS mi_k22 1 105 [.int 0] (by rfl) ?_ | refine ft_go mi_k22 1 105 [(0, .int x1), (1, .int x2), (2, .int x3)] [.int 0] i a q r (by rfl) ?_
        exact ft_ret mi_k22 (by rfl) (hP 0 ⟨trivial, (show (0 : Int32) = cJoin x1 x2 x3 from (by have k0_ : (0 : Int32).toInt = 0 := (by decide); have k6_ : (6 : Int32).toInt = 6 := (by decide); first | (unfold cJoin; rw [if_pos w28]; all_goals first | (split <;> first | rfl | (exfalso; omega)) | rfl) | (unfold cJoin; (repeat' split) <;> first | rfl | (exfalso; omega))))⟩)
      ·
        have c32 : x3.toInt ≠ (0 : Int32).toInt := kd_eqF c; clear c
        first | refine fo_goS mi_k22 fz22_100_2_105 [.int 1] (by rfl) ?_ | refine fo_goS mi_k22 fz22_97_2_105 [.int 1] (by rfl) ?_ | refine ft_go mi_k22 2 105 [(0, .int x1), (1, .int x2), (2, .int x3)] [.int 1] i a q r (by rfl) ?_
        exact ft_ret mi_k22 (by rfl) (hP 1 ⟨trivial, (show (1 : Int32) = cJoin x1 x2 x3 from (by have k0_ : (0 : Int32).toInt = 0 := (by decide); have k6_ : (6 : Int32).toInt = 6 := (by decide); first | (unfold cJoin; rw [if_pos w28]; all_goals first | (split <;> first | rfl | (exfalso; omega)) | rfl) | (unfold cJoin; (repeat' split) <;> first | rfl | (exfalso; omega))))⟩)
  refine ko_lsw (ls := [(0, .int x1), (1, .int x2), (2, .int x3)]) (r := []) (h := ks i a q r) mi_in22 (v := x1) (i := (.lookupswitch 188 #[(37, 176), (38, 105), (42, 160), (43, 152), (45, 156), (47, 164), (60, 119), (61, 130), (62, 141), (124, 91)], 91, 0, 0, 0, 0, 0)) (by rfl) rfl (by simp only [Op.lookupswitch.offset, if_neg (Ne.symm w1), if_neg (Ne.symm w4), if_neg (Ne.symm w9), if_neg (Ne.symm w10), if_neg (Ne.symm w13), if_neg (Ne.symm w16), if_neg (Ne.symm w19), if_neg (Ne.symm w22), if_neg (Ne.symm w25), if_neg (Ne.symm w28)] <;> rfl) 189 (by rfl) ?_
  first | refine ft_goS mi_k22 1 190 [.int 0] (by rfl) ?_ | refine ft_go mi_k22 1 190 [(0, .int x1), (1, .int x2), (2, .int x3)] [.int 0] i a q r (by rfl) ?_
  exact ft_ret mi_k22 (by rfl) (hP 0 ⟨trivial, (show (0 : Int32) = cJoin x1 x2 x3 from (by have k0_ : (0 : Int32).toInt = 0 := (by decide); have k6_ : (6 : Int32).toInt = 6 := (by decide); first | (unfold cJoin; rw [if_neg w28, if_neg w4, if_neg w19, if_neg w22, if_neg w25, if_neg w10, if_neg w13, if_neg w9, if_neg w16, if_neg w1]; all_goals first | (split <;> first | rfl | (exfalso; omega)) | rfl) | (unfold cJoin; (repeat' split) <;> first | rfl | (exfalso; omega))))⟩)
def yw21_10_24 : kW := ([645], [13], [], [])
def yw21_10_24_L9 : kW := ([645], [13], [], [])
set_option maxRecDepth 100000 in
theorem ke21_10_24 {i : Nat → Int32} {a : Nat → List Int32} {q : Nat → List Int64} {r : Nat → Nat} (hI : kI i a q) (hr : kr r)  : km 3 21 [.ref 10, .ref 24] (ks i a q r) (kVI yw21_10_24 i a q r (fun v i1 a1 q1 r1 => (True) ∧ v = lRun (a 11) (a 12) (a 24) (i 643) 121 0 (a 13, 0))) := by
  have hG := kG_self yw21_10_24 hI hr
  refine km_ofI (q := (mi_h21, mi_c21)) rfl (by decide) (Nat.le_of_ble_eq_true rfl) ?_
  intro P hP
  have hJ1 := kG_i hG 645 rfl (v := 0) ⟨(od0 kod0), (od1 kod0)⟩
  first | refine fo_go mi_k21 fz21_0_7_9 [(3, .int 0), (2, .int 0), (0, .ref 10), (1, .ref 24)] [] (ku i 645 0) a q r (by rfl) ?_ | refine ft_goL mi_k21 7 9 [(3, .int 0), (2, .int 0), (0, .ref 10), (1, .ref 24)] [] (by rfl) ?_ | refine ft_go mi_k21 7 9 [(3, .int 0), (2, .int 0), (0, .ref 10), (1, .ref 24)] [] (ku i 645 0) a q r (by rfl) ?_ | refine ko_steps mi_in21 7 _ (9, [(3, .int 0), (2, .int 0), (0, .ref 10), (1, .ref 24)], [], (0, 0), ks (ku i 645 0) a q r) (by rfl) ?_
  have lp2 : ∀ (nz : Nat) (i2 : Nat → Int32) (a2 : Nat → List Int32) (q2 : Nat → List Int64) (r2 : Nat → Nat) (l3_2 : Int32) (l2_2 : Int32), kG yw21_10_24_L9 (ku i 645 0) a q r i2 a2 q2 r2 → (0 : Int) ≤ l3_2.toInt → lRun (a 11) (a 12) (a 24) (i 643) (121 - l3_2.toInt).toNat l2_2 (a2 13, i2 645) = lRun (a 11) (a 12) (a 24) (i 643) 121 0 (a 13, 0) → ((121 - l3_2.toInt)).toNat < nz → ko 3 (mi_h21, mi_c21) P (9, [(3, .int l3_2), (2, .int l2_2), (0, .ref 10), (1, .ref 24)], [], (0, 0), ks i2 a2 q2 r2) := by
    intro nz
    induction nz with
    | zero =>
      intro _ _ _ _ _ _ _ _ _ hm
      exact absurd hm (Nat.not_lt_zero _)
    | succ nz ih2 =>
      intro i2 a2 q2 r2 l3_2 l2_2 hL2 p2_0 O2_0 hm2
      first | refine fo_goL mi_k21 fz21_9_2_12 [(3, .int l3_2), (2, .int l2_2), (0, .ref 10), (1, .ref 24)] [.int 121, .int l3_2] (by rfl) ?_ | refine ft_go mi_k21 2 12 [(3, .int l3_2), (2, .int l2_2), (0, .ref 10), (1, .ref 24)] [.int 121, .int l3_2] i2 a2 q2 r2 (by rfl) ?_ | refine ko_steps mi_in21 2 _ (12, [(3, .int l3_2), (2, .int l2_2), (0, .ref 10), (1, .ref 24)], [.int 121, .int l3_2], (0, 0), ks i2 a2 q2 r2) (by rfl) ?_
      refine ft_ifS mi_k21 (decide (121 ≤ l3_2)) 220 15 [] (by rfl) (fun c => ?_) (fun c => ?_)
      ·
        have c3 : (121 : Int32).toInt ≤ l3_2.toInt := kd_le c; clear c
        have hG4 := kG_call hJ1 hL2 (by decide +kernel)
        first | refine fo_goS mi_k21 fz21_220_1_221 [.int 0] (by rfl) ?_ | refine ft_go mi_k21 1 221 [(3, .int l3_2), (2, .int l2_2), (0, .ref 10), (1, .ref 24)] [.int 0] i2 a2 q2 r2 (by rfl) ?_ | refine ko_steps mi_in21 1 _ (221, [(3, .int l3_2), (2, .int l2_2), (0, .ref 10), (1, .ref 24)], [.int 0], (0, 0), ks i2 a2 q2 r2) (by rfl) ?_
        exact ft_ret mi_k21 (by rfl) (hP 0 _ _ _ _ hG4 ⟨trivial, (show (0 : Int32) = lRun (a 11) (a 12) (a 24) (i 643) 121 0 (a 13, 0) from (lRun_end O2_0 (kj_none (od2 c3 kod121))).symm)⟩)
      ·
        have c5 : l3_2.toInt < (121 : Int32).toInt := kd_leF c; clear c
        first | refine fo_goS mi_k21 fz21_15_1_16 [.int l2_2] (by rfl) ?_ | refine ft_go mi_k21 1 16 [(3, .int l3_2), (2, .int l2_2), (0, .ref 10), (1, .ref 24)] [.int l2_2] i2 a2 q2 r2 (by rfl) ?_ | refine ko_steps mi_in21 1 _ (16, [(3, .int l3_2), (2, .int l2_2), (0, .ref 10), (1, .ref 24)], [.int l2_2], (0, 0), ks i2 a2 q2 r2) (by rfl) ?_
        refine ft_ifS mi_k21 (decide (l2_2 < 0)) 220 19 [] (by rfl) (fun c => ?_) (fun c => ?_)
        ·
          have c6 : l2_2.toInt < (0 : Int32).toInt := kd_lt c; clear c
          have hG7 := kG_call hJ1 hL2 (by decide +kernel)
          first | refine fo_goS mi_k21 fz21_220_1_221 [.int 0] (by rfl) ?_ | refine ft_go mi_k21 1 221 [(3, .int l3_2), (2, .int l2_2), (0, .ref 10), (1, .ref 24)] [.int 0] i2 a2 q2 r2 (by rfl) ?_ | refine ko_steps mi_in21 1 _ (221, [(3, .int l3_2), (2, .int l2_2), (0, .ref 10), (1, .ref 24)], [.int 0], (0, 0), ks i2 a2 q2 r2) (by rfl) ?_
          exact ft_ret mi_k21 (by rfl) (hP 0 _ _ _ _ hG7 ⟨trivial, (show (0 : Int32) = lRun (a 11) (a 12) (a 24) (i 643) 121 0 (a 13, 0) from (lRun_out O2_0 (od3 c6 kod0)).symm)⟩)
        ·
          have c8 : (0 : Int32).toInt ≤ l2_2.toInt := kd_ltF c; clear c
          have fi2_643 : ((0 : Int) ≤ (i2 643).toInt) ∧ ((i2 643).toInt ≤ 121) := hL2.I.1 643
          have fi_643 : ((0 : Int) ≤ (i 643).toInt) ∧ ((i 643).toInt ≤ 121) := hJ1.I.1 643
          have efi2_643 : (i2 643).toInt = (i 643).toInt := hL2.ti 643 rfl
          first | refine fo_goS mi_k21 fz21_19_3_24 [.int (i2 643), .int l2_2] (by rfl) ?_ | refine ft_go mi_k21 3 24 [(3, .int l3_2), (2, .int l2_2), (0, .ref 10), (1, .ref 24)] [.int (i2 643), .int l2_2] i2 a2 q2 r2 (by rfl) ?_ | refine ko_steps mi_in21 3 _ (24, [(3, .int l3_2), (2, .int l2_2), (0, .ref 10), (1, .ref 24)], [.int (i2 643), .int l2_2], (0, 0), ks i2 a2 q2 r2) (by rfl) ?_
          refine ft_ifS mi_k21 (decide ((i2 643) ≤ l2_2)) 220 27 [] (by rfl) (fun c => ?_) (fun c => ?_)
          ·
            have c9 : (i2 643).toInt ≤ l2_2.toInt := kd_le c; clear c
            have hG10 := kG_call hJ1 hL2 (by decide +kernel)
            first | refine fo_goS mi_k21 fz21_220_1_221 [.int 0] (by rfl) ?_ | refine ft_go mi_k21 1 221 [(3, .int l3_2), (2, .int l2_2), (0, .ref 10), (1, .ref 24)] [.int 0] i2 a2 q2 r2 (by rfl) ?_ | refine ko_steps mi_in21 1 _ (221, [(3, .int l3_2), (2, .int l2_2), (0, .ref 10), (1, .ref 24)], [.int 0], (0, 0), ks i2 a2 q2 r2) (by rfl) ?_
            exact ft_ret mi_k21 (by rfl) (hP 0 _ _ _ _ hG10 ⟨trivial, (show (0 : Int32) = lRun (a 11) (a 12) (a 24) (i 643) 121 0 (a 13, 0) from (lRun_out O2_0 (od4 c9 efi2_643)).symm)⟩)
          ·
            have c11 : l2_2.toInt < (i2 643).toInt := kd_leF c; clear c
            first | refine fo_goS mi_k21 fz21_27_3_32 [.int l2_2, .ref 11] (by rfl) ?_ | refine ft_go mi_k21 3 32 [(3, .int l3_2), (2, .int l2_2), (0, .ref 10), (1, .ref 24)] [.int l2_2, .ref 11] i2 a2 q2 r2 (by rfl) ?_ | refine ko_steps mi_in21 3 _ (32, [(3, .int l3_2), (2, .int l2_2), (0, .ref 10), (1, .ref 24)], [.int l2_2, .ref 11], (0, 0), ks i2 a2 q2 r2) (by rfl) ?_
            refine ko_iald3 mi_k21.1 (n := 121) (c := 121) (ax := (0, 0, 0, 0, 0)) (mi_k21.2 _ _ (by rfl)) (by rfl) (ksG11 _ _ _ _) (hL2.I.2.1 11) rfl (od5 c8 kod0) (od6 c11 fi2_643.2) ?_
            first | refine fo_goL mi_k21 fz21_33_4_40 [(4, .int ((a2 11).getD l2_2.toNatClampNeg 0)), (3, .int l3_2), (2, .int l2_2), (0, .ref 10), (1, .ref 24)] [.int l2_2, .ref 12] (by rfl) ?_ | refine ft_go mi_k21 4 40 [(4, .int ((a2 11).getD l2_2.toNatClampNeg 0)), (3, .int l3_2), (2, .int l2_2), (0, .ref 10), (1, .ref 24)] [.int l2_2, .ref 12] i2 a2 q2 r2 (by rfl) ?_ | refine ko_steps mi_in21 4 _ (40, [(4, .int ((a2 11).getD l2_2.toNatClampNeg 0)), (3, .int l3_2), (2, .int l2_2), (0, .ref 10), (1, .ref 24)], [.int l2_2, .ref 12], (0, 0), ks i2 a2 q2 r2) (by rfl) ?_
            refine ko_iald3 mi_k21.1 (n := 121) (c := 121) (ax := (0, 0, 0, 0, 0)) (mi_k21.2 _ _ (by rfl)) (by rfl) (ksG12 _ _ _ _) (hL2.I.2.1 12) rfl (od5 c8 kod0) (od6 c11 fi2_643.2) ?_
            have s12 : (l2_2 + 1).toInt = l2_2.toInt + (1 : Int32).toInt := kd_add (od7 c8 kod0 kod1) (od8 c11 fi2_643.2 kod1)
            first | refine fo_goL mi_k21 fz21_41_3_48 [(2, .int (l2_2 + 1)), (5, .int ((a2 12).getD l2_2.toNatClampNeg 0)), (4, .int ((a2 11).getD l2_2.toNatClampNeg 0)), (3, .int l3_2), (0, .ref 10), (1, .ref 24)] [.int ((a2 11).getD l2_2.toNatClampNeg 0)] (by rfl) ?_ | refine ft_go mi_k21 3 48 [(2, .int (l2_2 + 1)), (5, .int ((a2 12).getD l2_2.toNatClampNeg 0)), (4, .int ((a2 11).getD l2_2.toNatClampNeg 0)), (3, .int l3_2), (0, .ref 10), (1, .ref 24)] [.int ((a2 11).getD l2_2.toNatClampNeg 0)] i2 a2 q2 r2 (by rfl) ?_ | refine ko_steps mi_in21 3 _ (48, [(2, .int (l2_2 + 1)), (5, .int ((a2 12).getD l2_2.toNatClampNeg 0)), (4, .int ((a2 11).getD l2_2.toNatClampNeg 0)), (3, .int l3_2), (0, .ref 10), (1, .ref 24)], [.int ((a2 11).getD l2_2.toNatClampNeg 0)], (0, 0), ks i2 a2 q2 r2) (by rfl) ?_
            by_cases w13 : ((a2 11).getD l2_2.toNatClampNeg 0).toInt = 0
            ·
              refine ft_swx mi_k21 (pc := 48) (v := 0) (t := 108) (kj_eq w13 (by decide) : ((a2 11).getD l2_2.toNatClampNeg 0) = 0) (by decide +kernel) ?_
              first | refine fo_goS mi_k21 fz21_108_2_111 [.int ((a2 12).getD l2_2.toNatClampNeg 0), .ref 10] (by rfl) ?_ | refine ft_go mi_k21 2 111 [(2, .int (l2_2 + 1)), (5, .int ((a2 12).getD l2_2.toNatClampNeg 0)), (4, .int ((a2 11).getD l2_2.toNatClampNeg 0)), (3, .int l3_2), (0, .ref 10), (1, .ref 24)] [.int ((a2 12).getD l2_2.toNatClampNeg 0), .ref 10] i2 a2 q2 r2 (by rfl) ?_ | refine ko_steps mi_in21 2 _ (111, [(2, .int (l2_2 + 1)), (5, .int ((a2 12).getD l2_2.toNatClampNeg 0)), (4, .int ((a2 11).getD l2_2.toNatClampNeg 0)), (3, .int l3_2), (0, .ref 10), (1, .ref 24)], [.int ((a2 12).getD l2_2.toNatClampNeg 0), .ref 10], (0, 0), ks i2 a2 q2 r2) (by rfl) ?_
              refine ko_callN mi_k21.1 (pc := 111) (ls := [(2, .int (l2_2 + 1)), (5, .int ((a2 12).getD l2_2.toNatClampNeg 0)), (4, .int ((a2 11).getD l2_2.toNatClampNeg 0)), (3, .int l3_2), (0, .ref 10), (1, .ref 24)]) (st := [.int ((a2 12).getD l2_2.toNatClampNeg 0), .ref 10]) (h := ks i2 a2 q2 r2) (i := (.invokevirtual 32, 3, 19, 0, 9, 0, 225)) (mi_k21.2 _ _ (by rfl)) (ft_invS mi_pq19 (by rfl)) (cy := mi_c19) mi_pq19 rfl (ke19_10 hL2.I hL2.R ((a2 12).getD l2_2.toNatClampNeg 0)) (by decide) ?_
              intro ig14 ag14 qg14 rg14 kg14 hg14
              have hGg14 := kG_call hL2 kg14 (by decide +kernel)
              obtain ⟨hg14, og14⟩ := hg14
              have s16 : (l3_2 + 1).toInt = l3_2.toInt + (1 : Int32).toInt := kd_add (od13 p2_0 kod1) (od19 c5 kod121 kod1)
              first | refine fo_goL mi_k21 fz21_6_3_9 [(3, .int (l3_2 + 1)), (2, .int (l2_2 + 1)), (5, .int ((a2 12).getD l2_2.toNatClampNeg 0)), (4, .int ((a2 11).getD l2_2.toNatClampNeg 0)), (0, .ref 10), (1, .ref 24)] [] (by rfl) ?_ | refine fo_goL mi_k21 fz21_114_3_9 [(3, .int (l3_2 + 1)), (2, .int (l2_2 + 1)), (5, .int ((a2 12).getD l2_2.toNatClampNeg 0)), (4, .int ((a2 11).getD l2_2.toNatClampNeg 0)), (0, .ref 10), (1, .ref 24)] [] (by rfl) ?_ | refine fo_goL mi_k21 fz21_141_3_9 [(3, .int (l3_2 + 1)), (2, .int (l2_2 + 1)), (5, .int ((a2 12).getD l2_2.toNatClampNeg 0)), (4, .int ((a2 11).getD l2_2.toNatClampNeg 0)), (0, .ref 10), (1, .ref 24)] [] (by rfl) ?_ | refine fo_goL mi_k21 fz21_153_3_9 [(3, .int (l3_2 + 1)), (2, .int (l2_2 + 1)), (5, .int ((a2 12).getD l2_2.toNatClampNeg 0)), (4, .int ((a2 11).getD l2_2.toNatClampNeg 0)), (0, .ref 10), (1, .ref 24)] [] (by rfl) ?_ | refine fo_goL mi_k21 fz21_159_3_9 [(3, .int (l3_2 + 1)), (2, .int (l2_2 + 1)), (5, .int ((a2 12).getD l2_2.toNatClampNeg 0)), (4, .int ((a2 11).getD l2_2.toNatClampNeg 0)), (0, .ref 10), (1, .ref 24)] [] (by rfl) ?_ | refine fo_goL mi_k21 fz21_178_3_9 [(3, .int (l3_2 + 1)), (2, .int (l2_2 + 1)), (5, .int ((a2 12).getD l2_2.toNatClampNeg 0)), (4, .int ((a2 11).getD l2_2.toNatClampNeg 0)), (0, .ref 10), (1, .ref 24)] [] (by rfl) ?_ | refine fo_goL mi_k21 fz21_190_3_9 [(3, .int (l3_2 + 1)), (2, .int (l2_2 + 1)), (5, .int ((a2 12).getD l2_2.toNatClampNeg 0)), (4, .int ((a2 11).getD l2_2.toNatClampNeg 0)), (0, .ref 10), (1, .ref 24)] [] (by rfl) ?_ | refine ft_goL mi_k21 3 9 [(3, .int (l3_2 + 1)), (2, .int (l2_2 + 1)), (5, .int ((a2 12).getD l2_2.toNatClampNeg 0)), (4, .int ((a2 11).getD l2_2.toNatClampNeg 0)), (0, .ref 10), (1, .ref 24)] [] (by rfl) ?_ | refine ft_go mi_k21 3 9 [(3, .int (l3_2 + 1)), (2, .int (l2_2 + 1)), (5, .int ((a2 12).getD l2_2.toNatClampNeg 0)), (4, .int ((a2 11).getD l2_2.toNatClampNeg 0)), (0, .ref 10), (1, .ref 24)] [] ig14 ag14 qg14 rg14 (by rfl) ?_ | refine ko_steps mi_in21 3 _ (9, [(3, .int (l3_2 + 1)), (2, .int (l2_2 + 1)), (5, .int ((a2 12).getD l2_2.toNatClampNeg 0)), (4, .int ((a2 11).getD l2_2.toNatClampNeg 0)), (0, .ref 10), (1, .ref 24)], [], (0, 0), ks ig14 ag14 qg14 rg14) (by rfl) ?_
              refine ko_perm [(3, .int (l3_2 + 1)), (2, .int (l2_2 + 1)), (0, .ref 10), (1, .ref 24)] (List.forall_mem_cons.mpr ⟨(List.Mem.head _), (List.forall_mem_cons.mpr ⟨(List.Mem.tail _ (List.Mem.head _)), (List.forall_mem_cons.mpr ⟨(List.Mem.tail _ (List.Mem.tail _ (List.Mem.tail _ (List.Mem.tail _ (List.Mem.head _))))), (List.forall_mem_cons.mpr ⟨(List.Mem.tail _ (List.Mem.tail _ (List.Mem.tail _ (List.Mem.tail _ (List.Mem.tail _ (List.Mem.head _)))))), (fun _ h => absurd h List.not_mem_nil)⟩)⟩)⟩)⟩) ?_
              exact ih2 _ _ _ _ _ _ hGg14 (od15 p2_0 s16 kod1) (lRun_num O2_0 (kj_left (od12 c5 kod121) (od21 s16 kod1)) ⟨(od5 c8 kod0), (od20 c11 efi2_643)⟩ (kL_cast (hL2.fa 11 rfl) (od22 w13)) (congrArg (fun z : List Int32 => z.getD l2_2.toNatClampNeg 0) (hL2.fa 12 rfl)) og14) (kj_meas (od23 s16 kod1) (od24 c5 kod121) hm2)
            by_cases w17 : ((a2 11).getD l2_2.toNatClampNeg 0).toInt = 1
            ·
              refine ft_swx mi_k21 (pc := 48) (v := 1) (t := 117) (kj_eq w17 (by decide) : ((a2 11).getD l2_2.toNatClampNeg 0) = 1) (by decide +kernel) ?_
              first | refine fo_goS mi_k21 fz21_117_2_120 [.int ((a2 12).getD l2_2.toNatClampNeg 0), .ref 10] (by rfl) ?_ | refine ft_go mi_k21 2 120 [(2, .int (l2_2 + 1)), (5, .int ((a2 12).getD l2_2.toNatClampNeg 0)), (4, .int ((a2 11).getD l2_2.toNatClampNeg 0)), (3, .int l3_2), (0, .ref 10), (1, .ref 24)] [.int ((a2 12).getD l2_2.toNatClampNeg 0), .ref 10] i2 a2 q2 r2 (by rfl) ?_ | refine ko_steps mi_in21 2 _ (120, [(2, .int (l2_2 + 1)), (5, .int ((a2 12).getD l2_2.toNatClampNeg 0)), (4, .int ((a2 11).getD l2_2.toNatClampNeg 0)), (3, .int l3_2), (0, .ref 10), (1, .ref 24)], [.int ((a2 12).getD l2_2.toNatClampNeg 0), .ref 10], (0, 0), ks i2 a2 q2 r2) (by rfl) ?_
              refine ft_ifS mi_k21 (decide (((a2 12).getD l2_2.toNatClampNeg 0) < 0)) 137 123 [.ref 10] (by rfl) (fun c => ?_) (fun c => ?_)
              ·
                have c18 : ((a2 12).getD l2_2.toNatClampNeg 0).toInt < (0 : Int32).toInt := kd_lt c; clear c
                first | refine fo_goS mi_k21 fz21_134_1_138 [.int 0, .ref 10] (by rfl) ?_ | refine fo_goS mi_k21 fz21_137_1_138 [.int 0, .ref 10] (by rfl) ?_ | refine ft_go mi_k21 1 138 [(2, .int (l2_2 + 1)), (5, .int ((a2 12).getD l2_2.toNatClampNeg 0)), (4, .int ((a2 11).getD l2_2.toNatClampNeg 0)), (3, .int l3_2), (0, .ref 10), (1, .ref 24)] [.int 0, .ref 10] i2 a2 q2 r2 (by rfl) ?_ | refine ko_steps mi_in21 1 _ (138, [(2, .int (l2_2 + 1)), (5, .int ((a2 12).getD l2_2.toNatClampNeg 0)), (4, .int ((a2 11).getD l2_2.toNatClampNeg 0)), (3, .int l3_2), (0, .ref 10), (1, .ref 24)], [.int 0, .ref 10], (0, 0), ks i2 a2 q2 r2) (by rfl) ?_
                refine ko_callN mi_k21.1 (pc := 138) (ls := [(2, .int (l2_2 + 1)), (5, .int ((a2 12).getD l2_2.toNatClampNeg 0)), (4, .int ((a2 11).getD l2_2.toNatClampNeg 0)), (3, .int l3_2), (0, .ref 10), (1, .ref 24)]) (st := [.int 0, .ref 10]) (h := ks i2 a2 q2 r2) (i := (.invokevirtual 32, 3, 19, 0, 9, 0, 225)) (mi_k21.2 _ _ (by rfl)) (ft_invS mi_pq19 (by rfl)) (cy := mi_c19) mi_pq19 rfl (ke19_10 hL2.I hL2.R 0) (by decide) ?_
                intro ig19 ag19 qg19 rg19 kg19 hg19
                have hGg19 := kG_call hL2 kg19 (by decide +kernel)
                obtain ⟨hg19, og19⟩ := hg19
                have fi2_645 : ((0 : Int) ≤ (i2 645).toInt) ∧ ((i2 645).toInt ≤ 121) := hL2.I.1 645
                have fig19_645 : ((0 : Int) ≤ (ig19 645).toInt) ∧ ((ig19 645).toInt ≤ 121) := hGg19.I.1 645
                have z20 : (((i2 645).toInt ≤ 120) ∧ ((ig19 645).toInt = ((i2 645).toInt + 1))) ∨ (((121 : Int) ≤ (i2 645).toInt) ∧ ((ig19 645).toInt = (i2 645).toInt)) := hg19
                have s21 : (l3_2 + 1).toInt = l3_2.toInt + (1 : Int32).toInt := kd_add (od13 p2_0 kod1) (od19 c5 kod121 kod1)
                first | refine fo_goL mi_k21 fz21_6_3_9 [(3, .int (l3_2 + 1)), (2, .int (l2_2 + 1)), (5, .int ((a2 12).getD l2_2.toNatClampNeg 0)), (4, .int ((a2 11).getD l2_2.toNatClampNeg 0)), (0, .ref 10), (1, .ref 24)] [] (by rfl) ?_ | refine fo_goL mi_k21 fz21_114_3_9 [(3, .int (l3_2 + 1)), (2, .int (l2_2 + 1)), (5, .int ((a2 12).getD l2_2.toNatClampNeg 0)), (4, .int ((a2 11).getD l2_2.toNatClampNeg 0)), (0, .ref 10), (1, .ref 24)] [] (by rfl) ?_ | refine fo_goL mi_k21 fz21_141_3_9 [(3, .int (l3_2 + 1)), (2, .int (l2_2 + 1)), (5, .int ((a2 12).getD l2_2.toNatClampNeg 0)), (4, .int ((a2 11).getD l2_2.toNatClampNeg 0)), (0, .ref 10), (1, .ref 24)] [] (by rfl) ?_ | refine fo_goL mi_k21 fz21_153_3_9 [(3, .int (l3_2 + 1)), (2, .int (l2_2 + 1)), (5, .int ((a2 12).getD l2_2.toNatClampNeg 0)), (4, .int ((a2 11).getD l2_2.toNatClampNeg 0)), (0, .ref 10), (1, .ref 24)] [] (by rfl) ?_ | refine fo_goL mi_k21 fz21_159_3_9 [(3, .int (l3_2 + 1)), (2, .int (l2_2 + 1)), (5, .int ((a2 12).getD l2_2.toNatClampNeg 0)), (4, .int ((a2 11).getD l2_2.toNatClampNeg 0)), (0, .ref 10), (1, .ref 24)] [] (by rfl) ?_ | refine fo_goL mi_k21 fz21_178_3_9 [(3, .int (l3_2 + 1)), (2, .int (l2_2 + 1)), (5, .int ((a2 12).getD l2_2.toNatClampNeg 0)), (4, .int ((a2 11).getD l2_2.toNatClampNeg 0)), (0, .ref 10), (1, .ref 24)] [] (by rfl) ?_ | refine fo_goL mi_k21 fz21_190_3_9 [(3, .int (l3_2 + 1)), (2, .int (l2_2 + 1)), (5, .int ((a2 12).getD l2_2.toNatClampNeg 0)), (4, .int ((a2 11).getD l2_2.toNatClampNeg 0)), (0, .ref 10), (1, .ref 24)] [] (by rfl) ?_ | refine ft_goL mi_k21 3 9 [(3, .int (l3_2 + 1)), (2, .int (l2_2 + 1)), (5, .int ((a2 12).getD l2_2.toNatClampNeg 0)), (4, .int ((a2 11).getD l2_2.toNatClampNeg 0)), (0, .ref 10), (1, .ref 24)] [] (by rfl) ?_ | refine ft_go mi_k21 3 9 [(3, .int (l3_2 + 1)), (2, .int (l2_2 + 1)), (5, .int ((a2 12).getD l2_2.toNatClampNeg 0)), (4, .int ((a2 11).getD l2_2.toNatClampNeg 0)), (0, .ref 10), (1, .ref 24)] [] ig19 ag19 qg19 rg19 (by rfl) ?_ | refine ko_steps mi_in21 3 _ (9, [(3, .int (l3_2 + 1)), (2, .int (l2_2 + 1)), (5, .int ((a2 12).getD l2_2.toNatClampNeg 0)), (4, .int ((a2 11).getD l2_2.toNatClampNeg 0)), (0, .ref 10), (1, .ref 24)], [], (0, 0), ks ig19 ag19 qg19 rg19) (by rfl) ?_
                refine ko_perm [(3, .int (l3_2 + 1)), (2, .int (l2_2 + 1)), (0, .ref 10), (1, .ref 24)] (List.forall_mem_cons.mpr ⟨(List.Mem.head _), (List.forall_mem_cons.mpr ⟨(List.Mem.tail _ (List.Mem.head _)), (List.forall_mem_cons.mpr ⟨(List.Mem.tail _ (List.Mem.tail _ (List.Mem.tail _ (List.Mem.tail _ (List.Mem.head _))))), (List.forall_mem_cons.mpr ⟨(List.Mem.tail _ (List.Mem.tail _ (List.Mem.tail _ (List.Mem.tail _ (List.Mem.tail _ (List.Mem.head _)))))), (fun _ h => absurd h List.not_mem_nil)⟩)⟩)⟩)⟩) ?_
                exact ih2 _ _ _ _ _ _ hGg19 (od15 p2_0 s21 kod1) (lRun_name O2_0 (kj_left (od12 c5 kod121) (od21 s21 kod1)) ⟨(od5 c8 kod0), (od20 c11 efi2_643)⟩ (kL_cast (hL2.fa 11 rfl) (od25 w17)) (by have k0_ : (0 : Int32).toInt = 0 := (by decide); have k6_ : (6 : Int32).toInt = 6 := (by decide); rw [← ((hL2.fa 12 rfl) : a2 12 = a 12), ← ((hL2.fa 24 rfl) : a2 24 = a 24)]; split <;> first | rfl | (exfalso; omega)) og19) (kj_meas (od23 s21 kod1) (od24 c5 kod121) hm2)
              ·
                have c22 : (0 : Int32).toInt ≤ ((a2 12).getD l2_2.toNatClampNeg 0).toInt := kd_ltF c; clear c
                first | refine fo_goS mi_k21 fz21_123_2_126 [.ref 24, .int ((a2 12).getD l2_2.toNatClampNeg 0), .ref 10] (by rfl) ?_ | refine ft_go mi_k21 2 126 [(2, .int (l2_2 + 1)), (5, .int ((a2 12).getD l2_2.toNatClampNeg 0)), (4, .int ((a2 11).getD l2_2.toNatClampNeg 0)), (3, .int l3_2), (0, .ref 10), (1, .ref 24)] [.ref 24, .int ((a2 12).getD l2_2.toNatClampNeg 0), .ref 10] i2 a2 q2 r2 (by rfl) ?_ | refine ko_steps mi_in21 2 _ (126, [(2, .int (l2_2 + 1)), (5, .int ((a2 12).getD l2_2.toNatClampNeg 0)), (4, .int ((a2 11).getD l2_2.toNatClampNeg 0)), (3, .int l3_2), (0, .ref 10), (1, .ref 24)], [.ref 24, .int ((a2 12).getD l2_2.toNatClampNeg 0), .ref 10], (0, 0), ks i2 a2 q2 r2) (by rfl) ?_
                refine ko_alen mi_k21.1 (l := a2 24) (ax := (0, 0, 0, 0, 0)) (x := 6) (mi_k21.2 _ _ (by rfl)) (by rfl) (by rfl) (by rw [(hL2.I.2.1 24 : (a2 24).length = _)]; rfl) ?_
                refine ft_ifS mi_k21 (decide (6 ≤ ((a2 12).getD l2_2.toNatClampNeg 0))) 137 130 [.ref 10] (by rfl) (fun c => ?_) (fun c => ?_)
                ·
                  have c23 : (6 : Int32).toInt ≤ ((a2 12).getD l2_2.toNatClampNeg 0).toInt := kd_le c; clear c
                  first | refine fo_goS mi_k21 fz21_134_1_138 [.int 0, .ref 10] (by rfl) ?_ | refine fo_goS mi_k21 fz21_137_1_138 [.int 0, .ref 10] (by rfl) ?_ | refine ft_go mi_k21 1 138 [(2, .int (l2_2 + 1)), (5, .int ((a2 12).getD l2_2.toNatClampNeg 0)), (4, .int ((a2 11).getD l2_2.toNatClampNeg 0)), (3, .int l3_2), (0, .ref 10), (1, .ref 24)] [.int 0, .ref 10] i2 a2 q2 r2 (by rfl) ?_ | refine ko_steps mi_in21 1 _ (138, [(2, .int (l2_2 + 1)), (5, .int ((a2 12).getD l2_2.toNatClampNeg 0)), (4, .int ((a2 11).getD l2_2.toNatClampNeg 0)), (3, .int l3_2), (0, .ref 10), (1, .ref 24)], [.int 0, .ref 10], (0, 0), ks i2 a2 q2 r2) (by rfl) ?_
                  refine ko_callN mi_k21.1 (pc := 138) (ls := [(2, .int (l2_2 + 1)), (5, .int ((a2 12).getD l2_2.toNatClampNeg 0)), (4, .int ((a2 11).getD l2_2.toNatClampNeg 0)), (3, .int l3_2), (0, .ref 10), (1, .ref 24)]) (st := [.int 0, .ref 10]) (h := ks i2 a2 q2 r2) (i := (.invokevirtual 32, 3, 19, 0, 9, 0, 225)) (mi_k21.2 _ _ (by rfl)) (ft_invS mi_pq19 (by rfl)) (cy := mi_c19) mi_pq19 rfl (ke19_10 hL2.I hL2.R 0) (by decide) ?_
                  intro ig24 ag24 qg24 rg24 kg24 hg24
                  have hGg24 := kG_call hL2 kg24 (by decide +kernel)
                  obtain ⟨hg24, og24⟩ := hg24
                  have fi2_645 : ((0 : Int) ≤ (i2 645).toInt) ∧ ((i2 645).toInt ≤ 121) := hL2.I.1 645
                  have fig24_645 : ((0 : Int) ≤ (ig24 645).toInt) ∧ ((ig24 645).toInt ≤ 121) := hGg24.I.1 645
                  have z25 : (((i2 645).toInt ≤ 120) ∧ ((ig24 645).toInt = ((i2 645).toInt + 1))) ∨ (((121 : Int) ≤ (i2 645).toInt) ∧ ((ig24 645).toInt = (i2 645).toInt)) := hg24
                  have s26 : (l3_2 + 1).toInt = l3_2.toInt + (1 : Int32).toInt := kd_add (od13 p2_0 kod1) (od19 c5 kod121 kod1)
                  first | refine fo_goL mi_k21 fz21_6_3_9 [(3, .int (l3_2 + 1)), (2, .int (l2_2 + 1)), (5, .int ((a2 12).getD l2_2.toNatClampNeg 0)), (4, .int ((a2 11).getD l2_2.toNatClampNeg 0)), (0, .ref 10), (1, .ref 24)] [] (by rfl) ?_ | refine fo_goL mi_k21 fz21_114_3_9 [(3, .int (l3_2 + 1)), (2, .int (l2_2 + 1)), (5, .int ((a2 12).getD l2_2.toNatClampNeg 0)), (4, .int ((a2 11).getD l2_2.toNatClampNeg 0)), (0, .ref 10), (1, .ref 24)] [] (by rfl) ?_ | refine fo_goL mi_k21 fz21_141_3_9 [(3, .int (l3_2 + 1)), (2, .int (l2_2 + 1)), (5, .int ((a2 12).getD l2_2.toNatClampNeg 0)), (4, .int ((a2 11).getD l2_2.toNatClampNeg 0)), (0, .ref 10), (1, .ref 24)] [] (by rfl) ?_ | refine fo_goL mi_k21 fz21_153_3_9 [(3, .int (l3_2 + 1)), (2, .int (l2_2 + 1)), (5, .int ((a2 12).getD l2_2.toNatClampNeg 0)), (4, .int ((a2 11).getD l2_2.toNatClampNeg 0)), (0, .ref 10), (1, .ref 24)] [] (by rfl) ?_ | refine fo_goL mi_k21 fz21_159_3_9 [(3, .int (l3_2 + 1)), (2, .int (l2_2 + 1)), (5, .int ((a2 12).getD l2_2.toNatClampNeg 0)), (4, .int ((a2 11).getD l2_2.toNatClampNeg 0)), (0, .ref 10), (1, .ref 24)] [] (by rfl) ?_ | refine fo_goL mi_k21 fz21_178_3_9 [(3, .int (l3_2 + 1)), (2, .int (l2_2 + 1)), (5, .int ((a2 12).getD l2_2.toNatClampNeg 0)), (4, .int ((a2 11).getD l2_2.toNatClampNeg 0)), (0, .ref 10), (1, .ref 24)] [] (by rfl) ?_ | refine fo_goL mi_k21 fz21_190_3_9 [(3, .int (l3_2 + 1)), (2, .int (l2_2 + 1)), (5, .int ((a2 12).getD l2_2.toNatClampNeg 0)), (4, .int ((a2 11).getD l2_2.toNatClampNeg 0)), (0, .ref 10), (1, .ref 24)] [] (by rfl) ?_ | refine ft_goL mi_k21 3 9 [(3, .int (l3_2 + 1)), (2, .int (l2_2 + 1)), (5, .int ((a2 12).getD l2_2.toNatClampNeg 0)), (4, .int ((a2 11).getD l2_2.toNatClampNeg 0)), (0, .ref 10), (1, .ref 24)] [] (by rfl) ?_ | refine ft_go mi_k21 3 9 [(3, .int (l3_2 + 1)), (2, .int (l2_2 + 1)), (5, .int ((a2 12).getD l2_2.toNatClampNeg 0)), (4, .int ((a2 11).getD l2_2.toNatClampNeg 0)), (0, .ref 10), (1, .ref 24)] [] ig24 ag24 qg24 rg24 (by rfl) ?_ | refine ko_steps mi_in21 3 _ (9, [(3, .int (l3_2 + 1)), (2, .int (l2_2 + 1)), (5, .int ((a2 12).getD l2_2.toNatClampNeg 0)), (4, .int ((a2 11).getD l2_2.toNatClampNeg 0)), (0, .ref 10), (1, .ref 24)], [], (0, 0), ks ig24 ag24 qg24 rg24) (by rfl) ?_
                  refine ko_perm [(3, .int (l3_2 + 1)), (2, .int (l2_2 + 1)), (0, .ref 10), (1, .ref 24)] (List.forall_mem_cons.mpr ⟨(List.Mem.head _), (List.forall_mem_cons.mpr ⟨(List.Mem.tail _ (List.Mem.head _)), (List.forall_mem_cons.mpr ⟨(List.Mem.tail _ (List.Mem.tail _ (List.Mem.tail _ (List.Mem.tail _ (List.Mem.head _))))), (List.forall_mem_cons.mpr ⟨(List.Mem.tail _ (List.Mem.tail _ (List.Mem.tail _ (List.Mem.tail _ (List.Mem.tail _ (List.Mem.head _)))))), (fun _ h => absurd h List.not_mem_nil)⟩)⟩)⟩)⟩) ?_
                  exact ih2 _ _ _ _ _ _ hGg24 (od15 p2_0 s26 kod1) (lRun_name O2_0 (kj_left (od12 c5 kod121) (od21 s26 kod1)) ⟨(od5 c8 kod0), (od20 c11 efi2_643)⟩ (kL_cast (hL2.fa 11 rfl) (od25 w17)) (by have k0_ : (0 : Int32).toInt = 0 := (by decide); have k6_ : (6 : Int32).toInt = 6 := (by decide); rw [← ((hL2.fa 12 rfl) : a2 12 = a 12), ← ((hL2.fa 24 rfl) : a2 24 = a 24)]; split <;> first | rfl | (exfalso; omega)) og24) (kj_meas (od23 s26 kod1) (od24 c5 kod121) hm2)
                ·
                  have c27 : ((a2 12).getD l2_2.toNatClampNeg 0).toInt < (6 : Int32).toInt := kd_leF c; clear c
                  first | refine fo_goS mi_k21 fz21_130_2_133 [.int ((a2 12).getD l2_2.toNatClampNeg 0), .ref 24, .ref 10] (by rfl) ?_ | refine ft_go mi_k21 2 133 [(2, .int (l2_2 + 1)), (5, .int ((a2 12).getD l2_2.toNatClampNeg 0)), (4, .int ((a2 11).getD l2_2.toNatClampNeg 0)), (3, .int l3_2), (0, .ref 10), (1, .ref 24)] [.int ((a2 12).getD l2_2.toNatClampNeg 0), .ref 24, .ref 10] i2 a2 q2 r2 (by rfl) ?_ | refine ko_steps mi_in21 2 _ (133, [(2, .int (l2_2 + 1)), (5, .int ((a2 12).getD l2_2.toNatClampNeg 0)), (4, .int ((a2 11).getD l2_2.toNatClampNeg 0)), (3, .int l3_2), (0, .ref 10), (1, .ref 24)], [.int ((a2 12).getD l2_2.toNatClampNeg 0), .ref 24, .ref 10], (0, 0), ks i2 a2 q2 r2) (by rfl) ?_
                  refine ko_iald3 mi_k21.1 (n := 6) (c := 6) (ax := (0, 0, 0, 0, 0)) (mi_k21.2 _ _ (by rfl)) (by rfl) (ksG24 _ _ _ _) (hL2.I.2.1 24) rfl (od5 c22 kod0) (od26 c27 kod6) ?_
                  first | refine fo_goS mi_k21 fz21_134_1_138 [.int ((a2 24).getD ((a2 12).getD l2_2.toNatClampNeg 0).toNatClampNeg 0), .ref 10] (by rfl) ?_ | refine fo_goS mi_k21 fz21_137_1_138 [.int ((a2 24).getD ((a2 12).getD l2_2.toNatClampNeg 0).toNatClampNeg 0), .ref 10] (by rfl) ?_ | refine ft_go mi_k21 1 138 [(2, .int (l2_2 + 1)), (5, .int ((a2 12).getD l2_2.toNatClampNeg 0)), (4, .int ((a2 11).getD l2_2.toNatClampNeg 0)), (3, .int l3_2), (0, .ref 10), (1, .ref 24)] [.int ((a2 24).getD ((a2 12).getD l2_2.toNatClampNeg 0).toNatClampNeg 0), .ref 10] i2 a2 q2 r2 (by rfl) ?_ | refine ko_steps mi_in21 1 _ (138, [(2, .int (l2_2 + 1)), (5, .int ((a2 12).getD l2_2.toNatClampNeg 0)), (4, .int ((a2 11).getD l2_2.toNatClampNeg 0)), (3, .int l3_2), (0, .ref 10), (1, .ref 24)], [.int ((a2 24).getD ((a2 12).getD l2_2.toNatClampNeg 0).toNatClampNeg 0), .ref 10], (0, 0), ks i2 a2 q2 r2) (by rfl) ?_
                  refine ko_callN mi_k21.1 (pc := 138) (ls := [(2, .int (l2_2 + 1)), (5, .int ((a2 12).getD l2_2.toNatClampNeg 0)), (4, .int ((a2 11).getD l2_2.toNatClampNeg 0)), (3, .int l3_2), (0, .ref 10), (1, .ref 24)]) (st := [.int ((a2 24).getD ((a2 12).getD l2_2.toNatClampNeg 0).toNatClampNeg 0), .ref 10]) (h := ks i2 a2 q2 r2) (i := (.invokevirtual 32, 3, 19, 0, 9, 0, 225)) (mi_k21.2 _ _ (by rfl)) (ft_invS mi_pq19 (by rfl)) (cy := mi_c19) mi_pq19 rfl (ke19_10 hL2.I hL2.R ((a2 24).getD ((a2 12).getD l2_2.toNatClampNeg 0).toNatClampNeg 0)) (by decide) ?_
                  intro ig28 ag28 qg28 rg28 kg28 hg28
                  have hGg28 := kG_call hL2 kg28 (by decide +kernel)
                  obtain ⟨hg28, og28⟩ := hg28
                  have fi2_645 : ((0 : Int) ≤ (i2 645).toInt) ∧ ((i2 645).toInt ≤ 121) := hL2.I.1 645
                  have fig28_645 : ((0 : Int) ≤ (ig28 645).toInt) ∧ ((ig28 645).toInt ≤ 121) := hGg28.I.1 645
                  have z29 : (((i2 645).toInt ≤ 120) ∧ ((ig28 645).toInt = ((i2 645).toInt + 1))) ∨ (((121 : Int) ≤ (i2 645).toInt) ∧ ((ig28 645).toInt = (i2 645).toInt)) := hg28
                  have s30 : (l3_2 + 1).toInt = l3_2.toInt + (1 : Int32).toInt := kd_add (od13 p2_0 kod1) (od19 c5 kod121 kod1)
                  first | refine fo_goL mi_k21 fz21_6_3_9 [(3, .int (l3_2 + 1)), (2, .int (l2_2 + 1)), (5, .int ((a2 12).getD l2_2.toNatClampNeg 0)), (4, .int ((a2 11).getD l2_2.toNatClampNeg 0)), (0, .ref 10), (1, .ref 24)] [] (by rfl) ?_ | refine fo_goL mi_k21 fz21_114_3_9 [(3, .int (l3_2 + 1)), (2, .int (l2_2 + 1)), (5, .int ((a2 12).getD l2_2.toNatClampNeg 0)), (4, .int ((a2 11).getD l2_2.toNatClampNeg 0)), (0, .ref 10), (1, .ref 24)] [] (by rfl) ?_ | refine fo_goL mi_k21 fz21_141_3_9 [(3, .int (l3_2 + 1)), (2, .int (l2_2 + 1)), (5, .int ((a2 12).getD l2_2.toNatClampNeg 0)), (4, .int ((a2 11).getD l2_2.toNatClampNeg 0)), (0, .ref 10), (1, .ref 24)] [] (by rfl) ?_ | refine fo_goL mi_k21 fz21_153_3_9 [(3, .int (l3_2 + 1)), (2, .int (l2_2 + 1)), (5, .int ((a2 12).getD l2_2.toNatClampNeg 0)), (4, .int ((a2 11).getD l2_2.toNatClampNeg 0)), (0, .ref 10), (1, .ref 24)] [] (by rfl) ?_ | refine fo_goL mi_k21 fz21_159_3_9 [(3, .int (l3_2 + 1)), (2, .int (l2_2 + 1)), (5, .int ((a2 12).getD l2_2.toNatClampNeg 0)), (4, .int ((a2 11).getD l2_2.toNatClampNeg 0)), (0, .ref 10), (1, .ref 24)] [] (by rfl) ?_ | refine fo_goL mi_k21 fz21_178_3_9 [(3, .int (l3_2 + 1)), (2, .int (l2_2 + 1)), (5, .int ((a2 12).getD l2_2.toNatClampNeg 0)), (4, .int ((a2 11).getD l2_2.toNatClampNeg 0)), (0, .ref 10), (1, .ref 24)] [] (by rfl) ?_ | refine fo_goL mi_k21 fz21_190_3_9 [(3, .int (l3_2 + 1)), (2, .int (l2_2 + 1)), (5, .int ((a2 12).getD l2_2.toNatClampNeg 0)), (4, .int ((a2 11).getD l2_2.toNatClampNeg 0)), (0, .ref 10), (1, .ref 24)] [] (by rfl) ?_ | refine ft_goL mi_k21 3 9 [(3, .int (l3_2 + 1)), (2, .int (l2_2 + 1)), (5, .int ((a2 12).getD l2_2.toNatClampNeg 0)), (4, .int ((a2 11).getD l2_2.toNatClampNeg 0)), (0, .ref 10), (1, .ref 24)] [] (by rfl) ?_ | refine ft_go mi_k21 3 9 [(3, .int (l3_2 + 1)), (2, .int (l2_2 + 1)), (5, .int ((a2 12).getD l2_2.toNatClampNeg 0)), (4, .int ((a2 11).getD l2_2.toNatClampNeg 0)), (0, .ref 10), (1, .ref 24)] [] ig28 ag28 qg28 rg28 (by rfl) ?_ | refine ko_steps mi_in21 3 _ (9, [(3, .int (l3_2 + 1)), (2, .int (l2_2 + 1)), (5, .int ((a2 12).getD l2_2.toNatClampNeg 0)), (4, .int ((a2 11).getD l2_2.toNatClampNeg 0)), (0, .ref 10), (1, .ref 24)], [], (0, 0), ks ig28 ag28 qg28 rg28) (by rfl) ?_
                  refine ko_perm [(3, .int (l3_2 + 1)), (2, .int (l2_2 + 1)), (0, .ref 10), (1, .ref 24)] (List.forall_mem_cons.mpr ⟨(List.Mem.head _), (List.forall_mem_cons.mpr ⟨(List.Mem.tail _ (List.Mem.head _)), (List.forall_mem_cons.mpr ⟨(List.Mem.tail _ (List.Mem.tail _ (List.Mem.tail _ (List.Mem.tail _ (List.Mem.head _))))), (List.forall_mem_cons.mpr ⟨(List.Mem.tail _ (List.Mem.tail _ (List.Mem.tail _ (List.Mem.tail _ (List.Mem.tail _ (List.Mem.head _)))))), (fun _ h => absurd h List.not_mem_nil)⟩)⟩)⟩)⟩) ?_
                  exact ih2 _ _ _ _ _ _ hGg28 (od15 p2_0 s30 kod1) (lRun_name O2_0 (kj_left (od12 c5 kod121) (od21 s30 kod1)) ⟨(od5 c8 kod0), (od20 c11 efi2_643)⟩ (kL_cast (hL2.fa 11 rfl) (od25 w17)) (by have k0_ : (0 : Int32).toInt = 0 := (by decide); have k6_ : (6 : Int32).toInt = 6 := (by decide); rw [← ((hL2.fa 12 rfl) : a2 12 = a 12), ← ((hL2.fa 24 rfl) : a2 24 = a 24)]; split <;> first | rfl | (exfalso; omega)) og28) (kj_meas (od23 s30 kod1) (od24 c5 kod121) hm2)
            by_cases w31 : ((a2 11).getD l2_2.toNatClampNeg 0).toInt = 2
            ·
              refine ft_swx mi_k21 (pc := 48) (v := 2) (t := 144) (kj_eq w31 (by decide) : ((a2 11).getD l2_2.toNatClampNeg 0) = 2) (by decide +kernel) ?_
              have hG32 := kG_call hJ1 hL2 (by decide +kernel)
              first | refine fo_goS mi_k21 fz21_144_1_145 [.ref 10] (by rfl) ?_ | refine ft_go mi_k21 1 145 [(2, .int (l2_2 + 1)), (5, .int ((a2 12).getD l2_2.toNatClampNeg 0)), (4, .int ((a2 11).getD l2_2.toNatClampNeg 0)), (3, .int l3_2), (0, .ref 10), (1, .ref 24)] [.ref 10] i2 a2 q2 r2 (by rfl) ?_ | refine ko_steps mi_in21 1 _ (145, [(2, .int (l2_2 + 1)), (5, .int ((a2 12).getD l2_2.toNatClampNeg 0)), (4, .int ((a2 11).getD l2_2.toNatClampNeg 0)), (3, .int l3_2), (0, .ref 10), (1, .ref 24)], [.ref 10], (0, 0), ks i2 a2 q2 r2) (by rfl) ?_
              refine ko_callI mi_k21.1 (pc := 145) (ls := [(2, .int (l2_2 + 1)), (5, .int ((a2 12).getD l2_2.toNatClampNeg 0)), (4, .int ((a2 11).getD l2_2.toNatClampNeg 0)), (3, .int l3_2), (0, .ref 10), (1, .ref 24)]) (st := [.ref 10]) (h := ks i2 a2 q2 r2) (i := (.invokevirtual 36, 3, 20, 0, 9, 0, 226)) (mi_k21.2 _ _ (by rfl)) (ft_invS mi_pq20 (by rfl)) (cy := mi_c20) mi_pq20 rfl (ke20_10 hG32.I hG32.R ) (by decide) ?_
              intro vg33 ig33 ag33 qg33 rg33 kg33 hg33
              have hGg33 := kG_call hG32 kg33 (by decide +kernel)
              obtain ⟨hg33, og33⟩ := hg33
              exact ft_ret mi_k21 (by rfl) (hP vg33 _ _ _ _ hGg33 ⟨trivial, (show vg33 = lRun (a 11) (a 12) (a 24) (i 643) 121 0 (a 13, 0) from (lRun_ans (n := (120 - l3_2.toInt).toNat) O2_0 (kj_left2 (od12 c5 kod121)) ⟨(od5 c8 kod0), (od20 c11 efi2_643)⟩ (kL_cast (hL2.fa 11 rfl) (od36 w31)) og33))⟩)
            by_cases w35 : ((a2 11).getD l2_2.toNatClampNeg 0).toInt = 3
            ·
              refine ft_swx mi_k21 (pc := 48) (v := 3) (t := 149) (kj_eq w35 (by decide) : ((a2 11).getD l2_2.toNatClampNeg 0) = 3) (by decide +kernel) ?_
              first | refine fo_goS mi_k21 fz21_149_1_150 [.ref 10] (by rfl) ?_ | refine ft_go mi_k21 1 150 [(2, .int (l2_2 + 1)), (5, .int ((a2 12).getD l2_2.toNatClampNeg 0)), (4, .int ((a2 11).getD l2_2.toNatClampNeg 0)), (3, .int l3_2), (0, .ref 10), (1, .ref 24)] [.ref 10] i2 a2 q2 r2 (by rfl) ?_ | refine ko_steps mi_in21 1 _ (150, [(2, .int (l2_2 + 1)), (5, .int ((a2 12).getD l2_2.toNatClampNeg 0)), (4, .int ((a2 11).getD l2_2.toNatClampNeg 0)), (3, .int l3_2), (0, .ref 10), (1, .ref 24)], [.ref 10], (0, 0), ks i2 a2 q2 r2) (by rfl) ?_
              refine ko_callI mi_k21.1 (pc := 150) (ls := [(2, .int (l2_2 + 1)), (5, .int ((a2 12).getD l2_2.toNatClampNeg 0)), (4, .int ((a2 11).getD l2_2.toNatClampNeg 0)), (3, .int l3_2), (0, .ref 10), (1, .ref 24)]) (st := [.ref 10]) (h := ks i2 a2 q2 r2) (i := (.invokevirtual 36, 3, 20, 0, 9, 0, 226)) (mi_k21.2 _ _ (by rfl)) (ft_invS mi_pq20 (by rfl)) (cy := mi_c20) mi_pq20 rfl (ke20_10 hL2.I hL2.R ) (by decide) ?_
              intro vg36 ig36 ag36 qg36 rg36 kg36 hg36
              have hGg36 := kG_call hL2 kg36 (by decide +kernel)
              obtain ⟨hg36, og36⟩ := hg36
              have fi2_645 : ((0 : Int) ≤ (i2 645).toInt) ∧ ((i2 645).toInt ≤ 121) := hL2.I.1 645
              have fig36_645 : ((0 : Int) ≤ (ig36 645).toInt) ∧ ((ig36 645).toInt ≤ 121) := hGg36.I.1 645
              have z37 : (((1 : Int) ≤ (i2 645).toInt) ∧ ((ig36 645).toInt = ((i2 645).toInt - 1))) ∨ (((i2 645).toInt ≤ 0) ∧ ((ig36 645).toInt = (i2 645).toInt)) := hg36
              refine ft_ifS mi_k21 (vg36 != 0) 214 156 [] (by rfl) (fun c => ?_) (fun c => ?_)
              ·
                have c38 : vg36.toInt ≠ (0 : Int32).toInt := kd_ne c; clear c
                have s39 : (l3_2 + 1).toInt = l3_2.toInt + (1 : Int32).toInt := kd_add (od13 p2_0 kod1) (od19 c5 kod121 kod1)
                first | refine fo_goL mi_k21 fz21_7_2_9 [(3, .int (l3_2 + 1)), (2, .int (l2_2 + 1)), (5, .int ((a2 12).getD l2_2.toNatClampNeg 0)), (4, .int ((a2 11).getD l2_2.toNatClampNeg 0)), (0, .ref 10), (1, .ref 24)] [] (by rfl) ?_ | refine fo_goL mi_k21 fz21_214_2_9 [(3, .int (l3_2 + 1)), (2, .int (l2_2 + 1)), (5, .int ((a2 12).getD l2_2.toNatClampNeg 0)), (4, .int ((a2 11).getD l2_2.toNatClampNeg 0)), (0, .ref 10), (1, .ref 24)] [] (by rfl) ?_ | refine ft_go mi_k21 2 9 [(3, .int (l3_2 + 1)), (2, .int (l2_2 + 1)), (5, .int ((a2 12).getD l2_2.toNatClampNeg 0)), (4, .int ((a2 11).getD l2_2.toNatClampNeg 0)), (0, .ref 10), (1, .ref 24)] [] ig36 ag36 qg36 rg36 (by rfl) ?_ | refine ko_steps mi_in21 2 _ (9, [(3, .int (l3_2 + 1)), (2, .int (l2_2 + 1)), (5, .int ((a2 12).getD l2_2.toNatClampNeg 0)), (4, .int ((a2 11).getD l2_2.toNatClampNeg 0)), (0, .ref 10), (1, .ref 24)], [], (0, 0), ks ig36 ag36 qg36 rg36) (by rfl) ?_
                refine ko_perm [(3, .int (l3_2 + 1)), (2, .int (l2_2 + 1)), (0, .ref 10), (1, .ref 24)] (List.forall_mem_cons.mpr ⟨(List.Mem.head _), (List.forall_mem_cons.mpr ⟨(List.Mem.tail _ (List.Mem.head _)), (List.forall_mem_cons.mpr ⟨(List.Mem.tail _ (List.Mem.tail _ (List.Mem.tail _ (List.Mem.tail _ (List.Mem.head _))))), (List.forall_mem_cons.mpr ⟨(List.Mem.tail _ (List.Mem.tail _ (List.Mem.tail _ (List.Mem.tail _ (List.Mem.tail _ (List.Mem.head _)))))), (fun _ h => absurd h List.not_mem_nil)⟩)⟩)⟩)⟩) ?_
                exact ih2 _ _ _ _ _ _ hGg36 (od15 p2_0 s39 kod1) (lRun_skip O2_0 (kj_left (od12 c5 kod121) (od21 s39 kod1)) ⟨(od5 c8 kod0), (od20 c11 efi2_643)⟩ (kL_cast (hL2.fa 11 rfl) (od37 w35)) og36 (by have k0_ : (0 : Int32).toInt = 0 := (by decide); have k6_ : (6 : Int32).toInt = 6 := (by decide); rw [← ((hL2.fa 12 rfl) : a2 12 = a 12)]; split <;> first | rfl | (exfalso; omega))) (kj_meas (od23 s39 kod1) (od24 c5 kod121) hm2)
              ·
                have c40 : vg36.toInt = (0 : Int32).toInt := kd_neF c; clear c
                have s41 : (l3_2 + 1).toInt = l3_2.toInt + (1 : Int32).toInt := kd_add (od13 p2_0 kod1) (od19 c5 kod121 kod1)
                first | refine fo_go mi_k21 fz21_2_5_9 [(3, .int (l3_2 + 1)), (2, .int ((a2 12).getD l2_2.toNatClampNeg 0)), (5, .int ((a2 12).getD l2_2.toNatClampNeg 0)), (4, .int ((a2 11).getD l2_2.toNatClampNeg 0)), (0, .ref 10), (1, .ref 24)] [] ig36 ag36 qg36 rg36 (by rfl) ?_ | refine fo_goL mi_k21 fz21_156_5_9 [(3, .int (l3_2 + 1)), (2, .int ((a2 12).getD l2_2.toNatClampNeg 0)), (5, .int ((a2 12).getD l2_2.toNatClampNeg 0)), (4, .int ((a2 11).getD l2_2.toNatClampNeg 0)), (0, .ref 10), (1, .ref 24)] [] (by rfl) ?_ | refine ft_goL mi_k21 5 9 [(3, .int (l3_2 + 1)), (2, .int ((a2 12).getD l2_2.toNatClampNeg 0)), (5, .int ((a2 12).getD l2_2.toNatClampNeg 0)), (4, .int ((a2 11).getD l2_2.toNatClampNeg 0)), (0, .ref 10), (1, .ref 24)] [] (by rfl) ?_ | refine ft_go mi_k21 5 9 [(3, .int (l3_2 + 1)), (2, .int ((a2 12).getD l2_2.toNatClampNeg 0)), (5, .int ((a2 12).getD l2_2.toNatClampNeg 0)), (4, .int ((a2 11).getD l2_2.toNatClampNeg 0)), (0, .ref 10), (1, .ref 24)] [] ig36 ag36 qg36 rg36 (by rfl) ?_ | refine ko_steps mi_in21 5 _ (9, [(3, .int (l3_2 + 1)), (2, .int ((a2 12).getD l2_2.toNatClampNeg 0)), (5, .int ((a2 12).getD l2_2.toNatClampNeg 0)), (4, .int ((a2 11).getD l2_2.toNatClampNeg 0)), (0, .ref 10), (1, .ref 24)], [], (0, 0), ks ig36 ag36 qg36 rg36) (by rfl) ?_
                refine ko_perm [(3, .int (l3_2 + 1)), (2, .int ((a2 12).getD l2_2.toNatClampNeg 0)), (0, .ref 10), (1, .ref 24)] (List.forall_mem_cons.mpr ⟨(List.Mem.head _), (List.forall_mem_cons.mpr ⟨(List.Mem.tail _ (List.Mem.head _)), (List.forall_mem_cons.mpr ⟨(List.Mem.tail _ (List.Mem.tail _ (List.Mem.tail _ (List.Mem.tail _ (List.Mem.head _))))), (List.forall_mem_cons.mpr ⟨(List.Mem.tail _ (List.Mem.tail _ (List.Mem.tail _ (List.Mem.tail _ (List.Mem.tail _ (List.Mem.head _)))))), (fun _ h => absurd h List.not_mem_nil)⟩)⟩)⟩)⟩) ?_
                exact ih2 _ _ _ _ _ _ hGg36 (od15 p2_0 s41 kod1) (lRun_skip O2_0 (kj_left (od12 c5 kod121) (od21 s41 kod1)) ⟨(od5 c8 kod0), (od20 c11 efi2_643)⟩ (kL_cast (hL2.fa 11 rfl) (od37 w35)) og36 (by have k0_ : (0 : Int32).toInt = 0 := (by decide); have k6_ : (6 : Int32).toInt = 6 := (by decide); rw [← ((hL2.fa 12 rfl) : a2 12 = a 12)]; split <;> first | rfl | (exfalso; omega))) (kj_meas (od23 s41 kod1) (od24 c5 kod121) hm2)
            by_cases w42 : ((a2 11).getD l2_2.toNatClampNeg 0).toInt = 33
            ·
              refine ft_swx mi_k21 (pc := 48) (v := 33) (t := 162) (kj_eq w42 (by decide) : ((a2 11).getD l2_2.toNatClampNeg 0) = 33) (by decide +kernel) ?_
              first | refine fo_goS mi_k21 fz21_162_2_164 [.ref 10, .ref 10] (by rfl) ?_ | refine ft_go mi_k21 2 164 [(2, .int (l2_2 + 1)), (5, .int ((a2 12).getD l2_2.toNatClampNeg 0)), (4, .int ((a2 11).getD l2_2.toNatClampNeg 0)), (3, .int l3_2), (0, .ref 10), (1, .ref 24)] [.ref 10, .ref 10] i2 a2 q2 r2 (by rfl) ?_ | refine ko_steps mi_in21 2 _ (164, [(2, .int (l2_2 + 1)), (5, .int ((a2 12).getD l2_2.toNatClampNeg 0)), (4, .int ((a2 11).getD l2_2.toNatClampNeg 0)), (3, .int l3_2), (0, .ref 10), (1, .ref 24)], [.ref 10, .ref 10], (0, 0), ks i2 a2 q2 r2) (by rfl) ?_
              refine ko_callI mi_k21.1 (pc := 164) (ls := [(2, .int (l2_2 + 1)), (5, .int ((a2 12).getD l2_2.toNatClampNeg 0)), (4, .int ((a2 11).getD l2_2.toNatClampNeg 0)), (3, .int l3_2), (0, .ref 10), (1, .ref 24)]) (st := [.ref 10, .ref 10]) (h := ks i2 a2 q2 r2) (i := (.invokevirtual 36, 3, 20, 0, 9, 0, 226)) (mi_k21.2 _ _ (by rfl)) (ft_invS mi_pq20 (by rfl)) (cy := mi_c20) mi_pq20 rfl (ke20_10 hL2.I hL2.R ) (by decide) ?_
              intro vg43 ig43 ag43 qg43 rg43 kg43 hg43
              have hGg43 := kG_call hL2 kg43 (by decide +kernel)
              obtain ⟨hg43, og43⟩ := hg43
              have fi2_645 : ((0 : Int) ≤ (i2 645).toInt) ∧ ((i2 645).toInt ≤ 121) := hL2.I.1 645
              have fig43_645 : ((0 : Int) ≤ (ig43 645).toInt) ∧ ((ig43 645).toInt ≤ 121) := hGg43.I.1 645
              have z44 : (((1 : Int) ≤ (i2 645).toInt) ∧ ((ig43 645).toInt = ((i2 645).toInt - 1))) ∨ (((i2 645).toInt ≤ 0) ∧ ((ig43 645).toInt = (i2 645).toInt)) := hg43
              refine ft_ifS mi_k21 (vg43 != 0) 174 170 [.ref 10] (by rfl) (fun c => ?_) (fun c => ?_)
              ·
                have c45 : vg43.toInt ≠ (0 : Int32).toInt := kd_ne c; clear c
                first | refine fo_goS mi_k21 fz21_171_1_175 [.int 0, .ref 10] (by rfl) ?_ | refine fo_goS mi_k21 fz21_174_1_175 [.int 0, .ref 10] (by rfl) ?_ | refine ft_go mi_k21 1 175 [(2, .int (l2_2 + 1)), (5, .int ((a2 12).getD l2_2.toNatClampNeg 0)), (4, .int ((a2 11).getD l2_2.toNatClampNeg 0)), (3, .int l3_2), (0, .ref 10), (1, .ref 24)] [.int 0, .ref 10] ig43 ag43 qg43 rg43 (by rfl) ?_ | refine ko_steps mi_in21 1 _ (175, [(2, .int (l2_2 + 1)), (5, .int ((a2 12).getD l2_2.toNatClampNeg 0)), (4, .int ((a2 11).getD l2_2.toNatClampNeg 0)), (3, .int l3_2), (0, .ref 10), (1, .ref 24)], [.int 0, .ref 10], (0, 0), ks ig43 ag43 qg43 rg43) (by rfl) ?_
                refine ko_callN mi_k21.1 (pc := 175) (ls := [(2, .int (l2_2 + 1)), (5, .int ((a2 12).getD l2_2.toNatClampNeg 0)), (4, .int ((a2 11).getD l2_2.toNatClampNeg 0)), (3, .int l3_2), (0, .ref 10), (1, .ref 24)]) (st := [.int 0, .ref 10]) (h := ks ig43 ag43 qg43 rg43) (i := (.invokevirtual 32, 3, 19, 0, 9, 0, 225)) (mi_k21.2 _ _ (by rfl)) (ft_invS mi_pq19 (by rfl)) (cy := mi_c19) mi_pq19 rfl (ke19_10 hGg43.I hGg43.R 0) (by decide) ?_
                intro ig46 ag46 qg46 rg46 kg46 hg46
                have hGg46 := kG_call hGg43 kg46 (by decide +kernel)
                obtain ⟨hg46, og46⟩ := hg46
                have fig46_645 : ((0 : Int) ≤ (ig46 645).toInt) ∧ ((ig46 645).toInt ≤ 121) := hGg46.I.1 645
                have z47 : (((ig43 645).toInt ≤ 120) ∧ ((ig46 645).toInt = ((ig43 645).toInt + 1))) ∨ (((121 : Int) ≤ (ig43 645).toInt) ∧ ((ig46 645).toInt = (ig43 645).toInt)) := hg46
                have s48 : (l3_2 + 1).toInt = l3_2.toInt + (1 : Int32).toInt := kd_add (od13 p2_0 kod1) (od19 c5 kod121 kod1)
                first | refine fo_goL mi_k21 fz21_6_3_9 [(3, .int (l3_2 + 1)), (2, .int (l2_2 + 1)), (5, .int ((a2 12).getD l2_2.toNatClampNeg 0)), (4, .int ((a2 11).getD l2_2.toNatClampNeg 0)), (0, .ref 10), (1, .ref 24)] [] (by rfl) ?_ | refine fo_goL mi_k21 fz21_114_3_9 [(3, .int (l3_2 + 1)), (2, .int (l2_2 + 1)), (5, .int ((a2 12).getD l2_2.toNatClampNeg 0)), (4, .int ((a2 11).getD l2_2.toNatClampNeg 0)), (0, .ref 10), (1, .ref 24)] [] (by rfl) ?_ | refine fo_goL mi_k21 fz21_141_3_9 [(3, .int (l3_2 + 1)), (2, .int (l2_2 + 1)), (5, .int ((a2 12).getD l2_2.toNatClampNeg 0)), (4, .int ((a2 11).getD l2_2.toNatClampNeg 0)), (0, .ref 10), (1, .ref 24)] [] (by rfl) ?_ | refine fo_goL mi_k21 fz21_153_3_9 [(3, .int (l3_2 + 1)), (2, .int (l2_2 + 1)), (5, .int ((a2 12).getD l2_2.toNatClampNeg 0)), (4, .int ((a2 11).getD l2_2.toNatClampNeg 0)), (0, .ref 10), (1, .ref 24)] [] (by rfl) ?_ | refine fo_goL mi_k21 fz21_159_3_9 [(3, .int (l3_2 + 1)), (2, .int (l2_2 + 1)), (5, .int ((a2 12).getD l2_2.toNatClampNeg 0)), (4, .int ((a2 11).getD l2_2.toNatClampNeg 0)), (0, .ref 10), (1, .ref 24)] [] (by rfl) ?_ | refine fo_goL mi_k21 fz21_178_3_9 [(3, .int (l3_2 + 1)), (2, .int (l2_2 + 1)), (5, .int ((a2 12).getD l2_2.toNatClampNeg 0)), (4, .int ((a2 11).getD l2_2.toNatClampNeg 0)), (0, .ref 10), (1, .ref 24)] [] (by rfl) ?_ | refine fo_goL mi_k21 fz21_190_3_9 [(3, .int (l3_2 + 1)), (2, .int (l2_2 + 1)), (5, .int ((a2 12).getD l2_2.toNatClampNeg 0)), (4, .int ((a2 11).getD l2_2.toNatClampNeg 0)), (0, .ref 10), (1, .ref 24)] [] (by rfl) ?_ | refine ft_goL mi_k21 3 9 [(3, .int (l3_2 + 1)), (2, .int (l2_2 + 1)), (5, .int ((a2 12).getD l2_2.toNatClampNeg 0)), (4, .int ((a2 11).getD l2_2.toNatClampNeg 0)), (0, .ref 10), (1, .ref 24)] [] (by rfl) ?_ | refine ft_go mi_k21 3 9 [(3, .int (l3_2 + 1)), (2, .int (l2_2 + 1)), (5, .int ((a2 12).getD l2_2.toNatClampNeg 0)), (4, .int ((a2 11).getD l2_2.toNatClampNeg 0)), (0, .ref 10), (1, .ref 24)] [] ig46 ag46 qg46 rg46 (by rfl) ?_ | refine ko_steps mi_in21 3 _ (9, [(3, .int (l3_2 + 1)), (2, .int (l2_2 + 1)), (5, .int ((a2 12).getD l2_2.toNatClampNeg 0)), (4, .int ((a2 11).getD l2_2.toNatClampNeg 0)), (0, .ref 10), (1, .ref 24)], [], (0, 0), ks ig46 ag46 qg46 rg46) (by rfl) ?_
                refine ko_perm [(3, .int (l3_2 + 1)), (2, .int (l2_2 + 1)), (0, .ref 10), (1, .ref 24)] (List.forall_mem_cons.mpr ⟨(List.Mem.head _), (List.forall_mem_cons.mpr ⟨(List.Mem.tail _ (List.Mem.head _)), (List.forall_mem_cons.mpr ⟨(List.Mem.tail _ (List.Mem.tail _ (List.Mem.tail _ (List.Mem.tail _ (List.Mem.head _))))), (List.forall_mem_cons.mpr ⟨(List.Mem.tail _ (List.Mem.tail _ (List.Mem.tail _ (List.Mem.tail _ (List.Mem.tail _ (List.Mem.head _)))))), (fun _ h => absurd h List.not_mem_nil)⟩)⟩)⟩)⟩) ?_
                exact ih2 _ _ _ _ _ _ hGg46 (od15 p2_0 s48 kod1) (lRun_not O2_0 (kj_left (od12 c5 kod121) (od21 s48 kod1)) ⟨(od5 c8 kod0), (od20 c11 efi2_643)⟩ (kL_cast (hL2.fa 11 rfl) (od38 w42)) og43 (by have k0_ : (0 : Int32).toInt = 0 := (by decide); have k6_ : (6 : Int32).toInt = 6 := (by decide); split <;> first | rfl | (exfalso; omega)) og46) (kj_meas (od23 s48 kod1) (od24 c5 kod121) hm2)
              ·
                have c49 : vg43.toInt = (0 : Int32).toInt := kd_neF c; clear c
                first | refine fo_goS mi_k21 fz21_170_2_175 [.int 1, .ref 10] (by rfl) ?_ | refine fo_goS mi_k21 fz21_167_2_175 [.int 1, .ref 10] (by rfl) ?_ | refine ft_go mi_k21 2 175 [(2, .int (l2_2 + 1)), (5, .int ((a2 12).getD l2_2.toNatClampNeg 0)), (4, .int ((a2 11).getD l2_2.toNatClampNeg 0)), (3, .int l3_2), (0, .ref 10), (1, .ref 24)] [.int 1, .ref 10] ig43 ag43 qg43 rg43 (by rfl) ?_ | refine ko_steps mi_in21 2 _ (175, [(2, .int (l2_2 + 1)), (5, .int ((a2 12).getD l2_2.toNatClampNeg 0)), (4, .int ((a2 11).getD l2_2.toNatClampNeg 0)), (3, .int l3_2), (0, .ref 10), (1, .ref 24)], [.int 1, .ref 10], (0, 0), ks ig43 ag43 qg43 rg43) (by rfl) ?_
                refine ko_callN mi_k21.1 (pc := 175) (ls := [(2, .int (l2_2 + 1)), (5, .int ((a2 12).getD l2_2.toNatClampNeg 0)), (4, .int ((a2 11).getD l2_2.toNatClampNeg 0)), (3, .int l3_2), (0, .ref 10), (1, .ref 24)]) (st := [.int 1, .ref 10]) (h := ks ig43 ag43 qg43 rg43) (i := (.invokevirtual 32, 3, 19, 0, 9, 0, 225)) (mi_k21.2 _ _ (by rfl)) (ft_invS mi_pq19 (by rfl)) (cy := mi_c19) mi_pq19 rfl (ke19_10 hGg43.I hGg43.R 1) (by decide) ?_
                intro ig50 ag50 qg50 rg50 kg50 hg50
                have hGg50 := kG_call hGg43 kg50 (by decide +kernel)
                obtain ⟨hg50, og50⟩ := hg50
                have fig50_645 : ((0 : Int) ≤ (ig50 645).toInt) ∧ ((ig50 645).toInt ≤ 121) := hGg50.I.1 645
                have z51 : (((ig43 645).toInt ≤ 120) ∧ ((ig50 645).toInt = ((ig43 645).toInt + 1))) ∨ (((121 : Int) ≤ (ig43 645).toInt) ∧ ((ig50 645).toInt = (ig43 645).toInt)) := hg50
                have s52 : (l3_2 + 1).toInt = l3_2.toInt + (1 : Int32).toInt := kd_add (od13 p2_0 kod1) (od19 c5 kod121 kod1)
                first | refine fo_goL mi_k21 fz21_6_3_9 [(3, .int (l3_2 + 1)), (2, .int (l2_2 + 1)), (5, .int ((a2 12).getD l2_2.toNatClampNeg 0)), (4, .int ((a2 11).getD l2_2.toNatClampNeg 0)), (0, .ref 10), (1, .ref 24)] [] (by rfl) ?_ | refine fo_goL mi_k21 fz21_114_3_9 [(3, .int (l3_2 + 1)), (2, .int (l2_2 + 1)), (5, .int ((a2 12).getD l2_2.toNatClampNeg 0)), (4, .int ((a2 11).getD l2_2.toNatClampNeg 0)), (0, .ref 10), (1, .ref 24)] [] (by rfl) ?_ | refine fo_goL mi_k21 fz21_141_3_9 [(3, .int (l3_2 + 1)), (2, .int (l2_2 + 1)), (5, .int ((a2 12).getD l2_2.toNatClampNeg 0)), (4, .int ((a2 11).getD l2_2.toNatClampNeg 0)), (0, .ref 10), (1, .ref 24)] [] (by rfl) ?_ | refine fo_goL mi_k21 fz21_153_3_9 [(3, .int (l3_2 + 1)), (2, .int (l2_2 + 1)), (5, .int ((a2 12).getD l2_2.toNatClampNeg 0)), (4, .int ((a2 11).getD l2_2.toNatClampNeg 0)), (0, .ref 10), (1, .ref 24)] [] (by rfl) ?_ | refine fo_goL mi_k21 fz21_159_3_9 [(3, .int (l3_2 + 1)), (2, .int (l2_2 + 1)), (5, .int ((a2 12).getD l2_2.toNatClampNeg 0)), (4, .int ((a2 11).getD l2_2.toNatClampNeg 0)), (0, .ref 10), (1, .ref 24)] [] (by rfl) ?_ | refine fo_goL mi_k21 fz21_178_3_9 [(3, .int (l3_2 + 1)), (2, .int (l2_2 + 1)), (5, .int ((a2 12).getD l2_2.toNatClampNeg 0)), (4, .int ((a2 11).getD l2_2.toNatClampNeg 0)), (0, .ref 10), (1, .ref 24)] [] (by rfl) ?_ | refine fo_goL mi_k21 fz21_190_3_9 [(3, .int (l3_2 + 1)), (2, .int (l2_2 + 1)), (5, .int ((a2 12).getD l2_2.toNatClampNeg 0)), (4, .int ((a2 11).getD l2_2.toNatClampNeg 0)), (0, .ref 10), (1, .ref 24)] [] (by rfl) ?_ | refine ft_goL mi_k21 3 9 [(3, .int (l3_2 + 1)), (2, .int (l2_2 + 1)), (5, .int ((a2 12).getD l2_2.toNatClampNeg 0)), (4, .int ((a2 11).getD l2_2.toNatClampNeg 0)), (0, .ref 10), (1, .ref 24)] [] (by rfl) ?_ | refine ft_go mi_k21 3 9 [(3, .int (l3_2 + 1)), (2, .int (l2_2 + 1)), (5, .int ((a2 12).getD l2_2.toNatClampNeg 0)), (4, .int ((a2 11).getD l2_2.toNatClampNeg 0)), (0, .ref 10), (1, .ref 24)] [] ig50 ag50 qg50 rg50 (by rfl) ?_ | refine ko_steps mi_in21 3 _ (9, [(3, .int (l3_2 + 1)), (2, .int (l2_2 + 1)), (5, .int ((a2 12).getD l2_2.toNatClampNeg 0)), (4, .int ((a2 11).getD l2_2.toNatClampNeg 0)), (0, .ref 10), (1, .ref 24)], [], (0, 0), ks ig50 ag50 qg50 rg50) (by rfl) ?_
                refine ko_perm [(3, .int (l3_2 + 1)), (2, .int (l2_2 + 1)), (0, .ref 10), (1, .ref 24)] (List.forall_mem_cons.mpr ⟨(List.Mem.head _), (List.forall_mem_cons.mpr ⟨(List.Mem.tail _ (List.Mem.head _)), (List.forall_mem_cons.mpr ⟨(List.Mem.tail _ (List.Mem.tail _ (List.Mem.tail _ (List.Mem.tail _ (List.Mem.head _))))), (List.forall_mem_cons.mpr ⟨(List.Mem.tail _ (List.Mem.tail _ (List.Mem.tail _ (List.Mem.tail _ (List.Mem.tail _ (List.Mem.head _)))))), (fun _ h => absurd h List.not_mem_nil)⟩)⟩)⟩)⟩) ?_
                exact ih2 _ _ _ _ _ _ hGg50 (od15 p2_0 s52 kod1) (lRun_not O2_0 (kj_left (od12 c5 kod121) (od21 s52 kod1)) ⟨(od5 c8 kod0), (od20 c11 efi2_643)⟩ (kL_cast (hL2.fa 11 rfl) (od38 w42)) og43 (by have k0_ : (0 : Int32).toInt = 0 := (by decide); have k6_ : (6 : Int32).toInt = 6 := (by decide); split <;> first | rfl | (exfalso; omega)) og50) (kj_meas (od23 s52 kod1) (od24 c5 kod121) hm2)
            by_cases w53 : ((a2 11).getD l2_2.toNatClampNeg 0).toInt = 126
            ·
              refine ft_swx mi_k21 (pc := 48) (v := 126) (t := 181) (kj_eq w53 (by decide) : ((a2 11).getD l2_2.toNatClampNeg 0) = 126) (by decide +kernel) ?_
              first | refine fo_goS mi_k21 fz21_181_2_183 [.ref 10, .ref 10] (by rfl) ?_ | refine ft_go mi_k21 2 183 [(2, .int (l2_2 + 1)), (5, .int ((a2 12).getD l2_2.toNatClampNeg 0)), (4, .int ((a2 11).getD l2_2.toNatClampNeg 0)), (3, .int l3_2), (0, .ref 10), (1, .ref 24)] [.ref 10, .ref 10] i2 a2 q2 r2 (by rfl) ?_ | refine ko_steps mi_in21 2 _ (183, [(2, .int (l2_2 + 1)), (5, .int ((a2 12).getD l2_2.toNatClampNeg 0)), (4, .int ((a2 11).getD l2_2.toNatClampNeg 0)), (3, .int l3_2), (0, .ref 10), (1, .ref 24)], [.ref 10, .ref 10], (0, 0), ks i2 a2 q2 r2) (by rfl) ?_
              refine ko_callI mi_k21.1 (pc := 183) (ls := [(2, .int (l2_2 + 1)), (5, .int ((a2 12).getD l2_2.toNatClampNeg 0)), (4, .int ((a2 11).getD l2_2.toNatClampNeg 0)), (3, .int l3_2), (0, .ref 10), (1, .ref 24)]) (st := [.ref 10, .ref 10]) (h := ks i2 a2 q2 r2) (i := (.invokevirtual 36, 3, 20, 0, 9, 0, 226)) (mi_k21.2 _ _ (by rfl)) (ft_invS mi_pq20 (by rfl)) (cy := mi_c20) mi_pq20 rfl (ke20_10 hL2.I hL2.R ) (by decide) ?_
              intro vg54 ig54 ag54 qg54 rg54 kg54 hg54
              have hGg54 := kG_call hL2 kg54 (by decide +kernel)
              obtain ⟨hg54, og54⟩ := hg54
              first | refine fo_goS mi_k21 fz21_186_1_187 [.int (-vg54), .ref 10] (by rfl) ?_ | refine ft_go mi_k21 1 187 [(2, .int (l2_2 + 1)), (5, .int ((a2 12).getD l2_2.toNatClampNeg 0)), (4, .int ((a2 11).getD l2_2.toNatClampNeg 0)), (3, .int l3_2), (0, .ref 10), (1, .ref 24)] [.int (-vg54), .ref 10] ig54 ag54 qg54 rg54 (by rfl) ?_ | refine ko_steps mi_in21 1 _ (187, [(2, .int (l2_2 + 1)), (5, .int ((a2 12).getD l2_2.toNatClampNeg 0)), (4, .int ((a2 11).getD l2_2.toNatClampNeg 0)), (3, .int l3_2), (0, .ref 10), (1, .ref 24)], [.int (-vg54), .ref 10], (0, 0), ks ig54 ag54 qg54 rg54) (by rfl) ?_
              refine ko_callN mi_k21.1 (pc := 187) (ls := [(2, .int (l2_2 + 1)), (5, .int ((a2 12).getD l2_2.toNatClampNeg 0)), (4, .int ((a2 11).getD l2_2.toNatClampNeg 0)), (3, .int l3_2), (0, .ref 10), (1, .ref 24)]) (st := [.int (-vg54), .ref 10]) (h := ks ig54 ag54 qg54 rg54) (i := (.invokevirtual 32, 3, 19, 0, 9, 0, 225)) (mi_k21.2 _ _ (by rfl)) (ft_invS mi_pq19 (by rfl)) (cy := mi_c19) mi_pq19 rfl (ke19_10 hGg54.I hGg54.R (-vg54)) (by decide) ?_
              intro ig56 ag56 qg56 rg56 kg56 hg56
              have hGg56 := kG_call hGg54 kg56 (by decide +kernel)
              obtain ⟨hg56, og56⟩ := hg56
              have s58 : (l3_2 + 1).toInt = l3_2.toInt + (1 : Int32).toInt := kd_add (od13 p2_0 kod1) (od19 c5 kod121 kod1)
              first | refine fo_goL mi_k21 fz21_6_3_9 [(3, .int (l3_2 + 1)), (2, .int (l2_2 + 1)), (5, .int ((a2 12).getD l2_2.toNatClampNeg 0)), (4, .int ((a2 11).getD l2_2.toNatClampNeg 0)), (0, .ref 10), (1, .ref 24)] [] (by rfl) ?_ | refine fo_goL mi_k21 fz21_114_3_9 [(3, .int (l3_2 + 1)), (2, .int (l2_2 + 1)), (5, .int ((a2 12).getD l2_2.toNatClampNeg 0)), (4, .int ((a2 11).getD l2_2.toNatClampNeg 0)), (0, .ref 10), (1, .ref 24)] [] (by rfl) ?_ | refine fo_goL mi_k21 fz21_141_3_9 [(3, .int (l3_2 + 1)), (2, .int (l2_2 + 1)), (5, .int ((a2 12).getD l2_2.toNatClampNeg 0)), (4, .int ((a2 11).getD l2_2.toNatClampNeg 0)), (0, .ref 10), (1, .ref 24)] [] (by rfl) ?_ | refine fo_goL mi_k21 fz21_153_3_9 [(3, .int (l3_2 + 1)), (2, .int (l2_2 + 1)), (5, .int ((a2 12).getD l2_2.toNatClampNeg 0)), (4, .int ((a2 11).getD l2_2.toNatClampNeg 0)), (0, .ref 10), (1, .ref 24)] [] (by rfl) ?_ | refine fo_goL mi_k21 fz21_159_3_9 [(3, .int (l3_2 + 1)), (2, .int (l2_2 + 1)), (5, .int ((a2 12).getD l2_2.toNatClampNeg 0)), (4, .int ((a2 11).getD l2_2.toNatClampNeg 0)), (0, .ref 10), (1, .ref 24)] [] (by rfl) ?_ | refine fo_goL mi_k21 fz21_178_3_9 [(3, .int (l3_2 + 1)), (2, .int (l2_2 + 1)), (5, .int ((a2 12).getD l2_2.toNatClampNeg 0)), (4, .int ((a2 11).getD l2_2.toNatClampNeg 0)), (0, .ref 10), (1, .ref 24)] [] (by rfl) ?_ | refine fo_goL mi_k21 fz21_190_3_9 [(3, .int (l3_2 + 1)), (2, .int (l2_2 + 1)), (5, .int ((a2 12).getD l2_2.toNatClampNeg 0)), (4, .int ((a2 11).getD l2_2.toNatClampNeg 0)), (0, .ref 10), (1, .ref 24)] [] (by rfl) ?_ | refine ft_goL mi_k21 3 9 [(3, .int (l3_2 + 1)), (2, .int (l2_2 + 1)), (5, .int ((a2 12).getD l2_2.toNatClampNeg 0)), (4, .int ((a2 11).getD l2_2.toNatClampNeg 0)), (0, .ref 10), (1, .ref 24)] [] (by rfl) ?_ | refine ft_go mi_k21 3 9 [(3, .int (l3_2 + 1)), (2, .int (l2_2 + 1)), (5, .int ((a2 12).getD l2_2.toNatClampNeg 0)), (4, .int ((a2 11).getD l2_2.toNatClampNeg 0)), (0, .ref 10), (1, .ref 24)] [] ig56 ag56 qg56 rg56 (by rfl) ?_ | refine ko_steps mi_in21 3 _ (9, [(3, .int (l3_2 + 1)), (2, .int (l2_2 + 1)), (5, .int ((a2 12).getD l2_2.toNatClampNeg 0)), (4, .int ((a2 11).getD l2_2.toNatClampNeg 0)), (0, .ref 10), (1, .ref 24)], [], (0, 0), ks ig56 ag56 qg56 rg56) (by rfl) ?_
              refine ko_perm [(3, .int (l3_2 + 1)), (2, .int (l2_2 + 1)), (0, .ref 10), (1, .ref 24)] (List.forall_mem_cons.mpr ⟨(List.Mem.head _), (List.forall_mem_cons.mpr ⟨(List.Mem.tail _ (List.Mem.head _)), (List.forall_mem_cons.mpr ⟨(List.Mem.tail _ (List.Mem.tail _ (List.Mem.tail _ (List.Mem.tail _ (List.Mem.head _))))), (List.forall_mem_cons.mpr ⟨(List.Mem.tail _ (List.Mem.tail _ (List.Mem.tail _ (List.Mem.tail _ (List.Mem.tail _ (List.Mem.head _)))))), (fun _ h => absurd h List.not_mem_nil)⟩)⟩)⟩)⟩) ?_
              exact ih2 _ _ _ _ _ _ hGg56 (od15 p2_0 s58 kod1) (lRun_neg O2_0 (kj_left (od12 c5 kod121) (od21 s58 kod1)) ⟨(od5 c8 kod0), (od20 c11 efi2_643)⟩ (kL_cast (hL2.fa 11 rfl) (od39 w53)) og54 rfl og56) (kj_meas (od23 s58 kod1) (od24 c5 kod121) hm2)
            refine ko_lsw (ls := [(2, .int (l2_2 + 1)), (5, .int ((a2 12).getD l2_2.toNatClampNeg 0)), (4, .int ((a2 11).getD l2_2.toNatClampNeg 0)), (3, .int l3_2), (0, .ref 10), (1, .ref 24)]) (r := []) (h := ks i2 a2 q2 r2) mi_in21 (v := ((a2 11).getD l2_2.toNatClampNeg 0)) (i := (.lookupswitch 145 #[(0, 60), (1, 69), (2, 96), (3, 101), (33, 114), (126, 133)], 60, 0, 0, 0, 0, 0)) (by rfl) rfl (by simp only [Op.lookupswitch.offset, if_neg (Ne.symm w13), if_neg (Ne.symm w17), if_neg (Ne.symm w31), if_neg (Ne.symm w35), if_neg (Ne.symm w42), if_neg (Ne.symm w53)] <;> rfl) 193 (by rfl) ?_
            first | refine fo_goS mi_k21 fz21_193_1_194 [.ref 10] (by rfl) ?_ | refine ft_go mi_k21 1 194 [(2, .int (l2_2 + 1)), (5, .int ((a2 12).getD l2_2.toNatClampNeg 0)), (4, .int ((a2 11).getD l2_2.toNatClampNeg 0)), (3, .int l3_2), (0, .ref 10), (1, .ref 24)] [.ref 10] i2 a2 q2 r2 (by rfl) ?_ | refine ko_steps mi_in21 1 _ (194, [(2, .int (l2_2 + 1)), (5, .int ((a2 12).getD l2_2.toNatClampNeg 0)), (4, .int ((a2 11).getD l2_2.toNatClampNeg 0)), (3, .int l3_2), (0, .ref 10), (1, .ref 24)], [.ref 10], (0, 0), ks i2 a2 q2 r2) (by rfl) ?_
            refine ko_callI mi_k21.1 (pc := 194) (ls := [(2, .int (l2_2 + 1)), (5, .int ((a2 12).getD l2_2.toNatClampNeg 0)), (4, .int ((a2 11).getD l2_2.toNatClampNeg 0)), (3, .int l3_2), (0, .ref 10), (1, .ref 24)]) (st := [.ref 10]) (h := ks i2 a2 q2 r2) (i := (.invokevirtual 36, 3, 20, 0, 9, 0, 226)) (mi_k21.2 _ _ (by rfl)) (ft_invS mi_pq20 (by rfl)) (cy := mi_c20) mi_pq20 rfl (ke20_10 hL2.I hL2.R ) (by decide) ?_
            intro vg59 ig59 ag59 qg59 rg59 kg59 hg59
            have hGg59 := kG_call hL2 kg59 (by decide +kernel)
            obtain ⟨hg59, og59⟩ := hg59
            first | refine fo_goL mi_k21 fz21_197_4_203 [(6, .int vg59), (2, .int (l2_2 + 1)), (5, .int ((a2 12).getD l2_2.toNatClampNeg 0)), (4, .int ((a2 11).getD l2_2.toNatClampNeg 0)), (3, .int l3_2), (0, .ref 10), (1, .ref 24)] [.ref 10, .int ((a2 11).getD l2_2.toNatClampNeg 0), .ref 10] (by rfl) ?_ | refine ft_go mi_k21 4 203 [(6, .int vg59), (2, .int (l2_2 + 1)), (5, .int ((a2 12).getD l2_2.toNatClampNeg 0)), (4, .int ((a2 11).getD l2_2.toNatClampNeg 0)), (3, .int l3_2), (0, .ref 10), (1, .ref 24)] [.ref 10, .int ((a2 11).getD l2_2.toNatClampNeg 0), .ref 10] ig59 ag59 qg59 rg59 (by rfl) ?_ | refine ko_steps mi_in21 4 _ (203, [(6, .int vg59), (2, .int (l2_2 + 1)), (5, .int ((a2 12).getD l2_2.toNatClampNeg 0)), (4, .int ((a2 11).getD l2_2.toNatClampNeg 0)), (3, .int l3_2), (0, .ref 10), (1, .ref 24)], [.ref 10, .int ((a2 11).getD l2_2.toNatClampNeg 0), .ref 10], (0, 0), ks ig59 ag59 qg59 rg59) (by rfl) ?_
            refine ko_callI mi_k21.1 (pc := 203) (ls := [(6, .int vg59), (2, .int (l2_2 + 1)), (5, .int ((a2 12).getD l2_2.toNatClampNeg 0)), (4, .int ((a2 11).getD l2_2.toNatClampNeg 0)), (3, .int l3_2), (0, .ref 10), (1, .ref 24)]) (st := [.ref 10, .int ((a2 11).getD l2_2.toNatClampNeg 0), .ref 10]) (h := ks ig59 ag59 qg59 rg59) (i := (.invokevirtual 36, 3, 20, 0, 9, 0, 226)) (mi_k21.2 _ _ (by rfl)) (ft_invS mi_pq20 (by rfl)) (cy := mi_c20) mi_pq20 rfl (ke20_10 hGg59.I hGg59.R ) (by decide) ?_
            intro vg61 ig61 ag61 qg61 rg61 kg61 hg61
            have hGg61 := kG_call hGg59 kg61 (by decide +kernel)
            obtain ⟨hg61, og61⟩ := hg61
            first | refine fo_goS mi_k21 fz21_206_1_208 [.int vg59, .int vg61, .int ((a2 11).getD l2_2.toNatClampNeg 0), .ref 10] (by rfl) ?_ | refine ft_go mi_k21 1 208 [(6, .int vg59), (2, .int (l2_2 + 1)), (5, .int ((a2 12).getD l2_2.toNatClampNeg 0)), (4, .int ((a2 11).getD l2_2.toNatClampNeg 0)), (3, .int l3_2), (0, .ref 10), (1, .ref 24)] [.int vg59, .int vg61, .int ((a2 11).getD l2_2.toNatClampNeg 0), .ref 10] ig61 ag61 qg61 rg61 (by rfl) ?_ | refine ko_steps mi_in21 1 _ (208, [(6, .int vg59), (2, .int (l2_2 + 1)), (5, .int ((a2 12).getD l2_2.toNatClampNeg 0)), (4, .int ((a2 11).getD l2_2.toNatClampNeg 0)), (3, .int l3_2), (0, .ref 10), (1, .ref 24)], [.int vg59, .int vg61, .int ((a2 11).getD l2_2.toNatClampNeg 0), .ref 10], (0, 0), ks ig61 ag61 qg61 rg61) (by rfl) ?_
            refine ko_callPI mi_k21.1 (pc := 208) (ls := [(6, .int vg59), (2, .int (l2_2 + 1)), (5, .int ((a2 12).getD l2_2.toNatClampNeg 0)), (4, .int ((a2 11).getD l2_2.toNatClampNeg 0)), (3, .int l3_2), (0, .ref 10), (1, .ref 24)]) (st := [.int vg59, .int vg61, .int ((a2 11).getD l2_2.toNatClampNeg 0), .ref 10]) (h := ks ig61 ag61 qg61 rg61) (i := (.invokestatic 40, 3, 22, 0, 9, 0, 227)) (mi_k21.2 _ _ (by rfl)) (ft_invS mi_pq22 (by rfl)) (cy := mi_c22) mi_pq22 rfl (ke22 hGg61.I hGg61.R ((a2 11).getD l2_2.toNatClampNeg 0) vg61 vg59) (by decide) ?_
            intro vg63 hg63
            obtain ⟨hg63, og63⟩ := hg63
            have q64 : vg63 = cJoin ((a2 11).getD l2_2.toNatClampNeg 0) vg61 vg59 := og63
            refine ko_callN mi_k21.1 (pc := 211) (ls := [(6, .int vg59), (2, .int (l2_2 + 1)), (5, .int ((a2 12).getD l2_2.toNatClampNeg 0)), (4, .int ((a2 11).getD l2_2.toNatClampNeg 0)), (3, .int l3_2), (0, .ref 10), (1, .ref 24)]) (st := [.int vg63, .ref 10]) (h := ks ig61 ag61 qg61 rg61) (i := (.invokevirtual 32, 3, 19, 0, 9, 0, 225)) (mi_k21.2 _ _ (by rfl)) (ft_invS mi_pq19 (by rfl)) (cy := mi_c19) mi_pq19 rfl (ke19_10 hGg61.I hGg61.R vg63) (by decide) ?_
            intro ig65 ag65 qg65 rg65 kg65 hg65
            have hGg65 := kG_call hGg61 kg65 (by decide +kernel)
            obtain ⟨hg65, og65⟩ := hg65
            have s67 : (l3_2 + 1).toInt = l3_2.toInt + (1 : Int32).toInt := kd_add (od13 p2_0 kod1) (od19 c5 kod121 kod1)
            first | refine fo_goL mi_k21 fz21_7_2_9 [(3, .int (l3_2 + 1)), (6, .int vg59), (2, .int (l2_2 + 1)), (5, .int ((a2 12).getD l2_2.toNatClampNeg 0)), (4, .int ((a2 11).getD l2_2.toNatClampNeg 0)), (0, .ref 10), (1, .ref 24)] [] (by rfl) ?_ | refine fo_goL mi_k21 fz21_214_2_9 [(3, .int (l3_2 + 1)), (6, .int vg59), (2, .int (l2_2 + 1)), (5, .int ((a2 12).getD l2_2.toNatClampNeg 0)), (4, .int ((a2 11).getD l2_2.toNatClampNeg 0)), (0, .ref 10), (1, .ref 24)] [] (by rfl) ?_ | refine ft_go mi_k21 2 9 [(3, .int (l3_2 + 1)), (6, .int vg59), (2, .int (l2_2 + 1)), (5, .int ((a2 12).getD l2_2.toNatClampNeg 0)), (4, .int ((a2 11).getD l2_2.toNatClampNeg 0)), (0, .ref 10), (1, .ref 24)] [] ig65 ag65 qg65 rg65 (by rfl) ?_ | refine ko_steps mi_in21 2 _ (9, [(3, .int (l3_2 + 1)), (6, .int vg59), (2, .int (l2_2 + 1)), (5, .int ((a2 12).getD l2_2.toNatClampNeg 0)), (4, .int ((a2 11).getD l2_2.toNatClampNeg 0)), (0, .ref 10), (1, .ref 24)], [], (0, 0), ks ig65 ag65 qg65 rg65) (by rfl) ?_
            refine ko_perm [(3, .int (l3_2 + 1)), (2, .int (l2_2 + 1)), (0, .ref 10), (1, .ref 24)] (List.forall_mem_cons.mpr ⟨(List.Mem.head _), (List.forall_mem_cons.mpr ⟨(List.Mem.tail _ (List.Mem.tail _ (List.Mem.head _))), (List.forall_mem_cons.mpr ⟨(List.Mem.tail _ (List.Mem.tail _ (List.Mem.tail _ (List.Mem.tail _ (List.Mem.tail _ (List.Mem.head _)))))), (List.forall_mem_cons.mpr ⟨(List.Mem.tail _ (List.Mem.tail _ (List.Mem.tail _ (List.Mem.tail _ (List.Mem.tail _ (List.Mem.tail _ (List.Mem.head _))))))), (fun _ h => absurd h List.not_mem_nil)⟩)⟩)⟩)⟩) ?_
            exact ih2 _ _ _ _ _ _ hGg65 (od15 p2_0 s67 kod1) (lRun_bin O2_0 (kj_left (od12 c5 kod121) (od21 s67 kod1)) ⟨(od5 c8 kod0), (od20 c11 efi2_643)⟩ (kL_castn (hL2.fa 11 rfl) (od41 w13)) (kL_castn (hL2.fa 11 rfl) (od42 w13 w17)) (kL_castn (hL2.fa 11 rfl) (od43 w13 w17 w31)) (kL_castn (hL2.fa 11 rfl) (od44 w13 w17 w31 w35)) (kL_castn (hL2.fa 11 rfl) (od45 w42)) (kL_castn (hL2.fa 11 rfl) (od46 w53)) og59 og61 (og63.trans (congrArg (fun z : List Int32 => cJoin (z.getD l2_2.toNatClampNeg 0) _ _) (hL2.fa 11 rfl))) og65) (kj_meas (od23 s67 kod1) (od24 c5 kod121) hm2)
  exact lp2 _ _ _ _ _ _ _ (kG_self _ hJ1.I hJ1.R) (od0 kod0) (by rw [kod0]; rfl) (Nat.lt_succ_self _)
def yw19_100 : kW := ([6405], [103], [], [])
set_option maxRecDepth 100000 in
theorem ke19_100 {i : Nat → Int32} {a : Nat → List Int32} {q : Nat → List Int64} {r : Nat → Nat} (hI : kI i a q) (hr : kr r) (x1 : Int32) : km 1 19 [.ref 100, .int x1] (ks i a q r) (kVN yw19_100 i a q r (fun i1 a1 q1 r1 => ((((i 6405).toInt ≤ 120) ∧ ((i1 6405).toInt = ((i 6405).toInt + 1))) ∨ (((121 : Int) ≤ (i 6405).toInt) ∧ ((i1 6405).toInt = (i 6405).toInt))) ∧ (a1 103, i1 6405) = lPush (a 103, i 6405) x1)) := by
  have hG := kG_self yw19_100 hI hr
  refine km_ofN (q := (mi_h19, mi_c19)) rfl (by decide) (Nat.le_of_ble_eq_true rfl) ?_
  intro P hP
  have fi_6405 : ((0 : Int) ≤ (i 6405).toInt) ∧ ((i 6405).toInt ≤ 121) := hG.I.1 6405
  first | refine fo_goL mi_k19 fz19_0_3_6 [(0, .ref 100), (1, .int x1)] [.int 121, .int (i 6405)] (by rfl) ?_ | refine ft_go mi_k19 3 6 [(0, .ref 100), (1, .int x1)] [.int 121, .int (i 6405)] i a q r (by rfl) ?_
  refine ft_ifS mi_k19 (decide (121 ≤ (i 6405))) 29 9 [] (by rfl) (fun c => ?_) (fun c => ?_)
  ·
    have c1 : (121 : Int32).toInt ≤ (i 6405).toInt := kd_le c; clear c
    exact ft_ret mi_k19 (by rfl) (hP  _ _ _ _ hG ⟨(od9 c1 kod121), ((show (a 103, i 6405) = (a 103, i 6405) from rfl).trans (if_neg (od10 c1 kod121)).symm)⟩)
  ·
    have c2 : (i 6405).toInt < (121 : Int32).toInt := kd_leF c; clear c
    first | refine fo_goS mi_k19 fz19_9_5_18 [.int x1, .int (i 6405), .ref 103] (by rfl) ?_ | refine ft_go mi_k19 5 18 [(0, .ref 100), (1, .int x1)] [.int x1, .int (i 6405), .ref 103] i a q r (by rfl) ?_
    refine ko_iast3 mi_k19.1 (n := 121) (c := 121) (ax := (0, 0, 0, 0, 0)) (mi_k19.2 _ _ (by rfl)) (by rfl) (ksG103 _ _ _ _) (ksA103 _ _ _ _) (hG.I.2.1 103) rfl (od11 fi_6405.1) (od12 c2 kod121) ?_
    intro a3 ea3 fa3
    have hJ3 := kG_a3 hG 103 rfl ea3 fa3 (kd_bd _)
    have s4 : ((i 6405) + 1).toInt = (i 6405).toInt + (1 : Int32).toInt := kd_add (od13 fi_6405.1 kod1) (od14 fi_6405.2 kod1)
    have hJ5 := kG_i hJ3 6405 rfl (v := ((i 6405) + 1)) ⟨(od15 fi_6405.1 s4 kod1), (od16 c2 s4 kod121 kod1)⟩
    first | refine fo_goI mi_k19 fz19_19_6_29 [] (ku i 6405 ((i 6405) + 1)) (by rfl) ?_ | refine ft_go mi_k19 6 29 [(0, .ref 100), (1, .int x1)] [] (ku i 6405 ((i 6405) + 1)) a3 q r (by rfl) ?_
    exact ft_ret mi_k19 (by rfl) (hP  _ _ _ _ hJ5 ⟨(od17 c2 s4 kod121 kod1), ((show (a3 103, ((i 6405) + 1)) = ((a 103).set (i 6405).toNatClampNeg x1, i 6405 + 1) from by rw [ea3]).trans (if_pos (od18 c2 kod121)).symm)⟩)
def yw20_100 : kW := ([6405], [], [], [])
set_option maxRecDepth 100000 in
theorem ke20_100 {i : Nat → Int32} {a : Nat → List Int32} {q : Nat → List Int64} {r : Nat → Nat} (hI : kI i a q) (hr : kr r)  : km 1 20 [.ref 100] (ks i a q r) (kVI yw20_100 i a q r (fun v i1 a1 q1 r1 => ((((1 : Int) ≤ (i 6405).toInt) ∧ ((i1 6405).toInt = ((i 6405).toInt - 1))) ∨ (((i 6405).toInt ≤ 0) ∧ ((i1 6405).toInt = (i 6405).toInt))) ∧ (v, (a1 103, i1 6405)) = lPop (a 103, i 6405))) := by
  have hG := kG_self yw20_100 hI hr
  refine km_ofI (q := (mi_h20, mi_c20)) rfl (by decide) (Nat.le_of_ble_eq_true rfl) ?_
  intro P hP
  have fi_6405 : ((0 : Int) ≤ (i 6405).toInt) ∧ ((i 6405).toInt ≤ 121) := hG.I.1 6405
  first | refine fo_goL mi_k20 fz20_0_2_4 [(0, .ref 100)] [.int (i 6405)] (by rfl) ?_ | refine ft_go mi_k20 2 4 [(0, .ref 100)] [.int (i 6405)] i a q r (by rfl) ?_
  refine ft_ifS mi_k20 (decide (0 < (i 6405))) 9 7 [] (by rfl) (fun c => ?_) (fun c => ?_)
  ·
    have c1 : (0 : Int32).toInt < (i 6405).toInt := kd_lt c; clear c
    have s2 : ((i 6405) - 1).toInt = (i 6405).toInt - (1 : Int32).toInt := kd_sub (od27 c1 kod0 kod1) (od28 fi_6405.2 kod1)
    have hJ3 := kG_i hG 6405 rfl (v := ((i 6405) - 1)) ⟨(od29 c1 s2 kod0 kod1), (od30 fi_6405.2 s2 kod1)⟩
    first | refine fo_goI mi_k20 fz20_9_10_27 [.int ((i 6405) - 1), .ref 103] (ku i 6405 ((i 6405) - 1)) (by rfl) ?_ | refine ft_go mi_k20 10 27 [(0, .ref 100)] [.int ((i 6405) - 1), .ref 103] (ku i 6405 ((i 6405) - 1)) a q r (by rfl) ?_
    refine ko_iald3 mi_k20.1 (n := 121) (c := 121) (ax := (0, 0, 0, 0, 0)) (mi_k20.2 _ _ (by rfl)) (by rfl) (ksG103 _ _ _ _) (hJ3.I.2.1 103) rfl (od29 c1 s2 kod0 kod1) (od31 fi_6405.2 s2 kod1) ?_
    exact ft_ret mi_k20 (by rfl) (hP ((a 103).getD ((i 6405) - 1).toNatClampNeg 0) _ _ _ _ hJ3 ⟨(od32 c1 s2 kod0 kod1), ((show (((a 103).getD ((i 6405) - 1).toNatClampNeg 0), (a 103, ((i 6405) - 1))) = ((a 103).getD (i 6405 - 1).toNatClampNeg 0, (a 103, i 6405 - 1)) from rfl).trans (if_pos (od33 c1 kod0)).symm)⟩)
  ·
    have c4 : (i 6405).toInt ≤ (0 : Int32).toInt := kd_ltF c; clear c
    first | refine fo_goS mi_k20 fz20_7_1_8 [.int 0] (by rfl) ?_ | refine ft_go mi_k20 1 8 [(0, .ref 100)] [.int 0] i a q r (by rfl) ?_
    exact ft_ret mi_k20 (by rfl) (hP 0 _ _ _ _ hG ⟨(od34 c4 kod0), ((show ((0 : Int32), (a 103, i 6405)) = (0, (a 103, i 6405)) from rfl).trans (if_neg (od35 c4 kod0)).symm)⟩)
def yw21_100_24 : kW := ([6405], [103], [], [])
def yw21_100_24_L9 : kW := ([6405], [103], [], [])
set_option maxRecDepth 100000 in
theorem ke21_100_24 {i : Nat → Int32} {a : Nat → List Int32} {q : Nat → List Int64} {r : Nat → Nat} (hI : kI i a q) (hr : kr r)  : km 3 21 [.ref 100, .ref 24] (ks i a q r) (kVI yw21_100_24 i a q r (fun v i1 a1 q1 r1 => (True) ∧ v = lRun (a 101) (a 102) (a 24) (i 6403) 121 0 (a 103, 0))) := by
  have hG := kG_self yw21_100_24 hI hr
  refine km_ofI (q := (mi_h21, mi_c21)) rfl (by decide) (Nat.le_of_ble_eq_true rfl) ?_
  intro P hP
  have hJ1 := kG_i hG 6405 rfl (v := 0) ⟨(od0 kod0), (od1 kod0)⟩
  first | refine fo_go mi_k21 fz21_0_7_9 [(3, .int 0), (2, .int 0), (0, .ref 100), (1, .ref 24)] [] (ku i 6405 0) a q r (by rfl) ?_ | refine ft_goL mi_k21 7 9 [(3, .int 0), (2, .int 0), (0, .ref 100), (1, .ref 24)] [] (by rfl) ?_ | refine ft_go mi_k21 7 9 [(3, .int 0), (2, .int 0), (0, .ref 100), (1, .ref 24)] [] (ku i 6405 0) a q r (by rfl) ?_ | refine ko_steps mi_in21 7 _ (9, [(3, .int 0), (2, .int 0), (0, .ref 100), (1, .ref 24)], [], (0, 0), ks (ku i 6405 0) a q r) (by rfl) ?_
  have lp2 : ∀ (nz : Nat) (i2 : Nat → Int32) (a2 : Nat → List Int32) (q2 : Nat → List Int64) (r2 : Nat → Nat) (l3_2 : Int32) (l2_2 : Int32), kG yw21_100_24_L9 (ku i 6405 0) a q r i2 a2 q2 r2 → (0 : Int) ≤ l3_2.toInt → lRun (a 101) (a 102) (a 24) (i 6403) (121 - l3_2.toInt).toNat l2_2 (a2 103, i2 6405) = lRun (a 101) (a 102) (a 24) (i 6403) 121 0 (a 103, 0) → ((121 - l3_2.toInt)).toNat < nz → ko 3 (mi_h21, mi_c21) P (9, [(3, .int l3_2), (2, .int l2_2), (0, .ref 100), (1, .ref 24)], [], (0, 0), ks i2 a2 q2 r2) := by
    intro nz
    induction nz with
    | zero =>
      intro _ _ _ _ _ _ _ _ _ hm
      exact absurd hm (Nat.not_lt_zero _)
    | succ nz ih2 =>
      intro i2 a2 q2 r2 l3_2 l2_2 hL2 p2_0 O2_0 hm2
      first | refine fo_goL mi_k21 fz21_9_2_12 [(3, .int l3_2), (2, .int l2_2), (0, .ref 100), (1, .ref 24)] [.int 121, .int l3_2] (by rfl) ?_ | refine ft_go mi_k21 2 12 [(3, .int l3_2), (2, .int l2_2), (0, .ref 100), (1, .ref 24)] [.int 121, .int l3_2] i2 a2 q2 r2 (by rfl) ?_ | refine ko_steps mi_in21 2 _ (12, [(3, .int l3_2), (2, .int l2_2), (0, .ref 100), (1, .ref 24)], [.int 121, .int l3_2], (0, 0), ks i2 a2 q2 r2) (by rfl) ?_
      refine ft_ifS mi_k21 (decide (121 ≤ l3_2)) 220 15 [] (by rfl) (fun c => ?_) (fun c => ?_)
      ·
        have c3 : (121 : Int32).toInt ≤ l3_2.toInt := kd_le c; clear c
        have hG4 := kG_call hJ1 hL2 (by decide +kernel)
        first | refine fo_goS mi_k21 fz21_220_1_221 [.int 0] (by rfl) ?_ | refine ft_go mi_k21 1 221 [(3, .int l3_2), (2, .int l2_2), (0, .ref 100), (1, .ref 24)] [.int 0] i2 a2 q2 r2 (by rfl) ?_ | refine ko_steps mi_in21 1 _ (221, [(3, .int l3_2), (2, .int l2_2), (0, .ref 100), (1, .ref 24)], [.int 0], (0, 0), ks i2 a2 q2 r2) (by rfl) ?_
        exact ft_ret mi_k21 (by rfl) (hP 0 _ _ _ _ hG4 ⟨trivial, (show (0 : Int32) = lRun (a 101) (a 102) (a 24) (i 6403) 121 0 (a 103, 0) from (lRun_end O2_0 (kj_none (od2 c3 kod121))).symm)⟩)
      ·
        have c5 : l3_2.toInt < (121 : Int32).toInt := kd_leF c; clear c
        first | refine fo_goS mi_k21 fz21_15_1_16 [.int l2_2] (by rfl) ?_ | refine ft_go mi_k21 1 16 [(3, .int l3_2), (2, .int l2_2), (0, .ref 100), (1, .ref 24)] [.int l2_2] i2 a2 q2 r2 (by rfl) ?_ | refine ko_steps mi_in21 1 _ (16, [(3, .int l3_2), (2, .int l2_2), (0, .ref 100), (1, .ref 24)], [.int l2_2], (0, 0), ks i2 a2 q2 r2) (by rfl) ?_
        refine ft_ifS mi_k21 (decide (l2_2 < 0)) 220 19 [] (by rfl) (fun c => ?_) (fun c => ?_)
        ·
          have c6 : l2_2.toInt < (0 : Int32).toInt := kd_lt c; clear c
          have hG7 := kG_call hJ1 hL2 (by decide +kernel)
          first | refine fo_goS mi_k21 fz21_220_1_221 [.int 0] (by rfl) ?_ | refine ft_go mi_k21 1 221 [(3, .int l3_2), (2, .int l2_2), (0, .ref 100), (1, .ref 24)] [.int 0] i2 a2 q2 r2 (by rfl) ?_ | refine ko_steps mi_in21 1 _ (221, [(3, .int l3_2), (2, .int l2_2), (0, .ref 100), (1, .ref 24)], [.int 0], (0, 0), ks i2 a2 q2 r2) (by rfl) ?_
          exact ft_ret mi_k21 (by rfl) (hP 0 _ _ _ _ hG7 ⟨trivial, (show (0 : Int32) = lRun (a 101) (a 102) (a 24) (i 6403) 121 0 (a 103, 0) from (lRun_out O2_0 (od3 c6 kod0)).symm)⟩)
        ·
          have c8 : (0 : Int32).toInt ≤ l2_2.toInt := kd_ltF c; clear c
          have fi2_6403 : ((0 : Int) ≤ (i2 6403).toInt) ∧ ((i2 6403).toInt ≤ 121) := hL2.I.1 6403
          have fi_6403 : ((0 : Int) ≤ (i 6403).toInt) ∧ ((i 6403).toInt ≤ 121) := hJ1.I.1 6403
          have efi2_6403 : (i2 6403).toInt = (i 6403).toInt := hL2.ti 6403 rfl
          first | refine fo_goS mi_k21 fz21_19_3_24 [.int (i2 6403), .int l2_2] (by rfl) ?_ | refine ft_go mi_k21 3 24 [(3, .int l3_2), (2, .int l2_2), (0, .ref 100), (1, .ref 24)] [.int (i2 6403), .int l2_2] i2 a2 q2 r2 (by rfl) ?_ | refine ko_steps mi_in21 3 _ (24, [(3, .int l3_2), (2, .int l2_2), (0, .ref 100), (1, .ref 24)], [.int (i2 6403), .int l2_2], (0, 0), ks i2 a2 q2 r2) (by rfl) ?_
          refine ft_ifS mi_k21 (decide ((i2 6403) ≤ l2_2)) 220 27 [] (by rfl) (fun c => ?_) (fun c => ?_)
          ·
            have c9 : (i2 6403).toInt ≤ l2_2.toInt := kd_le c; clear c
            have hG10 := kG_call hJ1 hL2 (by decide +kernel)
            first | refine fo_goS mi_k21 fz21_220_1_221 [.int 0] (by rfl) ?_ | refine ft_go mi_k21 1 221 [(3, .int l3_2), (2, .int l2_2), (0, .ref 100), (1, .ref 24)] [.int 0] i2 a2 q2 r2 (by rfl) ?_ | refine ko_steps mi_in21 1 _ (221, [(3, .int l3_2), (2, .int l2_2), (0, .ref 100), (1, .ref 24)], [.int 0], (0, 0), ks i2 a2 q2 r2) (by rfl) ?_
            exact ft_ret mi_k21 (by rfl) (hP 0 _ _ _ _ hG10 ⟨trivial, (show (0 : Int32) = lRun (a 101) (a 102) (a 24) (i 6403) 121 0 (a 103, 0) from (lRun_out O2_0 (od4 c9 efi2_6403)).symm)⟩)
          ·
            have c11 : l2_2.toInt < (i2 6403).toInt := kd_leF c; clear c
            first | refine fo_goS mi_k21 fz21_27_3_32 [.int l2_2, .ref 101] (by rfl) ?_ | refine ft_go mi_k21 3 32 [(3, .int l3_2), (2, .int l2_2), (0, .ref 100), (1, .ref 24)] [.int l2_2, .ref 101] i2 a2 q2 r2 (by rfl) ?_ | refine ko_steps mi_in21 3 _ (32, [(3, .int l3_2), (2, .int l2_2), (0, .ref 100), (1, .ref 24)], [.int l2_2, .ref 101], (0, 0), ks i2 a2 q2 r2) (by rfl) ?_
            refine ko_iald3 mi_k21.1 (n := 121) (c := 121) (ax := (0, 0, 0, 0, 0)) (mi_k21.2 _ _ (by rfl)) (by rfl) (ksG101 _ _ _ _) (hL2.I.2.1 101) rfl (od5 c8 kod0) (od6 c11 fi2_6403.2) ?_
            first | refine fo_goL mi_k21 fz21_33_4_40 [(4, .int ((a2 101).getD l2_2.toNatClampNeg 0)), (3, .int l3_2), (2, .int l2_2), (0, .ref 100), (1, .ref 24)] [.int l2_2, .ref 102] (by rfl) ?_ | refine ft_go mi_k21 4 40 [(4, .int ((a2 101).getD l2_2.toNatClampNeg 0)), (3, .int l3_2), (2, .int l2_2), (0, .ref 100), (1, .ref 24)] [.int l2_2, .ref 102] i2 a2 q2 r2 (by rfl) ?_ | refine ko_steps mi_in21 4 _ (40, [(4, .int ((a2 101).getD l2_2.toNatClampNeg 0)), (3, .int l3_2), (2, .int l2_2), (0, .ref 100), (1, .ref 24)], [.int l2_2, .ref 102], (0, 0), ks i2 a2 q2 r2) (by rfl) ?_
            refine ko_iald3 mi_k21.1 (n := 121) (c := 121) (ax := (0, 0, 0, 0, 0)) (mi_k21.2 _ _ (by rfl)) (by rfl) (ksG102 _ _ _ _) (hL2.I.2.1 102) rfl (od5 c8 kod0) (od6 c11 fi2_6403.2) ?_
            have s12 : (l2_2 + 1).toInt = l2_2.toInt + (1 : Int32).toInt := kd_add (od7 c8 kod0 kod1) (od8 c11 fi2_6403.2 kod1)
            first | refine fo_goL mi_k21 fz21_41_3_48 [(2, .int (l2_2 + 1)), (5, .int ((a2 102).getD l2_2.toNatClampNeg 0)), (4, .int ((a2 101).getD l2_2.toNatClampNeg 0)), (3, .int l3_2), (0, .ref 100), (1, .ref 24)] [.int ((a2 101).getD l2_2.toNatClampNeg 0)] (by rfl) ?_ | refine ft_go mi_k21 3 48 [(2, .int (l2_2 + 1)), (5, .int ((a2 102).getD l2_2.toNatClampNeg 0)), (4, .int ((a2 101).getD l2_2.toNatClampNeg 0)), (3, .int l3_2), (0, .ref 100), (1, .ref 24)] [.int ((a2 101).getD l2_2.toNatClampNeg 0)] i2 a2 q2 r2 (by rfl) ?_ | refine ko_steps mi_in21 3 _ (48, [(2, .int (l2_2 + 1)), (5, .int ((a2 102).getD l2_2.toNatClampNeg 0)), (4, .int ((a2 101).getD l2_2.toNatClampNeg 0)), (3, .int l3_2), (0, .ref 100), (1, .ref 24)], [.int ((a2 101).getD l2_2.toNatClampNeg 0)], (0, 0), ks i2 a2 q2 r2) (by rfl) ?_
            by_cases w13 : ((a2 101).getD l2_2.toNatClampNeg 0).toInt = 0
            ·
              refine ft_swx mi_k21 (pc := 48) (v := 0) (t := 108) (kj_eq w13 (by decide) : ((a2 101).getD l2_2.toNatClampNeg 0) = 0) (by decide +kernel) ?_
              first | refine fo_goS mi_k21 fz21_108_2_111 [.int ((a2 102).getD l2_2.toNatClampNeg 0), .ref 100] (by rfl) ?_ | refine ft_go mi_k21 2 111 [(2, .int (l2_2 + 1)), (5, .int ((a2 102).getD l2_2.toNatClampNeg 0)), (4, .int ((a2 101).getD l2_2.toNatClampNeg 0)), (3, .int l3_2), (0, .ref 100), (1, .ref 24)] [.int ((a2 102).getD l2_2.toNatClampNeg 0), .ref 100] i2 a2 q2 r2 (by rfl) ?_ | refine ko_steps mi_in21 2 _ (111, [(2, .int (l2_2 + 1)), (5, .int ((a2 102).getD l2_2.toNatClampNeg 0)), (4, .int ((a2 101).getD l2_2.toNatClampNeg 0)), (3, .int l3_2), (0, .ref 100), (1, .ref 24)], [.int ((a2 102).getD l2_2.toNatClampNeg 0), .ref 100], (0, 0), ks i2 a2 q2 r2) (by rfl) ?_
              refine ko_callN mi_k21.1 (pc := 111) (ls := [(2, .int (l2_2 + 1)), (5, .int ((a2 102).getD l2_2.toNatClampNeg 0)), (4, .int ((a2 101).getD l2_2.toNatClampNeg 0)), (3, .int l3_2), (0, .ref 100), (1, .ref 24)]) (st := [.int ((a2 102).getD l2_2.toNatClampNeg 0), .ref 100]) (h := ks i2 a2 q2 r2) (i := (.invokevirtual 32, 3, 19, 0, 9, 0, 225)) (mi_k21.2 _ _ (by rfl)) (ft_invS mi_pq19 (by rfl)) (cy := mi_c19) mi_pq19 rfl (ke19_100 hL2.I hL2.R ((a2 102).getD l2_2.toNatClampNeg 0)) (by decide) ?_
              intro ig14 ag14 qg14 rg14 kg14 hg14
              have hGg14 := kG_call hL2 kg14 (by decide +kernel)
              obtain ⟨hg14, og14⟩ := hg14
              have s16 : (l3_2 + 1).toInt = l3_2.toInt + (1 : Int32).toInt := kd_add (od13 p2_0 kod1) (od19 c5 kod121 kod1)
              first | refine fo_goL mi_k21 fz21_6_3_9 [(3, .int (l3_2 + 1)), (2, .int (l2_2 + 1)), (5, .int ((a2 102).getD l2_2.toNatClampNeg 0)), (4, .int ((a2 101).getD l2_2.toNatClampNeg 0)), (0, .ref 100), (1, .ref 24)] [] (by rfl) ?_ | refine fo_goL mi_k21 fz21_114_3_9 [(3, .int (l3_2 + 1)), (2, .int (l2_2 + 1)), (5, .int ((a2 102).getD l2_2.toNatClampNeg 0)), (4, .int ((a2 101).getD l2_2.toNatClampNeg 0)), (0, .ref 100), (1, .ref 24)] [] (by rfl) ?_ | refine fo_goL mi_k21 fz21_141_3_9 [(3, .int (l3_2 + 1)), (2, .int (l2_2 + 1)), (5, .int ((a2 102).getD l2_2.toNatClampNeg 0)), (4, .int ((a2 101).getD l2_2.toNatClampNeg 0)), (0, .ref 100), (1, .ref 24)] [] (by rfl) ?_ | refine fo_goL mi_k21 fz21_153_3_9 [(3, .int (l3_2 + 1)), (2, .int (l2_2 + 1)), (5, .int ((a2 102).getD l2_2.toNatClampNeg 0)), (4, .int ((a2 101).getD l2_2.toNatClampNeg 0)), (0, .ref 100), (1, .ref 24)] [] (by rfl) ?_ | refine fo_goL mi_k21 fz21_159_3_9 [(3, .int (l3_2 + 1)), (2, .int (l2_2 + 1)), (5, .int ((a2 102).getD l2_2.toNatClampNeg 0)), (4, .int ((a2 101).getD l2_2.toNatClampNeg 0)), (0, .ref 100), (1, .ref 24)] [] (by rfl) ?_ | refine fo_goL mi_k21 fz21_178_3_9 [(3, .int (l3_2 + 1)), (2, .int (l2_2 + 1)), (5, .int ((a2 102).getD l2_2.toNatClampNeg 0)), (4, .int ((a2 101).getD l2_2.toNatClampNeg 0)), (0, .ref 100), (1, .ref 24)] [] (by rfl) ?_ | refine fo_goL mi_k21 fz21_190_3_9 [(3, .int (l3_2 + 1)), (2, .int (l2_2 + 1)), (5, .int ((a2 102).getD l2_2.toNatClampNeg 0)), (4, .int ((a2 101).getD l2_2.toNatClampNeg 0)), (0, .ref 100), (1, .ref 24)] [] (by rfl) ?_ | refine ft_goL mi_k21 3 9 [(3, .int (l3_2 + 1)), (2, .int (l2_2 + 1)), (5, .int ((a2 102).getD l2_2.toNatClampNeg 0)), (4, .int ((a2 101).getD l2_2.toNatClampNeg 0)), (0, .ref 100), (1, .ref 24)] [] (by rfl) ?_ | refine ft_go mi_k21 3 9 [(3, .int (l3_2 + 1)), (2, .int (l2_2 + 1)), (5, .int ((a2 102).getD l2_2.toNatClampNeg 0)), (4, .int ((a2 101).getD l2_2.toNatClampNeg 0)), (0, .ref 100), (1, .ref 24)] [] ig14 ag14 qg14 rg14 (by rfl) ?_ | refine ko_steps mi_in21 3 _ (9, [(3, .int (l3_2 + 1)), (2, .int (l2_2 + 1)), (5, .int ((a2 102).getD l2_2.toNatClampNeg 0)), (4, .int ((a2 101).getD l2_2.toNatClampNeg 0)), (0, .ref 100), (1, .ref 24)], [], (0, 0), ks ig14 ag14 qg14 rg14) (by rfl) ?_
              refine ko_perm [(3, .int (l3_2 + 1)), (2, .int (l2_2 + 1)), (0, .ref 100), (1, .ref 24)] (List.forall_mem_cons.mpr ⟨(List.Mem.head _), (List.forall_mem_cons.mpr ⟨(List.Mem.tail _ (List.Mem.head _)), (List.forall_mem_cons.mpr ⟨(List.Mem.tail _ (List.Mem.tail _ (List.Mem.tail _ (List.Mem.tail _ (List.Mem.head _))))), (List.forall_mem_cons.mpr ⟨(List.Mem.tail _ (List.Mem.tail _ (List.Mem.tail _ (List.Mem.tail _ (List.Mem.tail _ (List.Mem.head _)))))), (fun _ h => absurd h List.not_mem_nil)⟩)⟩)⟩)⟩) ?_
              exact ih2 _ _ _ _ _ _ hGg14 (od15 p2_0 s16 kod1) (lRun_num O2_0 (kj_left (od12 c5 kod121) (od21 s16 kod1)) ⟨(od5 c8 kod0), (od20 c11 efi2_6403)⟩ (kL_cast (hL2.fa 101 rfl) (od22 w13)) (congrArg (fun z : List Int32 => z.getD l2_2.toNatClampNeg 0) (hL2.fa 102 rfl)) og14) (kj_meas (od23 s16 kod1) (od24 c5 kod121) hm2)
            by_cases w17 : ((a2 101).getD l2_2.toNatClampNeg 0).toInt = 1
            ·
              refine ft_swx mi_k21 (pc := 48) (v := 1) (t := 117) (kj_eq w17 (by decide) : ((a2 101).getD l2_2.toNatClampNeg 0) = 1) (by decide +kernel) ?_
              first | refine fo_goS mi_k21 fz21_117_2_120 [.int ((a2 102).getD l2_2.toNatClampNeg 0), .ref 100] (by rfl) ?_ | refine ft_go mi_k21 2 120 [(2, .int (l2_2 + 1)), (5, .int ((a2 102).getD l2_2.toNatClampNeg 0)), (4, .int ((a2 101).getD l2_2.toNatClampNeg 0)), (3, .int l3_2), (0, .ref 100), (1, .ref 24)] [.int ((a2 102).getD l2_2.toNatClampNeg 0), .ref 100] i2 a2 q2 r2 (by rfl) ?_ | refine ko_steps mi_in21 2 _ (120, [(2, .int (l2_2 + 1)), (5, .int ((a2 102).getD l2_2.toNatClampNeg 0)), (4, .int ((a2 101).getD l2_2.toNatClampNeg 0)), (3, .int l3_2), (0, .ref 100), (1, .ref 24)], [.int ((a2 102).getD l2_2.toNatClampNeg 0), .ref 100], (0, 0), ks i2 a2 q2 r2) (by rfl) ?_
              refine ft_ifS mi_k21 (decide (((a2 102).getD l2_2.toNatClampNeg 0) < 0)) 137 123 [.ref 100] (by rfl) (fun c => ?_) (fun c => ?_)
              ·
                have c18 : ((a2 102).getD l2_2.toNatClampNeg 0).toInt < (0 : Int32).toInt := kd_lt c; clear c
                first | refine fo_goS mi_k21 fz21_134_1_138 [.int 0, .ref 100] (by rfl) ?_ | refine fo_goS mi_k21 fz21_137_1_138 [.int 0, .ref 100] (by rfl) ?_ | refine ft_go mi_k21 1 138 [(2, .int (l2_2 + 1)), (5, .int ((a2 102).getD l2_2.toNatClampNeg 0)), (4, .int ((a2 101).getD l2_2.toNatClampNeg 0)), (3, .int l3_2), (0, .ref 100), (1, .ref 24)] [.int 0, .ref 100] i2 a2 q2 r2 (by rfl) ?_ | refine ko_steps mi_in21 1 _ (138, [(2, .int (l2_2 + 1)), (5, .int ((a2 102).getD l2_2.toNatClampNeg 0)), (4, .int ((a2 101).getD l2_2.toNatClampNeg 0)), (3, .int l3_2), (0, .ref 100), (1, .ref 24)], [.int 0, .ref 100], (0, 0), ks i2 a2 q2 r2) (by rfl) ?_
                refine ko_callN mi_k21.1 (pc := 138) (ls := [(2, .int (l2_2 + 1)), (5, .int ((a2 102).getD l2_2.toNatClampNeg 0)), (4, .int ((a2 101).getD l2_2.toNatClampNeg 0)), (3, .int l3_2), (0, .ref 100), (1, .ref 24)]) (st := [.int 0, .ref 100]) (h := ks i2 a2 q2 r2) (i := (.invokevirtual 32, 3, 19, 0, 9, 0, 225)) (mi_k21.2 _ _ (by rfl)) (ft_invS mi_pq19 (by rfl)) (cy := mi_c19) mi_pq19 rfl (ke19_100 hL2.I hL2.R 0) (by decide) ?_
                intro ig19 ag19 qg19 rg19 kg19 hg19
                have hGg19 := kG_call hL2 kg19 (by decide +kernel)
                obtain ⟨hg19, og19⟩ := hg19
                have fi2_6405 : ((0 : Int) ≤ (i2 6405).toInt) ∧ ((i2 6405).toInt ≤ 121) := hL2.I.1 6405
                have fig19_6405 : ((0 : Int) ≤ (ig19 6405).toInt) ∧ ((ig19 6405).toInt ≤ 121) := hGg19.I.1 6405
                have z20 : (((i2 6405).toInt ≤ 120) ∧ ((ig19 6405).toInt = ((i2 6405).toInt + 1))) ∨ (((121 : Int) ≤ (i2 6405).toInt) ∧ ((ig19 6405).toInt = (i2 6405).toInt)) := hg19
                have s21 : (l3_2 + 1).toInt = l3_2.toInt + (1 : Int32).toInt := kd_add (od13 p2_0 kod1) (od19 c5 kod121 kod1)
                first | refine fo_goL mi_k21 fz21_6_3_9 [(3, .int (l3_2 + 1)), (2, .int (l2_2 + 1)), (5, .int ((a2 102).getD l2_2.toNatClampNeg 0)), (4, .int ((a2 101).getD l2_2.toNatClampNeg 0)), (0, .ref 100), (1, .ref 24)] [] (by rfl) ?_ | refine fo_goL mi_k21 fz21_114_3_9 [(3, .int (l3_2 + 1)), (2, .int (l2_2 + 1)), (5, .int ((a2 102).getD l2_2.toNatClampNeg 0)), (4, .int ((a2 101).getD l2_2.toNatClampNeg 0)), (0, .ref 100), (1, .ref 24)] [] (by rfl) ?_ | refine fo_goL mi_k21 fz21_141_3_9 [(3, .int (l3_2 + 1)), (2, .int (l2_2 + 1)), (5, .int ((a2 102).getD l2_2.toNatClampNeg 0)), (4, .int ((a2 101).getD l2_2.toNatClampNeg 0)), (0, .ref 100), (1, .ref 24)] [] (by rfl) ?_ | refine fo_goL mi_k21 fz21_153_3_9 [(3, .int (l3_2 + 1)), (2, .int (l2_2 + 1)), (5, .int ((a2 102).getD l2_2.toNatClampNeg 0)), (4, .int ((a2 101).getD l2_2.toNatClampNeg 0)), (0, .ref 100), (1, .ref 24)] [] (by rfl) ?_ | refine fo_goL mi_k21 fz21_159_3_9 [(3, .int (l3_2 + 1)), (2, .int (l2_2 + 1)), (5, .int ((a2 102).getD l2_2.toNatClampNeg 0)), (4, .int ((a2 101).getD l2_2.toNatClampNeg 0)), (0, .ref 100), (1, .ref 24)] [] (by rfl) ?_ | refine fo_goL mi_k21 fz21_178_3_9 [(3, .int (l3_2 + 1)), (2, .int (l2_2 + 1)), (5, .int ((a2 102).getD l2_2.toNatClampNeg 0)), (4, .int ((a2 101).getD l2_2.toNatClampNeg 0)), (0, .ref 100), (1, .ref 24)] [] (by rfl) ?_ | refine fo_goL mi_k21 fz21_190_3_9 [(3, .int (l3_2 + 1)), (2, .int (l2_2 + 1)), (5, .int ((a2 102).getD l2_2.toNatClampNeg 0)), (4, .int ((a2 101).getD l2_2.toNatClampNeg 0)), (0, .ref 100), (1, .ref 24)] [] (by rfl) ?_ | refine ft_goL mi_k21 3 9 [(3, .int (l3_2 + 1)), (2, .int (l2_2 + 1)), (5, .int ((a2 102).getD l2_2.toNatClampNeg 0)), (4, .int ((a2 101).getD l2_2.toNatClampNeg 0)), (0, .ref 100), (1, .ref 24)] [] (by rfl) ?_ | refine ft_go mi_k21 3 9 [(3, .int (l3_2 + 1)), (2, .int (l2_2 + 1)), (5, .int ((a2 102).getD l2_2.toNatClampNeg 0)), (4, .int ((a2 101).getD l2_2.toNatClampNeg 0)), (0, .ref 100), (1, .ref 24)] [] ig19 ag19 qg19 rg19 (by rfl) ?_ | refine ko_steps mi_in21 3 _ (9, [(3, .int (l3_2 + 1)), (2, .int (l2_2 + 1)), (5, .int ((a2 102).getD l2_2.toNatClampNeg 0)), (4, .int ((a2 101).getD l2_2.toNatClampNeg 0)), (0, .ref 100), (1, .ref 24)], [], (0, 0), ks ig19 ag19 qg19 rg19) (by rfl) ?_
                refine ko_perm [(3, .int (l3_2 + 1)), (2, .int (l2_2 + 1)), (0, .ref 100), (1, .ref 24)] (List.forall_mem_cons.mpr ⟨(List.Mem.head _), (List.forall_mem_cons.mpr ⟨(List.Mem.tail _ (List.Mem.head _)), (List.forall_mem_cons.mpr ⟨(List.Mem.tail _ (List.Mem.tail _ (List.Mem.tail _ (List.Mem.tail _ (List.Mem.head _))))), (List.forall_mem_cons.mpr ⟨(List.Mem.tail _ (List.Mem.tail _ (List.Mem.tail _ (List.Mem.tail _ (List.Mem.tail _ (List.Mem.head _)))))), (fun _ h => absurd h List.not_mem_nil)⟩)⟩)⟩)⟩) ?_
                exact ih2 _ _ _ _ _ _ hGg19 (od15 p2_0 s21 kod1) (lRun_name O2_0 (kj_left (od12 c5 kod121) (od21 s21 kod1)) ⟨(od5 c8 kod0), (od20 c11 efi2_6403)⟩ (kL_cast (hL2.fa 101 rfl) (od25 w17)) (by have k0_ : (0 : Int32).toInt = 0 := (by decide); have k6_ : (6 : Int32).toInt = 6 := (by decide); rw [← ((hL2.fa 102 rfl) : a2 102 = a 102), ← ((hL2.fa 24 rfl) : a2 24 = a 24)]; split <;> first | rfl | (exfalso; omega)) og19) (kj_meas (od23 s21 kod1) (od24 c5 kod121) hm2)
              ·
                have c22 : (0 : Int32).toInt ≤ ((a2 102).getD l2_2.toNatClampNeg 0).toInt := kd_ltF c; clear c
                first | refine fo_goS mi_k21 fz21_123_2_126 [.ref 24, .int ((a2 102).getD l2_2.toNatClampNeg 0), .ref 100] (by rfl) ?_ | refine ft_go mi_k21 2 126 [(2, .int (l2_2 + 1)), (5, .int ((a2 102).getD l2_2.toNatClampNeg 0)), (4, .int ((a2 101).getD l2_2.toNatClampNeg 0)), (3, .int l3_2), (0, .ref 100), (1, .ref 24)] [.ref 24, .int ((a2 102).getD l2_2.toNatClampNeg 0), .ref 100] i2 a2 q2 r2 (by rfl) ?_ | refine ko_steps mi_in21 2 _ (126, [(2, .int (l2_2 + 1)), (5, .int ((a2 102).getD l2_2.toNatClampNeg 0)), (4, .int ((a2 101).getD l2_2.toNatClampNeg 0)), (3, .int l3_2), (0, .ref 100), (1, .ref 24)], [.ref 24, .int ((a2 102).getD l2_2.toNatClampNeg 0), .ref 100], (0, 0), ks i2 a2 q2 r2) (by rfl) ?_
                refine ko_alen mi_k21.1 (l := a2 24) (ax := (0, 0, 0, 0, 0)) (x := 6) (mi_k21.2 _ _ (by rfl)) (by rfl) (by rfl) (by rw [(hL2.I.2.1 24 : (a2 24).length = _)]; rfl) ?_
                refine ft_ifS mi_k21 (decide (6 ≤ ((a2 102).getD l2_2.toNatClampNeg 0))) 137 130 [.ref 100] (by rfl) (fun c => ?_) (fun c => ?_)
                ·
                  have c23 : (6 : Int32).toInt ≤ ((a2 102).getD l2_2.toNatClampNeg 0).toInt := kd_le c; clear c
                  first | refine fo_goS mi_k21 fz21_134_1_138 [.int 0, .ref 100] (by rfl) ?_ | refine fo_goS mi_k21 fz21_137_1_138 [.int 0, .ref 100] (by rfl) ?_ | refine ft_go mi_k21 1 138 [(2, .int (l2_2 + 1)), (5, .int ((a2 102).getD l2_2.toNatClampNeg 0)), (4, .int ((a2 101).getD l2_2.toNatClampNeg 0)), (3, .int l3_2), (0, .ref 100), (1, .ref 24)] [.int 0, .ref 100] i2 a2 q2 r2 (by rfl) ?_ | refine ko_steps mi_in21 1 _ (138, [(2, .int (l2_2 + 1)), (5, .int ((a2 102).getD l2_2.toNatClampNeg 0)), (4, .int ((a2 101).getD l2_2.toNatClampNeg 0)), (3, .int l3_2), (0, .ref 100), (1, .ref 24)], [.int 0, .ref 100], (0, 0), ks i2 a2 q2 r2) (by rfl) ?_
                  refine ko_callN mi_k21.1 (pc := 138) (ls := [(2, .int (l2_2 + 1)), (5, .int ((a2 102).getD l2_2.toNatClampNeg 0)), (4, .int ((a2 101).getD l2_2.toNatClampNeg 0)), (3, .int l3_2), (0, .ref 100), (1, .ref 24)]) (st := [.int 0, .ref 100]) (h := ks i2 a2 q2 r2) (i := (.invokevirtual 32, 3, 19, 0, 9, 0, 225)) (mi_k21.2 _ _ (by rfl)) (ft_invS mi_pq19 (by rfl)) (cy := mi_c19) mi_pq19 rfl (ke19_100 hL2.I hL2.R 0) (by decide) ?_
                  intro ig24 ag24 qg24 rg24 kg24 hg24
                  have hGg24 := kG_call hL2 kg24 (by decide +kernel)
                  obtain ⟨hg24, og24⟩ := hg24
                  have fi2_6405 : ((0 : Int) ≤ (i2 6405).toInt) ∧ ((i2 6405).toInt ≤ 121) := hL2.I.1 6405
                  have fig24_6405 : ((0 : Int) ≤ (ig24 6405).toInt) ∧ ((ig24 6405).toInt ≤ 121) := hGg24.I.1 6405
                  have z25 : (((i2 6405).toInt ≤ 120) ∧ ((ig24 6405).toInt = ((i2 6405).toInt + 1))) ∨ (((121 : Int) ≤ (i2 6405).toInt) ∧ ((ig24 6405).toInt = (i2 6405).toInt)) := hg24
                  have s26 : (l3_2 + 1).toInt = l3_2.toInt + (1 : Int32).toInt := kd_add (od13 p2_0 kod1) (od19 c5 kod121 kod1)
                  first | refine fo_goL mi_k21 fz21_6_3_9 [(3, .int (l3_2 + 1)), (2, .int (l2_2 + 1)), (5, .int ((a2 102).getD l2_2.toNatClampNeg 0)), (4, .int ((a2 101).getD l2_2.toNatClampNeg 0)), (0, .ref 100), (1, .ref 24)] [] (by rfl) ?_ | refine fo_goL mi_k21 fz21_114_3_9 [(3, .int (l3_2 + 1)), (2, .int (l2_2 + 1)), (5, .int ((a2 102).getD l2_2.toNatClampNeg 0)), (4, .int ((a2 101).getD l2_2.toNatClampNeg 0)), (0, .ref 100), (1, .ref 24)] [] (by rfl) ?_ | refine fo_goL mi_k21 fz21_141_3_9 [(3, .int (l3_2 + 1)), (2, .int (l2_2 + 1)), (5, .int ((a2 102).getD l2_2.toNatClampNeg 0)), (4, .int ((a2 101).getD l2_2.toNatClampNeg 0)), (0, .ref 100), (1, .ref 24)] [] (by rfl) ?_ | refine fo_goL mi_k21 fz21_153_3_9 [(3, .int (l3_2 + 1)), (2, .int (l2_2 + 1)), (5, .int ((a2 102).getD l2_2.toNatClampNeg 0)), (4, .int ((a2 101).getD l2_2.toNatClampNeg 0)), (0, .ref 100), (1, .ref 24)] [] (by rfl) ?_ | refine fo_goL mi_k21 fz21_159_3_9 [(3, .int (l3_2 + 1)), (2, .int (l2_2 + 1)), (5, .int ((a2 102).getD l2_2.toNatClampNeg 0)), (4, .int ((a2 101).getD l2_2.toNatClampNeg 0)), (0, .ref 100), (1, .ref 24)] [] (by rfl) ?_ | refine fo_goL mi_k21 fz21_178_3_9 [(3, .int (l3_2 + 1)), (2, .int (l2_2 + 1)), (5, .int ((a2 102).getD l2_2.toNatClampNeg 0)), (4, .int ((a2 101).getD l2_2.toNatClampNeg 0)), (0, .ref 100), (1, .ref 24)] [] (by rfl) ?_ | refine fo_goL mi_k21 fz21_190_3_9 [(3, .int (l3_2 + 1)), (2, .int (l2_2 + 1)), (5, .int ((a2 102).getD l2_2.toNatClampNeg 0)), (4, .int ((a2 101).getD l2_2.toNatClampNeg 0)), (0, .ref 100), (1, .ref 24)] [] (by rfl) ?_ | refine ft_goL mi_k21 3 9 [(3, .int (l3_2 + 1)), (2, .int (l2_2 + 1)), (5, .int ((a2 102).getD l2_2.toNatClampNeg 0)), (4, .int ((a2 101).getD l2_2.toNatClampNeg 0)), (0, .ref 100), (1, .ref 24)] [] (by rfl) ?_ | refine ft_go mi_k21 3 9 [(3, .int (l3_2 + 1)), (2, .int (l2_2 + 1)), (5, .int ((a2 102).getD l2_2.toNatClampNeg 0)), (4, .int ((a2 101).getD l2_2.toNatClampNeg 0)), (0, .ref 100), (1, .ref 24)] [] ig24 ag24 qg24 rg24 (by rfl) ?_ | refine ko_steps mi_in21 3 _ (9, [(3, .int (l3_2 + 1)), (2, .int (l2_2 + 1)), (5, .int ((a2 102).getD l2_2.toNatClampNeg 0)), (4, .int ((a2 101).getD l2_2.toNatClampNeg 0)), (0, .ref 100), (1, .ref 24)], [], (0, 0), ks ig24 ag24 qg24 rg24) (by rfl) ?_
                  refine ko_perm [(3, .int (l3_2 + 1)), (2, .int (l2_2 + 1)), (0, .ref 100), (1, .ref 24)] (List.forall_mem_cons.mpr ⟨(List.Mem.head _), (List.forall_mem_cons.mpr ⟨(List.Mem.tail _ (List.Mem.head _)), (List.forall_mem_cons.mpr ⟨(List.Mem.tail _ (List.Mem.tail _ (List.Mem.tail _ (List.Mem.tail _ (List.Mem.head _))))), (List.forall_mem_cons.mpr ⟨(List.Mem.tail _ (List.Mem.tail _ (List.Mem.tail _ (List.Mem.tail _ (List.Mem.tail _ (List.Mem.head _)))))), (fun _ h => absurd h List.not_mem_nil)⟩)⟩)⟩)⟩) ?_
                  exact ih2 _ _ _ _ _ _ hGg24 (od15 p2_0 s26 kod1) (lRun_name O2_0 (kj_left (od12 c5 kod121) (od21 s26 kod1)) ⟨(od5 c8 kod0), (od20 c11 efi2_6403)⟩ (kL_cast (hL2.fa 101 rfl) (od25 w17)) (by have k0_ : (0 : Int32).toInt = 0 := (by decide); have k6_ : (6 : Int32).toInt = 6 := (by decide); rw [← ((hL2.fa 102 rfl) : a2 102 = a 102), ← ((hL2.fa 24 rfl) : a2 24 = a 24)]; split <;> first | rfl | (exfalso; omega)) og24) (kj_meas (od23 s26 kod1) (od24 c5 kod121) hm2)
                ·
                  have c27 : ((a2 102).getD l2_2.toNatClampNeg 0).toInt < (6 : Int32).toInt := kd_leF c; clear c
                  first | refine fo_goS mi_k21 fz21_130_2_133 [.int ((a2 102).getD l2_2.toNatClampNeg 0), .ref 24, .ref 100] (by rfl) ?_ | refine ft_go mi_k21 2 133 [(2, .int (l2_2 + 1)), (5, .int ((a2 102).getD l2_2.toNatClampNeg 0)), (4, .int ((a2 101).getD l2_2.toNatClampNeg 0)), (3, .int l3_2), (0, .ref 100), (1, .ref 24)] [.int ((a2 102).getD l2_2.toNatClampNeg 0), .ref 24, .ref 100] i2 a2 q2 r2 (by rfl) ?_ | refine ko_steps mi_in21 2 _ (133, [(2, .int (l2_2 + 1)), (5, .int ((a2 102).getD l2_2.toNatClampNeg 0)), (4, .int ((a2 101).getD l2_2.toNatClampNeg 0)), (3, .int l3_2), (0, .ref 100), (1, .ref 24)], [.int ((a2 102).getD l2_2.toNatClampNeg 0), .ref 24, .ref 100], (0, 0), ks i2 a2 q2 r2) (by rfl) ?_
                  refine ko_iald3 mi_k21.1 (n := 6) (c := 6) (ax := (0, 0, 0, 0, 0)) (mi_k21.2 _ _ (by rfl)) (by rfl) (ksG24 _ _ _ _) (hL2.I.2.1 24) rfl (od5 c22 kod0) (od26 c27 kod6) ?_
                  first | refine fo_goS mi_k21 fz21_134_1_138 [.int ((a2 24).getD ((a2 102).getD l2_2.toNatClampNeg 0).toNatClampNeg 0), .ref 100] (by rfl) ?_ | refine fo_goS mi_k21 fz21_137_1_138 [.int ((a2 24).getD ((a2 102).getD l2_2.toNatClampNeg 0).toNatClampNeg 0), .ref 100] (by rfl) ?_ | refine ft_go mi_k21 1 138 [(2, .int (l2_2 + 1)), (5, .int ((a2 102).getD l2_2.toNatClampNeg 0)), (4, .int ((a2 101).getD l2_2.toNatClampNeg 0)), (3, .int l3_2), (0, .ref 100), (1, .ref 24)] [.int ((a2 24).getD ((a2 102).getD l2_2.toNatClampNeg 0).toNatClampNeg 0), .ref 100] i2 a2 q2 r2 (by rfl) ?_ | refine ko_steps mi_in21 1 _ (138, [(2, .int (l2_2 + 1)), (5, .int ((a2 102).getD l2_2.toNatClampNeg 0)), (4, .int ((a2 101).getD l2_2.toNatClampNeg 0)), (3, .int l3_2), (0, .ref 100), (1, .ref 24)], [.int ((a2 24).getD ((a2 102).getD l2_2.toNatClampNeg 0).toNatClampNeg 0), .ref 100], (0, 0), ks i2 a2 q2 r2) (by rfl) ?_
                  refine ko_callN mi_k21.1 (pc := 138) (ls := [(2, .int (l2_2 + 1)), (5, .int ((a2 102).getD l2_2.toNatClampNeg 0)), (4, .int ((a2 101).getD l2_2.toNatClampNeg 0)), (3, .int l3_2), (0, .ref 100), (1, .ref 24)]) (st := [.int ((a2 24).getD ((a2 102).getD l2_2.toNatClampNeg 0).toNatClampNeg 0), .ref 100]) (h := ks i2 a2 q2 r2) (i := (.invokevirtual 32, 3, 19, 0, 9, 0, 225)) (mi_k21.2 _ _ (by rfl)) (ft_invS mi_pq19 (by rfl)) (cy := mi_c19) mi_pq19 rfl (ke19_100 hL2.I hL2.R ((a2 24).getD ((a2 102).getD l2_2.toNatClampNeg 0).toNatClampNeg 0)) (by decide) ?_
                  intro ig28 ag28 qg28 rg28 kg28 hg28
                  have hGg28 := kG_call hL2 kg28 (by decide +kernel)
                  obtain ⟨hg28, og28⟩ := hg28
                  have fi2_6405 : ((0 : Int) ≤ (i2 6405).toInt) ∧ ((i2 6405).toInt ≤ 121) := hL2.I.1 6405
                  have fig28_6405 : ((0 : Int) ≤ (ig28 6405).toInt) ∧ ((ig28 6405).toInt ≤ 121) := hGg28.I.1 6405
                  have z29 : (((i2 6405).toInt ≤ 120) ∧ ((ig28 6405).toInt = ((i2 6405).toInt + 1))) ∨ (((121 : Int) ≤ (i2 6405).toInt) ∧ ((ig28 6405).toInt = (i2 6405).toInt)) := hg28
                  have s30 : (l3_2 + 1).toInt = l3_2.toInt + (1 : Int32).toInt := kd_add (od13 p2_0 kod1) (od19 c5 kod121 kod1)
                  first | refine fo_goL mi_k21 fz21_6_3_9 [(3, .int (l3_2 + 1)), (2, .int (l2_2 + 1)), (5, .int ((a2 102).getD l2_2.toNatClampNeg 0)), (4, .int ((a2 101).getD l2_2.toNatClampNeg 0)), (0, .ref 100), (1, .ref 24)] [] (by rfl) ?_ | refine fo_goL mi_k21 fz21_114_3_9 [(3, .int (l3_2 + 1)), (2, .int (l2_2 + 1)), (5, .int ((a2 102).getD l2_2.toNatClampNeg 0)), (4, .int ((a2 101).getD l2_2.toNatClampNeg 0)), (0, .ref 100), (1, .ref 24)] [] (by rfl) ?_ | refine fo_goL mi_k21 fz21_141_3_9 [(3, .int (l3_2 + 1)), (2, .int (l2_2 + 1)), (5, .int ((a2 102).getD l2_2.toNatClampNeg 0)), (4, .int ((a2 101).getD l2_2.toNatClampNeg 0)), (0, .ref 100), (1, .ref 24)] [] (by rfl) ?_ | refine fo_goL mi_k21 fz21_153_3_9 [(3, .int (l3_2 + 1)), (2, .int (l2_2 + 1)), (5, .int ((a2 102).getD l2_2.toNatClampNeg 0)), (4, .int ((a2 101).getD l2_2.toNatClampNeg 0)), (0, .ref 100), (1, .ref 24)] [] (by rfl) ?_ | refine fo_goL mi_k21 fz21_159_3_9 [(3, .int (l3_2 + 1)), (2, .int (l2_2 + 1)), (5, .int ((a2 102).getD l2_2.toNatClampNeg 0)), (4, .int ((a2 101).getD l2_2.toNatClampNeg 0)), (0, .ref 100), (1, .ref 24)] [] (by rfl) ?_ | refine fo_goL mi_k21 fz21_178_3_9 [(3, .int (l3_2 + 1)), (2, .int (l2_2 + 1)), (5, .int ((a2 102).getD l2_2.toNatClampNeg 0)), (4, .int ((a2 101).getD l2_2.toNatClampNeg 0)), (0, .ref 100), (1, .ref 24)] [] (by rfl) ?_ | refine fo_goL mi_k21 fz21_190_3_9 [(3, .int (l3_2 + 1)), (2, .int (l2_2 + 1)), (5, .int ((a2 102).getD l2_2.toNatClampNeg 0)), (4, .int ((a2 101).getD l2_2.toNatClampNeg 0)), (0, .ref 100), (1, .ref 24)] [] (by rfl) ?_ | refine ft_goL mi_k21 3 9 [(3, .int (l3_2 + 1)), (2, .int (l2_2 + 1)), (5, .int ((a2 102).getD l2_2.toNatClampNeg 0)), (4, .int ((a2 101).getD l2_2.toNatClampNeg 0)), (0, .ref 100), (1, .ref 24)] [] (by rfl) ?_ | refine ft_go mi_k21 3 9 [(3, .int (l3_2 + 1)), (2, .int (l2_2 + 1)), (5, .int ((a2 102).getD l2_2.toNatClampNeg 0)), (4, .int ((a2 101).getD l2_2.toNatClampNeg 0)), (0, .ref 100), (1, .ref 24)] [] ig28 ag28 qg28 rg28 (by rfl) ?_ | refine ko_steps mi_in21 3 _ (9, [(3, .int (l3_2 + 1)), (2, .int (l2_2 + 1)), (5, .int ((a2 102).getD l2_2.toNatClampNeg 0)), (4, .int ((a2 101).getD l2_2.toNatClampNeg 0)), (0, .ref 100), (1, .ref 24)], [], (0, 0), ks ig28 ag28 qg28 rg28) (by rfl) ?_
                  refine ko_perm [(3, .int (l3_2 + 1)), (2, .int (l2_2 + 1)), (0, .ref 100), (1, .ref 24)] (List.forall_mem_cons.mpr ⟨(List.Mem.head _), (List.forall_mem_cons.mpr ⟨(List.Mem.tail _ (List.Mem.head _)), (List.forall_mem_cons.mpr ⟨(List.Mem.tail _ (List.Mem.tail _ (List.Mem.tail _ (List.Mem.tail _ (List.Mem.head _))))), (List.forall_mem_cons.mpr ⟨(List.Mem.tail _ (List.Mem.tail _ (List.Mem.tail _ (List.Mem.tail _ (List.Mem.tail _ (List.Mem.head _)))))), (fun _ h => absurd h List.not_mem_nil)⟩)⟩)⟩)⟩) ?_
                  exact ih2 _ _ _ _ _ _ hGg28 (od15 p2_0 s30 kod1) (lRun_name O2_0 (kj_left (od12 c5 kod121) (od21 s30 kod1)) ⟨(od5 c8 kod0), (od20 c11 efi2_6403)⟩ (kL_cast (hL2.fa 101 rfl) (od25 w17)) (by have k0_ : (0 : Int32).toInt = 0 := (by decide); have k6_ : (6 : Int32).toInt = 6 := (by decide); rw [← ((hL2.fa 102 rfl) : a2 102 = a 102), ← ((hL2.fa 24 rfl) : a2 24 = a 24)]; split <;> first | rfl | (exfalso; omega)) og28) (kj_meas (od23 s30 kod1) (od24 c5 kod121) hm2)
            by_cases w31 : ((a2 101).getD l2_2.toNatClampNeg 0).toInt = 2
            ·
              refine ft_swx mi_k21 (pc := 48) (v := 2) (t := 144) (kj_eq w31 (by decide) : ((a2 101).getD l2_2.toNatClampNeg 0) = 2) (by decide +kernel) ?_
              have hG32 := kG_call hJ1 hL2 (by decide +kernel)
              first | refine fo_goS mi_k21 fz21_144_1_145 [.ref 100] (by rfl) ?_ | refine ft_go mi_k21 1 145 [(2, .int (l2_2 + 1)), (5, .int ((a2 102).getD l2_2.toNatClampNeg 0)), (4, .int ((a2 101).getD l2_2.toNatClampNeg 0)), (3, .int l3_2), (0, .ref 100), (1, .ref 24)] [.ref 100] i2 a2 q2 r2 (by rfl) ?_ | refine ko_steps mi_in21 1 _ (145, [(2, .int (l2_2 + 1)), (5, .int ((a2 102).getD l2_2.toNatClampNeg 0)), (4, .int ((a2 101).getD l2_2.toNatClampNeg 0)), (3, .int l3_2), (0, .ref 100), (1, .ref 24)], [.ref 100], (0, 0), ks i2 a2 q2 r2) (by rfl) ?_
              refine ko_callI mi_k21.1 (pc := 145) (ls := [(2, .int (l2_2 + 1)), (5, .int ((a2 102).getD l2_2.toNatClampNeg 0)), (4, .int ((a2 101).getD l2_2.toNatClampNeg 0)), (3, .int l3_2), (0, .ref 100), (1, .ref 24)]) (st := [.ref 100]) (h := ks i2 a2 q2 r2) (i := (.invokevirtual 36, 3, 20, 0, 9, 0, 226)) (mi_k21.2 _ _ (by rfl)) (ft_invS mi_pq20 (by rfl)) (cy := mi_c20) mi_pq20 rfl (ke20_100 hG32.I hG32.R ) (by decide) ?_
              intro vg33 ig33 ag33 qg33 rg33 kg33 hg33
              have hGg33 := kG_call hG32 kg33 (by decide +kernel)
              obtain ⟨hg33, og33⟩ := hg33
              exact ft_ret mi_k21 (by rfl) (hP vg33 _ _ _ _ hGg33 ⟨trivial, (show vg33 = lRun (a 101) (a 102) (a 24) (i 6403) 121 0 (a 103, 0) from (lRun_ans (n := (120 - l3_2.toInt).toNat) O2_0 (kj_left2 (od12 c5 kod121)) ⟨(od5 c8 kod0), (od20 c11 efi2_6403)⟩ (kL_cast (hL2.fa 101 rfl) (od36 w31)) og33))⟩)
            by_cases w35 : ((a2 101).getD l2_2.toNatClampNeg 0).toInt = 3
            ·
              refine ft_swx mi_k21 (pc := 48) (v := 3) (t := 149) (kj_eq w35 (by decide) : ((a2 101).getD l2_2.toNatClampNeg 0) = 3) (by decide +kernel) ?_
              first | refine fo_goS mi_k21 fz21_149_1_150 [.ref 100] (by rfl) ?_ | refine ft_go mi_k21 1 150 [(2, .int (l2_2 + 1)), (5, .int ((a2 102).getD l2_2.toNatClampNeg 0)), (4, .int ((a2 101).getD l2_2.toNatClampNeg 0)), (3, .int l3_2), (0, .ref 100), (1, .ref 24)] [.ref 100] i2 a2 q2 r2 (by rfl) ?_ | refine ko_steps mi_in21 1 _ (150, [(2, .int (l2_2 + 1)), (5, .int ((a2 102).getD l2_2.toNatClampNeg 0)), (4, .int ((a2 101).getD l2_2.toNatClampNeg 0)), (3, .int l3_2), (0, .ref 100), (1, .ref 24)], [.ref 100], (0, 0), ks i2 a2 q2 r2) (by rfl) ?_
              refine ko_callI mi_k21.1 (pc := 150) (ls := [(2, .int (l2_2 + 1)), (5, .int ((a2 102).getD l2_2.toNatClampNeg 0)), (4, .int ((a2 101).getD l2_2.toNatClampNeg 0)), (3, .int l3_2), (0, .ref 100), (1, .ref 24)]) (st := [.ref 100]) (h := ks i2 a2 q2 r2) (i := (.invokevirtual 36, 3, 20, 0, 9, 0, 226)) (mi_k21.2 _ _ (by rfl)) (ft_invS mi_pq20 (by rfl)) (cy := mi_c20) mi_pq20 rfl (ke20_100 hL2.I hL2.R ) (by decide) ?_
              intro vg36 ig36 ag36 qg36 rg36 kg36 hg36
              have hGg36 := kG_call hL2 kg36 (by decide +kernel)
              obtain ⟨hg36, og36⟩ := hg36
              have fi2_6405 : ((0 : Int) ≤ (i2 6405).toInt) ∧ ((i2 6405).toInt ≤ 121) := hL2.I.1 6405
              have fig36_6405 : ((0 : Int) ≤ (ig36 6405).toInt) ∧ ((ig36 6405).toInt ≤ 121) := hGg36.I.1 6405
              have z37 : (((1 : Int) ≤ (i2 6405).toInt) ∧ ((ig36 6405).toInt = ((i2 6405).toInt - 1))) ∨ (((i2 6405).toInt ≤ 0) ∧ ((ig36 6405).toInt = (i2 6405).toInt)) := hg36
              refine ft_ifS mi_k21 (vg36 != 0) 214 156 [] (by rfl) (fun c => ?_) (fun c => ?_)
              ·
                have c38 : vg36.toInt ≠ (0 : Int32).toInt := kd_ne c; clear c
                have s39 : (l3_2 + 1).toInt = l3_2.toInt + (1 : Int32).toInt := kd_add (od13 p2_0 kod1) (od19 c5 kod121 kod1)
                first | refine fo_goL mi_k21 fz21_7_2_9 [(3, .int (l3_2 + 1)), (2, .int (l2_2 + 1)), (5, .int ((a2 102).getD l2_2.toNatClampNeg 0)), (4, .int ((a2 101).getD l2_2.toNatClampNeg 0)), (0, .ref 100), (1, .ref 24)] [] (by rfl) ?_ | refine fo_goL mi_k21 fz21_214_2_9 [(3, .int (l3_2 + 1)), (2, .int (l2_2 + 1)), (5, .int ((a2 102).getD l2_2.toNatClampNeg 0)), (4, .int ((a2 101).getD l2_2.toNatClampNeg 0)), (0, .ref 100), (1, .ref 24)] [] (by rfl) ?_ | refine ft_go mi_k21 2 9 [(3, .int (l3_2 + 1)), (2, .int (l2_2 + 1)), (5, .int ((a2 102).getD l2_2.toNatClampNeg 0)), (4, .int ((a2 101).getD l2_2.toNatClampNeg 0)), (0, .ref 100), (1, .ref 24)] [] ig36 ag36 qg36 rg36 (by rfl) ?_ | refine ko_steps mi_in21 2 _ (9, [(3, .int (l3_2 + 1)), (2, .int (l2_2 + 1)), (5, .int ((a2 102).getD l2_2.toNatClampNeg 0)), (4, .int ((a2 101).getD l2_2.toNatClampNeg 0)), (0, .ref 100), (1, .ref 24)], [], (0, 0), ks ig36 ag36 qg36 rg36) (by rfl) ?_
                refine ko_perm [(3, .int (l3_2 + 1)), (2, .int (l2_2 + 1)), (0, .ref 100), (1, .ref 24)] (List.forall_mem_cons.mpr ⟨(List.Mem.head _), (List.forall_mem_cons.mpr ⟨(List.Mem.tail _ (List.Mem.head _)), (List.forall_mem_cons.mpr ⟨(List.Mem.tail _ (List.Mem.tail _ (List.Mem.tail _ (List.Mem.tail _ (List.Mem.head _))))), (List.forall_mem_cons.mpr ⟨(List.Mem.tail _ (List.Mem.tail _ (List.Mem.tail _ (List.Mem.tail _ (List.Mem.tail _ (List.Mem.head _)))))), (fun _ h => absurd h List.not_mem_nil)⟩)⟩)⟩)⟩) ?_
                exact ih2 _ _ _ _ _ _ hGg36 (od15 p2_0 s39 kod1) (lRun_skip O2_0 (kj_left (od12 c5 kod121) (od21 s39 kod1)) ⟨(od5 c8 kod0), (od20 c11 efi2_6403)⟩ (kL_cast (hL2.fa 101 rfl) (od37 w35)) og36 (by have k0_ : (0 : Int32).toInt = 0 := (by decide); have k6_ : (6 : Int32).toInt = 6 := (by decide); rw [← ((hL2.fa 102 rfl) : a2 102 = a 102)]; split <;> first | rfl | (exfalso; omega))) (kj_meas (od23 s39 kod1) (od24 c5 kod121) hm2)
              ·
                have c40 : vg36.toInt = (0 : Int32).toInt := kd_neF c; clear c
                have s41 : (l3_2 + 1).toInt = l3_2.toInt + (1 : Int32).toInt := kd_add (od13 p2_0 kod1) (od19 c5 kod121 kod1)
                first | refine fo_go mi_k21 fz21_2_5_9 [(3, .int (l3_2 + 1)), (2, .int ((a2 102).getD l2_2.toNatClampNeg 0)), (5, .int ((a2 102).getD l2_2.toNatClampNeg 0)), (4, .int ((a2 101).getD l2_2.toNatClampNeg 0)), (0, .ref 100), (1, .ref 24)] [] ig36 ag36 qg36 rg36 (by rfl) ?_ | refine fo_goL mi_k21 fz21_156_5_9 [(3, .int (l3_2 + 1)), (2, .int ((a2 102).getD l2_2.toNatClampNeg 0)), (5, .int ((a2 102).getD l2_2.toNatClampNeg 0)), (4, .int ((a2 101).getD l2_2.toNatClampNeg 0)), (0, .ref 100), (1, .ref 24)] [] (by rfl) ?_ | refine ft_goL mi_k21 5 9 [(3, .int (l3_2 + 1)), (2, .int ((a2 102).getD l2_2.toNatClampNeg 0)), (5, .int ((a2 102).getD l2_2.toNatClampNeg 0)), (4, .int ((a2 101).getD l2_2.toNatClampNeg 0)), (0, .ref 100), (1, .ref 24)] [] (by rfl) ?_ | refine ft_go mi_k21 5 9 [(3, .int (l3_2 + 1)), (2, .int ((a2 102).getD l2_2.toNatClampNeg 0)), (5, .int ((a2 102).getD l2_2.toNatClampNeg 0)), (4, .int ((a2 101).getD l2_2.toNatClampNeg 0)), (0, .ref 100), (1, .ref 24)] [] ig36 ag36 qg36 rg36 (by rfl) ?_ | refine ko_steps mi_in21 5 _ (9, [(3, .int (l3_2 + 1)), (2, .int ((a2 102).getD l2_2.toNatClampNeg 0)), (5, .int ((a2 102).getD l2_2.toNatClampNeg 0)), (4, .int ((a2 101).getD l2_2.toNatClampNeg 0)), (0, .ref 100), (1, .ref 24)], [], (0, 0), ks ig36 ag36 qg36 rg36) (by rfl) ?_
                refine ko_perm [(3, .int (l3_2 + 1)), (2, .int ((a2 102).getD l2_2.toNatClampNeg 0)), (0, .ref 100), (1, .ref 24)] (List.forall_mem_cons.mpr ⟨(List.Mem.head _), (List.forall_mem_cons.mpr ⟨(List.Mem.tail _ (List.Mem.head _)), (List.forall_mem_cons.mpr ⟨(List.Mem.tail _ (List.Mem.tail _ (List.Mem.tail _ (List.Mem.tail _ (List.Mem.head _))))), (List.forall_mem_cons.mpr ⟨(List.Mem.tail _ (List.Mem.tail _ (List.Mem.tail _ (List.Mem.tail _ (List.Mem.tail _ (List.Mem.head _)))))), (fun _ h => absurd h List.not_mem_nil)⟩)⟩)⟩)⟩) ?_
                exact ih2 _ _ _ _ _ _ hGg36 (od15 p2_0 s41 kod1) (lRun_skip O2_0 (kj_left (od12 c5 kod121) (od21 s41 kod1)) ⟨(od5 c8 kod0), (od20 c11 efi2_6403)⟩ (kL_cast (hL2.fa 101 rfl) (od37 w35)) og36 (by have k0_ : (0 : Int32).toInt = 0 := (by decide); have k6_ : (6 : Int32).toInt = 6 := (by decide); rw [← ((hL2.fa 102 rfl) : a2 102 = a 102)]; split <;> first | rfl | (exfalso; omega))) (kj_meas (od23 s41 kod1) (od24 c5 kod121) hm2)
            by_cases w42 : ((a2 101).getD l2_2.toNatClampNeg 0).toInt = 33
            ·
              refine ft_swx mi_k21 (pc := 48) (v := 33) (t := 162) (kj_eq w42 (by decide) : ((a2 101).getD l2_2.toNatClampNeg 0) = 33) (by decide +kernel) ?_
              first | refine fo_goS mi_k21 fz21_162_2_164 [.ref 100, .ref 100] (by rfl) ?_ | refine ft_go mi_k21 2 164 [(2, .int (l2_2 + 1)), (5, .int ((a2 102).getD l2_2.toNatClampNeg 0)), (4, .int ((a2 101).getD l2_2.toNatClampNeg 0)), (3, .int l3_2), (0, .ref 100), (1, .ref 24)] [.ref 100, .ref 100] i2 a2 q2 r2 (by rfl) ?_ | refine ko_steps mi_in21 2 _ (164, [(2, .int (l2_2 + 1)), (5, .int ((a2 102).getD l2_2.toNatClampNeg 0)), (4, .int ((a2 101).getD l2_2.toNatClampNeg 0)), (3, .int l3_2), (0, .ref 100), (1, .ref 24)], [.ref 100, .ref 100], (0, 0), ks i2 a2 q2 r2) (by rfl) ?_
              refine ko_callI mi_k21.1 (pc := 164) (ls := [(2, .int (l2_2 + 1)), (5, .int ((a2 102).getD l2_2.toNatClampNeg 0)), (4, .int ((a2 101).getD l2_2.toNatClampNeg 0)), (3, .int l3_2), (0, .ref 100), (1, .ref 24)]) (st := [.ref 100, .ref 100]) (h := ks i2 a2 q2 r2) (i := (.invokevirtual 36, 3, 20, 0, 9, 0, 226)) (mi_k21.2 _ _ (by rfl)) (ft_invS mi_pq20 (by rfl)) (cy := mi_c20) mi_pq20 rfl (ke20_100 hL2.I hL2.R ) (by decide) ?_
              intro vg43 ig43 ag43 qg43 rg43 kg43 hg43
              have hGg43 := kG_call hL2 kg43 (by decide +kernel)
              obtain ⟨hg43, og43⟩ := hg43
              have fi2_6405 : ((0 : Int) ≤ (i2 6405).toInt) ∧ ((i2 6405).toInt ≤ 121) := hL2.I.1 6405
              have fig43_6405 : ((0 : Int) ≤ (ig43 6405).toInt) ∧ ((ig43 6405).toInt ≤ 121) := hGg43.I.1 6405
              have z44 : (((1 : Int) ≤ (i2 6405).toInt) ∧ ((ig43 6405).toInt = ((i2 6405).toInt - 1))) ∨ (((i2 6405).toInt ≤ 0) ∧ ((ig43 6405).toInt = (i2 6405).toInt)) := hg43
              refine ft_ifS mi_k21 (vg43 != 0) 174 170 [.ref 100] (by rfl) (fun c => ?_) (fun c => ?_)
              ·
                have c45 : vg43.toInt ≠ (0 : Int32).toInt := kd_ne c; clear c
                first | refine fo_goS mi_k21 fz21_171_1_175 [.int 0, .ref 100] (by rfl) ?_ | refine fo_goS mi_k21 fz21_174_1_175 [.int 0, .ref 100] (by rfl) ?_ | refine ft_go mi_k21 1 175 [(2, .int (l2_2 + 1)), (5, .int ((a2 102).getD l2_2.toNatClampNeg 0)), (4, .int ((a2 101).getD l2_2.toNatClampNeg 0)), (3, .int l3_2), (0, .ref 100), (1, .ref 24)] [.int 0, .ref 100] ig43 ag43 qg43 rg43 (by rfl) ?_ | refine ko_steps mi_in21 1 _ (175, [(2, .int (l2_2 + 1)), (5, .int ((a2 102).getD l2_2.toNatClampNeg 0)), (4, .int ((a2 101).getD l2_2.toNatClampNeg 0)), (3, .int l3_2), (0, .ref 100), (1, .ref 24)], [.int 0, .ref 100], (0, 0), ks ig43 ag43 qg43 rg43) (by rfl) ?_
                refine ko_callN mi_k21.1 (pc := 175) (ls := [(2, .int (l2_2 + 1)), (5, .int ((a2 102).getD l2_2.toNatClampNeg 0)), (4, .int ((a2 101).getD l2_2.toNatClampNeg 0)), (3, .int l3_2), (0, .ref 100), (1, .ref 24)]) (st := [.int 0, .ref 100]) (h := ks ig43 ag43 qg43 rg43) (i := (.invokevirtual 32, 3, 19, 0, 9, 0, 225)) (mi_k21.2 _ _ (by rfl)) (ft_invS mi_pq19 (by rfl)) (cy := mi_c19) mi_pq19 rfl (ke19_100 hGg43.I hGg43.R 0) (by decide) ?_
                intro ig46 ag46 qg46 rg46 kg46 hg46
                have hGg46 := kG_call hGg43 kg46 (by decide +kernel)
                obtain ⟨hg46, og46⟩ := hg46
                have fig46_6405 : ((0 : Int) ≤ (ig46 6405).toInt) ∧ ((ig46 6405).toInt ≤ 121) := hGg46.I.1 6405
                have z47 : (((ig43 6405).toInt ≤ 120) ∧ ((ig46 6405).toInt = ((ig43 6405).toInt + 1))) ∨ (((121 : Int) ≤ (ig43 6405).toInt) ∧ ((ig46 6405).toInt = (ig43 6405).toInt)) := hg46
                have s48 : (l3_2 + 1).toInt = l3_2.toInt + (1 : Int32).toInt := kd_add (od13 p2_0 kod1) (od19 c5 kod121 kod1)
                first | refine fo_goL mi_k21 fz21_6_3_9 [(3, .int (l3_2 + 1)), (2, .int (l2_2 + 1)), (5, .int ((a2 102).getD l2_2.toNatClampNeg 0)), (4, .int ((a2 101).getD l2_2.toNatClampNeg 0)), (0, .ref 100), (1, .ref 24)] [] (by rfl) ?_ | refine fo_goL mi_k21 fz21_114_3_9 [(3, .int (l3_2 + 1)), (2, .int (l2_2 + 1)), (5, .int ((a2 102).getD l2_2.toNatClampNeg 0)), (4, .int ((a2 101).getD l2_2.toNatClampNeg 0)), (0, .ref 100), (1, .ref 24)] [] (by rfl) ?_ | refine fo_goL mi_k21 fz21_141_3_9 [(3, .int (l3_2 + 1)), (2, .int (l2_2 + 1)), (5, .int ((a2 102).getD l2_2.toNatClampNeg 0)), (4, .int ((a2 101).getD l2_2.toNatClampNeg 0)), (0, .ref 100), (1, .ref 24)] [] (by rfl) ?_ | refine fo_goL mi_k21 fz21_153_3_9 [(3, .int (l3_2 + 1)), (2, .int (l2_2 + 1)), (5, .int ((a2 102).getD l2_2.toNatClampNeg 0)), (4, .int ((a2 101).getD l2_2.toNatClampNeg 0)), (0, .ref 100), (1, .ref 24)] [] (by rfl) ?_ | refine fo_goL mi_k21 fz21_159_3_9 [(3, .int (l3_2 + 1)), (2, .int (l2_2 + 1)), (5, .int ((a2 102).getD l2_2.toNatClampNeg 0)), (4, .int ((a2 101).getD l2_2.toNatClampNeg 0)), (0, .ref 100), (1, .ref 24)] [] (by rfl) ?_ | refine fo_goL mi_k21 fz21_178_3_9 [(3, .int (l3_2 + 1)), (2, .int (l2_2 + 1)), (5, .int ((a2 102).getD l2_2.toNatClampNeg 0)), (4, .int ((a2 101).getD l2_2.toNatClampNeg 0)), (0, .ref 100), (1, .ref 24)] [] (by rfl) ?_ | refine fo_goL mi_k21 fz21_190_3_9 [(3, .int (l3_2 + 1)), (2, .int (l2_2 + 1)), (5, .int ((a2 102).getD l2_2.toNatClampNeg 0)), (4, .int ((a2 101).getD l2_2.toNatClampNeg 0)), (0, .ref 100), (1, .ref 24)] [] (by rfl) ?_ | refine ft_goL mi_k21 3 9 [(3, .int (l3_2 + 1)), (2, .int (l2_2 + 1)), (5, .int ((a2 102).getD l2_2.toNatClampNeg 0)), (4, .int ((a2 101).getD l2_2.toNatClampNeg 0)), (0, .ref 100), (1, .ref 24)] [] (by rfl) ?_ | refine ft_go mi_k21 3 9 [(3, .int (l3_2 + 1)), (2, .int (l2_2 + 1)), (5, .int ((a2 102).getD l2_2.toNatClampNeg 0)), (4, .int ((a2 101).getD l2_2.toNatClampNeg 0)), (0, .ref 100), (1, .ref 24)] [] ig46 ag46 qg46 rg46 (by rfl) ?_ | refine ko_steps mi_in21 3 _ (9, [(3, .int (l3_2 + 1)), (2, .int (l2_2 + 1)), (5, .int ((a2 102).getD l2_2.toNatClampNeg 0)), (4, .int ((a2 101).getD l2_2.toNatClampNeg 0)), (0, .ref 100), (1, .ref 24)], [], (0, 0), ks ig46 ag46 qg46 rg46) (by rfl) ?_
                refine ko_perm [(3, .int (l3_2 + 1)), (2, .int (l2_2 + 1)), (0, .ref 100), (1, .ref 24)] (List.forall_mem_cons.mpr ⟨(List.Mem.head _), (List.forall_mem_cons.mpr ⟨(List.Mem.tail _ (List.Mem.head _)), (List.forall_mem_cons.mpr ⟨(List.Mem.tail _ (List.Mem.tail _ (List.Mem.tail _ (List.Mem.tail _ (List.Mem.head _))))), (List.forall_mem_cons.mpr ⟨(List.Mem.tail _ (List.Mem.tail _ (List.Mem.tail _ (List.Mem.tail _ (List.Mem.tail _ (List.Mem.head _)))))), (fun _ h => absurd h List.not_mem_nil)⟩)⟩)⟩)⟩) ?_
                exact ih2 _ _ _ _ _ _ hGg46 (od15 p2_0 s48 kod1) (lRun_not O2_0 (kj_left (od12 c5 kod121) (od21 s48 kod1)) ⟨(od5 c8 kod0), (od20 c11 efi2_6403)⟩ (kL_cast (hL2.fa 101 rfl) (od38 w42)) og43 (by have k0_ : (0 : Int32).toInt = 0 := (by decide); have k6_ : (6 : Int32).toInt = 6 := (by decide); split <;> first | rfl | (exfalso; omega)) og46) (kj_meas (od23 s48 kod1) (od24 c5 kod121) hm2)
              ·
                have c49 : vg43.toInt = (0 : Int32).toInt := kd_neF c; clear c
                first | refine fo_goS mi_k21 fz21_170_2_175 [.int 1, .ref 100] (by rfl) ?_ | refine fo_goS mi_k21 fz21_167_2_175 [.int 1, .ref 100] (by rfl) ?_ | refine ft_go mi_k21 2 175 [(2, .int (l2_2 + 1)), (5, .int ((a2 102).getD l2_2.toNatClampNeg 0)), (4, .int ((a2 101).getD l2_2.toNatClampNeg 0)), (3, .int l3_2), (0, .ref 100), (1, .ref 24)] [.int 1, .ref 100] ig43 ag43 qg43 rg43 (by rfl) ?_ | refine ko_steps mi_in21 2 _ (175, [(2, .int (l2_2 + 1)), (5, .int ((a2 102).getD l2_2.toNatClampNeg 0)), (4, .int ((a2 101).getD l2_2.toNatClampNeg 0)), (3, .int l3_2), (0, .ref 100), (1, .ref 24)], [.int 1, .ref 100], (0, 0), ks ig43 ag43 qg43 rg43) (by rfl) ?_
                refine ko_callN mi_k21.1 (pc := 175) (ls := [(2, .int (l2_2 + 1)), (5, .int ((a2 102).getD l2_2.toNatClampNeg 0)), (4, .int ((a2 101).getD l2_2.toNatClampNeg 0)), (3, .int l3_2), (0, .ref 100), (1, .ref 24)]) (st := [.int 1, .ref 100]) (h := ks ig43 ag43 qg43 rg43) (i := (.invokevirtual 32, 3, 19, 0, 9, 0, 225)) (mi_k21.2 _ _ (by rfl)) (ft_invS mi_pq19 (by rfl)) (cy := mi_c19) mi_pq19 rfl (ke19_100 hGg43.I hGg43.R 1) (by decide) ?_
                intro ig50 ag50 qg50 rg50 kg50 hg50
                have hGg50 := kG_call hGg43 kg50 (by decide +kernel)
                obtain ⟨hg50, og50⟩ := hg50
                have fig50_6405 : ((0 : Int) ≤ (ig50 6405).toInt) ∧ ((ig50 6405).toInt ≤ 121) := hGg50.I.1 6405
                have z51 : (((ig43 6405).toInt ≤ 120) ∧ ((ig50 6405).toInt = ((ig43 6405).toInt + 1))) ∨ (((121 : Int) ≤ (ig43 6405).toInt) ∧ ((ig50 6405).toInt = (ig43 6405).toInt)) := hg50
                have s52 : (l3_2 + 1).toInt = l3_2.toInt + (1 : Int32).toInt := kd_add (od13 p2_0 kod1) (od19 c5 kod121 kod1)
                first | refine fo_goL mi_k21 fz21_6_3_9 [(3, .int (l3_2 + 1)), (2, .int (l2_2 + 1)), (5, .int ((a2 102).getD l2_2.toNatClampNeg 0)), (4, .int ((a2 101).getD l2_2.toNatClampNeg 0)), (0, .ref 100), (1, .ref 24)] [] (by rfl) ?_ | refine fo_goL mi_k21 fz21_114_3_9 [(3, .int (l3_2 + 1)), (2, .int (l2_2 + 1)), (5, .int ((a2 102).getD l2_2.toNatClampNeg 0)), (4, .int ((a2 101).getD l2_2.toNatClampNeg 0)), (0, .ref 100), (1, .ref 24)] [] (by rfl) ?_ | refine fo_goL mi_k21 fz21_141_3_9 [(3, .int (l3_2 + 1)), (2, .int (l2_2 + 1)), (5, .int ((a2 102).getD l2_2.toNatClampNeg 0)), (4, .int ((a2 101).getD l2_2.toNatClampNeg 0)), (0, .ref 100), (1, .ref 24)] [] (by rfl) ?_ | refine fo_goL mi_k21 fz21_153_3_9 [(3, .int (l3_2 + 1)), (2, .int (l2_2 + 1)), (5, .int ((a2 102).getD l2_2.toNatClampNeg 0)), (4, .int ((a2 101).getD l2_2.toNatClampNeg 0)), (0, .ref 100), (1, .ref 24)] [] (by rfl) ?_ | refine fo_goL mi_k21 fz21_159_3_9 [(3, .int (l3_2 + 1)), (2, .int (l2_2 + 1)), (5, .int ((a2 102).getD l2_2.toNatClampNeg 0)), (4, .int ((a2 101).getD l2_2.toNatClampNeg 0)), (0, .ref 100), (1, .ref 24)] [] (by rfl) ?_ | refine fo_goL mi_k21 fz21_178_3_9 [(3, .int (l3_2 + 1)), (2, .int (l2_2 + 1)), (5, .int ((a2 102).getD l2_2.toNatClampNeg 0)), (4, .int ((a2 101).getD l2_2.toNatClampNeg 0)), (0, .ref 100), (1, .ref 24)] [] (by rfl) ?_ | refine fo_goL mi_k21 fz21_190_3_9 [(3, .int (l3_2 + 1)), (2, .int (l2_2 + 1)), (5, .int ((a2 102).getD l2_2.toNatClampNeg 0)), (4, .int ((a2 101).getD l2_2.toNatClampNeg 0)), (0, .ref 100), (1, .ref 24)] [] (by rfl) ?_ | refine ft_goL mi_k21 3 9 [(3, .int (l3_2 + 1)), (2, .int (l2_2 + 1)), (5, .int ((a2 102).getD l2_2.toNatClampNeg 0)), (4, .int ((a2 101).getD l2_2.toNatClampNeg 0)), (0, .ref 100), (1, .ref 24)] [] (by rfl) ?_ | refine ft_go mi_k21 3 9 [(3, .int (l3_2 + 1)), (2, .int (l2_2 + 1)), (5, .int ((a2 102).getD l2_2.toNatClampNeg 0)), (4, .int ((a2 101).getD l2_2.toNatClampNeg 0)), (0, .ref 100), (1, .ref 24)] [] ig50 ag50 qg50 rg50 (by rfl) ?_ | refine ko_steps mi_in21 3 _ (9, [(3, .int (l3_2 + 1)), (2, .int (l2_2 + 1)), (5, .int ((a2 102).getD l2_2.toNatClampNeg 0)), (4, .int ((a2 101).getD l2_2.toNatClampNeg 0)), (0, .ref 100), (1, .ref 24)], [], (0, 0), ks ig50 ag50 qg50 rg50) (by rfl) ?_
                refine ko_perm [(3, .int (l3_2 + 1)), (2, .int (l2_2 + 1)), (0, .ref 100), (1, .ref 24)] (List.forall_mem_cons.mpr ⟨(List.Mem.head _), (List.forall_mem_cons.mpr ⟨(List.Mem.tail _ (List.Mem.head _)), (List.forall_mem_cons.mpr ⟨(List.Mem.tail _ (List.Mem.tail _ (List.Mem.tail _ (List.Mem.tail _ (List.Mem.head _))))), (List.forall_mem_cons.mpr ⟨(List.Mem.tail _ (List.Mem.tail _ (List.Mem.tail _ (List.Mem.tail _ (List.Mem.tail _ (List.Mem.head _)))))), (fun _ h => absurd h List.not_mem_nil)⟩)⟩)⟩)⟩) ?_
                exact ih2 _ _ _ _ _ _ hGg50 (od15 p2_0 s52 kod1) (lRun_not O2_0 (kj_left (od12 c5 kod121) (od21 s52 kod1)) ⟨(od5 c8 kod0), (od20 c11 efi2_6403)⟩ (kL_cast (hL2.fa 101 rfl) (od38 w42)) og43 (by have k0_ : (0 : Int32).toInt = 0 := (by decide); have k6_ : (6 : Int32).toInt = 6 := (by decide); split <;> first | rfl | (exfalso; omega)) og50) (kj_meas (od23 s52 kod1) (od24 c5 kod121) hm2)
            by_cases w53 : ((a2 101).getD l2_2.toNatClampNeg 0).toInt = 126
            ·
              refine ft_swx mi_k21 (pc := 48) (v := 126) (t := 181) (kj_eq w53 (by decide) : ((a2 101).getD l2_2.toNatClampNeg 0) = 126) (by decide +kernel) ?_
              first | refine fo_goS mi_k21 fz21_181_2_183 [.ref 100, .ref 100] (by rfl) ?_ | refine ft_go mi_k21 2 183 [(2, .int (l2_2 + 1)), (5, .int ((a2 102).getD l2_2.toNatClampNeg 0)), (4, .int ((a2 101).getD l2_2.toNatClampNeg 0)), (3, .int l3_2), (0, .ref 100), (1, .ref 24)] [.ref 100, .ref 100] i2 a2 q2 r2 (by rfl) ?_ | refine ko_steps mi_in21 2 _ (183, [(2, .int (l2_2 + 1)), (5, .int ((a2 102).getD l2_2.toNatClampNeg 0)), (4, .int ((a2 101).getD l2_2.toNatClampNeg 0)), (3, .int l3_2), (0, .ref 100), (1, .ref 24)], [.ref 100, .ref 100], (0, 0), ks i2 a2 q2 r2) (by rfl) ?_
              refine ko_callI mi_k21.1 (pc := 183) (ls := [(2, .int (l2_2 + 1)), (5, .int ((a2 102).getD l2_2.toNatClampNeg 0)), (4, .int ((a2 101).getD l2_2.toNatClampNeg 0)), (3, .int l3_2), (0, .ref 100), (1, .ref 24)]) (st := [.ref 100, .ref 100]) (h := ks i2 a2 q2 r2) (i := (.invokevirtual 36, 3, 20, 0, 9, 0, 226)) (mi_k21.2 _ _ (by rfl)) (ft_invS mi_pq20 (by rfl)) (cy := mi_c20) mi_pq20 rfl (ke20_100 hL2.I hL2.R ) (by decide) ?_
              intro vg54 ig54 ag54 qg54 rg54 kg54 hg54
              have hGg54 := kG_call hL2 kg54 (by decide +kernel)
              obtain ⟨hg54, og54⟩ := hg54
              first | refine fo_goS mi_k21 fz21_186_1_187 [.int (-vg54), .ref 100] (by rfl) ?_ | refine ft_go mi_k21 1 187 [(2, .int (l2_2 + 1)), (5, .int ((a2 102).getD l2_2.toNatClampNeg 0)), (4, .int ((a2 101).getD l2_2.toNatClampNeg 0)), (3, .int l3_2), (0, .ref 100), (1, .ref 24)] [.int (-vg54), .ref 100] ig54 ag54 qg54 rg54 (by rfl) ?_ | refine ko_steps mi_in21 1 _ (187, [(2, .int (l2_2 + 1)), (5, .int ((a2 102).getD l2_2.toNatClampNeg 0)), (4, .int ((a2 101).getD l2_2.toNatClampNeg 0)), (3, .int l3_2), (0, .ref 100), (1, .ref 24)], [.int (-vg54), .ref 100], (0, 0), ks ig54 ag54 qg54 rg54) (by rfl) ?_
              refine ko_callN mi_k21.1 (pc := 187) (ls := [(2, .int (l2_2 + 1)), (5, .int ((a2 102).getD l2_2.toNatClampNeg 0)), (4, .int ((a2 101).getD l2_2.toNatClampNeg 0)), (3, .int l3_2), (0, .ref 100), (1, .ref 24)]) (st := [.int (-vg54), .ref 100]) (h := ks ig54 ag54 qg54 rg54) (i := (.invokevirtual 32, 3, 19, 0, 9, 0, 225)) (mi_k21.2 _ _ (by rfl)) (ft_invS mi_pq19 (by rfl)) (cy := mi_c19) mi_pq19 rfl (ke19_100 hGg54.I hGg54.R (-vg54)) (by decide) ?_
              intro ig56 ag56 qg56 rg56 kg56 hg56
              have hGg56 := kG_call hGg54 kg56 (by decide +kernel)
              obtain ⟨hg56, og56⟩ := hg56
              have s58 : (l3_2 + 1).toInt = l3_2.toInt + (1 : Int32).toInt := kd_add (od13 p2_0 kod1) (od19 c5 kod121 kod1)
              first | refine fo_goL mi_k21 fz21_6_3_9 [(3, .int (l3_2 + 1)), (2, .int (l2_2 + 1)), (5, .int ((a2 102).getD l2_2.toNatClampNeg 0)), (4, .int ((a2 101).getD l2_2.toNatClampNeg 0)), (0, .ref 100), (1, .ref 24)] [] (by rfl) ?_ | refine fo_goL mi_k21 fz21_114_3_9 [(3, .int (l3_2 + 1)), (2, .int (l2_2 + 1)), (5, .int ((a2 102).getD l2_2.toNatClampNeg 0)), (4, .int ((a2 101).getD l2_2.toNatClampNeg 0)), (0, .ref 100), (1, .ref 24)] [] (by rfl) ?_ | refine fo_goL mi_k21 fz21_141_3_9 [(3, .int (l3_2 + 1)), (2, .int (l2_2 + 1)), (5, .int ((a2 102).getD l2_2.toNatClampNeg 0)), (4, .int ((a2 101).getD l2_2.toNatClampNeg 0)), (0, .ref 100), (1, .ref 24)] [] (by rfl) ?_ | refine fo_goL mi_k21 fz21_153_3_9 [(3, .int (l3_2 + 1)), (2, .int (l2_2 + 1)), (5, .int ((a2 102).getD l2_2.toNatClampNeg 0)), (4, .int ((a2 101).getD l2_2.toNatClampNeg 0)), (0, .ref 100), (1, .ref 24)] [] (by rfl) ?_ | refine fo_goL mi_k21 fz21_159_3_9 [(3, .int (l3_2 + 1)), (2, .int (l2_2 + 1)), (5, .int ((a2 102).getD l2_2.toNatClampNeg 0)), (4, .int ((a2 101).getD l2_2.toNatClampNeg 0)), (0, .ref 100), (1, .ref 24)] [] (by rfl) ?_ | refine fo_goL mi_k21 fz21_178_3_9 [(3, .int (l3_2 + 1)), (2, .int (l2_2 + 1)), (5, .int ((a2 102).getD l2_2.toNatClampNeg 0)), (4, .int ((a2 101).getD l2_2.toNatClampNeg 0)), (0, .ref 100), (1, .ref 24)] [] (by rfl) ?_ | refine fo_goL mi_k21 fz21_190_3_9 [(3, .int (l3_2 + 1)), (2, .int (l2_2 + 1)), (5, .int ((a2 102).getD l2_2.toNatClampNeg 0)), (4, .int ((a2 101).getD l2_2.toNatClampNeg 0)), (0, .ref 100), (1, .ref 24)] [] (by rfl) ?_ | refine ft_goL mi_k21 3 9 [(3, .int (l3_2 + 1)), (2, .int (l2_2 + 1)), (5, .int ((a2 102).getD l2_2.toNatClampNeg 0)), (4, .int ((a2 101).getD l2_2.toNatClampNeg 0)), (0, .ref 100), (1, .ref 24)] [] (by rfl) ?_ | refine ft_go mi_k21 3 9 [(3, .int (l3_2 + 1)), (2, .int (l2_2 + 1)), (5, .int ((a2 102).getD l2_2.toNatClampNeg 0)), (4, .int ((a2 101).getD l2_2.toNatClampNeg 0)), (0, .ref 100), (1, .ref 24)] [] ig56 ag56 qg56 rg56 (by rfl) ?_ | refine ko_steps mi_in21 3 _ (9, [(3, .int (l3_2 + 1)), (2, .int (l2_2 + 1)), (5, .int ((a2 102).getD l2_2.toNatClampNeg 0)), (4, .int ((a2 101).getD l2_2.toNatClampNeg 0)), (0, .ref 100), (1, .ref 24)], [], (0, 0), ks ig56 ag56 qg56 rg56) (by rfl) ?_
              refine ko_perm [(3, .int (l3_2 + 1)), (2, .int (l2_2 + 1)), (0, .ref 100), (1, .ref 24)] (List.forall_mem_cons.mpr ⟨(List.Mem.head _), (List.forall_mem_cons.mpr ⟨(List.Mem.tail _ (List.Mem.head _)), (List.forall_mem_cons.mpr ⟨(List.Mem.tail _ (List.Mem.tail _ (List.Mem.tail _ (List.Mem.tail _ (List.Mem.head _))))), (List.forall_mem_cons.mpr ⟨(List.Mem.tail _ (List.Mem.tail _ (List.Mem.tail _ (List.Mem.tail _ (List.Mem.tail _ (List.Mem.head _)))))), (fun _ h => absurd h List.not_mem_nil)⟩)⟩)⟩)⟩) ?_
              exact ih2 _ _ _ _ _ _ hGg56 (od15 p2_0 s58 kod1) (lRun_neg O2_0 (kj_left (od12 c5 kod121) (od21 s58 kod1)) ⟨(od5 c8 kod0), (od20 c11 efi2_6403)⟩ (kL_cast (hL2.fa 101 rfl) (od39 w53)) og54 rfl og56) (kj_meas (od23 s58 kod1) (od24 c5 kod121) hm2)
            refine ko_lsw (ls := [(2, .int (l2_2 + 1)), (5, .int ((a2 102).getD l2_2.toNatClampNeg 0)), (4, .int ((a2 101).getD l2_2.toNatClampNeg 0)), (3, .int l3_2), (0, .ref 100), (1, .ref 24)]) (r := []) (h := ks i2 a2 q2 r2) mi_in21 (v := ((a2 101).getD l2_2.toNatClampNeg 0)) (i := (.lookupswitch 145 #[(0, 60), (1, 69), (2, 96), (3, 101), (33, 114), (126, 133)], 60, 0, 0, 0, 0, 0)) (by rfl) rfl (by simp only [Op.lookupswitch.offset, if_neg (Ne.symm w13), if_neg (Ne.symm w17), if_neg (Ne.symm w31), if_neg (Ne.symm w35), if_neg (Ne.symm w42), if_neg (Ne.symm w53)] <;> rfl) 193 (by rfl) ?_
            first | refine fo_goS mi_k21 fz21_193_1_194 [.ref 100] (by rfl) ?_ | refine ft_go mi_k21 1 194 [(2, .int (l2_2 + 1)), (5, .int ((a2 102).getD l2_2.toNatClampNeg 0)), (4, .int ((a2 101).getD l2_2.toNatClampNeg 0)), (3, .int l3_2), (0, .ref 100), (1, .ref 24)] [.ref 100] i2 a2 q2 r2 (by rfl) ?_ | refine ko_steps mi_in21 1 _ (194, [(2, .int (l2_2 + 1)), (5, .int ((a2 102).getD l2_2.toNatClampNeg 0)), (4, .int ((a2 101).getD l2_2.toNatClampNeg 0)), (3, .int l3_2), (0, .ref 100), (1, .ref 24)], [.ref 100], (0, 0), ks i2 a2 q2 r2) (by rfl) ?_
            refine ko_callI mi_k21.1 (pc := 194) (ls := [(2, .int (l2_2 + 1)), (5, .int ((a2 102).getD l2_2.toNatClampNeg 0)), (4, .int ((a2 101).getD l2_2.toNatClampNeg 0)), (3, .int l3_2), (0, .ref 100), (1, .ref 24)]) (st := [.ref 100]) (h := ks i2 a2 q2 r2) (i := (.invokevirtual 36, 3, 20, 0, 9, 0, 226)) (mi_k21.2 _ _ (by rfl)) (ft_invS mi_pq20 (by rfl)) (cy := mi_c20) mi_pq20 rfl (ke20_100 hL2.I hL2.R ) (by decide) ?_
            intro vg59 ig59 ag59 qg59 rg59 kg59 hg59
            have hGg59 := kG_call hL2 kg59 (by decide +kernel)
            obtain ⟨hg59, og59⟩ := hg59
            first | refine fo_goL mi_k21 fz21_197_4_203 [(6, .int vg59), (2, .int (l2_2 + 1)), (5, .int ((a2 102).getD l2_2.toNatClampNeg 0)), (4, .int ((a2 101).getD l2_2.toNatClampNeg 0)), (3, .int l3_2), (0, .ref 100), (1, .ref 24)] [.ref 100, .int ((a2 101).getD l2_2.toNatClampNeg 0), .ref 100] (by rfl) ?_ | refine ft_go mi_k21 4 203 [(6, .int vg59), (2, .int (l2_2 + 1)), (5, .int ((a2 102).getD l2_2.toNatClampNeg 0)), (4, .int ((a2 101).getD l2_2.toNatClampNeg 0)), (3, .int l3_2), (0, .ref 100), (1, .ref 24)] [.ref 100, .int ((a2 101).getD l2_2.toNatClampNeg 0), .ref 100] ig59 ag59 qg59 rg59 (by rfl) ?_ | refine ko_steps mi_in21 4 _ (203, [(6, .int vg59), (2, .int (l2_2 + 1)), (5, .int ((a2 102).getD l2_2.toNatClampNeg 0)), (4, .int ((a2 101).getD l2_2.toNatClampNeg 0)), (3, .int l3_2), (0, .ref 100), (1, .ref 24)], [.ref 100, .int ((a2 101).getD l2_2.toNatClampNeg 0), .ref 100], (0, 0), ks ig59 ag59 qg59 rg59) (by rfl) ?_
            refine ko_callI mi_k21.1 (pc := 203) (ls := [(6, .int vg59), (2, .int (l2_2 + 1)), (5, .int ((a2 102).getD l2_2.toNatClampNeg 0)), (4, .int ((a2 101).getD l2_2.toNatClampNeg 0)), (3, .int l3_2), (0, .ref 100), (1, .ref 24)]) (st := [.ref 100, .int ((a2 101).getD l2_2.toNatClampNeg 0), .ref 100]) (h := ks ig59 ag59 qg59 rg59) (i := (.invokevirtual 36, 3, 20, 0, 9, 0, 226)) (mi_k21.2 _ _ (by rfl)) (ft_invS mi_pq20 (by rfl)) (cy := mi_c20) mi_pq20 rfl (ke20_100 hGg59.I hGg59.R ) (by decide) ?_
            intro vg61 ig61 ag61 qg61 rg61 kg61 hg61
            have hGg61 := kG_call hGg59 kg61 (by decide +kernel)
            obtain ⟨hg61, og61⟩ := hg61
            first | refine fo_goS mi_k21 fz21_206_1_208 [.int vg59, .int vg61, .int ((a2 101).getD l2_2.toNatClampNeg 0), .ref 100] (by rfl) ?_ | refine ft_go mi_k21 1 208 [(6, .int vg59), (2, .int (l2_2 + 1)), (5, .int ((a2 102).getD l2_2.toNatClampNeg 0)), (4, .int ((a2 101).getD l2_2.toNatClampNeg 0)), (3, .int l3_2), (0, .ref 100), (1, .ref 24)] [.int vg59, .int vg61, .int ((a2 101).getD l2_2.toNatClampNeg 0), .ref 100] ig61 ag61 qg61 rg61 (by rfl) ?_ | refine ko_steps mi_in21 1 _ (208, [(6, .int vg59), (2, .int (l2_2 + 1)), (5, .int ((a2 102).getD l2_2.toNatClampNeg 0)), (4, .int ((a2 101).getD l2_2.toNatClampNeg 0)), (3, .int l3_2), (0, .ref 100), (1, .ref 24)], [.int vg59, .int vg61, .int ((a2 101).getD l2_2.toNatClampNeg 0), .ref 100], (0, 0), ks ig61 ag61 qg61 rg61) (by rfl) ?_
            refine ko_callPI mi_k21.1 (pc := 208) (ls := [(6, .int vg59), (2, .int (l2_2 + 1)), (5, .int ((a2 102).getD l2_2.toNatClampNeg 0)), (4, .int ((a2 101).getD l2_2.toNatClampNeg 0)), (3, .int l3_2), (0, .ref 100), (1, .ref 24)]) (st := [.int vg59, .int vg61, .int ((a2 101).getD l2_2.toNatClampNeg 0), .ref 100]) (h := ks ig61 ag61 qg61 rg61) (i := (.invokestatic 40, 3, 22, 0, 9, 0, 227)) (mi_k21.2 _ _ (by rfl)) (ft_invS mi_pq22 (by rfl)) (cy := mi_c22) mi_pq22 rfl (ke22 hGg61.I hGg61.R ((a2 101).getD l2_2.toNatClampNeg 0) vg61 vg59) (by decide) ?_
            intro vg63 hg63
            obtain ⟨hg63, og63⟩ := hg63
            have q64 : vg63 = cJoin ((a2 101).getD l2_2.toNatClampNeg 0) vg61 vg59 := og63
            refine ko_callN mi_k21.1 (pc := 211) (ls := [(6, .int vg59), (2, .int (l2_2 + 1)), (5, .int ((a2 102).getD l2_2.toNatClampNeg 0)), (4, .int ((a2 101).getD l2_2.toNatClampNeg 0)), (3, .int l3_2), (0, .ref 100), (1, .ref 24)]) (st := [.int vg63, .ref 100]) (h := ks ig61 ag61 qg61 rg61) (i := (.invokevirtual 32, 3, 19, 0, 9, 0, 225)) (mi_k21.2 _ _ (by rfl)) (ft_invS mi_pq19 (by rfl)) (cy := mi_c19) mi_pq19 rfl (ke19_100 hGg61.I hGg61.R vg63) (by decide) ?_
            intro ig65 ag65 qg65 rg65 kg65 hg65
            have hGg65 := kG_call hGg61 kg65 (by decide +kernel)
            obtain ⟨hg65, og65⟩ := hg65
            have s67 : (l3_2 + 1).toInt = l3_2.toInt + (1 : Int32).toInt := kd_add (od13 p2_0 kod1) (od19 c5 kod121 kod1)
            first | refine fo_goL mi_k21 fz21_7_2_9 [(3, .int (l3_2 + 1)), (6, .int vg59), (2, .int (l2_2 + 1)), (5, .int ((a2 102).getD l2_2.toNatClampNeg 0)), (4, .int ((a2 101).getD l2_2.toNatClampNeg 0)), (0, .ref 100), (1, .ref 24)] [] (by rfl) ?_ | refine fo_goL mi_k21 fz21_214_2_9 [(3, .int (l3_2 + 1)), (6, .int vg59), (2, .int (l2_2 + 1)), (5, .int ((a2 102).getD l2_2.toNatClampNeg 0)), (4, .int ((a2 101).getD l2_2.toNatClampNeg 0)), (0, .ref 100), (1, .ref 24)] [] (by rfl) ?_ | refine ft_go mi_k21 2 9 [(3, .int (l3_2 + 1)), (6, .int vg59), (2, .int (l2_2 + 1)), (5, .int ((a2 102).getD l2_2.toNatClampNeg 0)), (4, .int ((a2 101).getD l2_2.toNatClampNeg 0)), (0, .ref 100), (1, .ref 24)] [] ig65 ag65 qg65 rg65 (by rfl) ?_ | refine ko_steps mi_in21 2 _ (9, [(3, .int (l3_2 + 1)), (6, .int vg59), (2, .int (l2_2 + 1)), (5, .int ((a2 102).getD l2_2.toNatClampNeg 0)), (4, .int ((a2 101).getD l2_2.toNatClampNeg 0)), (0, .ref 100), (1, .ref 24)], [], (0, 0), ks ig65 ag65 qg65 rg65) (by rfl) ?_
            refine ko_perm [(3, .int (l3_2 + 1)), (2, .int (l2_2 + 1)), (0, .ref 100), (1, .ref 24)] (List.forall_mem_cons.mpr ⟨(List.Mem.head _), (List.forall_mem_cons.mpr ⟨(List.Mem.tail _ (List.Mem.tail _ (List.Mem.head _))), (List.forall_mem_cons.mpr ⟨(List.Mem.tail _ (List.Mem.tail _ (List.Mem.tail _ (List.Mem.tail _ (List.Mem.tail _ (List.Mem.head _)))))), (List.forall_mem_cons.mpr ⟨(List.Mem.tail _ (List.Mem.tail _ (List.Mem.tail _ (List.Mem.tail _ (List.Mem.tail _ (List.Mem.tail _ (List.Mem.head _))))))), (fun _ h => absurd h List.not_mem_nil)⟩)⟩)⟩)⟩) ?_
            exact ih2 _ _ _ _ _ _ hGg65 (od15 p2_0 s67 kod1) (lRun_bin O2_0 (kj_left (od12 c5 kod121) (od21 s67 kod1)) ⟨(od5 c8 kod0), (od20 c11 efi2_6403)⟩ (kL_castn (hL2.fa 101 rfl) (od41 w13)) (kL_castn (hL2.fa 101 rfl) (od42 w13 w17)) (kL_castn (hL2.fa 101 rfl) (od43 w13 w17 w31)) (kL_castn (hL2.fa 101 rfl) (od44 w13 w17 w31 w35)) (kL_castn (hL2.fa 101 rfl) (od45 w42)) (kL_castn (hL2.fa 101 rfl) (od46 w53)) og59 og61 (og63.trans (congrArg (fun z : List Int32 => cJoin (z.getD l2_2.toNatClampNeg 0) _ _) (hL2.fa 101 rfl))) og65) (kj_meas (od23 s67 kod1) (od24 c5 kod121) hm2)
  exact lp2 _ _ _ _ _ _ _ (kG_self _ hJ1.I hJ1.R) (od0 kod0) (by rw [kod0]; rfl) (Nat.lt_succ_self _)
def yw31_1 : kW := ([645, 6405], [13, 24, 103], [], [])
set_option maxRecDepth 100000 in
theorem ke31_1 {i : Nat → Int32} {a : Nat → List Int32} {q : Nat → List Int64} {r : Nat → Nat} (hI : kI i a q) (hr : kr r) (x1 : Int32) (x2 : Int32) (hp0 : ((0 : Int) ≤ x1.toInt) ∧ (x1.toInt ≤ 7)) : km 5 31 [.ref 1, .int x1, .int x2] (ks i a q r) (kVI yw31_1 i a q r (fun v i1 a1 q1 r1 => (True) ∧ v = cBuyV (i (64 * r 0)) (a (r 0 + 1)) (a (r 0 + 2)) (a (r 0 + 3)) (i (64 * r 0 + 3)) ((a 3).getD x1.toNatClampNeg 0) x2 ((a 4).getD x1.toNatClampNeg 0) (i 73) ((a 6).getD x1.toNatClampNeg 0) (i 72))) := by
  have hG := kG_self yw31_1 hI hr
  refine km_ofI (q := (mi_h31, mi_c31)) rfl (by decide) (Nat.le_of_ble_eq_true rfl) ?_
  intro P hP
  first | refine fo_goL mi_k31 fz31_0_4_6 [(0, .ref 1), (1, .int x1), (2, .int x2)] [.int x1, .ref 3, .int 5] (by rfl) ?_ | refine ft_go mi_k31 4 6 [(0, .ref 1), (1, .int x1), (2, .int x2)] [.int x1, .ref 3, .int 5] i a q r (by rfl) ?_
  refine ko_iald3 mi_k31.1 (n := 8) (c := 8) (ax := (0, 0, 0, 0, 0)) (mi_k31.2 _ _ (by rfl)) (by rfl) (ksG3 _ _ _ _) (hG.I.2.1 3) rfl (od11 hp0.1) (od47 hp0.2) ?_
  have b1 : ((-2147483648 : Int) ≤ ((a 3).getD x1.toNatClampNeg 0).toInt) ∧ (((a 3).getD x1.toNatClampNeg 0).toInt ≤ 2147483647) := kd_bd ((a 3).getD x1.toNatClampNeg 0)
  first | refine fo_goS mi_k31 fz31_7_4_13 [.int x1, .ref 4, .int (5 * ((a 3).getD x1.toNatClampNeg 0))] (by rfl) ?_ | refine ft_go mi_k31 4 13 [(0, .ref 1), (1, .int x1), (2, .int x2)] [.int x1, .ref 4, .int (5 * ((a 3).getD x1.toNatClampNeg 0))] i a q r (by rfl) ?_
  refine ko_iald3 mi_k31.1 (n := 8) (c := 8) (ax := (0, 0, 0, 0, 0)) (mi_k31.2 _ _ (by rfl)) (by rfl) (ksG4 _ _ _ _) (hG.I.2.1 4) rfl (od11 hp0.1) (od47 hp0.2) ?_
  have b2 : ((-2147483648 : Int) ≤ (5 * ((a 3).getD x1.toNatClampNeg 0)).toInt) ∧ ((5 * ((a 3).getD x1.toNatClampNeg 0)).toInt ≤ 2147483647) := kd_bd (5 * ((a 3).getD x1.toNatClampNeg 0))
  have b3 : ((-2147483648 : Int) ≤ ((a 4).getD x1.toNatClampNeg 0).toInt) ∧ (((a 4).getD x1.toNatClampNeg 0).toInt ≤ 2147483647) := kd_bd ((a 4).getD x1.toNatClampNeg 0)
  first | refine fo_goS mi_k31 fz31_14_5_21 [.int x1, .ref 6, .int 2, .int ((5 * ((a 3).getD x1.toNatClampNeg 0)) + ((a 4).getD x1.toNatClampNeg 0))] (by rfl) ?_ | refine ft_go mi_k31 5 21 [(0, .ref 1), (1, .int x1), (2, .int x2)] [.int x1, .ref 6, .int 2, .int ((5 * ((a 3).getD x1.toNatClampNeg 0)) + ((a 4).getD x1.toNatClampNeg 0))] i a q r (by rfl) ?_
  refine ko_iald3 mi_k31.1 (n := 8) (c := 8) (ax := (0, 0, 0, 0, 0)) (mi_k31.2 _ _ (by rfl)) (by rfl) (ksG6 _ _ _ _) (hG.I.2.1 6) rfl (od11 hp0.1) (od47 hp0.2) ?_
  have b4 : ((-2147483648 : Int) ≤ ((a 6).getD x1.toNatClampNeg 0).toInt) ∧ (((a 6).getD x1.toNatClampNeg 0).toInt ≤ 2147483647) := kd_bd ((a 6).getD x1.toNatClampNeg 0)
  have b5 : ((-2147483648 : Int) ≤ ((5 * ((a 3).getD x1.toNatClampNeg 0)) + ((a 4).getD x1.toNatClampNeg 0)).toInt) ∧ (((5 * ((a 3).getD x1.toNatClampNeg 0)) + ((a 4).getD x1.toNatClampNeg 0)).toInt ≤ 2147483647) := kd_bd ((5 * ((a 3).getD x1.toNatClampNeg 0)) + ((a 4).getD x1.toNatClampNeg 0))
  have b6 : ((-2147483648 : Int) ≤ (2 * ((a 6).getD x1.toNatClampNeg 0)).toInt) ∧ ((2 * ((a 6).getD x1.toNatClampNeg 0)).toInt ≤ 2147483647) := kd_bd (2 * ((a 6).getD x1.toNatClampNeg 0))
  first | refine fo_goL mi_k31 fz31_22_5_29 [(3, .int (((5 * ((a 3).getD x1.toNatClampNeg 0)) + ((a 4).getD x1.toNatClampNeg 0)) - (2 * ((a 6).getD x1.toNatClampNeg 0)))), (0, .ref 1), (1, .int x1), (2, .int x2)] [.ref (r 0)] (by rfl) ?_ | refine ft_go mi_k31 5 29 [(3, .int (((5 * ((a 3).getD x1.toNatClampNeg 0)) + ((a 4).getD x1.toNatClampNeg 0)) - (2 * ((a 6).getD x1.toNatClampNeg 0)))), (0, .ref 1), (1, .int x1), (2, .int x2)] [.ref (r 0)] i a q r (by rfl) ?_
  rcases hG.R.1 with ⟨eRr_0, eRr_2⟩ | ⟨eRr_0, eRr_2⟩
  ·
    have eRr_0 : r 0 = 10 := eRr_0
    have eRr_2 : r 2 = 100 := eRr_2
    refine ko_eq (x1 := (29, [(3, .int (((5 * ((a 3).getD x1.toNatClampNeg 0)) + ((a 4).getD x1.toNatClampNeg 0)) - (2 * ((a 6).getD x1.toNatClampNeg 0)))), (0, .ref 1), (1, .int x1), (2, .int x2)], [.ref 10], (0, 0), ks i a q r)) (by rw [eRr_0]) ?_
    have fi_640 : ((0 : Int) ≤ (i 640).toInt) ∧ ((i 640).toInt ≤ 1) := hG.I.1 640
    first | refine fo_goS mi_k31 fz31_29_1_32 [.int (i 640)] (by rfl) ?_ | refine ft_go mi_k31 1 32 [(3, .int (((5 * ((a 3).getD x1.toNatClampNeg 0)) + ((a 4).getD x1.toNatClampNeg 0)) - (2 * ((a 6).getD x1.toNatClampNeg 0)))), (0, .ref 1), (1, .int x1), (2, .int x2)] [.int (i 640)] i a q r (by rfl) ?_
    refine ft_ifS mi_k31 ((i 640) == 0) 110 35 [] (by rfl) (fun c => ?_) (fun c => ?_)
    ·
      have c7 : (i 640).toInt = (0 : Int32).toInt := kd_eq c; clear c
      first | refine fo_goS mi_k31 fz31_110_3_114 [.int (((5 * ((a 3).getD x1.toNatClampNeg 0)) + ((a 4).getD x1.toNatClampNeg 0)) - (2 * ((a 6).getD x1.toNatClampNeg 0))), .int 99, .int 0] (by rfl) ?_ | refine ft_go mi_k31 3 114 [(3, .int (((5 * ((a 3).getD x1.toNatClampNeg 0)) + ((a 4).getD x1.toNatClampNeg 0)) - (2 * ((a 6).getD x1.toNatClampNeg 0)))), (0, .ref 1), (1, .int x1), (2, .int x2)] [.int (((5 * ((a 3).getD x1.toNatClampNeg 0)) + ((a 4).getD x1.toNatClampNeg 0)) - (2 * ((a 6).getD x1.toNatClampNeg 0))), .int 99, .int 0] i a q r (by rfl) ?_
      have m9 : (((bif decide ((((5 * ((a 3).getD x1.toNatClampNeg 0)) + ((a 4).getD x1.toNatClampNeg 0)) - (2 * ((a 6).getD x1.toNatClampNeg 0))) < 99) then (((5 * ((a 3).getD x1.toNatClampNeg 0)) + ((a 4).getD x1.toNatClampNeg 0)) - (2 * ((a 6).getD x1.toNatClampNeg 0))) else 99).toInt ≤ (99 : Int32).toInt) ∧ ((bif decide ((((5 * ((a 3).getD x1.toNatClampNeg 0)) + ((a 4).getD x1.toNatClampNeg 0)) - (2 * ((a 6).getD x1.toNatClampNeg 0))) < 99) then (((5 * ((a 3).getD x1.toNatClampNeg 0)) + ((a 4).getD x1.toNatClampNeg 0)) - (2 * ((a 6).getD x1.toNatClampNeg 0))) else 99).toInt ≤ (((5 * ((a 3).getD x1.toNatClampNeg 0)) + ((a 4).getD x1.toNatClampNeg 0)) - (2 * ((a 6).getD x1.toNatClampNeg 0))).toInt)) ∧ ((bif decide ((((5 * ((a 3).getD x1.toNatClampNeg 0)) + ((a 4).getD x1.toNatClampNeg 0)) - (2 * ((a 6).getD x1.toNatClampNeg 0))) < 99) then (((5 * ((a 3).getD x1.toNatClampNeg 0)) + ((a 4).getD x1.toNatClampNeg 0)) - (2 * ((a 6).getD x1.toNatClampNeg 0))) else 99).toInt = (99 : Int32).toInt ∨ (bif decide ((((5 * ((a 3).getD x1.toNatClampNeg 0)) + ((a 4).getD x1.toNatClampNeg 0)) - (2 * ((a 6).getD x1.toNatClampNeg 0))) < 99) then (((5 * ((a 3).getD x1.toNatClampNeg 0)) + ((a 4).getD x1.toNatClampNeg 0)) - (2 * ((a 6).getD x1.toNatClampNeg 0))) else 99).toInt = (((5 * ((a 3).getD x1.toNatClampNeg 0)) + ((a 4).getD x1.toNatClampNeg 0)) - (2 * ((a 6).getD x1.toNatClampNeg 0))).toInt) := kd_min
      first | refine ft_goS mi_k31 1 117 [.int (bif decide ((((5 * ((a 3).getD x1.toNatClampNeg 0)) + ((a 4).getD x1.toNatClampNeg 0)) - (2 * ((a 6).getD x1.toNatClampNeg 0))) < 99) then (((5 * ((a 3).getD x1.toNatClampNeg 0)) + ((a 4).getD x1.toNatClampNeg 0)) - (2 * ((a 6).getD x1.toNatClampNeg 0))) else 99), .int 0] (by rfl) ?_ | refine ft_go mi_k31 1 117 [(3, .int (((5 * ((a 3).getD x1.toNatClampNeg 0)) + ((a 4).getD x1.toNatClampNeg 0)) - (2 * ((a 6).getD x1.toNatClampNeg 0)))), (0, .ref 1), (1, .int x1), (2, .int x2)] [.int (bif decide ((((5 * ((a 3).getD x1.toNatClampNeg 0)) + ((a 4).getD x1.toNatClampNeg 0)) - (2 * ((a 6).getD x1.toNatClampNeg 0))) < 99) then (((5 * ((a 3).getD x1.toNatClampNeg 0)) + ((a 4).getD x1.toNatClampNeg 0)) - (2 * ((a 6).getD x1.toNatClampNeg 0))) else 99), .int 0] i a q r (by rfl) ?_
      generalize hm8 : (bif decide ((((5 * ((a 3).getD x1.toNatClampNeg 0)) + ((a 4).getD x1.toNatClampNeg 0)) - (2 * ((a 6).getD x1.toNatClampNeg 0))) < 99) then (((5 * ((a 3).getD x1.toNatClampNeg 0)) + ((a 4).getD x1.toNatClampNeg 0)) - (2 * ((a 6).getD x1.toNatClampNeg 0))) else 99) = m8 at m9 ⊢
      have qm8 := hm8.symm
      have m11 : (((0 : Int32).toInt ≤ (bif decide (0 < m8) then m8 else 0).toInt) ∧ (m8.toInt ≤ (bif decide (0 < m8) then m8 else 0).toInt)) ∧ ((bif decide (0 < m8) then m8 else 0).toInt = (0 : Int32).toInt ∨ (bif decide (0 < m8) then m8 else 0).toInt = m8.toInt) := kd_max
      first | refine ft_goS mi_k31 1 120 [.int (bif decide (0 < m8) then m8 else 0)] (by rfl) ?_ | refine ft_go mi_k31 1 120 [(3, .int (((5 * ((a 3).getD x1.toNatClampNeg 0)) + ((a 4).getD x1.toNatClampNeg 0)) - (2 * ((a 6).getD x1.toNatClampNeg 0)))), (0, .ref 1), (1, .int x1), (2, .int x2)] [.int (bif decide (0 < m8) then m8 else 0)] i a q r (by rfl) ?_
      generalize hm10 : (bif decide (0 < m8) then m8 else 0) = m10 at m11 ⊢
      have qm10 := hm10.symm
      exact ft_ret mi_k31 (by rfl) (hP m10 _ _ _ _ hG ⟨trivial, (show m10 = cBuyV (i (64 * r 0)) (a (r 0 + 1)) (a (r 0 + 2)) (a (r 0 + 3)) (i (64 * r 0 + 3)) ((a 3).getD x1.toNatClampNeg 0) x2 ((a 4).getD x1.toNatClampNeg 0) (i 73) ((a 6).getD x1.toNatClampNeg 0) (i 72) from (by rw [eRr_0]; unfold cBuyV; rw [if_pos (od48 c7 fi_640.1 kod0)]; first | rfl | (simp only [qm10, qm8, sMn, sMx]; rfl)))⟩)
    ·
      have c12 : (i 640).toInt ≠ (0 : Int32).toInt := kd_eqF c; clear c
      first | refine fo_goS mi_k31 fz31_35_6_45 [.int x1, .ref 3, .int 0, .ref 24] (by rfl) ?_ | refine ft_go mi_k31 6 45 [(3, .int (((5 * ((a 3).getD x1.toNatClampNeg 0)) + ((a 4).getD x1.toNatClampNeg 0)) - (2 * ((a 6).getD x1.toNatClampNeg 0)))), (0, .ref 1), (1, .int x1), (2, .int x2)] [.int x1, .ref 3, .int 0, .ref 24] i a q r (by rfl) ?_
      refine ko_iald3 mi_k31.1 (n := 8) (c := 8) (ax := (0, 0, 0, 0, 0)) (mi_k31.2 _ _ (by rfl)) (by rfl) (ksG3 _ _ _ _) (hG.I.2.1 3) rfl (od11 hp0.1) (od47 hp0.2) ?_
      refine ko_iast3 mi_k31.1 (n := 6) (c := 6) (ax := (0, 0, 0, 0, 0)) (mi_k31.2 _ _ (by rfl)) (by rfl) (ksG24 _ _ _ _) (ksA24 _ _ _ _) (hG.I.2.1 24) rfl (od0 kod0) (od49 kod0) ?_
      intro a13 ea13 fa13
      have hJ13 := kG_a3 hG 24 rfl ea13 fa13 (kd_bd _)
      first | refine fo_goS mi_k31 fz31_47_4_53 [.int x2, .int 1, .ref 24] (by rfl) ?_ | refine ft_go mi_k31 4 53 [(3, .int (((5 * ((a 3).getD x1.toNatClampNeg 0)) + ((a 4).getD x1.toNatClampNeg 0)) - (2 * ((a 6).getD x1.toNatClampNeg 0)))), (0, .ref 1), (1, .int x1), (2, .int x2)] [.int x2, .int 1, .ref 24] i a13 q r (by rfl) ?_
      refine ko_iast3 mi_k31.1 (n := 6) (c := 6) (ax := (0, 0, 0, 0, 0)) (mi_k31.2 _ _ (by rfl)) (by rfl) (ksG24 _ _ _ _) (ksA24 _ _ _ _) (hJ13.I.2.1 24) rfl (od50 kod1) (od51 kod1) ?_
      intro a14 ea14 fa14
      have hJ14 := kG_a3 hJ13 24 rfl ea14 fa14 (kd_bd _)
      first | refine fo_goS mi_k31 fz31_54_6_64 [.int x1, .ref 4, .int 2, .ref 24] (by rfl) ?_ | refine ft_go mi_k31 6 64 [(3, .int (((5 * ((a 3).getD x1.toNatClampNeg 0)) + ((a 4).getD x1.toNatClampNeg 0)) - (2 * ((a 6).getD x1.toNatClampNeg 0)))), (0, .ref 1), (1, .int x1), (2, .int x2)] [.int x1, .ref 4, .int 2, .ref 24] i a14 q r (by rfl) ?_
      refine ko_iald3 mi_k31.1 (n := 8) (c := 8) (ax := (0, 0, 0, 0, 0)) (mi_k31.2 _ _ (by rfl)) (by rfl) (ksG4 _ _ _ _) (hJ14.I.2.1 4) rfl (od11 hp0.1) (od47 hp0.2) ?_
      refine ko_iast3 mi_k31.1 (n := 6) (c := 6) (ax := (0, 0, 0, 0, 0)) (mi_k31.2 _ _ (by rfl)) (by rfl) (ksG24 _ _ _ _) (ksA24 _ _ _ _) (hJ14.I.2.1 24) rfl (od52 kod2) (od53 kod2) ?_
      intro a15 ea15 fa15
      have hJ15 := kG_a3 hJ14 24 rfl ea15 fa15 (kd_bd _)
      first | refine fo_goS mi_k31 fz31_66_5_75 [.int (i 73), .int 3, .ref 24] (by rfl) ?_ | refine ft_go mi_k31 5 75 [(3, .int (((5 * ((a 3).getD x1.toNatClampNeg 0)) + ((a 4).getD x1.toNatClampNeg 0)) - (2 * ((a 6).getD x1.toNatClampNeg 0)))), (0, .ref 1), (1, .int x1), (2, .int x2)] [.int (i 73), .int 3, .ref 24] i a15 q r (by rfl) ?_
      refine ko_iast3 mi_k31.1 (n := 6) (c := 6) (ax := (0, 0, 0, 0, 0)) (mi_k31.2 _ _ (by rfl)) (by rfl) (ksG24 _ _ _ _) (ksA24 _ _ _ _) (hJ15.I.2.1 24) rfl (od54 kod3) (od55 kod3) ?_
      intro a16 ea16 fa16
      have hJ16 := kG_a3 hJ15 24 rfl ea16 fa16 (kd_bd _)
      first | refine fo_goS mi_k31 fz31_76_6_86 [.int x1, .ref 6, .int 4, .ref 24] (by rfl) ?_ | refine ft_go mi_k31 6 86 [(3, .int (((5 * ((a 3).getD x1.toNatClampNeg 0)) + ((a 4).getD x1.toNatClampNeg 0)) - (2 * ((a 6).getD x1.toNatClampNeg 0)))), (0, .ref 1), (1, .int x1), (2, .int x2)] [.int x1, .ref 6, .int 4, .ref 24] i a16 q r (by rfl) ?_
      refine ko_iald3 mi_k31.1 (n := 8) (c := 8) (ax := (0, 0, 0, 0, 0)) (mi_k31.2 _ _ (by rfl)) (by rfl) (ksG6 _ _ _ _) (hJ16.I.2.1 6) rfl (od11 hp0.1) (od47 hp0.2) ?_
      refine ko_iast3 mi_k31.1 (n := 6) (c := 6) (ax := (0, 0, 0, 0, 0)) (mi_k31.2 _ _ (by rfl)) (by rfl) (ksG24 _ _ _ _) (ksA24 _ _ _ _) (hJ16.I.2.1 24) rfl (od56 kod4) (od57 kod4) ?_
      intro a17 ea17 fa17
      have hJ17 := kG_a3 hJ16 24 rfl ea17 fa17 (kd_bd _)
      first | refine fo_goS mi_k31 fz31_88_5_97 [.int (i 72), .int 5, .ref 24] (by rfl) ?_ | refine ft_go mi_k31 5 97 [(3, .int (((5 * ((a 3).getD x1.toNatClampNeg 0)) + ((a 4).getD x1.toNatClampNeg 0)) - (2 * ((a 6).getD x1.toNatClampNeg 0)))), (0, .ref 1), (1, .int x1), (2, .int x2)] [.int (i 72), .int 5, .ref 24] i a17 q r (by rfl) ?_
      refine ko_iast3 mi_k31.1 (n := 6) (c := 6) (ax := (0, 0, 0, 0, 0)) (mi_k31.2 _ _ (by rfl)) (by rfl) (ksG24 _ _ _ _) (ksA24 _ _ _ _) (hJ17.I.2.1 24) rfl (od58 kod5) (od59 kod5) ?_
      intro a18 ea18 fa18
      have hJ18 := kG_a3 hJ17 24 rfl ea18 fa18 (kd_bd _)
      first | refine fo_goS mi_k31 fz31_98_2_102 [.ref (r 0)] (by rfl) ?_ | refine ft_go mi_k31 2 102 [(3, .int (((5 * ((a 3).getD x1.toNatClampNeg 0)) + ((a 4).getD x1.toNatClampNeg 0)) - (2 * ((a 6).getD x1.toNatClampNeg 0)))), (0, .ref 1), (1, .int x1), (2, .int x2)] [.ref (r 0)] i a18 q r (by rfl) ?_
      refine ko_eq (x1 := (102, [(3, .int (((5 * ((a 3).getD x1.toNatClampNeg 0)) + ((a 4).getD x1.toNatClampNeg 0)) - (2 * ((a 6).getD x1.toNatClampNeg 0)))), (0, .ref 1), (1, .int x1), (2, .int x2)], [.ref 10], (0, 0), ks i a18 q r)) (by rw [eRr_0]) ?_
      have qn19 : a18 24 = [((a 3).getD x1.toNatClampNeg 0), x2, ((a14 4).getD x1.toNatClampNeg 0), (i 73), ((a16 6).getD x1.toNatClampNeg 0), (i 72)] := by rw [ea18, ea17, ea16, ea15, ea14, ea13]; exact kNames ((congrArg List.length (rfl)).trans (hG.I.2.1 24))
      first | refine fo_goS mi_k31 fz31_102_2_106 [.ref 24, .ref 10] (by rfl) ?_ | refine ft_go mi_k31 2 106 [(3, .int (((5 * ((a 3).getD x1.toNatClampNeg 0)) + ((a 4).getD x1.toNatClampNeg 0)) - (2 * ((a 6).getD x1.toNatClampNeg 0)))), (0, .ref 1), (1, .int x1), (2, .int x2)] [.ref 24, .ref 10] i a18 q r (by rfl) ?_
      refine ko_callI mi_k31.1 (pc := 106) (ls := [(3, .int (((5 * ((a 3).getD x1.toNatClampNeg 0)) + ((a 4).getD x1.toNatClampNeg 0)) - (2 * ((a 6).getD x1.toNatClampNeg 0)))), (0, .ref 1), (1, .int x1), (2, .int x2)]) (st := [.ref 24, .ref 10]) (h := ks i a18 q r) (i := (.invokevirtual 126, 3, 21, 0, 9, 0, 224)) (mi_k31.2 _ _ (by rfl)) (ft_invS mi_pq21 (by rfl)) (cy := mi_c21) mi_pq21 rfl (ke21_10_24 hJ18.I hJ18.R ) (by decide) ?_
      intro vg20 ig20 ag20 qg20 rg20 kg20 hg20
      have hGg20 := kG_call hJ18 kg20 (by decide +kernel)
      have eRrg20_0 : rg20 0 = 10 := (kg20.fr 0 rfl).trans eRr_0
      have eRrg20_2 : rg20 2 = 100 := (kg20.fr 2 rfl).trans eRr_2
      obtain ⟨hg20, og20⟩ := hg20
      have q21 : vg20 = lRun (a18 11) (a18 12) (a18 24) (i 643) 121 0 (a18 13, 0) := og20
      first | refine fo_goS mi_k31 fz31_32_4_114 [.int vg20, .int 99, .int 0] (by rfl) ?_ | refine fo_goL mi_k31 fz31_109_4_114 [(3, .int vg20), (0, .ref 1), (1, .int x1), (2, .int x2)] [.int vg20, .int 99, .int 0] (by rfl) ?_ | refine ft_go mi_k31 4 114 [(3, .int vg20), (0, .ref 1), (1, .int x1), (2, .int x2)] [.int vg20, .int 99, .int 0] ig20 ag20 qg20 rg20 (by rfl) ?_
      have m23 : (((bif decide (vg20 < 99) then vg20 else 99).toInt ≤ (99 : Int32).toInt) ∧ ((bif decide (vg20 < 99) then vg20 else 99).toInt ≤ vg20.toInt)) ∧ ((bif decide (vg20 < 99) then vg20 else 99).toInt = (99 : Int32).toInt ∨ (bif decide (vg20 < 99) then vg20 else 99).toInt = vg20.toInt) := kd_min
      first | refine ft_goS mi_k31 1 117 [.int (bif decide (vg20 < 99) then vg20 else 99), .int 0] (by rfl) ?_ | refine ft_go mi_k31 1 117 [(3, .int vg20), (0, .ref 1), (1, .int x1), (2, .int x2)] [.int (bif decide (vg20 < 99) then vg20 else 99), .int 0] ig20 ag20 qg20 rg20 (by rfl) ?_
      generalize hm22 : (bif decide (vg20 < 99) then vg20 else 99) = m22 at m23 ⊢
      have qm22 := hm22.symm
      have m25 : (((0 : Int32).toInt ≤ (bif decide (0 < m22) then m22 else 0).toInt) ∧ (m22.toInt ≤ (bif decide (0 < m22) then m22 else 0).toInt)) ∧ ((bif decide (0 < m22) then m22 else 0).toInt = (0 : Int32).toInt ∨ (bif decide (0 < m22) then m22 else 0).toInt = m22.toInt) := kd_max
      first | refine ft_goS mi_k31 1 120 [.int (bif decide (0 < m22) then m22 else 0)] (by rfl) ?_ | refine ft_go mi_k31 1 120 [(3, .int vg20), (0, .ref 1), (1, .int x1), (2, .int x2)] [.int (bif decide (0 < m22) then m22 else 0)] ig20 ag20 qg20 rg20 (by rfl) ?_
      generalize hm24 : (bif decide (0 < m22) then m22 else 0) = m24 at m25 ⊢
      have qm24 := hm24.symm
      exact ft_ret mi_k31 (by rfl) (hP m24 _ _ _ _ hGg20 ⟨trivial, (show m24 = cBuyV (i (64 * r 0)) (a (r 0 + 1)) (a (r 0 + 2)) (a (r 0 + 3)) (i (64 * r 0 + 3)) ((a 3).getD x1.toNatClampNeg 0) x2 ((a 4).getD x1.toNatClampNeg 0) (i 73) ((a 6).getD x1.toNatClampNeg 0) (i 72) from (by rw [eRr_0]; unfold cBuyV; rw [if_neg (od60 c12 fi_640.1 kod0)]; first | rfl | (simp only [qm24, qm22, q21, fa18 11 (by decide), fa18 12 (by decide), qn19, fa18 13 (by decide), fa17 13 (by decide), fa16 13 (by decide), fa15 13 (by decide), fa14 13 (by decide), fa13 13 (by decide), fa14 4 (by decide), fa16 6 (by decide), fa15 6 (by decide), fa14 6 (by decide), fa13 6 (by decide), fa13 4 (by decide), fa17 12 (by decide), fa16 12 (by decide), fa15 12 (by decide), fa14 12 (by decide), fa13 12 (by decide), fa17 11 (by decide), fa16 11 (by decide), fa15 11 (by decide), fa14 11 (by decide), fa13 11 (by decide), sMn, sMx]; rfl)))⟩)
  ·
    have eRr_0 : r 0 = 100 := eRr_0
    have eRr_2 : r 2 = 10 := eRr_2
    refine ko_eq (x1 := (29, [(3, .int (((5 * ((a 3).getD x1.toNatClampNeg 0)) + ((a 4).getD x1.toNatClampNeg 0)) - (2 * ((a 6).getD x1.toNatClampNeg 0)))), (0, .ref 1), (1, .int x1), (2, .int x2)], [.ref 100], (0, 0), ks i a q r)) (by rw [eRr_0]) ?_
    have fi_6400 : ((0 : Int) ≤ (i 6400).toInt) ∧ ((i 6400).toInt ≤ 1) := hG.I.1 6400
    first | refine fo_goS mi_k31 fz31_29_1_32 [.int (i 6400)] (by rfl) ?_ | refine ft_go mi_k31 1 32 [(3, .int (((5 * ((a 3).getD x1.toNatClampNeg 0)) + ((a 4).getD x1.toNatClampNeg 0)) - (2 * ((a 6).getD x1.toNatClampNeg 0)))), (0, .ref 1), (1, .int x1), (2, .int x2)] [.int (i 6400)] i a q r (by rfl) ?_
    refine ft_ifS mi_k31 ((i 6400) == 0) 110 35 [] (by rfl) (fun c => ?_) (fun c => ?_)
    ·
      have c26 : (i 6400).toInt = (0 : Int32).toInt := kd_eq c; clear c
      first | refine fo_goS mi_k31 fz31_110_3_114 [.int (((5 * ((a 3).getD x1.toNatClampNeg 0)) + ((a 4).getD x1.toNatClampNeg 0)) - (2 * ((a 6).getD x1.toNatClampNeg 0))), .int 99, .int 0] (by rfl) ?_ | refine ft_go mi_k31 3 114 [(3, .int (((5 * ((a 3).getD x1.toNatClampNeg 0)) + ((a 4).getD x1.toNatClampNeg 0)) - (2 * ((a 6).getD x1.toNatClampNeg 0)))), (0, .ref 1), (1, .int x1), (2, .int x2)] [.int (((5 * ((a 3).getD x1.toNatClampNeg 0)) + ((a 4).getD x1.toNatClampNeg 0)) - (2 * ((a 6).getD x1.toNatClampNeg 0))), .int 99, .int 0] i a q r (by rfl) ?_
      have m28 : (((bif decide ((((5 * ((a 3).getD x1.toNatClampNeg 0)) + ((a 4).getD x1.toNatClampNeg 0)) - (2 * ((a 6).getD x1.toNatClampNeg 0))) < 99) then (((5 * ((a 3).getD x1.toNatClampNeg 0)) + ((a 4).getD x1.toNatClampNeg 0)) - (2 * ((a 6).getD x1.toNatClampNeg 0))) else 99).toInt ≤ (99 : Int32).toInt) ∧ ((bif decide ((((5 * ((a 3).getD x1.toNatClampNeg 0)) + ((a 4).getD x1.toNatClampNeg 0)) - (2 * ((a 6).getD x1.toNatClampNeg 0))) < 99) then (((5 * ((a 3).getD x1.toNatClampNeg 0)) + ((a 4).getD x1.toNatClampNeg 0)) - (2 * ((a 6).getD x1.toNatClampNeg 0))) else 99).toInt ≤ (((5 * ((a 3).getD x1.toNatClampNeg 0)) + ((a 4).getD x1.toNatClampNeg 0)) - (2 * ((a 6).getD x1.toNatClampNeg 0))).toInt)) ∧ ((bif decide ((((5 * ((a 3).getD x1.toNatClampNeg 0)) + ((a 4).getD x1.toNatClampNeg 0)) - (2 * ((a 6).getD x1.toNatClampNeg 0))) < 99) then (((5 * ((a 3).getD x1.toNatClampNeg 0)) + ((a 4).getD x1.toNatClampNeg 0)) - (2 * ((a 6).getD x1.toNatClampNeg 0))) else 99).toInt = (99 : Int32).toInt ∨ (bif decide ((((5 * ((a 3).getD x1.toNatClampNeg 0)) + ((a 4).getD x1.toNatClampNeg 0)) - (2 * ((a 6).getD x1.toNatClampNeg 0))) < 99) then (((5 * ((a 3).getD x1.toNatClampNeg 0)) + ((a 4).getD x1.toNatClampNeg 0)) - (2 * ((a 6).getD x1.toNatClampNeg 0))) else 99).toInt = (((5 * ((a 3).getD x1.toNatClampNeg 0)) + ((a 4).getD x1.toNatClampNeg 0)) - (2 * ((a 6).getD x1.toNatClampNeg 0))).toInt) := kd_min
      first | refine ft_goS mi_k31 1 117 [.int (bif decide ((((5 * ((a 3).getD x1.toNatClampNeg 0)) + ((a 4).getD x1.toNatClampNeg 0)) - (2 * ((a 6).getD x1.toNatClampNeg 0))) < 99) then (((5 * ((a 3).getD x1.toNatClampNeg 0)) + ((a 4).getD x1.toNatClampNeg 0)) - (2 * ((a 6).getD x1.toNatClampNeg 0))) else 99), .int 0] (by rfl) ?_ | refine ft_go mi_k31 1 117 [(3, .int (((5 * ((a 3).getD x1.toNatClampNeg 0)) + ((a 4).getD x1.toNatClampNeg 0)) - (2 * ((a 6).getD x1.toNatClampNeg 0)))), (0, .ref 1), (1, .int x1), (2, .int x2)] [.int (bif decide ((((5 * ((a 3).getD x1.toNatClampNeg 0)) + ((a 4).getD x1.toNatClampNeg 0)) - (2 * ((a 6).getD x1.toNatClampNeg 0))) < 99) then (((5 * ((a 3).getD x1.toNatClampNeg 0)) + ((a 4).getD x1.toNatClampNeg 0)) - (2 * ((a 6).getD x1.toNatClampNeg 0))) else 99), .int 0] i a q r (by rfl) ?_
      generalize hm27 : (bif decide ((((5 * ((a 3).getD x1.toNatClampNeg 0)) + ((a 4).getD x1.toNatClampNeg 0)) - (2 * ((a 6).getD x1.toNatClampNeg 0))) < 99) then (((5 * ((a 3).getD x1.toNatClampNeg 0)) + ((a 4).getD x1.toNatClampNeg 0)) - (2 * ((a 6).getD x1.toNatClampNeg 0))) else 99) = m27 at m28 ⊢
      have qm27 := hm27.symm
      have m30 : (((0 : Int32).toInt ≤ (bif decide (0 < m27) then m27 else 0).toInt) ∧ (m27.toInt ≤ (bif decide (0 < m27) then m27 else 0).toInt)) ∧ ((bif decide (0 < m27) then m27 else 0).toInt = (0 : Int32).toInt ∨ (bif decide (0 < m27) then m27 else 0).toInt = m27.toInt) := kd_max
      first | refine ft_goS mi_k31 1 120 [.int (bif decide (0 < m27) then m27 else 0)] (by rfl) ?_ | refine ft_go mi_k31 1 120 [(3, .int (((5 * ((a 3).getD x1.toNatClampNeg 0)) + ((a 4).getD x1.toNatClampNeg 0)) - (2 * ((a 6).getD x1.toNatClampNeg 0)))), (0, .ref 1), (1, .int x1), (2, .int x2)] [.int (bif decide (0 < m27) then m27 else 0)] i a q r (by rfl) ?_
      generalize hm29 : (bif decide (0 < m27) then m27 else 0) = m29 at m30 ⊢
      have qm29 := hm29.symm
      exact ft_ret mi_k31 (by rfl) (hP m29 _ _ _ _ hG ⟨trivial, (show m29 = cBuyV (i (64 * r 0)) (a (r 0 + 1)) (a (r 0 + 2)) (a (r 0 + 3)) (i (64 * r 0 + 3)) ((a 3).getD x1.toNatClampNeg 0) x2 ((a 4).getD x1.toNatClampNeg 0) (i 73) ((a 6).getD x1.toNatClampNeg 0) (i 72) from (by rw [eRr_0]; unfold cBuyV; rw [if_pos (od48 c26 fi_6400.1 kod0)]; first | rfl | (simp only [qm29, qm27, sMn, sMx]; rfl)))⟩)
    ·
      have c31 : (i 6400).toInt ≠ (0 : Int32).toInt := kd_eqF c; clear c
      first | refine fo_goS mi_k31 fz31_35_6_45 [.int x1, .ref 3, .int 0, .ref 24] (by rfl) ?_ | refine ft_go mi_k31 6 45 [(3, .int (((5 * ((a 3).getD x1.toNatClampNeg 0)) + ((a 4).getD x1.toNatClampNeg 0)) - (2 * ((a 6).getD x1.toNatClampNeg 0)))), (0, .ref 1), (1, .int x1), (2, .int x2)] [.int x1, .ref 3, .int 0, .ref 24] i a q r (by rfl) ?_
      refine ko_iald3 mi_k31.1 (n := 8) (c := 8) (ax := (0, 0, 0, 0, 0)) (mi_k31.2 _ _ (by rfl)) (by rfl) (ksG3 _ _ _ _) (hG.I.2.1 3) rfl (od11 hp0.1) (od47 hp0.2) ?_
      refine ko_iast3 mi_k31.1 (n := 6) (c := 6) (ax := (0, 0, 0, 0, 0)) (mi_k31.2 _ _ (by rfl)) (by rfl) (ksG24 _ _ _ _) (ksA24 _ _ _ _) (hG.I.2.1 24) rfl (od0 kod0) (od49 kod0) ?_
      intro a32 ea32 fa32
      have hJ32 := kG_a3 hG 24 rfl ea32 fa32 (kd_bd _)
      first | refine fo_goS mi_k31 fz31_47_4_53 [.int x2, .int 1, .ref 24] (by rfl) ?_ | refine ft_go mi_k31 4 53 [(3, .int (((5 * ((a 3).getD x1.toNatClampNeg 0)) + ((a 4).getD x1.toNatClampNeg 0)) - (2 * ((a 6).getD x1.toNatClampNeg 0)))), (0, .ref 1), (1, .int x1), (2, .int x2)] [.int x2, .int 1, .ref 24] i a32 q r (by rfl) ?_
      refine ko_iast3 mi_k31.1 (n := 6) (c := 6) (ax := (0, 0, 0, 0, 0)) (mi_k31.2 _ _ (by rfl)) (by rfl) (ksG24 _ _ _ _) (ksA24 _ _ _ _) (hJ32.I.2.1 24) rfl (od50 kod1) (od51 kod1) ?_
      intro a33 ea33 fa33
      have hJ33 := kG_a3 hJ32 24 rfl ea33 fa33 (kd_bd _)
      first | refine fo_goS mi_k31 fz31_54_6_64 [.int x1, .ref 4, .int 2, .ref 24] (by rfl) ?_ | refine ft_go mi_k31 6 64 [(3, .int (((5 * ((a 3).getD x1.toNatClampNeg 0)) + ((a 4).getD x1.toNatClampNeg 0)) - (2 * ((a 6).getD x1.toNatClampNeg 0)))), (0, .ref 1), (1, .int x1), (2, .int x2)] [.int x1, .ref 4, .int 2, .ref 24] i a33 q r (by rfl) ?_
      refine ko_iald3 mi_k31.1 (n := 8) (c := 8) (ax := (0, 0, 0, 0, 0)) (mi_k31.2 _ _ (by rfl)) (by rfl) (ksG4 _ _ _ _) (hJ33.I.2.1 4) rfl (od11 hp0.1) (od47 hp0.2) ?_
      refine ko_iast3 mi_k31.1 (n := 6) (c := 6) (ax := (0, 0, 0, 0, 0)) (mi_k31.2 _ _ (by rfl)) (by rfl) (ksG24 _ _ _ _) (ksA24 _ _ _ _) (hJ33.I.2.1 24) rfl (od52 kod2) (od53 kod2) ?_
      intro a34 ea34 fa34
      have hJ34 := kG_a3 hJ33 24 rfl ea34 fa34 (kd_bd _)
      first | refine fo_goS mi_k31 fz31_66_5_75 [.int (i 73), .int 3, .ref 24] (by rfl) ?_ | refine ft_go mi_k31 5 75 [(3, .int (((5 * ((a 3).getD x1.toNatClampNeg 0)) + ((a 4).getD x1.toNatClampNeg 0)) - (2 * ((a 6).getD x1.toNatClampNeg 0)))), (0, .ref 1), (1, .int x1), (2, .int x2)] [.int (i 73), .int 3, .ref 24] i a34 q r (by rfl) ?_
      refine ko_iast3 mi_k31.1 (n := 6) (c := 6) (ax := (0, 0, 0, 0, 0)) (mi_k31.2 _ _ (by rfl)) (by rfl) (ksG24 _ _ _ _) (ksA24 _ _ _ _) (hJ34.I.2.1 24) rfl (od54 kod3) (od55 kod3) ?_
      intro a35 ea35 fa35
      have hJ35 := kG_a3 hJ34 24 rfl ea35 fa35 (kd_bd _)
      first | refine fo_goS mi_k31 fz31_76_6_86 [.int x1, .ref 6, .int 4, .ref 24] (by rfl) ?_ | refine ft_go mi_k31 6 86 [(3, .int (((5 * ((a 3).getD x1.toNatClampNeg 0)) + ((a 4).getD x1.toNatClampNeg 0)) - (2 * ((a 6).getD x1.toNatClampNeg 0)))), (0, .ref 1), (1, .int x1), (2, .int x2)] [.int x1, .ref 6, .int 4, .ref 24] i a35 q r (by rfl) ?_
      refine ko_iald3 mi_k31.1 (n := 8) (c := 8) (ax := (0, 0, 0, 0, 0)) (mi_k31.2 _ _ (by rfl)) (by rfl) (ksG6 _ _ _ _) (hJ35.I.2.1 6) rfl (od11 hp0.1) (od47 hp0.2) ?_
      refine ko_iast3 mi_k31.1 (n := 6) (c := 6) (ax := (0, 0, 0, 0, 0)) (mi_k31.2 _ _ (by rfl)) (by rfl) (ksG24 _ _ _ _) (ksA24 _ _ _ _) (hJ35.I.2.1 24) rfl (od56 kod4) (od57 kod4) ?_
      intro a36 ea36 fa36
      have hJ36 := kG_a3 hJ35 24 rfl ea36 fa36 (kd_bd _)
      first | refine fo_goS mi_k31 fz31_88_5_97 [.int (i 72), .int 5, .ref 24] (by rfl) ?_ | refine ft_go mi_k31 5 97 [(3, .int (((5 * ((a 3).getD x1.toNatClampNeg 0)) + ((a 4).getD x1.toNatClampNeg 0)) - (2 * ((a 6).getD x1.toNatClampNeg 0)))), (0, .ref 1), (1, .int x1), (2, .int x2)] [.int (i 72), .int 5, .ref 24] i a36 q r (by rfl) ?_
      refine ko_iast3 mi_k31.1 (n := 6) (c := 6) (ax := (0, 0, 0, 0, 0)) (mi_k31.2 _ _ (by rfl)) (by rfl) (ksG24 _ _ _ _) (ksA24 _ _ _ _) (hJ36.I.2.1 24) rfl (od58 kod5) (od59 kod5) ?_
      intro a37 ea37 fa37
      have hJ37 := kG_a3 hJ36 24 rfl ea37 fa37 (kd_bd _)
      first | refine fo_goS mi_k31 fz31_98_2_102 [.ref (r 0)] (by rfl) ?_ | refine ft_go mi_k31 2 102 [(3, .int (((5 * ((a 3).getD x1.toNatClampNeg 0)) + ((a 4).getD x1.toNatClampNeg 0)) - (2 * ((a 6).getD x1.toNatClampNeg 0)))), (0, .ref 1), (1, .int x1), (2, .int x2)] [.ref (r 0)] i a37 q r (by rfl) ?_
      refine ko_eq (x1 := (102, [(3, .int (((5 * ((a 3).getD x1.toNatClampNeg 0)) + ((a 4).getD x1.toNatClampNeg 0)) - (2 * ((a 6).getD x1.toNatClampNeg 0)))), (0, .ref 1), (1, .int x1), (2, .int x2)], [.ref 100], (0, 0), ks i a37 q r)) (by rw [eRr_0]) ?_
      have qn38 : a37 24 = [((a 3).getD x1.toNatClampNeg 0), x2, ((a33 4).getD x1.toNatClampNeg 0), (i 73), ((a35 6).getD x1.toNatClampNeg 0), (i 72)] := by rw [ea37, ea36, ea35, ea34, ea33, ea32]; exact kNames ((congrArg List.length (rfl)).trans (hG.I.2.1 24))
      first | refine fo_goS mi_k31 fz31_102_2_106 [.ref 24, .ref 100] (by rfl) ?_ | refine ft_go mi_k31 2 106 [(3, .int (((5 * ((a 3).getD x1.toNatClampNeg 0)) + ((a 4).getD x1.toNatClampNeg 0)) - (2 * ((a 6).getD x1.toNatClampNeg 0)))), (0, .ref 1), (1, .int x1), (2, .int x2)] [.ref 24, .ref 100] i a37 q r (by rfl) ?_
      refine ko_callI mi_k31.1 (pc := 106) (ls := [(3, .int (((5 * ((a 3).getD x1.toNatClampNeg 0)) + ((a 4).getD x1.toNatClampNeg 0)) - (2 * ((a 6).getD x1.toNatClampNeg 0)))), (0, .ref 1), (1, .int x1), (2, .int x2)]) (st := [.ref 24, .ref 100]) (h := ks i a37 q r) (i := (.invokevirtual 126, 3, 21, 0, 9, 0, 224)) (mi_k31.2 _ _ (by rfl)) (ft_invS mi_pq21 (by rfl)) (cy := mi_c21) mi_pq21 rfl (ke21_100_24 hJ37.I hJ37.R ) (by decide) ?_
      intro vg39 ig39 ag39 qg39 rg39 kg39 hg39
      have hGg39 := kG_call hJ37 kg39 (by decide +kernel)
      have eRrg39_0 : rg39 0 = 100 := (kg39.fr 0 rfl).trans eRr_0
      have eRrg39_2 : rg39 2 = 10 := (kg39.fr 2 rfl).trans eRr_2
      obtain ⟨hg39, og39⟩ := hg39
      have q40 : vg39 = lRun (a37 101) (a37 102) (a37 24) (i 6403) 121 0 (a37 103, 0) := og39
      first | refine fo_goS mi_k31 fz31_32_4_114 [.int vg39, .int 99, .int 0] (by rfl) ?_ | refine fo_goL mi_k31 fz31_109_4_114 [(3, .int vg39), (0, .ref 1), (1, .int x1), (2, .int x2)] [.int vg39, .int 99, .int 0] (by rfl) ?_ | refine ft_go mi_k31 4 114 [(3, .int vg39), (0, .ref 1), (1, .int x1), (2, .int x2)] [.int vg39, .int 99, .int 0] ig39 ag39 qg39 rg39 (by rfl) ?_
      have m42 : (((bif decide (vg39 < 99) then vg39 else 99).toInt ≤ (99 : Int32).toInt) ∧ ((bif decide (vg39 < 99) then vg39 else 99).toInt ≤ vg39.toInt)) ∧ ((bif decide (vg39 < 99) then vg39 else 99).toInt = (99 : Int32).toInt ∨ (bif decide (vg39 < 99) then vg39 else 99).toInt = vg39.toInt) := kd_min
      first | refine ft_goS mi_k31 1 117 [.int (bif decide (vg39 < 99) then vg39 else 99), .int 0] (by rfl) ?_ | refine ft_go mi_k31 1 117 [(3, .int vg39), (0, .ref 1), (1, .int x1), (2, .int x2)] [.int (bif decide (vg39 < 99) then vg39 else 99), .int 0] ig39 ag39 qg39 rg39 (by rfl) ?_
      generalize hm41 : (bif decide (vg39 < 99) then vg39 else 99) = m41 at m42 ⊢
      have qm41 := hm41.symm
      have m44 : (((0 : Int32).toInt ≤ (bif decide (0 < m41) then m41 else 0).toInt) ∧ (m41.toInt ≤ (bif decide (0 < m41) then m41 else 0).toInt)) ∧ ((bif decide (0 < m41) then m41 else 0).toInt = (0 : Int32).toInt ∨ (bif decide (0 < m41) then m41 else 0).toInt = m41.toInt) := kd_max
      first | refine ft_goS mi_k31 1 120 [.int (bif decide (0 < m41) then m41 else 0)] (by rfl) ?_ | refine ft_go mi_k31 1 120 [(3, .int vg39), (0, .ref 1), (1, .int x1), (2, .int x2)] [.int (bif decide (0 < m41) then m41 else 0)] ig39 ag39 qg39 rg39 (by rfl) ?_
      generalize hm43 : (bif decide (0 < m41) then m41 else 0) = m43 at m44 ⊢
      have qm43 := hm43.symm
      exact ft_ret mi_k31 (by rfl) (hP m43 _ _ _ _ hGg39 ⟨trivial, (show m43 = cBuyV (i (64 * r 0)) (a (r 0 + 1)) (a (r 0 + 2)) (a (r 0 + 3)) (i (64 * r 0 + 3)) ((a 3).getD x1.toNatClampNeg 0) x2 ((a 4).getD x1.toNatClampNeg 0) (i 73) ((a 6).getD x1.toNatClampNeg 0) (i 72) from (by rw [eRr_0]; unfold cBuyV; rw [if_neg (od60 c31 fi_6400.1 kod0)]; first | rfl | (simp only [qm43, qm41, q40, fa37 101 (by decide), fa37 102 (by decide), qn38, fa37 103 (by decide), fa36 103 (by decide), fa35 103 (by decide), fa34 103 (by decide), fa33 103 (by decide), fa32 103 (by decide), fa33 4 (by decide), fa35 6 (by decide), fa34 6 (by decide), fa33 6 (by decide), fa32 6 (by decide), fa32 4 (by decide), fa36 102 (by decide), fa35 102 (by decide), fa34 102 (by decide), fa33 102 (by decide), fa32 102 (by decide), fa36 101 (by decide), fa35 101 (by decide), fa34 101 (by decide), fa33 101 (by decide), fa32 101 (by decide), sMn, sMx]; rfl)))⟩)
end
section
theorem oe57 {a0 a1 a2 : Int} (h0 : a0 = a1) (h1 : a2 = a0) (h2 : (0 : Int) ≤ a2) (h3 : a1 = 0) : a2 = 0 := by omega
def yw86_0 : kW := ([640, 643, 6273, 6274, 6275, 6400, 6403], [11, 12, 101, 102], [], [0, 2])
def yw159_116 : kW := ([7429, 7431, 7432, 7437, 7438, 7439, 7440], [120, 121, 122, 123, 124, 125, 126, 127], [], [])
end
section
/-! THE TAPE OF CLASS AND REFERENCE -/
def kTap (i : Nat → Int32) (a : Nat → List Int32) : Prop := (i 6273).toInt = (i 7429).toInt ∧ a 99 = a 119
def kFrT (w : kW) : Bool := !kM w.1 6273 && (!kM w.1 7429 && (!kM w.2.1 99 && !kM w.2.1 119))
theorem kTap_fr {w : kW} {i i1 : Nat → Int32} {a a1 : Nat → List Int32} {q q1 : Nat → List Int64} {r r1 : Nat → Nat} (g : kG w i a q r i1 a1 q1 r1) (f : kFrT w = true) (h : kTap i a) : kTap i1 a1 := by
  unfold kFrT at f
  simp only [Bool.and_eq_true, Bool.not_eq_true'] at f
  obtain ⟨f1, f2, f3, f4⟩ := f
  exact ⟨by rw [g.fi _ f1, g.fi _ f2]; exact h.1, by rw [g.fa _ f3, g.fa _ f4]; exact h.2⟩
theorem st_feed {i i1 i2 : Nat → Int32} {a a1 a2 : Nat → List Int32} {q q1 q2 : Nat → List Int64} {r r1 r2 : Nat → Nat} {v w x1 : Int32} (h : kTap i a) (g1 : kG yw85_0 i a q r i1 a1 q1 r1) (P1 : (((v.toInt = (-1)) ∧ (¬ (((0 : Int) ≤ x1.toInt) ∧ (x1.toInt ≤ 255))) ∧ ((i1 6273).toInt = (i 6273).toInt)) ∨ (((0 : Int) ≤ x1.toInt) ∧ (x1.toInt ≤ 255) ∧ (((v.toInt = (-3)) ∧ ((120 : Int) ≤ (i 6273).toInt) ∧ ((i1 6273).toInt = (i 6273).toInt)) ∨ (((i 6273).toInt < 120) ∧ (v.toInt = ((i 6273).toInt + 1)) ∧ ((i1 6273).toInt = ((i 6273).toInt + 1)))))) ∧ ((((0 : Int) ≤ x1.toInt) ∧ (x1.toInt ≤ 255) ∧ ((i 6273).toInt < 120) → a1 99 = (a 99).set (i 6273).toNatClampNeg x1) ∧ (¬ (((0 : Int) ≤ x1.toInt) ∧ (x1.toInt ≤ 255) ∧ ((i 6273).toInt < 120)) → a1 99 = a 99))) (g2 : kG yw146_116 i1 a1 q1 r1 i2 a2 q2 r2) (P2 : (((w.toInt = (-1)) ∧ (¬ (((0 : Int) ≤ x1.toInt) ∧ (x1.toInt ≤ 255))) ∧ ((i2 7429).toInt = (i1 7429).toInt)) ∨ (((0 : Int) ≤ x1.toInt) ∧ (x1.toInt ≤ 255) ∧ (((w.toInt = (-3)) ∧ ((120 : Int) ≤ (i1 7429).toInt) ∧ ((i2 7429).toInt = (i1 7429).toInt)) ∨ (((i1 7429).toInt < 120) ∧ (w.toInt = ((i1 7429).toInt + 1)) ∧ ((i2 7429).toInt = ((i1 7429).toInt + 1)))))) ∧ ((((0 : Int) ≤ x1.toInt) ∧ (x1.toInt ≤ 255) ∧ ((i1 7429).toInt < 120) → a2 119 = (a1 119).set (i1 7429).toNatClampNeg x1) ∧ (¬ (((0 : Int) ≤ x1.toInt) ∧ (x1.toInt ≤ 255) ∧ ((i1 7429).toInt < 120)) → a2 119 = a1 119))) : kTap i2 a2 ∧ v = w := by
  obtain ⟨D, o1, o2⟩ := P1
  obtain ⟨D1, p1, p2⟩ := P2
  have e1 := h.1
  have e2 := g1.ti 7429 rfl
  have e3 := g2.ti 6273 rfl
  have b1 := g1.fa 119 rfl
  have b2 := g2.fa 99 rfl
  refine ⟨⟨by omega, ?_⟩, kj_v (by omega)⟩
  by_cases c : 0 ≤ x1.toInt ∧ x1.toInt ≤ 255 ∧ (i 6273).toInt < 120
  · have ei : i1 7429 = i 6273 := kj_v (by omega)
    rw [b2, o1 ⟨c.1, c.2.1, c.2.2⟩, p1 ⟨c.1, c.2.1, by omega⟩, b1, h.2, ei]
  · rw [b2, o2 (fun z => c ⟨z.1, z.2.1, z.2.2⟩), p2 (fun z => c ⟨z.1, z.2.1, by omega⟩), b1, h.2]
theorem st_tlaw {i i1 i2 : Nat → Int32} {a a1 a2 : Nat → List Int32} {q q1 q2 : Nat → List Int64} {r r1 r2 : Nat → Nat} (h : kTap i a) (g1 : kG yw86_0 i a q r i1 a1 q1 r1) (P1 : (i1 6273).toInt = 0) (g2 : kG yw159_116 i1 a1 q1 r1 i2 a2 q2 r2) (P2 : (i2 7429).toInt = 0) : kTap i2 a2 := by
  have e3 := g2.ti 6273 rfl
  refine ⟨by omega, ?_⟩
  rw [g2.fa 99 rfl, g2.fa 119 rfl, g1.fa 99 rfl, g1.fa 119 rfl]
  exact h.2
end
section
/-! LISTS COPIED ONE BY ONE -/
def kCopd (L S : List Int32) (b : Nat) (x : Int) : Prop := ∀ j : Nat, (j : Int) < x → L.getD (b + j) 0 = S.getD j 0
def kCopb (L S : List Int32) (b : Nat) (x : Int) : Prop := ∀ j : Nat, (j : Int) < x → L.getD j 0 = S.getD (b + j) 0
theorem kCopd_zero {L S : List Int32} {b : Nat} {z : Int32} (h : z.toInt = 0) : kCopd L S b z.toInt := fun j hj => by omega
theorem kCopb_zero {L S : List Int32} {b : Nat} {z : Int32} (h : z.toInt = 0) : kCopb L S b z.toInt := fun j hj => by omega
theorem kCopd_step {L0 L1 L2 S S1 : List Int32} {b n : Nat} {x x1 y z : Int32} (h : kCopd L0 S b x.toInt) (hl : L0.length = n) (h0 : 0 ≤ x.toInt) (h31 : x.toInt < 31) (hy : y.toInt = ((b : Nat) : Int) + x.toInt) (hz : z.toInt = x.toInt) (hn : y.toInt < (n : Int)) (h1 : x1.toInt = x.toInt + 1) (es : S1 = S) (e : L1 = L0.set y.toNatClampNeg (S1.getD z.toNatClampNeg 0)) (e2 : L2 = L1) : kCopd L2 S b x1.toInt := by
  have ty := Int32.toNat_toInt y
  have tz := Int32.toNat_toInt z
  subst e2
  subst es
  subst e
  intro j hj
  rw [kset_gI (by omega)]
  by_cases c : b + j = y.toNatClampNeg
  · rw [if_pos c, show z.toNatClampNeg = j by omega]
  · rw [if_neg c]; exact h j (by omega)
theorem kCopb_step {L0 L1 L2 S S1 : List Int32} {b n : Nat} {x x1 y z : Int32} (h : kCopb L0 S b x.toInt) (hl : L0.length = n) (h0 : 0 ≤ x.toInt) (h31 : x.toInt < 31) (hy : y.toInt = ((b : Nat) : Int) + x.toInt) (hz : z.toInt = x.toInt) (hn : z.toInt < (n : Int)) (h1 : x1.toInt = x.toInt + 1) (es : S1 = S) (e : L1 = L0.set z.toNatClampNeg (S1.getD y.toNatClampNeg 0)) (e2 : L2 = L1) : kCopb L2 S b x1.toInt := by
  have ty := Int32.toNat_toInt y
  have tz := Int32.toNat_toInt z
  subst e2
  subst es
  subst e
  intro j hj
  rw [kset_gI (by omega)]
  by_cases c : j = z.toNatClampNeg
  · rw [if_pos c, show y.toNatClampNeg = b + j by omega]
  · rw [if_neg c]; exact h j (by omega)
theorem kList31 {l m : List Int32} (hl : l.length = 31) (hm : m.length = 31) (h : ∀ j : Nat, j < 31 → l.getD j 0 = m.getD j 0) : l = m := by
  refine List.ext_getElem (hl.trans hm.symm) (fun j h1 h2 => ?_)
  have := h j (by omega)
  rw [List.getD_eq_getElem?_getD, List.getD_eq_getElem?_getD, List.getElem?_eq_getElem h1, List.getElem?_eq_getElem h2] at this
  exact this
theorem kCopd_end {L S : List Int32} {x : Int} (h : kCopd L S 0 x) (hl : L.length = 31) (hs : S.length = 31) (hx : 31 ≤ x) : L = S := kList31 hl hs (fun j hj => by have := h j (by omega); rw [Nat.zero_add] at this; exact this)
theorem kCopb_end {L S : List Int32} {x : Int} (h : kCopb L S 0 x) (hl : L.length = 31) (hs : S.length = 31) (hx : 31 ≤ x) : L = S := kList31 hl hs (fun j hj => by have := h j (by omega); rw [Nat.zero_add] at this; exact this)
end
section
theorem kof0 : (0 : Int32).toInt = 0 := by decide
theorem kof1 : (1 : Int32).toInt = 1 := by decide
theorem kof10 : (10 : Int32).toInt = 10 := by decide
theorem kof6 : (6 : Int32).toInt = 6 := by decide
theorem kof31 : (31 : Int32).toInt = 31 := by decide
theorem kof64 : (64 : Int32).toInt = 64 := by decide
theorem kof20 : (20 : Int32).toInt = 20 := by decide
theorem of0 {a0 a1 : Int} (h0 : a0 ≤ a1) (h1 : a0 = 31) : 31 ≤ a1 := by omega
theorem of1 {a0 a1 : Int} (h0 : a0 = 0) (h1 : (0 : Int) ≤ a1) : (-2147483648 : Int) ≤ a0 + a1 := oz226 h0 h1
theorem of2 {a0 a1 a2 : Int} (h0 : a0 < a1) (h1 : a2 = 0) (h2 : a1 = 31) : a2 + a0 ≤ 2147483647 := oz227 h0 h1 h2
theorem of3 {a0 : Int} (h0 : (0 : Int) ≤ a0) : (0 : Int) ≤ a0 := oz3 h0
theorem of4 {a0 a1 : Int} (h0 : a0 < a1) (h1 : a1 = 31) : a0 < 31 := oz228 h0 h1
theorem of5 {a0 a1 a2 : Int} (h0 : a0 = 0) (h1 : (0 : Int) ≤ a1) (h2 : a2 = a0 + a1) : (0 : Int) ≤ a2 := oz229 h0 h1 h2
theorem of6 {a0 a1 a2 a3 : Int} (h0 : a0 < a1) (h1 : a2 = 0) (h2 : a3 = a2 + a0) (h3 : a1 = 31) : a3 < 31 := oz230 h0 h1 h2 h3
theorem of7 {a0 a1 a2 a3 : Int} (h0 : a0 = 0) (h1 : (a1 = 18 → (0 : Int) ≤ a2 ∧ a2 ≤ 5)) (h2 : a3 = a0 + a1) : a3 = 18 → (0 : Int) ≤ a2 ∧ a2 ≤ 5 := oz231 h0 h1 h2
theorem of8 {a0 a1 a2 a3 : Int} (h0 : a0 = 0) (h1 : (19 ≤ a1 → a1 ≤ 24 → (0 : Int) ≤ a2 ∧ a2 ≤ 7)) (h2 : a3 = a0 + a1) : 19 ≤ a3 → a3 ≤ 24 → (0 : Int) ≤ a2 ∧ a2 ≤ 7 := oz232 h0 h1 h2
theorem of9 {a0 a1 : Int} (h0 : (0 : Int) ≤ a0) (h1 : a1 = 1) : (-2147483648 : Int) ≤ a0 + a1 := oz12 h0 h1
theorem of10 {a0 a1 a2 : Int} (h0 : a0 < a1) (h1 : a1 = 31) (h2 : a2 = 1) : a0 + a2 ≤ 2147483647 := oz233 h0 h1 h2
theorem of11 {a0 a1 a2 : Int} (h0 : (0 : Int) ≤ a0) (h1 : a1 = a0 + a2) (h2 : a2 = 1) : (0 : Int) ≤ a1 := oz14 h0 h1 h2
theorem of12 {a0 a1 a2 : Int} (h0 : a0 = 0) (h1 : a1 = a0 + a2) : a1 = ((0 : Nat) : Int) + a2 := by omega
theorem of13 {a0 : Int}  : a0 = a0 := oz34
theorem of14 {a0 a1 a2 : Int} (h0 : a0 = a1 + a2) (h1 : a2 = 1) : a0 = a1 + 1 := oz169 h0 h1
theorem of15 {a0 a1 a2 : Int} (h0 : a0 = a1 + a2) (h1 : a2 = 1) : (31 - a0) < (31 - a1) := oz234 h0 h1
theorem of16 {a0 a1 : Int} (h0 : a0 < a1) (h1 : a1 = 31) : (1 : Int) ≤ (31 - a0) := oz235 h0 h1
theorem of17 {a0 : Int} (h0 : a0 = 0) : (0 : Int) ≤ a0 := oz46 h0
theorem of18 {a0 a1 a2 a3 : Int} (h0 : a0 = 0) (h1 : (a1 = 18 → (0 : Int) ≤ a2 ∧ a2 ≤ 5)) (h2 : a1 = a0 + a3) : a3 = 18 → (0 : Int) ≤ a2 ∧ a2 ≤ 5 := oz383 h0 h1 h2
theorem of19 {a0 a1 a2 a3 : Int} (h0 : a0 = 0) (h1 : (19 ≤ a1 → a1 ≤ 24 → (0 : Int) ≤ a2 ∧ a2 ≤ 7)) (h2 : a1 = a0 + a3) : 19 ≤ a3 → a3 ≤ 24 → (0 : Int) ≤ a2 ∧ a2 ≤ 7 := oz384 h0 h1 h2
theorem of20 {a0 : Int} (h0 : a0 = 0) : a0 = 0 := oz236 h0
theorem of21 {a0 a1 : Int} (h0 : a0 < a1) (h1 : a1 = 64) : a0 < 64 := oz237 h0 h1
theorem of22 {a0 a1 a2 : Int} (h0 : a0 < a1) (h1 : a1 = 64) (h2 : a2 = 1) : a0 + a2 ≤ 2147483647 := oz238 h0 h1 h2
theorem of23 {a0 a1 a2 : Int} (h0 : a0 = a1 + a2) (h1 : a2 = 1) : (64 - a0) < (64 - a1) := oz239 h0 h1
theorem of24 {a0 a1 : Int} (h0 : a0 < a1) (h1 : a1 = 64) : (1 : Int) ≤ (64 - a0) := oz240 h0 h1
theorem of30 {a0 : Int} (h0 : a0 ≤ 5) : a0 < 6 := oz19 h0
theorem of34 {a0 : Int} (h0 : (0 : Int) ≤ a0) (h1 : a0 ≤ 5) : ((0 : Int) ≤ a0) ∧ (a0 ≤ 5) := oz35 h0 h1
theorem of59 {a0 : Int} (h0 : a0 ≤ 20) : a0 < 21 := oz222 h0
theorem of70 {a0 a1 : Int} (h0 : a0 ≤ a1) (h1 : a0 = 0) : (0 : Int) ≤ a1 := oz389 h0 h1
theorem of71 {a0 a1 : Int} (h0 : a0 < a1) (h1 : a1 ≤ 21) : a0 < 21 := oz241 h0 h1
theorem of72 {a0 : Int} (h0 : a0 ≤ 7) : a0 < 31 := oz65 h0
theorem of73 {a0 a1 : Int} (h0 : a0 < a1) (h1 : (0 : Int) ≤ a0) (h2 : a1 ≤ 60) : ((0 : Int) ≤ a0) ∧ (a0 ≤ 59) := oz506 h0 h1 h2
theorem of74 {a0 a1 a2 : Int} (h0 : a0 < a1) (h1 : a1 ≤ 60) (h2 : a2 = 1) : a0 + a2 ≤ 2147483647 := oz307 h0 h1 h2
theorem of75 {a0 a1 a2 : Int} (h0 : a0 = a1 + a2) (h1 : a2 = 1) : (60 - a0) < (60 - a1) := oz507 h0 h1
theorem of76 {a0 a1 : Int} (h0 : a0 < a1) (h1 : a1 ≤ 60) : (1 : Int) ≤ (60 - a0) := oz508 h0 h1
theorem of79 {a0 a1 a2 a3 : Int} (h0 : a0 = a1 + a2) (h1 : a2 = 1) : (a3 - a0) < (a3 - a1) := oz44 h0 h1
theorem of80 {a0 a1 : Int} (h0 : a0 < a1) : (1 : Int) ≤ (a1 - a0) := oz45 h0
theorem of100 {a0 : Int} (h0 : a0 ≤ 7) : a0 ≤ 7 := oz407 h0
theorem of115 {a0 a1 : Int} (h0 : a0 ≤ a1) : a0 ≤ a1 := oz173 h0
theorem of118 {a0 a1 : Int} (h0 : a0 ≤ 8) (h1 : (0 : Int) ≤ a1) (h2 : a1 < a0) : ((0 : Int) ≤ a1) ∧ (a1 ≤ 7) := oz423 h0 h1 h2
theorem of126 {a0 a1 a2 : Int} (h0 : a0 = a1) (h1 : (0 : Int) ≤ a2) (h2 : a1 = (a2 + 1)) : (1 : Int) ≤ a0 := oz429 h0 h1 h2
theorem of127 {a0 a1 a2 : Int} (h0 : a0 ≤ a1) (h1 : a1 ≤ 21) (h2 : a2 = 1) : a0 + a2 ≤ 2147483647 := oz430 h0 h1 h2
theorem of129 {a0 : Int} (h0 : a0 ≤ 19) : a0 ≤ 19 := oz432 h0
theorem of130 {a0 a1 a2 a3 : Int} (h0 : a0 = a1 + a2) (h1 : a2 = 1) : ((a3 + 1) - a0) < ((a3 + 1) - a1) := oz433 h0 h1
theorem of131 {a0 a1 : Int} (h0 : a0 ≤ a1) : (1 : Int) ≤ ((a1 + 1) - a0) := oz434 h0
theorem of132 {a0 a1 : Int} (h0 : a0 ≠ a1) (h1 : a0 ≤ 20) (h2 : a1 = 20) : a0 ≤ 19 := oz435 h0 h1 h2
theorem of133 {a0 a1 a2 : Int} (h0 : a0 ≤ a1) (h1 : (0 : Int) ≤ a0) (h2 : a1 = a2) : ((0 : Int) ≤ a0) ∧ (a0 ≤ a2) := oz436 h0 h1 h2
theorem of134 {a0 a1 : Int} (h0 : a0 = a1) (h1 : a0 ≤ 19) : a1 ≤ 20 := oz437 h0 h1
theorem of135 {a0 a1 a2 a3 a4 : Int} (h0 : a0 = a1) (h1 : a2 = a3) (h2 : a1 = (a3 + 1)) (h3 : a4 = (a0 - 1)) : a2 = a4 := oz438 h0 h1 h2 h3
theorem of137 {a0 : Int} (h0 : a0 ≤ 19) : a0 ≤ 20 := oz440 h0
theorem of138 {a0 a1 : Int} (h0 : a0 < a1) (h1 : a1 ≤ 8) (h2 : (0 : Int) ≤ a0) : ((0 : Int) ≤ a0) ∧ (a0 ≤ 7) := oz441 h0 h1 h2
theorem of139 {a0 a1 a2 : Int} (h0 : a0 < a1) (h1 : a1 ≤ 8) (h2 : a2 = 1) : a0 + a2 ≤ 2147483647 := oz442 h0 h1 h2
theorem of140 {a0 a1 a2 a3 : Int} (h0 : a0 = a1) (h1 : a2 ≤ 19) (h2 : a1 = (a2 + 1)) (h3 : a3 = (a0 - 1)) : a3 ≤ 19 := oz443 h0 h1 h2 h3
theorem of142 {a0 a1 a2 a3 a4 a5 a6 : Int} (h0 : a0 = a1) (h1 : a2 = a0) (h2 : a3 = a2) (h3 : a4 = a5 + a6) (h4 : a6 = 1) : (a3 - a4) < (a1 - a5) := oz445 h0 h1 h2 h3 h4
theorem of143 {a0 a1 a2 : Int} (h0 : a0 ≤ a1) (h1 : a1 ≤ a2) (h2 : a0 = 0) : ((0 : Int) ≤ a1) ∧ (a1 ≤ a2) := oz446 h0 h1 h2
theorem of144 {a0 a1 a2 a3 a4 : Int} (h0 : a0 = a1) (h1 : a2 ≤ a3) (h2 : a1 = (a3 + 1)) (h3 : a4 = (a0 - 1)) : a2 ≤ a4 := oz447 h0 h1 h2 h3
theorem of145 {a0 a1 : Int} (h0 : a0 ≤ 20) (h1 : a1 = 1) : a0 + a1 ≤ 2147483647 := oz448 h0 h1
theorem of149 {a0 a1 a2 a3 : Int} (h0 : a0 < a1) (h1 : a1 ≤ 21) (h2 : (0 : Int) ≤ a2) (h3 : a0 = a2 + a3) (h4 : a3 = 1) : ((0 : Int) ≤ a2) ∧ (a2 ≤ 19) := oz452 h0 h1 h2 h3 h4
theorem of150 {a0 a1 a2 a3 : Int} (h0 : a0 < a1) (h1 : a1 ≤ 21) (h2 : (0 : Int) ≤ a2) (h3 : a0 = a2 + a3) (h4 : a3 = 1) : ((0 : Int) ≤ a0) ∧ (a0 ≤ 20) := oz453 h0 h1 h2 h3 h4
theorem of151 {a0 a1 a2 a3 : Int} (h0 : a0 = a1) (h1 : a2 = a0) (h2 : a3 = a2) (h3 : a1 ≤ 20) : a3 ≤ 20 := oz454 h0 h1 h2 h3
theorem of152 {a0 a1 a2 a3 : Int} (h0 : a0 < a1) (h1 : a0 = a2 + a3) (h2 : a3 = 1) : (1 : Int) ≤ (a1 - a2) := oz455 h0 h1 h2
theorem of153 {a0 : Int} (h0 : a0 = 0) : ((0 : Int) ≤ a0) ∧ (a0 ≤ 20) := oz456 h0
theorem of154 {a0 a1 : Int} (h0 : a0 = a1) (h1 : a1 ≤ 20) : a0 ≤ 20 := oz457 h0 h1
theorem of160 {a0 : Int} (h0 : a0 = 0) : ((0 : Int) ≤ a0) ∧ (a0 ≤ 7) := oz463 h0
theorem of187 {a0 : Int} (h0 : (1 : Int) ≤ a0) : (0 : Int) ≤ a0 := oz489 h0
theorem of188 {a0 a1 : Int} (h0 : a0 < a1) (h1 : a1 ≤ 8) : a0 < 31 := oz490 h0 h1
theorem of189 {a0 a1 : Int} (h0 : (1 : Int) ≤ a0) (h1 : a1 = 1) : (-2147483648 : Int) ≤ a0 + a1 := oz491 h0 h1
theorem of190 {a0 : Int} (h0 : (0 : Int) ≤ a0) (h1 : a0 ≤ 7) : ((0 : Int) ≤ a0) ∧ (a0 ≤ 7) := oz181 h0 h1
theorem of191 {a0 a1 a2 : Int} (h0 : (1 : Int) ≤ a0) (h1 : a1 = a0 + a2) (h2 : a2 = 1) : (1 : Int) ≤ a1 := oz492 h0 h1 h2
theorem of192 {a0 a1 : Int} (h0 : a0 < a1) (h1 : a1 ≤ 8) (h2 : (1 : Int) ≤ a0) : ((0 : Int) ≤ a0) ∧ (a0 ≤ 7) := oz493 h0 h1 h2
theorem of193 {a0 : Int} (h0 : a0 = 1) : (1 : Int) ≤ a0 := oz494 h0
theorem of202 {a0 : Int} (h0 : (0 : Int) ≤ (a0 / 10)) (h1 : (a0 / 10) ≤ 5) : ((0 : Int) ≤ (a0 / 10)) ∧ ((a0 / 10) ≤ 5) := oz503 h0 h1
theorem of203 {a0 : Int} (h0 : (a0 % 10) ≤ 5) : (a0 % 10) ≤ 5 := oz504 h0
theorem of204 {a0 a1 : Int} (h0 : a0 = (a1 / 10)) (h1 : (0 : Int) ≤ a1) (h2 : (a1 / 10) ≤ 5) (h3 : (a1 % 10) ≤ 5) : ((0 : Int) ≤ a0) ∧ (a0 ≤ 5) := oz505 h0 h1 h2 h3
theorem of205 {a0 a1 : Int} (h0 : a0 = (a1 % 10)) (h1 : (a1 % 10) ≤ 5) : ((0 : Int) ≤ a0) ∧ (a0 ≤ 5) := oz509 h0 h1
theorem of206 {a0 a1 : Int} (h0 : a0 < a1) (h1 : a1 ≤ 8) : a0 ≤ 7 := oz512 h0 h1
theorem of207 {a0 a1 a2 a3 a4 : Int} (h0 : a0 = a1) (h1 : a2 = a3 + a4) (h2 : a4 = 1) : (a0 - a2) < (a1 - a3) := oz308 h0 h1 h2
theorem of208 {a0 a1 : Int} (h0 : a0 < a1) (h1 : a1 ≤ 8) : a0 ≤ 8 := oz513 h0 h1
theorem of221 {a0 : Int} (h0 : (1 : Int) ≤ a0) : (1 : Int) ≤ a0 := oz526 h0
theorem of222 {a0 : Int} (h0 : a0 ≤ 5) : a0 ≤ 5 := oz527 h0
theorem of223 {a0 a1 : Int} (h0 : a0 < a1) (h1 : a1 = 6) : a0 ≤ 5 := oz528 h0 h1
theorem of224 {a0 a1 a2 : Int} (h0 : a0 < a1) (h1 : a1 = 6) (h2 : a2 = 1) : a0 + a2 ≤ 2147483647 := oz529 h0 h1 h2
theorem of225 {a0 a1 a2 : Int} (h0 : a0 = a1 + a2) (h1 : a2 = 1) : (6 - a0) < (6 - a1) := oz530 h0 h1
theorem of226 {a0 a1 : Int} (h0 : a0 < a1) (h1 : a1 = 6) : (1 : Int) ≤ (6 - a0) := oz531 h0 h1
theorem of227 {a0 a1 : Int} (h0 : a0 < a1) (h1 : a1 = 6) : a0 ≤ 8 := oz532 h0 h1
def yw168_116_139 : kW := ([], [139], [], [])
def yw168_116_139_L2 : kW := ([], [139], [], [])
set_option maxRecDepth 100000 in
theorem ke168_116_139 {i : Nat → Int32} {a : Nat → List Int32} {q : Nat → List Int64} {r : Nat → Nat} (hI : kI i a q) (hr : kr r) (x2 : Int32) (hp0 : x2.toInt = 0) : km 1 168 [.ref 116, .ref 139, .int x2] (ks i a q r) (kVN yw168_116_139 i a q r (fun i1 a1 q1 r1 => (True) ∧ a1 139 = a 118)) := by
  have hG := kG_self yw168_116_139 hI hr
  refine km_ofN (q := (mi_h168, mi_c168)) rfl (by decide) (Nat.le_of_ble_eq_true rfl) ?_
  intro P hP
  first | refine fo_goL mi_k168 fz168_0_2_2 [(3, .int 0), (0, .ref 116), (1, .ref 139), (2, .int x2)] [] (by rfl) ?_ | refine fo_goL mi_k168 fz168_19_2_2 [(3, .int 0), (0, .ref 116), (1, .ref 139), (2, .int x2)] [] (by rfl) ?_ | refine ft_go mi_k168 2 2 [(3, .int 0), (0, .ref 116), (1, .ref 139), (2, .int x2)] [] i a q r (by rfl) ?_
  have lp1 : ∀ (nz : Nat) (i1 : Nat → Int32) (a1 : Nat → List Int32) (q1 : Nat → List Int64) (r1 : Nat → Nat) (l3_1 : Int32), kG yw168_116_139_L2 i a q r i1 a1 q1 r1 → (0 : Int) ≤ l3_1.toInt → kCopd (a1 139) (a 118) 0 l3_1.toInt → ((31 - l3_1.toInt)).toNat < nz → ko 1 (mi_h168, mi_c168) P (2, [(3, .int l3_1), (0, .ref 116), (1, .ref 139), (2, .int x2)], [], (0, 0), ks i1 a1 q1 r1) := by
    intro nz
    induction nz with
    | zero =>
      intro _ _ _ _ _ _ _ _ hm
      exact absurd hm (Nat.not_lt_zero _)
    | succ nz ih1 =>
      intro i1 a1 q1 r1 l3_1 hL1 p1_0 O1_0 hm1
      first | refine fo_goL mi_k168 fz168_2_2_5 [(3, .int l3_1), (0, .ref 116), (1, .ref 139), (2, .int x2)] [.int 31, .int l3_1] (by rfl) ?_ | refine ft_go mi_k168 2 5 [(3, .int l3_1), (0, .ref 116), (1, .ref 139), (2, .int x2)] [.int 31, .int l3_1] i1 a1 q1 r1 (by rfl) ?_
      refine ft_ifS mi_k168 (decide (31 ≤ l3_1)) 25 8 [] (by rfl) (fun c => ?_) (fun c => ?_)
      ·
        have c2 : (31 : Int32).toInt ≤ l3_1.toInt := kd_le c; clear c
        have hG3 := kG_call hG hL1 (by decide +kernel)
        exact ft_ret mi_k168 (by rfl) (hP  _ _ _ _ hG3 ⟨trivial, (show a1 139 = a 118 from (kCopd_end O1_0 (hG3.I.2.1 139) (hG.I.2.1 118) (of0 c2 kof31)))⟩)
      ·
        have c4 : l3_1.toInt < (31 : Int32).toInt := kd_leF c; clear c
        have s5 : (x2 + l3_1).toInt = x2.toInt + l3_1.toInt := kd_add (of1 hp0 p1_0) (of2 c4 hp0 kof31)
        first | refine fo_goS mi_k168 fz168_8_7_17 [.int l3_1, .ref 118, .int (x2 + l3_1), .ref 139] (by rfl) ?_ | refine ft_go mi_k168 7 17 [(3, .int l3_1), (0, .ref 116), (1, .ref 139), (2, .int x2)] [.int l3_1, .ref 118, .int (x2 + l3_1), .ref 139] i1 a1 q1 r1 (by rfl) ?_
        refine ko_iald3 mi_k168.1 (n := 31) (c := 31) (ax := (0, 0, 0, 0, 0)) (mi_k168.2 _ _ (by rfl)) (by rfl) (ksG118 _ _ _ _) (hL1.I.2.1 118) rfl (of3 p1_0) (of4 c4 kof31) ?_
        have r6 : ((l3_1.toInt = 18 → (0 : Int) ≤ ((a1 118).getD l3_1.toNatClampNeg 0).toInt ∧ ((a1 118).getD l3_1.toNatClampNeg 0).toInt ≤ 5)) ∧ ((19 ≤ l3_1.toInt → l3_1.toInt ≤ 24 → (0 : Int) ≤ ((a1 118).getD l3_1.toNatClampNeg 0).toInt ∧ ((a1 118).getD l3_1.toNatClampNeg 0).toInt ≤ 7)) := kE_ncond (p := 118) hL1.I (by decide) (j := l3_1) (of3 p1_0)
        have u7 : ((a1 118).getD l3_1.toNatClampNeg 0).toInt = ((a 118).getD l3_1.toNatClampNeg 0).toInt := congrArg (fun z : List Int32 => (z.getD l3_1.toNatClampNeg 0).toInt) (hL1.fa 118 rfl)
        refine ko_iast3 mi_k168.1 (n := 31) (c := 31) (ax := (0, 0, 0, 0, 0)) (mi_k168.2 _ _ (by rfl)) (by rfl) (ksG139 _ _ _ _) (ksA139 _ _ _ _) (hL1.I.2.1 139) rfl (of5 hp0 p1_0 s5) (of6 c4 hp0 s5 kof31) ?_
        intro a8 ea8 fa8
        have hJ8 := kG_a3 hL1 139 rfl ea8 fa8 (kE_nset (p := 139) (by decide) (of5 hp0 p1_0 s5) (of7 hp0 r6.1 s5) (of8 hp0 r6.2 s5))
        have s9 : (l3_1 + 1).toInt = l3_1.toInt + (1 : Int32).toInt := kd_add (of9 p1_0 kof1) (of10 c4 kof31 kof1)
        first | refine fo_goL mi_k168 fz168_0_2_2 [(3, .int (l3_1 + 1)), (0, .ref 116), (1, .ref 139), (2, .int x2)] [] (by rfl) ?_ | refine fo_goL mi_k168 fz168_19_2_2 [(3, .int (l3_1 + 1)), (0, .ref 116), (1, .ref 139), (2, .int x2)] [] (by rfl) ?_ | refine ft_go mi_k168 2 2 [(3, .int (l3_1 + 1)), (0, .ref 116), (1, .ref 139), (2, .int x2)] [] i1 a8 q1 r1 (by rfl) ?_
        exact ih1 _ _ _ _ _ hJ8 (of11 p1_0 s9 kof1) (kCopd_step O1_0 (hL1.I.2.1 139) (of3 p1_0) (of4 c4 kof31) (of12 hp0 s5) of13 (of6 c4 hp0 s5 kof31) (of14 s9 kof1) (hL1.fa 118 rfl) ea8 rfl) (kj_meas (of15 s9 kof1) (of16 c4 kof31) hm1)
  exact lp1 _ _ _ _ _ _ (kG_self _ hG.I hG.R) (of17 kof0) (kCopd_zero kof0) (Nat.lt_succ_self _)
def yw169_116_139 : kW := ([], [118], [], [])
def yw169_116_139_L2 : kW := ([], [118], [], [])
set_option maxRecDepth 100000 in
theorem ke169_116_139 {i : Nat → Int32} {a : Nat → List Int32} {q : Nat → List Int64} {r : Nat → Nat} (hI : kI i a q) (hr : kr r) (x2 : Int32) (hp0 : x2.toInt = 0) : km 1 169 [.ref 116, .ref 139, .int x2] (ks i a q r) (kVN yw169_116_139 i a q r (fun i1 a1 q1 r1 => (True) ∧ a1 118 = a 139)) := by
  have hG := kG_self yw169_116_139 hI hr
  refine km_ofN (q := (mi_h169, mi_c169)) rfl (by decide) (Nat.le_of_ble_eq_true rfl) ?_
  intro P hP
  first | refine fo_goL mi_k169 fz169_0_2_2 [(3, .int 0), (0, .ref 116), (1, .ref 139), (2, .int x2)] [] (by rfl) ?_ | refine fo_goL mi_k169 fz169_19_2_2 [(3, .int 0), (0, .ref 116), (1, .ref 139), (2, .int x2)] [] (by rfl) ?_ | refine ft_go mi_k169 2 2 [(3, .int 0), (0, .ref 116), (1, .ref 139), (2, .int x2)] [] i a q r (by rfl) ?_
  have lp1 : ∀ (nz : Nat) (i1 : Nat → Int32) (a1 : Nat → List Int32) (q1 : Nat → List Int64) (r1 : Nat → Nat) (l3_1 : Int32), kG yw169_116_139_L2 i a q r i1 a1 q1 r1 → (0 : Int) ≤ l3_1.toInt → kCopb (a1 118) (a 139) 0 l3_1.toInt → ((31 - l3_1.toInt)).toNat < nz → ko 1 (mi_h169, mi_c169) P (2, [(3, .int l3_1), (0, .ref 116), (1, .ref 139), (2, .int x2)], [], (0, 0), ks i1 a1 q1 r1) := by
    intro nz
    induction nz with
    | zero =>
      intro _ _ _ _ _ _ _ _ hm
      exact absurd hm (Nat.not_lt_zero _)
    | succ nz ih1 =>
      intro i1 a1 q1 r1 l3_1 hL1 p1_0 O1_0 hm1
      first | refine ft_goL mi_k169 2 5 [(3, .int l3_1), (0, .ref 116), (1, .ref 139), (2, .int x2)] [.int 31, .int l3_1] (by rfl) ?_ | refine ft_go mi_k169 2 5 [(3, .int l3_1), (0, .ref 116), (1, .ref 139), (2, .int x2)] [.int 31, .int l3_1] i1 a1 q1 r1 (by rfl) ?_
      refine ft_ifS mi_k169 (decide (31 ≤ l3_1)) 25 8 [] (by rfl) (fun c => ?_) (fun c => ?_)
      ·
        have c2 : (31 : Int32).toInt ≤ l3_1.toInt := kd_le c; clear c
        have hG3 := kG_call hG hL1 (by decide +kernel)
        exact ft_ret mi_k169 (by rfl) (hP  _ _ _ _ hG3 ⟨trivial, (show a1 118 = a 139 from (kCopb_end O1_0 (hG3.I.2.1 118) (hG.I.2.1 139) (of0 c2 kof31)))⟩)
      ·
        have c4 : l3_1.toInt < (31 : Int32).toInt := kd_leF c; clear c
        have s5 : (x2 + l3_1).toInt = x2.toInt + l3_1.toInt := kd_add (of1 hp0 p1_0) (of2 c4 hp0 kof31)
        first | refine fo_goS mi_k169 fz169_8_7_17 [.int (x2 + l3_1), .ref 139, .int l3_1, .ref 118] (by rfl) ?_ | refine ft_go mi_k169 7 17 [(3, .int l3_1), (0, .ref 116), (1, .ref 139), (2, .int x2)] [.int (x2 + l3_1), .ref 139, .int l3_1, .ref 118] i1 a1 q1 r1 (by rfl) ?_
        refine ko_iald3 mi_k169.1 (n := 31) (c := 31) (ax := (0, 0, 0, 0, 0)) (mi_k169.2 _ _ (by rfl)) (by rfl) (ksG139 _ _ _ _) (hL1.I.2.1 139) rfl (of5 hp0 p1_0 s5) (of6 c4 hp0 s5 kof31) ?_
        have r6 : (((x2 + l3_1).toInt = 18 → (0 : Int) ≤ ((a1 139).getD (x2 + l3_1).toNatClampNeg 0).toInt ∧ ((a1 139).getD (x2 + l3_1).toNatClampNeg 0).toInt ≤ 5)) ∧ ((19 ≤ (x2 + l3_1).toInt → (x2 + l3_1).toInt ≤ 24 → (0 : Int) ≤ ((a1 139).getD (x2 + l3_1).toNatClampNeg 0).toInt ∧ ((a1 139).getD (x2 + l3_1).toNatClampNeg 0).toInt ≤ 7)) := kE_ncond (p := 139) hL1.I (by decide) (j := (x2 + l3_1)) (of5 hp0 p1_0 s5)
        refine ko_iast3 mi_k169.1 (n := 31) (c := 31) (ax := (0, 0, 0, 0, 0)) (mi_k169.2 _ _ (by rfl)) (by rfl) (ksG118 _ _ _ _) (ksA118 _ _ _ _) (hL1.I.2.1 118) rfl (of3 p1_0) (of4 c4 kof31) ?_
        intro a7 ea7 fa7
        have hJ7 := kG_a3 hL1 118 rfl ea7 fa7 (kE_nset (p := 118) (by decide) (of3 p1_0) (of18 hp0 r6.1 s5) (of19 hp0 r6.2 s5))
        have s8 : (l3_1 + 1).toInt = l3_1.toInt + (1 : Int32).toInt := kd_add (of9 p1_0 kof1) (of10 c4 kof31 kof1)
        first | refine fo_goL mi_k169 fz169_0_2_2 [(3, .int (l3_1 + 1)), (0, .ref 116), (1, .ref 139), (2, .int x2)] [] (by rfl) ?_ | refine fo_goL mi_k169 fz169_19_2_2 [(3, .int (l3_1 + 1)), (0, .ref 116), (1, .ref 139), (2, .int x2)] [] (by rfl) ?_ | refine ft_go mi_k169 2 2 [(3, .int (l3_1 + 1)), (0, .ref 116), (1, .ref 139), (2, .int x2)] [] i1 a7 q1 r1 (by rfl) ?_
        exact ih1 _ _ _ _ _ hJ7 (of11 p1_0 s8 kof1) (kCopb_step O1_0 (hL1.I.2.1 118) (of3 p1_0) (of4 c4 kof31) (of12 hp0 s5) of13 (of4 c4 kof31) (of14 s8 kof1) (hL1.fa 139 rfl) ea7 rfl) (kj_meas (of15 s8 kof1) (of16 c4 kof31) hm1)
  exact lp1 _ _ _ _ _ _ (kG_self _ hG.I hG.R) (of17 kof0) (kCopb_zero kof0) (Nat.lt_succ_self _)
def yw171_116 : kW := ([7467], [139, 141], [], [])
def yw171_116_L16 : kW := ([], [141], [], [])
set_option maxRecDepth 100000 in
theorem ke171_116 {i : Nat → Int32} {a : Nat → List Int32} {q : Nat → List Int64} {r : Nat → Nat} (hI : kI i a q) (hr : kr r)  : km 3 171 [.ref 116] (ks i a q r) (kVN yw171_116 i a q r (fun i1 a1 q1 r1 => (True) ∧ (a1 139 = a 118 ∧ a1 118 = a 118))) := by
  have hG := kG_self yw171_116 hI hr
  refine km_ofN (q := (mi_h171, mi_c171)) rfl (by decide) (Nat.le_of_ble_eq_true rfl) ?_
  intro P hP
  first | refine fo_goL mi_k171 fz171_0_4_6 [(0, .ref 116)] [.int 0, .ref 139, .ref 116] (by rfl) ?_ | refine ft_go mi_k171 4 6 [(0, .ref 116)] [.int 0, .ref 139, .ref 116] i a q r (by rfl) ?_
  refine ko_callN mi_k171.1 (pc := 6) (ls := [(0, .ref 116)]) (st := [.int 0, .ref 139, .ref 116]) (h := ks i a q r) (i := (.invokevirtual 263, 3, 168, 0, 9, 0, 413)) (mi_k171.2 _ _ (by rfl)) (ft_invS mi_pq168 (by rfl)) (cy := mi_c168) mi_pq168 rfl (ke168_116_139 hG.I hG.R 0 (of20 kof0)) (by decide) ?_
  intro ig1 ag1 qg1 rg1 kg1 hg1
  have hGg1 := kG_call hG kg1 (by decide +kernel)
  obtain ⟨hg1, og1⟩ := hg1
  have q2 : ag1 139 = a 118 := og1
  have hJ3 := kG_i hGg1 7467 rfl (v := 0) (kd_bd _)
  first | refine fo_go mi_k171 fz171_9_5_16 [(1, .int 0), (0, .ref 116)] [] (ku ig1 7467 0) ag1 qg1 rg1 (by rfl) ?_ | refine ft_goL mi_k171 5 16 [(1, .int 0), (0, .ref 116)] [] (by rfl) ?_ | refine ft_go mi_k171 5 16 [(1, .int 0), (0, .ref 116)] [] (ku ig1 7467 0) ag1 qg1 rg1 (by rfl) ?_
  have lp4 : ∀ (nz : Nat) (i4 : Nat → Int32) (a4 : Nat → List Int32) (q4 : Nat → List Int64) (r4 : Nat → Nat) (l1_4 : Int32), kG yw171_116_L16 (ku ig1 7467 0) ag1 qg1 rg1 i4 a4 q4 r4 → (0 : Int) ≤ l1_4.toInt → a4 139 = a 118 → a4 118 = a 118 → ((64 - l1_4.toInt)).toNat < nz → ko 3 (mi_h171, mi_c171) P (16, [(1, .int l1_4), (0, .ref 116)], [], (0, 0), ks i4 a4 q4 r4) := by
    intro nz
    induction nz with
    | zero =>
      intro _ _ _ _ _ _ _ _ _ hm
      exact absurd hm (Nat.not_lt_zero _)
    | succ nz ih4 =>
      intro i4 a4 q4 r4 l1_4 hL4 p4_0 O4_0 O4_1 hm4
      first | refine ft_goL mi_k171 2 19 [(1, .int l1_4), (0, .ref 116)] [.int 64, .int l1_4] (by rfl) ?_ | refine ft_go mi_k171 2 19 [(1, .int l1_4), (0, .ref 116)] [.int 64, .int l1_4] i4 a4 q4 r4 (by rfl) ?_
      refine ft_ifS mi_k171 (decide (64 ≤ l1_4)) 35 22 [] (by rfl) (fun c => ?_) (fun c => ?_)
      ·
        have c5 : (64 : Int32).toInt ≤ l1_4.toInt := kd_le c; clear c
        have hG6 := kG_call hJ3 hL4 (by decide +kernel)
        exact ft_ret mi_k171 (by rfl) (hP  _ _ _ _ hG6 ⟨trivial, ⟨(show a4 139 = a 118 from (by first | rfl | (simp only [O4_0, sMn, sMx]; done) | (simp only [O4_0, sMn, sMx]; rfl))), (show a4 118 = a 118 from (by first | rfl | (simp only [O4_1, sMn, sMx]; done) | (simp only [O4_1, sMn, sMx]; rfl)))⟩⟩)
      ·
        have c7 : l1_4.toInt < (64 : Int32).toInt := kd_leF c; clear c
        first | refine fo_goS mi_k171 fz171_22_4_28 [.int 0, .int l1_4, .ref 141] (by rfl) ?_ | refine ft_go mi_k171 4 28 [(1, .int l1_4), (0, .ref 116)] [.int 0, .int l1_4, .ref 141] i4 a4 q4 r4 (by rfl) ?_
        refine ko_iast3 mi_k171.1 (n := 64) (c := 64) (ax := (0, 0, 0, 0, 0)) (mi_k171.2 _ _ (by rfl)) (by rfl) (ksG141 _ _ _ _) (ksA141 _ _ _ _) (hL4.I.2.1 141) rfl (of3 p4_0) (of21 c7 kof64) ?_
        intro a8 ea8 fa8
        have hJ8 := kG_a3 hL4 141 rfl ea8 fa8 (kd_bd _)
        have s9 : (l1_4 + 1).toInt = l1_4.toInt + (1 : Int32).toInt := kd_add (of9 p4_0 kof1) (of22 c7 kof64 kof1)
        first | refine ft_goL mi_k171 2 16 [(1, .int (l1_4 + 1)), (0, .ref 116)] [] (by rfl) ?_ | refine ft_go mi_k171 2 16 [(1, .int (l1_4 + 1)), (0, .ref 116)] [] i4 a8 q4 r4 (by rfl) ?_
        exact ih4 _ _ _ _ _ hJ8 (of11 p4_0 s9 kof1) (by first | rfl | (simp only [fa8 139 (by decide), O4_0, sMn, sMx]; done) | (simp only [fa8 139 (by decide), O4_0, sMn, sMx]; rfl)) (by first | rfl | (simp only [fa8 118 (by decide), O4_1, sMn, sMx]; done) | (simp only [fa8 118 (by decide), O4_1, sMn, sMx]; rfl)) (kj_meas (of23 s9 kof1) (of24 c7 kof64) hm4)
  exact lp4 _ _ _ _ _ _ (kG_self _ hJ3.I hJ3.R) (of17 kof0) (by first | rfl | (simp only [q2, sMn, sMx]; done) | (simp only [q2, sMn, sMx]; rfl)) (by first | rfl | (simp only [kg1.fa 118 rfl, sMn, sMx]; done) | (simp only [kg1.fa 118 rfl, sMn, sMx]; rfl)) (Nat.lt_succ_self _)
def yw172_116 : kW := ([7464, 7465, 7466, 7467], [118, 128, 129, 139, 141, 143, 144, 145], [], [])
set_option maxRecDepth 100000 in
theorem ke172_116 {i : Nat → Int32} {a : Nat → List Int32} {q : Nat → List Int64} {r : Nat → Nat} (hI : kI i a q) (hr : kr r) (x1 : Int32) (hp0 : ((0 : Int) ≤ x1.toInt) ∧ (x1.toInt ≤ 7)) (hE_code : kCode i a) : km 13 172 [.ref 116, .int x1] (ks i a q r) (kVI yw172_116 i a q r (fun v i1 a1 q1 r1 => (True) ∧ a1 118 = a 118)) := by
  have hG := kG_self yw172_116 hI hr
  refine km_ofI (q := (mi_h172, mi_c172)) rfl (by decide) (Nat.le_of_ble_eq_true rfl) ?_
  intro P hP
  first | refine ft_goL mi_k172 1 1 [(0, .ref 116), (1, .int x1)] [.ref 116] (by rfl) ?_ | refine ft_go mi_k172 1 1 [(0, .ref 116), (1, .int x1)] [.ref 116] i a q r (by rfl) ?_
  refine ko_callN mi_k172.1 (pc := 1) (ls := [(0, .ref 116), (1, .int x1)]) (st := [.ref 116]) (h := ks i a q r) (i := (.invokevirtual 267, 3, 171, 0, 9, 0, 412)) (mi_k172.2 _ _ (by rfl)) (ft_invS mi_pq171 (by rfl)) (cy := mi_c171) mi_pq171 rfl (ke171_116 hG.I hG.R ) (by decide) ?_
  intro ig1 ag1 qg1 rg1 kg1 hg1
  have hGg1 := kG_call hG kg1 (by decide +kernel)
  obtain ⟨hg1, og1⟩ := hg1
  have q2 : ag1 139 = a 118 := og1.1
  have q3 : ag1 118 = a 118 := og1.2
  first | refine ft_goS mi_k172 1 5 [.ref 116] (by rfl) ?_ | refine ft_go mi_k172 1 5 [(0, .ref 116), (1, .int x1)] [.ref 116] ig1 ag1 qg1 rg1 (by rfl) ?_
  refine ko_callN mi_k172.1 (pc := 5) (ls := [(0, .ref 116), (1, .int x1)]) (st := [.ref 116]) (h := ks ig1 ag1 qg1 rg1) (i := (.invokevirtual 270, 3, 170, 0, 9, 0, 414)) (mi_k172.2 _ _ (by rfl)) (ft_invS mi_pq170 (by rfl)) (cy := mi_c170) mi_pq170 rfl (kc170_116 hGg1.I hGg1.R (kCode_of (i1 := ig1) hE_code (hGg1.fi 7432 rfl) (hGg1.fa 120 rfl) (hGg1.fa 121 rfl) (hGg1.fa 122 rfl) (hGg1.fa 123 rfl))) (by decide) ?_
  intro ig4 ag4 qg4 rg4 kg4 hg4
  have hGg4 := kG_call hGg1 kg4 (by decide +kernel)
  first | refine fo_goS mi_k172 fz172_8_3_13 [.int x1, .ref 118] (by rfl) ?_ | refine ft_go mi_k172 3 13 [(0, .ref 116), (1, .int x1)] [.int x1, .ref 118] ig4 ag4 qg4 rg4 (by rfl) ?_
  refine ko_iald3 mi_k172.1 (n := 31) (c := 31) (ax := (0, 0, 0, 0, 0)) (mi_k172.2 _ _ (by rfl)) (by rfl) (ksG118 _ _ _ _) (hGg4.I.2.1 118) rfl (of3 hp0.1) (of72 hp0.2) ?_
  have r5 : ((x1.toInt = 18 → (0 : Int) ≤ ((ag4 118).getD x1.toNatClampNeg 0).toInt ∧ ((ag4 118).getD x1.toNatClampNeg 0).toInt ≤ 5)) ∧ ((19 ≤ x1.toInt → x1.toInt ≤ 24 → (0 : Int) ≤ ((ag4 118).getD x1.toNatClampNeg 0).toInt ∧ ((ag4 118).getD x1.toNatClampNeg 0).toInt ≤ 7)) := kE_ncond (p := 118) hGg4.I (by decide) (j := x1) (of3 hp0.1)
  first | refine fo_goL mi_k172 fz172_14_5_21 [(2, .int ((ag4 118).getD x1.toNatClampNeg 0)), (0, .ref 116), (1, .int x1)] [.int 0, .ref 139, .ref 116] (by rfl) ?_ | refine ft_go mi_k172 5 21 [(2, .int ((ag4 118).getD x1.toNatClampNeg 0)), (0, .ref 116), (1, .int x1)] [.int 0, .ref 139, .ref 116] ig4 ag4 qg4 rg4 (by rfl) ?_
  refine ko_callN mi_k172.1 (pc := 21) (ls := [(2, .int ((ag4 118).getD x1.toNatClampNeg 0)), (0, .ref 116), (1, .int x1)]) (st := [.int 0, .ref 139, .ref 116]) (h := ks ig4 ag4 qg4 rg4) (i := (.invokevirtual 273, 3, 169, 0, 9, 0, 423)) (mi_k172.2 _ _ (by rfl)) (ft_invS mi_pq169 (by rfl)) (cy := mi_c169) mi_pq169 rfl (ke169_116_139 hGg4.I hGg4.R 0 (of20 kof0)) (by decide) ?_
  intro ig6 ag6 qg6 rg6 kg6 hg6
  have hGg6 := kG_call hGg4 kg6 (by decide +kernel)
  obtain ⟨hg6, og6⟩ := hg6
  have q7 : ag6 118 = ag4 139 := og6
  first | refine ft_goS mi_k172 1 25 [.int ((ag4 118).getD x1.toNatClampNeg 0)] (by rfl) ?_ | refine ft_go mi_k172 1 25 [(2, .int ((ag4 118).getD x1.toNatClampNeg 0)), (0, .ref 116), (1, .int x1)] [.int ((ag4 118).getD x1.toNatClampNeg 0)] ig6 ag6 qg6 rg6 (by rfl) ?_
  exact ft_ret mi_k172 (by rfl) (hP ((ag4 118).getD x1.toNatClampNeg 0) _ _ _ _ hGg6 ⟨trivial, (show ag6 118 = a 118 from (by first | rfl | (simp only [q7, kg4.fa 139 rfl, q2, sMn, sMx]; done) | (simp only [q7, kg4.fa 139 rfl, q2, sMn, sMx]; rfl)))⟩)
def yw192_116 : kW := ([7464, 7465, 7466, 7467], [118, 128, 129, 139, 141, 143, 144, 145], [], [])
set_option maxRecDepth 100000 in
theorem ke192_116 {i : Nat → Int32} {a : Nat → List Int32} {q : Nat → List Int64} {r : Nat → Nat} (hI : kI i a q) (hr : kr r) (x1 : Int32) (hp0 : ((0 : Int) ≤ x1.toInt) ∧ (x1.toInt ≤ 5)) (hE_code : kCode i a) : km 13 192 [.ref 116, .int x1] (ks i a q r) (kVI yw192_116 i a q r (fun v i1 a1 q1 r1 => (True) ∧ a1 118 = a 118)) := by
  have hG := kG_self yw192_116 hI hr
  refine km_ofI (q := (mi_h192, mi_c192)) rfl (by decide) (Nat.le_of_ble_eq_true rfl) ?_
  intro P hP
  first | refine ft_goL mi_k192 1 1 [(0, .ref 116), (1, .int x1)] [.ref 116] (by rfl) ?_ | refine ft_go mi_k192 1 1 [(0, .ref 116), (1, .int x1)] [.ref 116] i a q r (by rfl) ?_
  refine ko_callN mi_k192.1 (pc := 1) (ls := [(0, .ref 116), (1, .int x1)]) (st := [.ref 116]) (h := ks i a q r) (i := (.invokevirtual 267, 3, 171, 0, 9, 0, 412)) (mi_k192.2 _ _ (by rfl)) (ft_invS mi_pq171 (by rfl)) (cy := mi_c171) mi_pq171 rfl (ke171_116 hG.I hG.R ) (by decide) ?_
  intro ig1 ag1 qg1 rg1 kg1 hg1
  have hGg1 := kG_call hG kg1 (by decide +kernel)
  obtain ⟨hg1, og1⟩ := hg1
  have q2 : ag1 139 = a 118 := og1.1
  have q3 : ag1 118 = a 118 := og1.2
  first | refine ft_goS mi_k192 1 5 [.ref 116] (by rfl) ?_ | refine ft_go mi_k192 1 5 [(0, .ref 116), (1, .int x1)] [.ref 116] ig1 ag1 qg1 rg1 (by rfl) ?_
  refine ko_callN mi_k192.1 (pc := 5) (ls := [(0, .ref 116), (1, .int x1)]) (st := [.ref 116]) (h := ks ig1 ag1 qg1 rg1) (i := (.invokevirtual 270, 3, 170, 0, 9, 0, 414)) (mi_k192.2 _ _ (by rfl)) (ft_invS mi_pq170 (by rfl)) (cy := mi_c170) mi_pq170 rfl (kc170_116 hGg1.I hGg1.R (kCode_of (i1 := ig1) hE_code (hGg1.fi 7432 rfl) (hGg1.fa 120 rfl) (hGg1.fa 121 rfl) (hGg1.fa 122 rfl) (hGg1.fa 123 rfl))) (by decide) ?_
  intro ig4 ag4 qg4 rg4 kg4 hg4
  have hGg4 := kG_call hGg1 kg4 (by decide +kernel)
  first | refine ft_goS mi_k192 4 14 [.int 0, .ref 139, .ref 116] (by rfl) ?_ | refine ft_go mi_k192 4 14 [(0, .ref 116), (1, .int x1)] [.int 0, .ref 139, .ref 116] ig4 ag4 qg4 rg4 (by rfl) ?_
  refine ko_callN mi_k192.1 (pc := 14) (ls := [(0, .ref 116), (1, .int x1)]) (st := [.int 0, .ref 139, .ref 116]) (h := ks ig4 ag4 qg4 rg4) (i := (.invokevirtual 273, 3, 169, 0, 9, 0, 423)) (mi_k192.2 _ _ (by rfl)) (ft_invS mi_pq169 (by rfl)) (cy := mi_c169) mi_pq169 rfl (ke169_116_139 hGg4.I hGg4.R 0 (of20 kof0)) (by decide) ?_
  intro ig5 ag5 qg5 rg5 kg5 hg5
  have hGg5 := kG_call hGg4 kg5 (by decide +kernel)
  obtain ⟨hg5, og5⟩ := hg5
  have q6 : ag5 118 = ag4 139 := og5
  first | refine fo_goL mi_k192 fz192_17_2_19 [(2, .int 0), (0, .ref 116), (1, .int x1)] [] (by rfl) ?_ | refine fo_goL mi_k192 fz192_65_2_19 [(2, .int 0), (0, .ref 116), (1, .int x1)] [] (by rfl) ?_ | refine ft_go mi_k192 2 19 [(2, .int 0), (0, .ref 116), (1, .int x1)] [] ig5 ag5 qg5 rg5 (by rfl) ?_
  have lp7 : ∀ (nz : Nat) (l2_7 : Int32), (0 : Int) ≤ l2_7.toInt → ag5 118 = a 118 → ((60 - l2_7.toInt)).toNat < nz → ko 13 (mi_h192, mi_c192) P (19, [(2, .int l2_7), (0, .ref 116), (1, .int x1)], [], (0, 0), ks ig5 ag5 qg5 rg5) := by
    intro nz
    induction nz with
    | zero =>
      intro _ _ _ hm
      exact absurd hm (Nat.not_lt_zero _)
    | succ nz ih7 =>
      intro l2_7 p7_0 O7_0 hm7
      first | refine ft_goL mi_k192 4 25 [(2, .int l2_7), (0, .ref 116), (1, .int x1)] [.int x1, .ref 137, .int l2_7] (by rfl) ?_ | refine ft_go mi_k192 4 25 [(2, .int l2_7), (0, .ref 116), (1, .int x1)] [.int x1, .ref 137, .int l2_7] ig5 ag5 qg5 rg5 (by rfl) ?_
      refine ko_iald3 mi_k192.1 (n := 6) (c := 6) (ax := (0, 0, 0, 0, 0)) (mi_k192.2 _ _ (by rfl)) (by rfl) (ksG137 _ _ _ _) (hGg5.I.2.1 137) rfl (of3 hp0.1) (of30 hp0.2) ?_
      have r8 : ((0 : Int) ≤ ((ag5 137).getD x1.toNatClampNeg 0).toInt) ∧ (((ag5 137).getD x1.toNatClampNeg 0).toInt ≤ 60) := hGg5.I.2.2.1 137 (x1.toNatClampNeg)
      refine ft_ifS mi_k192 (decide (((ag5 137).getD x1.toNatClampNeg 0) ≤ l2_7)) 71 29 [] (by rfl) (fun c => ?_) (fun c => ?_)
      ·
        have c9 : ((ag5 137).getD x1.toNatClampNeg 0).toInt ≤ l2_7.toInt := kd_le c; clear c
        first | refine ft_goS mi_k192 1 73 [.int (-2)] (by rfl) ?_ | refine ft_go mi_k192 1 73 [(2, .int l2_7), (0, .ref 116), (1, .int x1)] [.int (-2)] ig5 ag5 qg5 rg5 (by rfl) ?_
        exact ft_ret mi_k192 (by rfl) (hP (-2) _ _ _ _ hGg5 ⟨trivial, (show ag5 118 = a 118 from (by first | rfl | (simp only [q6, kg4.fa 139 rfl, q2, sMn, sMx]; done) | (simp only [q6, kg4.fa 139 rfl, q2, sMn, sMx]; rfl)))⟩)
      ·
        have c10 : l2_7.toInt < ((ag5 137).getD x1.toNatClampNeg 0).toInt := kd_leF c; clear c
        have fig5_7469 : ((0 : Int) ≤ (ig5 7469).toInt) ∧ ((ig5 7469).toInt ≤ 21) := hGg5.I.1 7469
        first | refine ft_goS mi_k192 3 34 [.int (ig5 7469), .int l2_7] (by rfl) ?_ | refine ft_go mi_k192 3 34 [(2, .int l2_7), (0, .ref 116), (1, .int x1)] [.int (ig5 7469), .int l2_7] ig5 ag5 qg5 rg5 (by rfl) ?_
        refine ft_ifS mi_k192 (decide ((ig5 7469) ≤ l2_7)) 63 37 [] (by rfl) (fun c => ?_) (fun c => ?_)
        ·
          have c11 : (ig5 7469).toInt ≤ l2_7.toInt := kd_le c; clear c
          first | refine ft_goS mi_k192 1 64 [.int l2_7] (by rfl) ?_ | refine ft_go mi_k192 1 64 [(2, .int l2_7), (0, .ref 116), (1, .int x1)] [.int l2_7] ig5 ag5 qg5 rg5 (by rfl) ?_
          exact ft_ret mi_k192 (by rfl) (hP l2_7 _ _ _ _ hGg5 ⟨trivial, (show ag5 118 = a 118 from (by first | rfl | (simp only [q6, kg4.fa 139 rfl, q2, sMn, sMx]; done) | (simp only [q6, kg4.fa 139 rfl, q2, sMn, sMx]; rfl)))⟩)
        ·
          have c12 : l2_7.toInt < (ig5 7469).toInt := kd_leF c; clear c
          first | refine ft_goS mi_k192 3 40 [.int l2_7, .int x1, .ref 116] (by rfl) ?_ | refine ft_go mi_k192 3 40 [(2, .int l2_7), (0, .ref 116), (1, .int x1)] [.int l2_7, .int x1, .ref 116] ig5 ag5 qg5 rg5 (by rfl) ?_
          refine ko_callPI mi_k192.1 (pc := 40) (ls := [(2, .int l2_7), (0, .ref 116), (1, .int x1)]) (st := [.int l2_7, .int x1, .ref 116]) (h := ks ig5 ag5 qg5 rg5) (i := (.invokevirtual 133, 3, 137, 0, 9, 0, 384)) (mi_k192.2 _ _ (by rfl)) (ft_invS mi_pq137 (by rfl)) (cy := mi_c137) mi_pq137 rfl (kc137_116 hGg5.I hGg5.R x1 l2_7 (of34 hp0.1 hp0.2) (of73 c10 p7_0 r8.2)) (by decide) ?_
          intro vg13 hg13
          first | refine ft_goS mi_k192 1 45 [.int 9, .int vg13] (by rfl) ?_ | refine ft_go mi_k192 1 45 [(2, .int l2_7), (0, .ref 116), (1, .int x1)] [.int 9, .int vg13] ig5 ag5 qg5 rg5 (by rfl) ?_
          refine ft_ifS mi_k192 (vg13 == 9) 65 48 [] (by rfl) (fun c => ?_) (fun c => ?_)
          ·
            have c15 : vg13.toInt = (9 : Int32).toInt := kd_eq c; clear c
            have s16 : (l2_7 + 1).toInt = l2_7.toInt + (1 : Int32).toInt := kd_add (of9 p7_0 kof1) (of74 c10 r8.2 kof1)
            first | refine fo_goL mi_k192 fz192_17_2_19 [(2, .int (l2_7 + 1)), (0, .ref 116), (1, .int x1)] [] (by rfl) ?_ | refine fo_goL mi_k192 fz192_65_2_19 [(2, .int (l2_7 + 1)), (0, .ref 116), (1, .int x1)] [] (by rfl) ?_ | refine ft_go mi_k192 2 19 [(2, .int (l2_7 + 1)), (0, .ref 116), (1, .int x1)] [] ig5 ag5 qg5 rg5 (by rfl) ?_
            exact ih7 _ (of11 p7_0 s16 kof1) (by first | rfl | (simp only [q6, kg4.fa 139 rfl, q2, sMn, sMx]; done) | (simp only [q6, kg4.fa 139 rfl, q2, sMn, sMx]; rfl)) (kj_meas (of75 s16 kof1) (of76 c10 r8.2) hm7)
          ·
            have c17 : vg13.toInt ≠ (9 : Int32).toInt := kd_eqF c; clear c
            first | refine ft_goS mi_k192 3 51 [.int l2_7, .int x1, .ref 116] (by rfl) ?_ | refine ft_go mi_k192 3 51 [(2, .int l2_7), (0, .ref 116), (1, .int x1)] [.int l2_7, .int x1, .ref 116] ig5 ag5 qg5 rg5 (by rfl) ?_
            refine ko_callPI mi_k192.1 (pc := 51) (ls := [(2, .int l2_7), (0, .ref 116), (1, .int x1)]) (st := [.int l2_7, .int x1, .ref 116]) (h := ks ig5 ag5 qg5 rg5) (i := (.invokevirtual 133, 3, 137, 0, 9, 0, 384)) (mi_k192.2 _ _ (by rfl)) (ft_invS mi_pq137 (by rfl)) (cy := mi_c137) mi_pq137 rfl (kc137_116 hGg5.I hGg5.R x1 l2_7 (of34 hp0.1 hp0.2) (of73 c10 p7_0 r8.2)) (by decide) ?_
            intro vg18 hg18
            first | refine ft_goS mi_k192 3 59 [.int l2_7, .ref 143, .int vg18] (by rfl) ?_ | refine ft_go mi_k192 3 59 [(2, .int l2_7), (0, .ref 116), (1, .int x1)] [.int l2_7, .ref 143, .int vg18] ig5 ag5 qg5 rg5 (by rfl) ?_
            refine ko_iald3 mi_k192.1 (n := 21) (c := 21) (ax := (0, 0, 0, 0, 0)) (mi_k192.2 _ _ (by rfl)) (by rfl) (ksG143 _ _ _ _) (hGg5.I.2.1 143) rfl (of3 p7_0) (of71 c12 fig5_7469.2) ?_
            refine ft_ifS mi_k192 (vg18 == ((ag5 143).getD l2_7.toNatClampNeg 0)) 65 63 [] (by rfl) (fun c => ?_) (fun c => ?_)
            ·
              have c20 : vg18.toInt = ((ag5 143).getD l2_7.toNatClampNeg 0).toInt := kd_eq c; clear c
              have s21 : (l2_7 + 1).toInt = l2_7.toInt + (1 : Int32).toInt := kd_add (of9 p7_0 kof1) (of74 c10 r8.2 kof1)
              first | refine fo_goL mi_k192 fz192_17_2_19 [(2, .int (l2_7 + 1)), (0, .ref 116), (1, .int x1)] [] (by rfl) ?_ | refine fo_goL mi_k192 fz192_65_2_19 [(2, .int (l2_7 + 1)), (0, .ref 116), (1, .int x1)] [] (by rfl) ?_ | refine ft_go mi_k192 2 19 [(2, .int (l2_7 + 1)), (0, .ref 116), (1, .int x1)] [] ig5 ag5 qg5 rg5 (by rfl) ?_
              exact ih7 _ (of11 p7_0 s21 kof1) (by first | rfl | (simp only [q6, kg4.fa 139 rfl, q2, sMn, sMx]; done) | (simp only [q6, kg4.fa 139 rfl, q2, sMn, sMx]; rfl)) (kj_meas (of75 s21 kof1) (of76 c10 r8.2) hm7)
            ·
              have c22 : vg18.toInt ≠ ((ag5 143).getD l2_7.toNatClampNeg 0).toInt := kd_eqF c; clear c
              first | refine ft_goS mi_k192 1 64 [.int l2_7] (by rfl) ?_ | refine ft_go mi_k192 1 64 [(2, .int l2_7), (0, .ref 116), (1, .int x1)] [.int l2_7] ig5 ag5 qg5 rg5 (by rfl) ?_
              exact ft_ret mi_k192 (by rfl) (hP l2_7 _ _ _ _ hGg5 ⟨trivial, (show ag5 118 = a 118 from (by first | rfl | (simp only [q6, kg4.fa 139 rfl, q2, sMn, sMx]; done) | (simp only [q6, kg4.fa 139 rfl, q2, sMn, sMx]; rfl)))⟩)
  exact lp7 _ _ (of17 kof0) (by first | rfl | (simp only [q6, kg4.fa 139 rfl, q2, sMn, sMx]; done) | (simp only [q6, kg4.fa 139 rfl, q2, sMn, sMx]; rfl)) (Nat.lt_succ_self _)
def yw180_116 : kW := ([7464, 7465, 7466, 7467, 7469], [118, 128, 129, 139, 141, 142, 143, 144, 145], [], [])
def yw180_116_L73 : kW := ([7464, 7465, 7466, 7467, 7469], [118, 128, 129, 139, 141, 142, 143, 144, 145], [], [])
set_option maxRecDepth 100000 in
theorem ke180_116 {i : Nat → Int32} {a : Nat → List Int32} {q : Nat → List Int64} {r : Nat → Nat} (hI : kI i a q) (hr : kr r) (x1 : Int32) (x2 : Int32) (x3 : Int32) (hE_code : kCode i a) : km 15 180 [.ref 116, .int x1, .int x2, .int x3] (ks i a q r) (kVI yw180_116 i a q r (fun v i1 a1 q1 r1 => (True) ∧ a1 118 = a 118)) := by
  have hG := kG_self yw180_116 hI hr
  refine km_ofI (q := (mi_h180, mi_c180)) rfl (by decide) (Nat.le_of_ble_eq_true rfl) ?_
  intro P hP
  first | refine ft_goL mi_k180 1 1 [(0, .ref 116), (1, .int x1), (2, .int x2), (3, .int x3)] [.int x1] (by rfl) ?_ | refine ft_go mi_k180 1 1 [(0, .ref 116), (1, .int x1), (2, .int x2), (3, .int x3)] [.int x1] i a q r (by rfl) ?_
  refine ko_callPI mi_k180.1 (pc := 1) (ls := [(0, .ref 116), (1, .int x1), (2, .int x2), (3, .int x3)]) (st := [.int x1]) (h := ks i a q r) (i := (.invokestatic 127, 3, 133, 0, 9, 0, 382)) (mi_k180.2 _ _ (by rfl)) (ft_invS mi_pq133 (by rfl)) (cy := mi_c133) mi_pq133 rfl (kc133 hG.I hG.R x1) (by decide) ?_
  intro vg1 hg1
  rcases hg1 with ⟨eg1, hg1⟩ | ⟨eg1, hg1⟩
  ·
    subst eg1
    have z2 : ((0 : Int) ≤ x1.toInt) ∧ (x1.toInt ≤ 5) := hg1
    first | refine ft_goS mi_k180 3 9 [.int x2, .ref 116] (by rfl) ?_ | refine ft_go mi_k180 3 9 [(0, .ref 116), (1, .int x1), (2, .int x2), (3, .int x3)] [.int x2, .ref 116] i a q r (by rfl) ?_
    refine ko_callPI mi_k180.1 (pc := 9) (ls := [(0, .ref 116), (1, .int x1), (2, .int x2), (3, .int x3)]) (st := [.int x2, .ref 116]) (h := ks i a q r) (i := (.invokevirtual 137, 3, 132, 0, 9, 0, 387)) (mi_k180.2 _ _ (by rfl)) (ft_invS mi_pq132 (by rfl)) (cy := mi_c132) mi_pq132 rfl (kc132_116 hG.I hG.R x2) (by decide) ?_
    intro vg3 hg3
    rcases hg3 with ⟨eg3, hg3⟩ | ⟨eg3, hg3⟩
    ·
      subst eg3
      have fi_7424 : ((0 : Int) ≤ (i 7424).toInt) ∧ ((i 7424).toInt ≤ 8) := hG.I.1 7424
      have z4 : ((0 : Int) ≤ x2.toInt) ∧ (x2.toInt < (i 7424).toInt) := hg3
      first | refine ft_goS mi_k180 4 18 [.int 1, .int 0, .int x3] (by rfl) ?_ | refine ft_go mi_k180 4 18 [(0, .ref 116), (1, .int x1), (2, .int x2), (3, .int x3)] [.int 1, .int 0, .int x3] i a q r (by rfl) ?_
      refine ko_callPI mi_k180.1 (pc := 18) (ls := [(0, .ref 116), (1, .int x1), (2, .int x2), (3, .int x3)]) (st := [.int 1, .int 0, .int x3]) (h := ks i a q r) (i := (.invokestatic 119, 3, 131, 0, 9, 0, 379)) (mi_k180.2 _ _ (by rfl)) (ft_invS mi_pq131 (by rfl)) (cy := mi_c131) mi_pq131 rfl (kc131 hG.I hG.R x3 0 1) (by decide) ?_
      intro vg5 hg5
      rcases hg5 with ⟨eg5, hg5⟩ | ⟨eg5, hg5⟩
      ·
        subst eg5
        first | refine ft_goS mi_k180 3 28 [.int x1, .ref 116] (by rfl) ?_ | refine ft_go mi_k180 3 28 [(0, .ref 116), (1, .int x1), (2, .int x2), (3, .int x3)] [.int x1, .ref 116] i a q r (by rfl) ?_
        refine ko_callPI mi_k180.1 (pc := 28) (ls := [(0, .ref 116), (1, .int x1), (2, .int x2), (3, .int x3)]) (st := [.int x1, .ref 116]) (h := ks i a q r) (i := (.invokevirtual 276, 3, 173, 0, 9, 0, 410)) (mi_k180.2 _ _ (by rfl)) (ft_invS mi_pq173 (by rfl)) (cy := mi_c173) mi_pq173 rfl (kc173_116 hG.I hG.R x1 (of34 z2.1 z2.2)) (by decide) ?_
        intro vg7 hg7
        first | refine ft_goL mi_k180 2 35 [(4, .int vg7), (0, .ref 116), (1, .int x1), (2, .int x2), (3, .int x3)] [.int vg7] (by rfl) ?_ | refine ft_go mi_k180 2 35 [(4, .int vg7), (0, .ref 116), (1, .int x1), (2, .int x2), (3, .int x3)] [.int vg7] i a q r (by rfl) ?_
        refine ft_ifS mi_k180 (decide (0 ≤ vg7)) 41 38 [] (by rfl) (fun c => ?_) (fun c => ?_)
        ·
          have c9 : (0 : Int32).toInt ≤ vg7.toInt := kd_le c; clear c
          first | refine ft_goS mi_k180 2 43 [.int x1, .ref 116] (by rfl) ?_ | refine ft_go mi_k180 2 43 [(4, .int vg7), (0, .ref 116), (1, .int x1), (2, .int x2), (3, .int x3)] [.int x1, .ref 116] i a q r (by rfl) ?_
          refine ko_callN mi_k180.1 (pc := 43) (ls := [(4, .int vg7), (0, .ref 116), (1, .int x1), (2, .int x2), (3, .int x3)]) (st := [.int x1, .ref 116]) (h := ks i a q r) (i := (.invokevirtual 279, 3, 174, 0, 9, 0, 411)) (mi_k180.2 _ _ (by rfl)) (ft_invS mi_pq174 (by rfl)) (cy := mi_c174) mi_pq174 rfl (kc174_116 hG.I hG.R x1 (of34 z2.1 z2.2)) (by decide) ?_
          intro ig10 ag10 qg10 rg10 kg10 hg10
          have hGg10 := kG_call hG kg10 (by decide +kernel)
          have fig10_7469 : ((0 : Int) ≤ (ig10 7469).toInt) ∧ ((ig10 7469).toInt ≤ 21) := hGg10.I.1 7469
          have z11 : (ig10 7469).toInt ≤ 20 := hg10
          first | refine ft_goS mi_k180 3 52 [.int 20, .int (ig10 7469)] (by rfl) ?_ | refine ft_go mi_k180 3 52 [(4, .int vg7), (0, .ref 116), (1, .int x1), (2, .int x2), (3, .int x3)] [.int 20, .int (ig10 7469)] ig10 ag10 qg10 rg10 (by rfl) ?_
          refine ft_ifS mi_k180 ((ig10 7469) != 20) 58 55 [] (by rfl) (fun c => ?_) (fun c => ?_)
          ·
            have c12 : (ig10 7469).toInt ≠ (20 : Int32).toInt := kd_ne c; clear c
            first | refine fo_goL mi_k180 fz180_58_9_73 [(8, .int 0), (7, .int (ig10 7469)), (6, .int (-1)), (5, .int 0), (4, .int vg7), (0, .ref 116), (1, .int x1), (2, .int x2), (3, .int x3)] [] (by rfl) ?_ | refine ft_goL mi_k180 9 73 [(8, .int 0), (7, .int (ig10 7469)), (6, .int (-1)), (5, .int 0), (4, .int vg7), (0, .ref 116), (1, .int x1), (2, .int x2), (3, .int x3)] [] (by rfl) ?_ | refine ft_go mi_k180 9 73 [(8, .int 0), (7, .int (ig10 7469)), (6, .int (-1)), (5, .int 0), (4, .int vg7), (0, .ref 116), (1, .int x1), (2, .int x2), (3, .int x3)] [] ig10 ag10 qg10 rg10 (by rfl) ?_
            have lp13 : ∀ (nz : Nat) (i13 : Nat → Int32) (a13 : Nat → List Int32) (q13 : Nat → List Int64) (r13 : Nat → Nat) (l8_13 : Int32) (l6_13 : Int32) (l5_13 : Int32), kG yw180_116_L73 ig10 ag10 qg10 rg10 i13 a13 q13 r13 → (0 : Int) ≤ l8_13.toInt → (ig10 7469).toInt = (i13 7469).toInt → (ig10 7469).toInt ≤ 19 → a13 118 = a 118 → ((((ig10 7469).toInt + 1) - l8_13.toInt)).toNat < nz → ko 15 (mi_h180, mi_c180) P (73, [(8, .int l8_13), (7, .int (ig10 7469)), (6, .int l6_13), (5, .int l5_13), (4, .int vg7), (0, .ref 116), (1, .int x1), (2, .int x2), (3, .int x3)], [], (0, 0), ks i13 a13 q13 r13) := by
              intro nz
              induction nz with
              | zero =>
                intro _ _ _ _ _ _ _ _ _ _ _ _ hm
                exact absurd hm (Nat.not_lt_zero _)
              | succ nz ih13 =>
                intro i13 a13 q13 r13 l8_13 l6_13 l5_13 hL13 p13_0 p13_1 p13_2 O13_0 hm13
                have fi13_7469 : ((0 : Int) ≤ (i13 7469).toInt) ∧ ((i13 7469).toInt ≤ 21) := hL13.I.1 7469
                first | refine ft_goL mi_k180 2 77 [(8, .int l8_13), (7, .int (ig10 7469)), (6, .int l6_13), (5, .int l5_13), (4, .int vg7), (0, .ref 116), (1, .int x1), (2, .int x2), (3, .int x3)] [.int (ig10 7469), .int l8_13] (by rfl) ?_ | refine ft_go mi_k180 2 77 [(8, .int l8_13), (7, .int (ig10 7469)), (6, .int l6_13), (5, .int l5_13), (4, .int vg7), (0, .ref 116), (1, .int x1), (2, .int x2), (3, .int x3)] [.int (ig10 7469), .int l8_13] i13 a13 q13 r13 (by rfl) ?_
                refine ft_ifS mi_k180 (decide ((ig10 7469) < l8_13)) 124 80 [] (by rfl) (fun c => ?_) (fun c => ?_)
                ·
                  have c14 : (ig10 7469).toInt < l8_13.toInt := kd_lt c; clear c
                  have hG15 := kG_call hGg10 hL13 (by decide +kernel)
                  first | refine ft_goS mi_k180 1 125 [.int x3] (by rfl) ?_ | refine ft_go mi_k180 1 125 [(8, .int l8_13), (7, .int (ig10 7469)), (6, .int l6_13), (5, .int l5_13), (4, .int vg7), (0, .ref 116), (1, .int x1), (2, .int x2), (3, .int x3)] [.int x3] i13 a13 q13 r13 (by rfl) ?_
                  refine ft_ifS mi_k180 (x3 != 0) 133 128 [] (by rfl) (fun c => ?_) (fun c => ?_)
                  ·
                    have c16 : x3.toInt ≠ (0 : Int32).toInt := kd_ne c; clear c
                    first | refine ft_goS mi_k180 1 135 [.int l6_13] (by rfl) ?_ | refine ft_go mi_k180 1 135 [(8, .int l8_13), (7, .int (ig10 7469)), (6, .int l6_13), (5, .int l5_13), (4, .int vg7), (0, .ref 116), (1, .int x1), (2, .int x2), (3, .int x3)] [.int l6_13] i13 a13 q13 r13 (by rfl) ?_
                    exact ft_ret mi_k180 (by rfl) (hP l6_13 _ _ _ _ hG15 ⟨trivial, (show a13 118 = a 118 from (by first | rfl | (simp only [O13_0, sMn, sMx]; done) | (simp only [O13_0, sMn, sMx]; rfl)))⟩)
                  ·
                    have c17 : x3.toInt = (0 : Int32).toInt := kd_neF c; clear c
                    first | refine ft_goS mi_k180 2 135 [.int l5_13] (by rfl) ?_ | refine ft_go mi_k180 2 135 [(8, .int l8_13), (7, .int (ig10 7469)), (6, .int l6_13), (5, .int l5_13), (4, .int vg7), (0, .ref 116), (1, .int x1), (2, .int x2), (3, .int x3)] [.int l5_13] i13 a13 q13 r13 (by rfl) ?_
                    exact ft_ret mi_k180 (by rfl) (hP l5_13 _ _ _ _ hG15 ⟨trivial, (show a13 118 = a 118 from (by first | rfl | (simp only [O13_0, sMn, sMx]; done) | (simp only [O13_0, sMn, sMx]; rfl)))⟩)
                ·
                  have c18 : l8_13.toInt ≤ (ig10 7469).toInt := kd_ltF c; clear c
                  first | refine ft_goS mi_k180 3 84 [.int x2, .int l8_13, .ref 116] (by rfl) ?_ | refine ft_go mi_k180 3 84 [(8, .int l8_13), (7, .int (ig10 7469)), (6, .int l6_13), (5, .int l5_13), (4, .int vg7), (0, .ref 116), (1, .int x1), (2, .int x2), (3, .int x3)] [.int x2, .int l8_13, .ref 116] i13 a13 q13 r13 (by rfl) ?_
                  refine ko_callN mi_k180.1 (pc := 84) (ls := [(8, .int l8_13), (7, .int (ig10 7469)), (6, .int l6_13), (5, .int l5_13), (4, .int vg7), (0, .ref 116), (1, .int x1), (2, .int x2), (3, .int x3)]) (st := [.int x2, .int l8_13, .ref 116]) (h := ks i13 a13 q13 r13) (i := (.invokevirtual 284, 3, 178, 0, 9, 0, 428)) (mi_k180.2 _ _ (by rfl)) (ft_invS mi_pq178 (by rfl)) (cy := mi_c178) mi_pq178 rfl (kc178_116 hL13.I hL13.R l8_13 x2 (of133 c18 p13_0 p13_1) (of134 p13_1 p13_2) (of118 fi_7424.2 z4.1 z4.2)) (by decide) ?_
                  intro ig19 ag19 qg19 rg19 kg19 hg19
                  have hGg19 := kG_call hL13 kg19 (by decide +kernel)
                  have z20 : (ig19 7469).toInt = ((i13 7469).toInt + 1) := hg19
                  first | refine ft_goS mi_k180 2 89 [.int x2, .ref 116] (by rfl) ?_ | refine ft_go mi_k180 2 89 [(8, .int l8_13), (7, .int (ig10 7469)), (6, .int l6_13), (5, .int l5_13), (4, .int vg7), (0, .ref 116), (1, .int x1), (2, .int x2), (3, .int x3)] [.int x2, .ref 116] ig19 ag19 qg19 rg19 (by rfl) ?_
                  have hG21 := kG_call hGg10 hGg19 (by decide +kernel)
                  refine ko_callI mi_k180.1 (pc := 89) (ls := [(8, .int l8_13), (7, .int (ig10 7469)), (6, .int l6_13), (5, .int l5_13), (4, .int vg7), (0, .ref 116), (1, .int x1), (2, .int x2), (3, .int x3)]) (st := [.int x2, .ref 116]) (h := ks ig19 ag19 qg19 rg19) (i := (.invokevirtual 288, 3, 172, 0, 9, 0, 429)) (mi_k180.2 _ _ (by rfl)) (ft_invS mi_pq172 (by rfl)) (cy := mi_c172) mi_pq172 rfl (ke172_116 hGg19.I hGg19.R x2 (of118 fi_7424.2 z4.1 z4.2) (kCode_of (i1 := ig19) hE_code (hG21.fi 7432 rfl) (hG21.fa 120 rfl) (hG21.fa 121 rfl) (hG21.fa 122 rfl) (hG21.fa 123 rfl))) (by decide) ?_
                  intro vg22 ig22 ag22 qg22 rg22 kg22 hg22
                  have hGg22 := kG_call hGg19 kg22 (by decide +kernel)
                  obtain ⟨hg22, og22⟩ := hg22
                  have q23 : ag22 118 = ag19 118 := og22
                  first | refine ft_goL mi_k180 3 97 [(9, .int vg22), (8, .int l8_13), (7, .int (ig10 7469)), (6, .int l6_13), (5, .int l5_13), (4, .int vg7), (0, .ref 116), (1, .int x1), (2, .int x2), (3, .int x3)] [.int l8_13, .ref 116] (by rfl) ?_ | refine ft_go mi_k180 3 97 [(9, .int vg22), (8, .int l8_13), (7, .int (ig10 7469)), (6, .int l6_13), (5, .int l5_13), (4, .int vg7), (0, .ref 116), (1, .int x1), (2, .int x2), (3, .int x3)] [.int l8_13, .ref 116] ig22 ag22 qg22 rg22 (by rfl) ?_
                  have efig22_7469 : (ig22 7469).toInt = (ig19 7469).toInt := kg22.ti 7469 rfl
                  refine ko_callN mi_k180.1 (pc := 97) (ls := [(9, .int vg22), (8, .int l8_13), (7, .int (ig10 7469)), (6, .int l6_13), (5, .int l5_13), (4, .int vg7), (0, .ref 116), (1, .int x1), (2, .int x2), (3, .int x3)]) (st := [.int l8_13, .ref 116]) (h := ks ig22 ag22 qg22 rg22) (i := (.invokevirtual 291, 3, 179, 0, 9, 0, 430)) (mi_k180.2 _ _ (by rfl)) (ft_invS mi_pq179 (by rfl)) (cy := mi_c179) mi_pq179 rfl (kc179_116 hGg22.I hGg22.R l8_13 (of3 p13_0) (of126 efig22_7469 fi13_7469.1 z20)) (by decide) ?_
                  intro ig24 ag24 qg24 rg24 kg24 hg24
                  have hGg24 := kG_call hGg22 kg24 (by decide +kernel)
                  have z25 : (ig24 7469).toInt = ((ig22 7469).toInt - 1) := hg24
                  first | refine ft_goS mi_k180 2 104 [.int l6_13, .int vg22] (by rfl) ?_ | refine ft_go mi_k180 2 104 [(9, .int vg22), (8, .int l8_13), (7, .int (ig10 7469)), (6, .int l6_13), (5, .int l5_13), (4, .int vg7), (0, .ref 116), (1, .int x1), (2, .int x2), (3, .int x3)] [.int l6_13, .int vg22] ig24 ag24 qg24 rg24 (by rfl) ?_
                  refine ft_ifS mi_k180 (decide (l6_13 < vg22)) 110 107 [] (by rfl) (fun c => ?_) (fun c => ?_)
                  ·
                    have c26 : l6_13.toInt < vg22.toInt := kd_lt c; clear c
                    have s27 : (l8_13 + 1).toInt = l8_13.toInt + (1 : Int32).toInt := kd_add (of9 p13_0 kof1) (of127 c18 fig10_7469.2 kof1)
                    first | refine fo_goL mi_k180 fz180_62_6_73 [(8, .int (l8_13 + 1)), (5, .int l8_13), (6, .int vg22), (9, .int vg22), (7, .int (ig10 7469)), (4, .int vg7), (0, .ref 116), (1, .int x1), (2, .int x2), (3, .int x3)] [] (by rfl) ?_ | refine fo_goL mi_k180 fz180_110_6_73 [(8, .int (l8_13 + 1)), (5, .int l8_13), (6, .int vg22), (9, .int vg22), (7, .int (ig10 7469)), (4, .int vg7), (0, .ref 116), (1, .int x1), (2, .int x2), (3, .int x3)] [] (by rfl) ?_ | refine ft_goL mi_k180 6 73 [(8, .int (l8_13 + 1)), (5, .int l8_13), (6, .int vg22), (9, .int vg22), (7, .int (ig10 7469)), (4, .int vg7), (0, .ref 116), (1, .int x1), (2, .int x2), (3, .int x3)] [] (by rfl) ?_ | refine ft_go mi_k180 6 73 [(8, .int (l8_13 + 1)), (5, .int l8_13), (6, .int vg22), (9, .int vg22), (7, .int (ig10 7469)), (4, .int vg7), (0, .ref 116), (1, .int x1), (2, .int x2), (3, .int x3)] [] ig24 ag24 qg24 rg24 (by rfl) ?_
                    refine ko_perm [(8, .int (l8_13 + 1)), (7, .int (ig10 7469)), (6, .int vg22), (5, .int l8_13), (4, .int vg7), (0, .ref 116), (1, .int x1), (2, .int x2), (3, .int x3)] (List.forall_mem_cons.mpr ⟨(List.Mem.head _), (List.forall_mem_cons.mpr ⟨(List.Mem.tail _ (List.Mem.tail _ (List.Mem.tail _ (List.Mem.tail _ (List.Mem.head _))))), (List.forall_mem_cons.mpr ⟨(List.Mem.tail _ (List.Mem.tail _ (List.Mem.head _))), (List.forall_mem_cons.mpr ⟨(List.Mem.tail _ (List.Mem.head _)), (List.forall_mem_cons.mpr ⟨(List.Mem.tail _ (List.Mem.tail _ (List.Mem.tail _ (List.Mem.tail _ (List.Mem.tail _ (List.Mem.head _)))))), (List.forall_mem_cons.mpr ⟨(List.Mem.tail _ (List.Mem.tail _ (List.Mem.tail _ (List.Mem.tail _ (List.Mem.tail _ (List.Mem.tail _ (List.Mem.head _))))))), (List.forall_mem_cons.mpr ⟨(List.Mem.tail _ (List.Mem.tail _ (List.Mem.tail _ (List.Mem.tail _ (List.Mem.tail _ (List.Mem.tail _ (List.Mem.tail _ (List.Mem.head _)))))))), (List.forall_mem_cons.mpr ⟨(List.Mem.tail _ (List.Mem.tail _ (List.Mem.tail _ (List.Mem.tail _ (List.Mem.tail _ (List.Mem.tail _ (List.Mem.tail _ (List.Mem.tail _ (List.Mem.head _))))))))), (List.forall_mem_cons.mpr ⟨(List.Mem.tail _ (List.Mem.tail _ (List.Mem.tail _ (List.Mem.tail _ (List.Mem.tail _ (List.Mem.tail _ (List.Mem.tail _ (List.Mem.tail _ (List.Mem.tail _ (List.Mem.head _)))))))))), (fun _ h => absurd h List.not_mem_nil)⟩)⟩)⟩)⟩)⟩)⟩)⟩)⟩)⟩) ?_
                    exact ih13 _ _ _ _ _ _ _ hGg24 (of11 p13_0 s27 kof1) (of135 efig22_7469 p13_1 z20 z25) (of129 p13_2) (by first | rfl | (simp only [kg24.fa 118 rfl, q23, kg19.fa 118 rfl, O13_0, sMn, sMx]; done) | (simp only [kg24.fa 118 rfl, q23, kg19.fa 118 rfl, O13_0, sMn, sMx]; rfl)) (kj_meas (of130 s27 kof1) (of131 c18) hm13)
                  ·
                    have c28 : vg22.toInt ≤ l6_13.toInt := kd_ltF c; clear c
                    have s29 : (l8_13 + 1).toInt = l8_13.toInt + (1 : Int32).toInt := kd_add (of9 p13_0 kof1) (of127 c18 fig10_7469.2 kof1)
                    first | refine ft_goL mi_k180 3 73 [(8, .int (l8_13 + 1)), (9, .int vg22), (7, .int (ig10 7469)), (6, .int l6_13), (5, .int l5_13), (4, .int vg7), (0, .ref 116), (1, .int x1), (2, .int x2), (3, .int x3)] [] (by rfl) ?_ | refine ft_go mi_k180 3 73 [(8, .int (l8_13 + 1)), (9, .int vg22), (7, .int (ig10 7469)), (6, .int l6_13), (5, .int l5_13), (4, .int vg7), (0, .ref 116), (1, .int x1), (2, .int x2), (3, .int x3)] [] ig24 ag24 qg24 rg24 (by rfl) ?_
                    refine ko_perm [(8, .int (l8_13 + 1)), (7, .int (ig10 7469)), (6, .int l6_13), (5, .int l5_13), (4, .int vg7), (0, .ref 116), (1, .int x1), (2, .int x2), (3, .int x3)] (List.forall_mem_cons.mpr ⟨(List.Mem.head _), (List.forall_mem_cons.mpr ⟨(List.Mem.tail _ (List.Mem.tail _ (List.Mem.head _))), (List.forall_mem_cons.mpr ⟨(List.Mem.tail _ (List.Mem.tail _ (List.Mem.tail _ (List.Mem.head _)))), (List.forall_mem_cons.mpr ⟨(List.Mem.tail _ (List.Mem.tail _ (List.Mem.tail _ (List.Mem.tail _ (List.Mem.head _))))), (List.forall_mem_cons.mpr ⟨(List.Mem.tail _ (List.Mem.tail _ (List.Mem.tail _ (List.Mem.tail _ (List.Mem.tail _ (List.Mem.head _)))))), (List.forall_mem_cons.mpr ⟨(List.Mem.tail _ (List.Mem.tail _ (List.Mem.tail _ (List.Mem.tail _ (List.Mem.tail _ (List.Mem.tail _ (List.Mem.head _))))))), (List.forall_mem_cons.mpr ⟨(List.Mem.tail _ (List.Mem.tail _ (List.Mem.tail _ (List.Mem.tail _ (List.Mem.tail _ (List.Mem.tail _ (List.Mem.tail _ (List.Mem.head _)))))))), (List.forall_mem_cons.mpr ⟨(List.Mem.tail _ (List.Mem.tail _ (List.Mem.tail _ (List.Mem.tail _ (List.Mem.tail _ (List.Mem.tail _ (List.Mem.tail _ (List.Mem.tail _ (List.Mem.head _))))))))), (List.forall_mem_cons.mpr ⟨(List.Mem.tail _ (List.Mem.tail _ (List.Mem.tail _ (List.Mem.tail _ (List.Mem.tail _ (List.Mem.tail _ (List.Mem.tail _ (List.Mem.tail _ (List.Mem.tail _ (List.Mem.head _)))))))))), (fun _ h => absurd h List.not_mem_nil)⟩)⟩)⟩)⟩)⟩)⟩)⟩)⟩)⟩) ?_
                    exact ih13 _ _ _ _ _ _ _ hGg24 (of11 p13_0 s29 kof1) (of135 efig22_7469 p13_1 z20 z25) (of129 p13_2) (by first | rfl | (simp only [kg24.fa 118 rfl, q23, kg19.fa 118 rfl, O13_0, sMn, sMx]; done) | (simp only [kg24.fa 118 rfl, q23, kg19.fa 118 rfl, O13_0, sMn, sMx]; rfl)) (kj_meas (of130 s29 kof1) (of131 c18) hm13)
            exact lp13 _ _ _ _ _ _ _ _ (kG_self _ hGg10.I hGg10.R) (of17 kof0) of13 (of132 c12 z11 kof20) (by first | rfl | (simp only [kg10.fa 118 rfl, sMn, sMx]; done) | (simp only [kg10.fa 118 rfl, sMn, sMx]; rfl)) (Nat.lt_succ_self _)
          ·
            have c30 : (ig10 7469).toInt = (20 : Int32).toInt := kd_neF c; clear c
            first | refine ft_goS mi_k180 1 57 [.int (-5)] (by rfl) ?_ | refine ft_go mi_k180 1 57 [(4, .int vg7), (0, .ref 116), (1, .int x1), (2, .int x2), (3, .int x3)] [.int (-5)] ig10 ag10 qg10 rg10 (by rfl) ?_
            exact ft_ret mi_k180 (by rfl) (hP (-5) _ _ _ _ hGg10 ⟨trivial, (show ag10 118 = a 118 from (by first | rfl | (simp only [kg10.fa 118 rfl, sMn, sMx]; done) | (simp only [kg10.fa 118 rfl, sMn, sMx]; rfl)))⟩)
        ·
          have c31 : vg7.toInt < (0 : Int32).toInt := kd_leF c; clear c
          first | refine ft_goS mi_k180 1 40 [.int vg7] (by rfl) ?_ | refine ft_go mi_k180 1 40 [(4, .int vg7), (0, .ref 116), (1, .int x1), (2, .int x2), (3, .int x3)] [.int vg7] i a q r (by rfl) ?_
          exact ft_ret mi_k180 (by rfl) (hP vg7 _ _ _ _ hG ⟨trivial, (show a 118 = a 118 from rfl)⟩)
      ·
        subst eg5
        first | refine fo_goS mi_k180 fz180_4_2_25 [.int (-1)] (by rfl) ?_ | refine fo_goS mi_k180 fz180_12_2_25 [.int (-1)] (by rfl) ?_ | refine fo_goS mi_k180 fz180_21_2_25 [.int (-1)] (by rfl) ?_ | refine ft_go mi_k180 2 25 [(0, .ref 116), (1, .int x1), (2, .int x2), (3, .int x3)] [.int (-1)] i a q r (by rfl) ?_
        exact ft_ret mi_k180 (by rfl) (hP (-1) _ _ _ _ hG ⟨trivial, (show a 118 = a 118 from rfl)⟩)
    ·
      subst eg3
      first | refine fo_goS mi_k180 fz180_4_2_25 [.int (-1)] (by rfl) ?_ | refine fo_goS mi_k180 fz180_12_2_25 [.int (-1)] (by rfl) ?_ | refine fo_goS mi_k180 fz180_21_2_25 [.int (-1)] (by rfl) ?_ | refine ft_go mi_k180 2 25 [(0, .ref 116), (1, .int x1), (2, .int x2), (3, .int x3)] [.int (-1)] i a q r (by rfl) ?_
      exact ft_ret mi_k180 (by rfl) (hP (-1) _ _ _ _ hG ⟨trivial, (show a 118 = a 118 from rfl)⟩)
  ·
    subst eg1
    first | refine fo_goS mi_k180 fz180_4_2_25 [.int (-1)] (by rfl) ?_ | refine fo_goS mi_k180 fz180_12_2_25 [.int (-1)] (by rfl) ?_ | refine fo_goS mi_k180 fz180_21_2_25 [.int (-1)] (by rfl) ?_ | refine ft_go mi_k180 2 25 [(0, .ref 116), (1, .int x1), (2, .int x2), (3, .int x3)] [.int (-1)] i a q r (by rfl) ?_
    exact ft_ret mi_k180 (by rfl) (hP (-1) _ _ _ _ hG ⟨trivial, (show a 118 = a 118 from rfl)⟩)
def yw181_116 : kW := ([7464, 7465, 7466, 7467, 7469], [118, 128, 129, 139, 141, 142, 143, 144, 145], [], [])
def yw181_116_L82 : kW := ([7464, 7465, 7466, 7467, 7469], [118, 128, 129, 139, 141, 142, 143, 144, 145], [], [])
set_option maxRecDepth 100000 in
theorem ke181_116 {i : Nat → Int32} {a : Nat → List Int32} {q : Nat → List Int64} {r : Nat → Nat} (hI : kI i a q) (hr : kr r) (x1 : Int32) (x2 : Int32) (x3 : Int32) (x4 : Int32) (hE_code : kCode i a) : km 15 181 [.ref 116, .int x1, .int x2, .int x3, .int x4] (ks i a q r) (kVI yw181_116 i a q r (fun v i1 a1 q1 r1 => (True) ∧ a1 118 = a 118)) := by
  have hG := kG_self yw181_116 hI hr
  refine km_ofI (q := (mi_h181, mi_c181)) rfl (by decide) (Nat.le_of_ble_eq_true rfl) ?_
  intro P hP
  first | refine ft_goL mi_k181 1 1 [(0, .ref 116), (1, .int x1), (2, .int x2), (3, .int x3), (4, .int x4)] [.int x1] (by rfl) ?_ | refine ft_go mi_k181 1 1 [(0, .ref 116), (1, .int x1), (2, .int x2), (3, .int x3), (4, .int x4)] [.int x1] i a q r (by rfl) ?_
  refine ko_callPI mi_k181.1 (pc := 1) (ls := [(0, .ref 116), (1, .int x1), (2, .int x2), (3, .int x3), (4, .int x4)]) (st := [.int x1]) (h := ks i a q r) (i := (.invokestatic 127, 3, 133, 0, 9, 0, 382)) (mi_k181.2 _ _ (by rfl)) (ft_invS mi_pq133 (by rfl)) (cy := mi_c133) mi_pq133 rfl (kc133 hG.I hG.R x1) (by decide) ?_
  intro vg1 hg1
  rcases hg1 with ⟨eg1, hg1⟩ | ⟨eg1, hg1⟩
  ·
    subst eg1
    have z2 : ((0 : Int) ≤ x1.toInt) ∧ (x1.toInt ≤ 5) := hg1
    first | refine ft_goS mi_k181 2 8 [.int x2] (by rfl) ?_ | refine ft_go mi_k181 2 8 [(0, .ref 116), (1, .int x1), (2, .int x2), (3, .int x3), (4, .int x4)] [.int x2] i a q r (by rfl) ?_
    refine ft_ifS mi_k181 (decide (x2 < 0)) 29 11 [] (by rfl) (fun c => ?_) (fun c => ?_)
    ·
      have c3 : x2.toInt < (0 : Int32).toInt := kd_lt c; clear c
      first | refine ft_goS mi_k181 1 30 [.int (-1)] (by rfl) ?_ | refine ft_go mi_k181 1 30 [(0, .ref 116), (1, .int x1), (2, .int x2), (3, .int x3), (4, .int x4)] [.int (-1)] i a q r (by rfl) ?_
      exact ft_ret mi_k181 (by rfl) (hP (-1) _ _ _ _ hG ⟨trivial, (show a 118 = a 118 from rfl)⟩)
    ·
      have c4 : (0 : Int32).toInt ≤ x2.toInt := kd_ltF c; clear c
      first | refine ft_goS mi_k181 2 13 [.int x3, .ref 116] (by rfl) ?_ | refine ft_go mi_k181 2 13 [(0, .ref 116), (1, .int x1), (2, .int x2), (3, .int x3), (4, .int x4)] [.int x3, .ref 116] i a q r (by rfl) ?_
      refine ko_callPI mi_k181.1 (pc := 13) (ls := [(0, .ref 116), (1, .int x1), (2, .int x2), (3, .int x3), (4, .int x4)]) (st := [.int x3, .ref 116]) (h := ks i a q r) (i := (.invokevirtual 137, 3, 132, 0, 9, 0, 387)) (mi_k181.2 _ _ (by rfl)) (ft_invS mi_pq132 (by rfl)) (cy := mi_c132) mi_pq132 rfl (kc132_116 hG.I hG.R x3) (by decide) ?_
      intro vg5 hg5
      rcases hg5 with ⟨eg5, hg5⟩ | ⟨eg5, hg5⟩
      ·
        subst eg5
        have fi_7424 : ((0 : Int) ≤ (i 7424).toInt) ∧ ((i 7424).toInt ≤ 8) := hG.I.1 7424
        have z6 : ((0 : Int) ≤ x3.toInt) ∧ (x3.toInt < (i 7424).toInt) := hg5
        first | refine ft_goS mi_k181 4 23 [.int 1, .int 0, .int x4] (by rfl) ?_ | refine ft_go mi_k181 4 23 [(0, .ref 116), (1, .int x1), (2, .int x2), (3, .int x3), (4, .int x4)] [.int 1, .int 0, .int x4] i a q r (by rfl) ?_
        refine ko_callPI mi_k181.1 (pc := 23) (ls := [(0, .ref 116), (1, .int x1), (2, .int x2), (3, .int x3), (4, .int x4)]) (st := [.int 1, .int 0, .int x4]) (h := ks i a q r) (i := (.invokestatic 119, 3, 131, 0, 9, 0, 379)) (mi_k181.2 _ _ (by rfl)) (ft_invS mi_pq131 (by rfl)) (cy := mi_c131) mi_pq131 rfl (kc131 hG.I hG.R x4 0 1) (by decide) ?_
        intro vg7 hg7
        rcases hg7 with ⟨eg7, hg7⟩ | ⟨eg7, hg7⟩
        ·
          subst eg7
          first | refine ft_goS mi_k181 3 33 [.int x1, .ref 116] (by rfl) ?_ | refine ft_go mi_k181 3 33 [(0, .ref 116), (1, .int x1), (2, .int x2), (3, .int x3), (4, .int x4)] [.int x1, .ref 116] i a q r (by rfl) ?_
          refine ko_callPI mi_k181.1 (pc := 33) (ls := [(0, .ref 116), (1, .int x1), (2, .int x2), (3, .int x3), (4, .int x4)]) (st := [.int x1, .ref 116]) (h := ks i a q r) (i := (.invokevirtual 276, 3, 173, 0, 9, 0, 410)) (mi_k181.2 _ _ (by rfl)) (ft_invS mi_pq173 (by rfl)) (cy := mi_c173) mi_pq173 rfl (kc173_116 hG.I hG.R x1 (of34 z2.1 z2.2)) (by decide) ?_
          intro vg9 hg9
          first | refine ft_goL mi_k181 2 40 [(5, .int vg9), (0, .ref 116), (1, .int x1), (2, .int x2), (3, .int x3), (4, .int x4)] [.int vg9] (by rfl) ?_ | refine ft_go mi_k181 2 40 [(5, .int vg9), (0, .ref 116), (1, .int x1), (2, .int x2), (3, .int x3), (4, .int x4)] [.int vg9] i a q r (by rfl) ?_
          refine ft_ifS mi_k181 (decide (0 ≤ vg9)) 46 43 [] (by rfl) (fun c => ?_) (fun c => ?_)
          ·
            have c11 : (0 : Int32).toInt ≤ vg9.toInt := kd_le c; clear c
            first | refine ft_goS mi_k181 2 48 [.int x1, .ref 116] (by rfl) ?_ | refine ft_go mi_k181 2 48 [(5, .int vg9), (0, .ref 116), (1, .int x1), (2, .int x2), (3, .int x3), (4, .int x4)] [.int x1, .ref 116] i a q r (by rfl) ?_
            refine ko_callN mi_k181.1 (pc := 48) (ls := [(5, .int vg9), (0, .ref 116), (1, .int x1), (2, .int x2), (3, .int x3), (4, .int x4)]) (st := [.int x1, .ref 116]) (h := ks i a q r) (i := (.invokevirtual 279, 3, 174, 0, 9, 0, 411)) (mi_k181.2 _ _ (by rfl)) (ft_invS mi_pq174 (by rfl)) (cy := mi_c174) mi_pq174 rfl (kc174_116 hG.I hG.R x1 (of34 z2.1 z2.2)) (by decide) ?_
            intro ig12 ag12 qg12 rg12 kg12 hg12
            have hGg12 := kG_call hG kg12 (by decide +kernel)
            have z13 : (ig12 7469).toInt ≤ 20 := hg12
            first | refine ft_goS mi_k181 3 56 [.int (ig12 7469), .int x2] (by rfl) ?_ | refine ft_go mi_k181 3 56 [(5, .int vg9), (0, .ref 116), (1, .int x1), (2, .int x2), (3, .int x3), (4, .int x4)] [.int (ig12 7469), .int x2] ig12 ag12 qg12 rg12 (by rfl) ?_
            refine ft_ifS mi_k181 (decide (x2 ≤ (ig12 7469))) 61 59 [] (by rfl) (fun c => ?_) (fun c => ?_)
            ·
              have c14 : x2.toInt ≤ (ig12 7469).toInt := kd_le c; clear c
              first | refine ft_goS mi_k181 3 67 [.int 20, .int (ig12 7469)] (by rfl) ?_ | refine ft_go mi_k181 3 67 [(5, .int vg9), (0, .ref 116), (1, .int x1), (2, .int x2), (3, .int x3), (4, .int x4)] [.int 20, .int (ig12 7469)] ig12 ag12 qg12 rg12 (by rfl) ?_
              refine ft_ifS mi_k181 ((ig12 7469) != 20) 73 70 [] (by rfl) (fun c => ?_) (fun c => ?_)
              ·
                have c15 : (ig12 7469).toInt ≠ (20 : Int32).toInt := kd_ne c; clear c
                first | refine fo_goL mi_k181 fz181_73_6_82 [(8, .int 0), (7, .int (-1)), (6, .int 0), (5, .int vg9), (0, .ref 116), (1, .int x1), (2, .int x2), (3, .int x3), (4, .int x4)] [] (by rfl) ?_ | refine fo_goL mi_k181 fz181_120_6_82 [(8, .int 0), (7, .int (-1)), (6, .int 0), (5, .int vg9), (0, .ref 116), (1, .int x1), (2, .int x2), (3, .int x3), (4, .int x4)] [] (by rfl) ?_ | refine ft_goL mi_k181 6 82 [(8, .int 0), (7, .int (-1)), (6, .int 0), (5, .int vg9), (0, .ref 116), (1, .int x1), (2, .int x2), (3, .int x3), (4, .int x4)] [] (by rfl) ?_ | refine ft_go mi_k181 6 82 [(8, .int 0), (7, .int (-1)), (6, .int 0), (5, .int vg9), (0, .ref 116), (1, .int x1), (2, .int x2), (3, .int x3), (4, .int x4)] [] ig12 ag12 qg12 rg12 (by rfl) ?_
                have lp16 : ∀ (nz : Nat) (i16 : Nat → Int32) (a16 : Nat → List Int32) (q16 : Nat → List Int64) (r16 : Nat → Nat) (l8_16 : Int32) (l7_16 : Int32) (l6_16 : Int32), kG yw181_116_L82 ig12 ag12 qg12 rg12 i16 a16 q16 r16 → (0 : Int) ≤ l8_16.toInt → (i16 7469).toInt ≤ 19 → x2.toInt ≤ (i16 7469).toInt → a16 118 = a 118 → (((i16 7424).toInt - l8_16.toInt)).toNat < nz → ko 15 (mi_h181, mi_c181) P (82, [(8, .int l8_16), (7, .int l7_16), (6, .int l6_16), (5, .int vg9), (0, .ref 116), (1, .int x1), (2, .int x2), (3, .int x3), (4, .int x4)], [], (0, 0), ks i16 a16 q16 r16) := by
                  intro nz
                  induction nz with
                  | zero =>
                    intro _ _ _ _ _ _ _ _ _ _ _ _ hm
                    exact absurd hm (Nat.not_lt_zero _)
                  | succ nz ih16 =>
                    intro i16 a16 q16 r16 l8_16 l7_16 l6_16 hL16 p16_0 p16_1 p16_2 O16_0 hm16
                    have fi16_7469 : ((0 : Int) ≤ (i16 7469).toInt) ∧ ((i16 7469).toInt ≤ 21) := hL16.I.1 7469
                    have fi16_7424 : ((0 : Int) ≤ (i16 7424).toInt) ∧ ((i16 7424).toInt ≤ 8) := hL16.I.1 7424
                    first | refine ft_goL mi_k181 3 88 [(8, .int l8_16), (7, .int l7_16), (6, .int l6_16), (5, .int vg9), (0, .ref 116), (1, .int x1), (2, .int x2), (3, .int x3), (4, .int x4)] [.int (i16 7424), .int l8_16] (by rfl) ?_ | refine ft_go mi_k181 3 88 [(8, .int l8_16), (7, .int l7_16), (6, .int l6_16), (5, .int vg9), (0, .ref 116), (1, .int x1), (2, .int x2), (3, .int x3), (4, .int x4)] [.int (i16 7424), .int l8_16] i16 a16 q16 r16 (by rfl) ?_
                    refine ft_ifS mi_k181 (decide ((i16 7424) ≤ l8_16)) 134 91 [] (by rfl) (fun c => ?_) (fun c => ?_)
                    ·
                      have c17 : (i16 7424).toInt ≤ l8_16.toInt := kd_le c; clear c
                      have hG18 := kG_call hGg12 hL16 (by decide +kernel)
                      first | refine ft_goS mi_k181 1 136 [.int x4] (by rfl) ?_ | refine ft_go mi_k181 1 136 [(8, .int l8_16), (7, .int l7_16), (6, .int l6_16), (5, .int vg9), (0, .ref 116), (1, .int x1), (2, .int x2), (3, .int x3), (4, .int x4)] [.int x4] i16 a16 q16 r16 (by rfl) ?_
                      refine ft_ifS mi_k181 (x4 != 0) 144 139 [] (by rfl) (fun c => ?_) (fun c => ?_)
                      ·
                        have c19 : x4.toInt ≠ (0 : Int32).toInt := kd_ne c; clear c
                        first | refine ft_goS mi_k181 1 146 [.int l7_16] (by rfl) ?_ | refine ft_go mi_k181 1 146 [(8, .int l8_16), (7, .int l7_16), (6, .int l6_16), (5, .int vg9), (0, .ref 116), (1, .int x1), (2, .int x2), (3, .int x3), (4, .int x4)] [.int l7_16] i16 a16 q16 r16 (by rfl) ?_
                        exact ft_ret mi_k181 (by rfl) (hP l7_16 _ _ _ _ hG18 ⟨trivial, (show a16 118 = a 118 from (by first | rfl | (simp only [O16_0, sMn, sMx]; done) | (simp only [O16_0, sMn, sMx]; rfl)))⟩)
                      ·
                        have c20 : x4.toInt = (0 : Int32).toInt := kd_neF c; clear c
                        first | refine ft_goS mi_k181 2 146 [.int l6_16] (by rfl) ?_ | refine ft_go mi_k181 2 146 [(8, .int l8_16), (7, .int l7_16), (6, .int l6_16), (5, .int vg9), (0, .ref 116), (1, .int x1), (2, .int x2), (3, .int x3), (4, .int x4)] [.int l6_16] i16 a16 q16 r16 (by rfl) ?_
                        exact ft_ret mi_k181 (by rfl) (hP l6_16 _ _ _ _ hG18 ⟨trivial, (show a16 118 = a 118 from (by first | rfl | (simp only [O16_0, sMn, sMx]; done) | (simp only [O16_0, sMn, sMx]; rfl)))⟩)
                    ·
                      have c21 : l8_16.toInt < (i16 7424).toInt := kd_leF c; clear c
                      first | refine ft_goS mi_k181 3 95 [.int l8_16, .int x2, .ref 116] (by rfl) ?_ | refine ft_go mi_k181 3 95 [(8, .int l8_16), (7, .int l7_16), (6, .int l6_16), (5, .int vg9), (0, .ref 116), (1, .int x1), (2, .int x2), (3, .int x3), (4, .int x4)] [.int l8_16, .int x2, .ref 116] i16 a16 q16 r16 (by rfl) ?_
                      refine ko_callN mi_k181.1 (pc := 95) (ls := [(8, .int l8_16), (7, .int l7_16), (6, .int l6_16), (5, .int vg9), (0, .ref 116), (1, .int x1), (2, .int x2), (3, .int x3), (4, .int x4)]) (st := [.int l8_16, .int x2, .ref 116]) (h := ks i16 a16 q16 r16) (i := (.invokevirtual 284, 3, 178, 0, 9, 0, 428)) (mi_k181.2 _ _ (by rfl)) (ft_invS mi_pq178 (by rfl)) (cy := mi_c178) mi_pq178 rfl (kc178_116 hL16.I hL16.R x2 l8_16 (of143 c4 p16_2 kof0) (of137 p16_1) (of138 c21 fi16_7424.2 p16_0)) (by decide) ?_
                      intro ig22 ag22 qg22 rg22 kg22 hg22
                      have hGg22 := kG_call hL16 kg22 (by decide +kernel)
                      have z23 : (ig22 7469).toInt = ((i16 7469).toInt + 1) := hg22
                      first | refine ft_goS mi_k181 2 100 [.int x3, .ref 116] (by rfl) ?_ | refine ft_go mi_k181 2 100 [(8, .int l8_16), (7, .int l7_16), (6, .int l6_16), (5, .int vg9), (0, .ref 116), (1, .int x1), (2, .int x2), (3, .int x3), (4, .int x4)] [.int x3, .ref 116] ig22 ag22 qg22 rg22 (by rfl) ?_
                      have hG24 := kG_call hGg12 hGg22 (by decide +kernel)
                      refine ko_callI mi_k181.1 (pc := 100) (ls := [(8, .int l8_16), (7, .int l7_16), (6, .int l6_16), (5, .int vg9), (0, .ref 116), (1, .int x1), (2, .int x2), (3, .int x3), (4, .int x4)]) (st := [.int x3, .ref 116]) (h := ks ig22 ag22 qg22 rg22) (i := (.invokevirtual 288, 3, 172, 0, 9, 0, 429)) (mi_k181.2 _ _ (by rfl)) (ft_invS mi_pq172 (by rfl)) (cy := mi_c172) mi_pq172 rfl (ke172_116 hGg22.I hGg22.R x3 (of118 fi_7424.2 z6.1 z6.2) (kCode_of (i1 := ig22) hE_code (hG24.fi 7432 rfl) (hG24.fa 120 rfl) (hG24.fa 121 rfl) (hG24.fa 122 rfl) (hG24.fa 123 rfl))) (by decide) ?_
                      intro vg25 ig25 ag25 qg25 rg25 kg25 hg25
                      have hGg25 := kG_call hGg22 kg25 (by decide +kernel)
                      obtain ⟨hg25, og25⟩ := hg25
                      have q26 : ag25 118 = ag22 118 := og25
                      first | refine ft_goL mi_k181 3 107 [(9, .int vg25), (8, .int l8_16), (7, .int l7_16), (6, .int l6_16), (5, .int vg9), (0, .ref 116), (1, .int x1), (2, .int x2), (3, .int x3), (4, .int x4)] [.int x2, .ref 116] (by rfl) ?_ | refine ft_go mi_k181 3 107 [(9, .int vg25), (8, .int l8_16), (7, .int l7_16), (6, .int l6_16), (5, .int vg9), (0, .ref 116), (1, .int x1), (2, .int x2), (3, .int x3), (4, .int x4)] [.int x2, .ref 116] ig25 ag25 qg25 rg25 (by rfl) ?_
                      have efig25_7469 : (ig25 7469).toInt = (ig22 7469).toInt := kg25.ti 7469 rfl
                      refine ko_callN mi_k181.1 (pc := 107) (ls := [(9, .int vg25), (8, .int l8_16), (7, .int l7_16), (6, .int l6_16), (5, .int vg9), (0, .ref 116), (1, .int x1), (2, .int x2), (3, .int x3), (4, .int x4)]) (st := [.int x2, .ref 116]) (h := ks ig25 ag25 qg25 rg25) (i := (.invokevirtual 291, 3, 179, 0, 9, 0, 430)) (mi_k181.2 _ _ (by rfl)) (ft_invS mi_pq179 (by rfl)) (cy := mi_c179) mi_pq179 rfl (kc179_116 hGg25.I hGg25.R x2 (of70 c4 kof0) (of126 efig25_7469 fi16_7469.1 z23)) (by decide) ?_
                      intro ig27 ag27 qg27 rg27 kg27 hg27
                      have hGg27 := kG_call hGg25 kg27 (by decide +kernel)
                      have z28 : (ig27 7469).toInt = ((ig25 7469).toInt - 1) := hg27
                      first | refine ft_goS mi_k181 2 114 [.int l7_16, .int vg25] (by rfl) ?_ | refine ft_go mi_k181 2 114 [(9, .int vg25), (8, .int l8_16), (7, .int l7_16), (6, .int l6_16), (5, .int vg9), (0, .ref 116), (1, .int x1), (2, .int x2), (3, .int x3), (4, .int x4)] [.int l7_16, .int vg25] ig27 ag27 qg27 rg27 (by rfl) ?_
                      refine ft_ifS mi_k181 (decide (l7_16 < vg25)) 120 117 [] (by rfl) (fun c => ?_) (fun c => ?_)
                      ·
                        have c29 : l7_16.toInt < vg25.toInt := kd_lt c; clear c
                        have s30 : (l8_16 + 1).toInt = l8_16.toInt + (1 : Int32).toInt := kd_add (of9 p16_0 kof1) (of139 c21 fi16_7424.2 kof1)
                        first | refine fo_goL mi_k181 fz181_73_6_82 [(8, .int (l8_16 + 1)), (6, .int l8_16), (7, .int vg25), (9, .int vg25), (5, .int vg9), (0, .ref 116), (1, .int x1), (2, .int x2), (3, .int x3), (4, .int x4)] [] (by rfl) ?_ | refine fo_goL mi_k181 fz181_120_6_82 [(8, .int (l8_16 + 1)), (6, .int l8_16), (7, .int vg25), (9, .int vg25), (5, .int vg9), (0, .ref 116), (1, .int x1), (2, .int x2), (3, .int x3), (4, .int x4)] [] (by rfl) ?_ | refine ft_goL mi_k181 6 82 [(8, .int (l8_16 + 1)), (6, .int l8_16), (7, .int vg25), (9, .int vg25), (5, .int vg9), (0, .ref 116), (1, .int x1), (2, .int x2), (3, .int x3), (4, .int x4)] [] (by rfl) ?_ | refine ft_go mi_k181 6 82 [(8, .int (l8_16 + 1)), (6, .int l8_16), (7, .int vg25), (9, .int vg25), (5, .int vg9), (0, .ref 116), (1, .int x1), (2, .int x2), (3, .int x3), (4, .int x4)] [] ig27 ag27 qg27 rg27 (by rfl) ?_
                        refine ko_perm [(8, .int (l8_16 + 1)), (7, .int vg25), (6, .int l8_16), (5, .int vg9), (0, .ref 116), (1, .int x1), (2, .int x2), (3, .int x3), (4, .int x4)] (List.forall_mem_cons.mpr ⟨(List.Mem.head _), (List.forall_mem_cons.mpr ⟨(List.Mem.tail _ (List.Mem.tail _ (List.Mem.head _))), (List.forall_mem_cons.mpr ⟨(List.Mem.tail _ (List.Mem.head _)), (List.forall_mem_cons.mpr ⟨(List.Mem.tail _ (List.Mem.tail _ (List.Mem.tail _ (List.Mem.tail _ (List.Mem.head _))))), (List.forall_mem_cons.mpr ⟨(List.Mem.tail _ (List.Mem.tail _ (List.Mem.tail _ (List.Mem.tail _ (List.Mem.tail _ (List.Mem.head _)))))), (List.forall_mem_cons.mpr ⟨(List.Mem.tail _ (List.Mem.tail _ (List.Mem.tail _ (List.Mem.tail _ (List.Mem.tail _ (List.Mem.tail _ (List.Mem.head _))))))), (List.forall_mem_cons.mpr ⟨(List.Mem.tail _ (List.Mem.tail _ (List.Mem.tail _ (List.Mem.tail _ (List.Mem.tail _ (List.Mem.tail _ (List.Mem.tail _ (List.Mem.head _)))))))), (List.forall_mem_cons.mpr ⟨(List.Mem.tail _ (List.Mem.tail _ (List.Mem.tail _ (List.Mem.tail _ (List.Mem.tail _ (List.Mem.tail _ (List.Mem.tail _ (List.Mem.tail _ (List.Mem.head _))))))))), (List.forall_mem_cons.mpr ⟨(List.Mem.tail _ (List.Mem.tail _ (List.Mem.tail _ (List.Mem.tail _ (List.Mem.tail _ (List.Mem.tail _ (List.Mem.tail _ (List.Mem.tail _ (List.Mem.tail _ (List.Mem.head _)))))))))), (fun _ h => absurd h List.not_mem_nil)⟩)⟩)⟩)⟩)⟩)⟩)⟩)⟩)⟩) ?_
                        have efig22_7424 : (ig22 7424).toInt = (i16 7424).toInt := kg22.ti 7424 rfl
                        have efig25_7424 : (ig25 7424).toInt = (ig22 7424).toInt := kg25.ti 7424 rfl
                        have efig27_7424 : (ig27 7424).toInt = (ig25 7424).toInt := kg27.ti 7424 rfl
                        exact ih16 _ _ _ _ _ _ _ hGg27 (of11 p16_0 s30 kof1) (of140 efig25_7469 p16_1 z23 z28) (of144 efig25_7469 p16_2 z23 z28) (by first | rfl | (simp only [kg27.fa 118 rfl, q26, kg22.fa 118 rfl, O16_0, sMn, sMx]; done) | (simp only [kg27.fa 118 rfl, q26, kg22.fa 118 rfl, O16_0, sMn, sMx]; rfl)) (kj_meas (of142 efig22_7424 efig25_7424 efig27_7424 s30 kof1) (of80 c21) hm16)
                      ·
                        have c31 : vg25.toInt ≤ l7_16.toInt := kd_ltF c; clear c
                        have s32 : (l8_16 + 1).toInt = l8_16.toInt + (1 : Int32).toInt := kd_add (of9 p16_0 kof1) (of139 c21 fi16_7424.2 kof1)
                        first | refine ft_goL mi_k181 3 82 [(8, .int (l8_16 + 1)), (9, .int vg25), (7, .int l7_16), (6, .int l6_16), (5, .int vg9), (0, .ref 116), (1, .int x1), (2, .int x2), (3, .int x3), (4, .int x4)] [] (by rfl) ?_ | refine ft_go mi_k181 3 82 [(8, .int (l8_16 + 1)), (9, .int vg25), (7, .int l7_16), (6, .int l6_16), (5, .int vg9), (0, .ref 116), (1, .int x1), (2, .int x2), (3, .int x3), (4, .int x4)] [] ig27 ag27 qg27 rg27 (by rfl) ?_
                        refine ko_perm [(8, .int (l8_16 + 1)), (7, .int l7_16), (6, .int l6_16), (5, .int vg9), (0, .ref 116), (1, .int x1), (2, .int x2), (3, .int x3), (4, .int x4)] (List.forall_mem_cons.mpr ⟨(List.Mem.head _), (List.forall_mem_cons.mpr ⟨(List.Mem.tail _ (List.Mem.tail _ (List.Mem.head _))), (List.forall_mem_cons.mpr ⟨(List.Mem.tail _ (List.Mem.tail _ (List.Mem.tail _ (List.Mem.head _)))), (List.forall_mem_cons.mpr ⟨(List.Mem.tail _ (List.Mem.tail _ (List.Mem.tail _ (List.Mem.tail _ (List.Mem.head _))))), (List.forall_mem_cons.mpr ⟨(List.Mem.tail _ (List.Mem.tail _ (List.Mem.tail _ (List.Mem.tail _ (List.Mem.tail _ (List.Mem.head _)))))), (List.forall_mem_cons.mpr ⟨(List.Mem.tail _ (List.Mem.tail _ (List.Mem.tail _ (List.Mem.tail _ (List.Mem.tail _ (List.Mem.tail _ (List.Mem.head _))))))), (List.forall_mem_cons.mpr ⟨(List.Mem.tail _ (List.Mem.tail _ (List.Mem.tail _ (List.Mem.tail _ (List.Mem.tail _ (List.Mem.tail _ (List.Mem.tail _ (List.Mem.head _)))))))), (List.forall_mem_cons.mpr ⟨(List.Mem.tail _ (List.Mem.tail _ (List.Mem.tail _ (List.Mem.tail _ (List.Mem.tail _ (List.Mem.tail _ (List.Mem.tail _ (List.Mem.tail _ (List.Mem.head _))))))))), (List.forall_mem_cons.mpr ⟨(List.Mem.tail _ (List.Mem.tail _ (List.Mem.tail _ (List.Mem.tail _ (List.Mem.tail _ (List.Mem.tail _ (List.Mem.tail _ (List.Mem.tail _ (List.Mem.tail _ (List.Mem.head _)))))))))), (fun _ h => absurd h List.not_mem_nil)⟩)⟩)⟩)⟩)⟩)⟩)⟩)⟩)⟩) ?_
                        have efig22_7424 : (ig22 7424).toInt = (i16 7424).toInt := kg22.ti 7424 rfl
                        have efig25_7424 : (ig25 7424).toInt = (ig22 7424).toInt := kg25.ti 7424 rfl
                        have efig27_7424 : (ig27 7424).toInt = (ig25 7424).toInt := kg27.ti 7424 rfl
                        exact ih16 _ _ _ _ _ _ _ hGg27 (of11 p16_0 s32 kof1) (of140 efig25_7469 p16_1 z23 z28) (of144 efig25_7469 p16_2 z23 z28) (by first | rfl | (simp only [kg27.fa 118 rfl, q26, kg22.fa 118 rfl, O16_0, sMn, sMx]; done) | (simp only [kg27.fa 118 rfl, q26, kg22.fa 118 rfl, O16_0, sMn, sMx]; rfl)) (kj_meas (of142 efig22_7424 efig25_7424 efig27_7424 s32 kof1) (of80 c21) hm16)
                exact lp16 _ _ _ _ _ _ _ _ (kG_self _ hGg12.I hGg12.R) (of17 kof0) (of132 c15 z13 kof20) (of115 c14) (by first | rfl | (simp only [kg12.fa 118 rfl, sMn, sMx]; done) | (simp only [kg12.fa 118 rfl, sMn, sMx]; rfl)) (Nat.lt_succ_self _)
              ·
                have c33 : (ig12 7469).toInt = (20 : Int32).toInt := kd_neF c; clear c
                first | refine ft_goS mi_k181 1 72 [.int (-5)] (by rfl) ?_ | refine ft_go mi_k181 1 72 [(5, .int vg9), (0, .ref 116), (1, .int x1), (2, .int x2), (3, .int x3), (4, .int x4)] [.int (-5)] ig12 ag12 qg12 rg12 (by rfl) ?_
                exact ft_ret mi_k181 (by rfl) (hP (-5) _ _ _ _ hGg12 ⟨trivial, (show ag12 118 = a 118 from (by first | rfl | (simp only [kg12.fa 118 rfl, sMn, sMx]; done) | (simp only [kg12.fa 118 rfl, sMn, sMx]; rfl)))⟩)
            ·
              have c34 : (ig12 7469).toInt < x2.toInt := kd_leF c; clear c
              first | refine ft_goS mi_k181 1 60 [.int (-1)] (by rfl) ?_ | refine ft_go mi_k181 1 60 [(5, .int vg9), (0, .ref 116), (1, .int x1), (2, .int x2), (3, .int x3), (4, .int x4)] [.int (-1)] ig12 ag12 qg12 rg12 (by rfl) ?_
              exact ft_ret mi_k181 (by rfl) (hP (-1) _ _ _ _ hGg12 ⟨trivial, (show ag12 118 = a 118 from (by first | rfl | (simp only [kg12.fa 118 rfl, sMn, sMx]; done) | (simp only [kg12.fa 118 rfl, sMn, sMx]; rfl)))⟩)
          ·
            have c35 : vg9.toInt < (0 : Int32).toInt := kd_leF c; clear c
            first | refine ft_goS mi_k181 1 45 [.int vg9] (by rfl) ?_ | refine ft_go mi_k181 1 45 [(5, .int vg9), (0, .ref 116), (1, .int x1), (2, .int x2), (3, .int x3), (4, .int x4)] [.int vg9] i a q r (by rfl) ?_
            exact ft_ret mi_k181 (by rfl) (hP vg9 _ _ _ _ hG ⟨trivial, (show a 118 = a 118 from rfl)⟩)
        ·
          subst eg7
          first | refine fo_goS mi_k181 fz181_4_2_30 [.int (-1)] (by rfl) ?_ | refine fo_goS mi_k181 fz181_8_2_30 [.int (-1)] (by rfl) ?_ | refine fo_goS mi_k181 fz181_16_2_30 [.int (-1)] (by rfl) ?_ | refine fo_goS mi_k181 fz181_26_2_30 [.int (-1)] (by rfl) ?_ | refine ft_go mi_k181 2 30 [(0, .ref 116), (1, .int x1), (2, .int x2), (3, .int x3), (4, .int x4)] [.int (-1)] i a q r (by rfl) ?_
          exact ft_ret mi_k181 (by rfl) (hP (-1) _ _ _ _ hG ⟨trivial, (show a 118 = a 118 from rfl)⟩)
      ·
        subst eg5
        first | refine fo_goS mi_k181 fz181_4_2_30 [.int (-1)] (by rfl) ?_ | refine fo_goS mi_k181 fz181_8_2_30 [.int (-1)] (by rfl) ?_ | refine fo_goS mi_k181 fz181_16_2_30 [.int (-1)] (by rfl) ?_ | refine fo_goS mi_k181 fz181_26_2_30 [.int (-1)] (by rfl) ?_ | refine ft_go mi_k181 2 30 [(0, .ref 116), (1, .int x1), (2, .int x2), (3, .int x3), (4, .int x4)] [.int (-1)] i a q r (by rfl) ?_
        exact ft_ret mi_k181 (by rfl) (hP (-1) _ _ _ _ hG ⟨trivial, (show a 118 = a 118 from rfl)⟩)
  ·
    subst eg1
    first | refine fo_goS mi_k181 fz181_4_2_30 [.int (-1)] (by rfl) ?_ | refine fo_goS mi_k181 fz181_8_2_30 [.int (-1)] (by rfl) ?_ | refine fo_goS mi_k181 fz181_16_2_30 [.int (-1)] (by rfl) ?_ | refine fo_goS mi_k181 fz181_26_2_30 [.int (-1)] (by rfl) ?_ | refine ft_go mi_k181 2 30 [(0, .ref 116), (1, .int x1), (2, .int x2), (3, .int x3), (4, .int x4)] [.int (-1)] i a q r (by rfl) ?_
    exact ft_ret mi_k181 (by rfl) (hP (-1) _ _ _ _ hG ⟨trivial, (show a 118 = a 118 from rfl)⟩)
def yw183_116 : kW := ([7464, 7465, 7466, 7467, 7469], [118, 128, 129, 139, 141, 142, 143, 144, 145], [], [])
def yw183_116_L60 : kW := ([7464, 7465, 7466, 7467], [118, 128, 129, 139, 141, 142, 143, 144, 145], [], [])
set_option maxRecDepth 100000 in
theorem ke183_116 {i : Nat → Int32} {a : Nat → List Int32} {q : Nat → List Int64} {r : Nat → Nat} (hI : kI i a q) (hr : kr r) (x1 : Int32) (x2 : Int32) (x3 : Int32) (hE_code : kCode i a) : km 15 183 [.ref 116, .int x1, .int x2, .int x3] (ks i a q r) (kVI yw183_116 i a q r (fun v i1 a1 q1 r1 => (True) ∧ a1 118 = a 118)) := by
  have hG := kG_self yw183_116 hI hr
  refine km_ofI (q := (mi_h183, mi_c183)) rfl (by decide) (Nat.le_of_ble_eq_true rfl) ?_
  intro P hP
  first | refine ft_goL mi_k183 1 1 [(0, .ref 116), (1, .int x1), (2, .int x2), (3, .int x3)] [.int x1] (by rfl) ?_ | refine ft_go mi_k183 1 1 [(0, .ref 116), (1, .int x1), (2, .int x2), (3, .int x3)] [.int x1] i a q r (by rfl) ?_
  refine ko_callPI mi_k183.1 (pc := 1) (ls := [(0, .ref 116), (1, .int x1), (2, .int x2), (3, .int x3)]) (st := [.int x1]) (h := ks i a q r) (i := (.invokestatic 127, 3, 133, 0, 9, 0, 382)) (mi_k183.2 _ _ (by rfl)) (ft_invS mi_pq133 (by rfl)) (cy := mi_c133) mi_pq133 rfl (kc133 hG.I hG.R x1) (by decide) ?_
  intro vg1 hg1
  rcases hg1 with ⟨eg1, hg1⟩ | ⟨eg1, hg1⟩
  ·
    subst eg1
    have z2 : ((0 : Int) ≤ x1.toInt) ∧ (x1.toInt ≤ 5) := hg1
    first | refine ft_goS mi_k183 3 9 [.int x2, .ref 116] (by rfl) ?_ | refine ft_go mi_k183 3 9 [(0, .ref 116), (1, .int x1), (2, .int x2), (3, .int x3)] [.int x2, .ref 116] i a q r (by rfl) ?_
    refine ko_callPI mi_k183.1 (pc := 9) (ls := [(0, .ref 116), (1, .int x1), (2, .int x2), (3, .int x3)]) (st := [.int x2, .ref 116]) (h := ks i a q r) (i := (.invokevirtual 137, 3, 132, 0, 9, 0, 387)) (mi_k183.2 _ _ (by rfl)) (ft_invS mi_pq132 (by rfl)) (cy := mi_c132) mi_pq132 rfl (kc132_116 hG.I hG.R x2) (by decide) ?_
    intro vg3 hg3
    rcases hg3 with ⟨eg3, hg3⟩ | ⟨eg3, hg3⟩
    ·
      subst eg3
      have fi_7424 : ((0 : Int) ≤ (i 7424).toInt) ∧ ((i 7424).toInt ≤ 8) := hG.I.1 7424
      have z4 : ((0 : Int) ≤ x2.toInt) ∧ (x2.toInt < (i 7424).toInt) := hg3
      first | refine ft_goS mi_k183 4 18 [.int 1, .int 0, .int x3] (by rfl) ?_ | refine ft_go mi_k183 4 18 [(0, .ref 116), (1, .int x1), (2, .int x2), (3, .int x3)] [.int 1, .int 0, .int x3] i a q r (by rfl) ?_
      refine ko_callPI mi_k183.1 (pc := 18) (ls := [(0, .ref 116), (1, .int x1), (2, .int x2), (3, .int x3)]) (st := [.int 1, .int 0, .int x3]) (h := ks i a q r) (i := (.invokestatic 119, 3, 131, 0, 9, 0, 379)) (mi_k183.2 _ _ (by rfl)) (ft_invS mi_pq131 (by rfl)) (cy := mi_c131) mi_pq131 rfl (kc131 hG.I hG.R x3 0 1) (by decide) ?_
      intro vg5 hg5
      rcases hg5 with ⟨eg5, hg5⟩ | ⟨eg5, hg5⟩
      ·
        subst eg5
        first | refine ft_goS mi_k183 3 28 [.int x1, .ref 116] (by rfl) ?_ | refine ft_go mi_k183 3 28 [(0, .ref 116), (1, .int x1), (2, .int x2), (3, .int x3)] [.int x1, .ref 116] i a q r (by rfl) ?_
        refine ko_callPI mi_k183.1 (pc := 28) (ls := [(0, .ref 116), (1, .int x1), (2, .int x2), (3, .int x3)]) (st := [.int x1, .ref 116]) (h := ks i a q r) (i := (.invokevirtual 276, 3, 173, 0, 9, 0, 410)) (mi_k183.2 _ _ (by rfl)) (ft_invS mi_pq173 (by rfl)) (cy := mi_c173) mi_pq173 rfl (kc173_116 hG.I hG.R x1 (of34 z2.1 z2.2)) (by decide) ?_
        intro vg7 hg7
        first | refine ft_goL mi_k183 2 35 [(4, .int vg7), (0, .ref 116), (1, .int x1), (2, .int x2), (3, .int x3)] [.int vg7] (by rfl) ?_ | refine ft_go mi_k183 2 35 [(4, .int vg7), (0, .ref 116), (1, .int x1), (2, .int x2), (3, .int x3)] [.int vg7] i a q r (by rfl) ?_
        refine ft_ifS mi_k183 (decide (0 ≤ vg7)) 41 38 [] (by rfl) (fun c => ?_) (fun c => ?_)
        ·
          have c9 : (0 : Int32).toInt ≤ vg7.toInt := kd_le c; clear c
          first | refine ft_goS mi_k183 2 43 [.int x1, .ref 116] (by rfl) ?_ | refine ft_go mi_k183 2 43 [(4, .int vg7), (0, .ref 116), (1, .int x1), (2, .int x2), (3, .int x3)] [.int x1, .ref 116] i a q r (by rfl) ?_
          refine ko_callN mi_k183.1 (pc := 43) (ls := [(4, .int vg7), (0, .ref 116), (1, .int x1), (2, .int x2), (3, .int x3)]) (st := [.int x1, .ref 116]) (h := ks i a q r) (i := (.invokevirtual 279, 3, 174, 0, 9, 0, 411)) (mi_k183.2 _ _ (by rfl)) (ft_invS mi_pq174 (by rfl)) (cy := mi_c174) mi_pq174 rfl (kc174_116 hG.I hG.R x1 (of34 z2.1 z2.2)) (by decide) ?_
          intro ig10 ag10 qg10 rg10 kg10 hg10
          have hGg10 := kG_call hG kg10 (by decide +kernel)
          have z11 : (ig10 7469).toInt ≤ 20 := hg10
          first | refine ft_goL mi_k183 4 52 [(5, .int (-2)), (4, .int vg7), (0, .ref 116), (1, .int x1), (2, .int x2), (3, .int x3)] [.int x2, .ref 116] (by rfl) ?_ | refine ft_go mi_k183 4 52 [(5, .int (-2)), (4, .int vg7), (0, .ref 116), (1, .int x1), (2, .int x2), (3, .int x3)] [.int x2, .ref 116] ig10 ag10 qg10 rg10 (by rfl) ?_
          refine ko_callI mi_k183.1 (pc := 52) (ls := [(5, .int (-2)), (4, .int vg7), (0, .ref 116), (1, .int x1), (2, .int x2), (3, .int x3)]) (st := [.int x2, .ref 116]) (h := ks ig10 ag10 qg10 rg10) (i := (.invokevirtual 288, 3, 172, 0, 9, 0, 429)) (mi_k183.2 _ _ (by rfl)) (ft_invS mi_pq172 (by rfl)) (cy := mi_c172) mi_pq172 rfl (ke172_116 hGg10.I hGg10.R x2 (of118 fi_7424.2 z4.1 z4.2) (kCode_of (i1 := ig10) hE_code (hGg10.fi 7432 rfl) (hGg10.fa 120 rfl) (hGg10.fa 121 rfl) (hGg10.fa 122 rfl) (hGg10.fa 123 rfl))) (by decide) ?_
          intro vg12 ig12 ag12 qg12 rg12 kg12 hg12
          have hGg12 := kG_call hGg10 kg12 (by decide +kernel)
          obtain ⟨hg12, og12⟩ := hg12
          have q13 : ag12 118 = ag10 118 := og12
          first | refine fo_goL mi_k183 fz183_55_3_60 [(7, .int 0), (6, .int vg12), (5, .int (-2)), (4, .int vg7), (0, .ref 116), (1, .int x1), (2, .int x2), (3, .int x3)] [] (by rfl) ?_ | refine fo_goL mi_k183 fz183_97_3_60 [(7, .int 0), (6, .int vg12), (5, .int (-2)), (4, .int vg7), (0, .ref 116), (1, .int x1), (2, .int x2), (3, .int x3)] [] (by rfl) ?_ | refine fo_goL mi_k183 fz183_106_3_60 [(7, .int 0), (6, .int vg12), (5, .int (-2)), (4, .int vg7), (0, .ref 116), (1, .int x1), (2, .int x2), (3, .int x3)] [] (by rfl) ?_ | refine ft_go mi_k183 3 60 [(7, .int 0), (6, .int vg12), (5, .int (-2)), (4, .int vg7), (0, .ref 116), (1, .int x1), (2, .int x2), (3, .int x3)] [] ig12 ag12 qg12 rg12 (by rfl) ?_
          have lp14 : ∀ (nz : Nat) (i14 : Nat → Int32) (a14 : Nat → List Int32) (q14 : Nat → List Int64) (r14 : Nat → Nat) (l7_14 : Int32) (l6_14 : Int32) (l5_14 : Int32), kG yw183_116_L60 ig12 ag12 qg12 rg12 i14 a14 q14 r14 → ((0 : Int) ≤ l7_14.toInt) ∧ (l7_14.toInt ≤ 20) → (i14 7469).toInt ≤ 20 → a14 118 = a 118 → (((i14 7469).toInt - l7_14.toInt)).toNat < nz → ko 15 (mi_h183, mi_c183) P (60, [(7, .int l7_14), (6, .int l6_14), (5, .int l5_14), (4, .int vg7), (0, .ref 116), (1, .int x1), (2, .int x2), (3, .int x3)], [], (0, 0), ks i14 a14 q14 r14) := by
            intro nz
            induction nz with
            | zero =>
              intro _ _ _ _ _ _ _ _ _ _ _ hm
              exact absurd hm (Nat.not_lt_zero _)
            | succ nz ih14 =>
              intro i14 a14 q14 r14 l7_14 l6_14 l5_14 hL14 p14_0 p14_1 O14_0 hm14
              have fi14_7469 : ((0 : Int) ≤ (i14 7469).toInt) ∧ ((i14 7469).toInt ≤ 21) := hL14.I.1 7469
              have s15 : (l7_14 + 1).toInt = l7_14.toInt + (1 : Int32).toInt := kd_add (of9 p14_0.1 kof1) (of145 p14_0.2 kof1)
              first | refine fo_goL mi_k183 fz183_60_5_68 [(7, .int l7_14), (6, .int l6_14), (5, .int l5_14), (4, .int vg7), (0, .ref 116), (1, .int x1), (2, .int x2), (3, .int x3)] [.int (i14 7469), .int (l7_14 + 1)] (by rfl) ?_ | refine ft_go mi_k183 5 68 [(7, .int l7_14), (6, .int l6_14), (5, .int l5_14), (4, .int vg7), (0, .ref 116), (1, .int x1), (2, .int x2), (3, .int x3)] [.int (i14 7469), .int (l7_14 + 1)] i14 a14 q14 r14 (by rfl) ?_
              refine ft_ifS mi_k183 (decide ((i14 7469) ≤ (l7_14 + 1))) 114 71 [] (by rfl) (fun c => ?_) (fun c => ?_)
              ·
                have c16 : (i14 7469).toInt ≤ (l7_14 + 1).toInt := kd_le c; clear c
                have hG17 := kG_call hGg12 hL14 (by decide +kernel)
                first | refine ft_goS mi_k183 1 115 [.int x3] (by rfl) ?_ | refine ft_go mi_k183 1 115 [(7, .int l7_14), (6, .int l6_14), (5, .int l5_14), (4, .int vg7), (0, .ref 116), (1, .int x1), (2, .int x2), (3, .int x3)] [.int x3] i14 a14 q14 r14 (by rfl) ?_
                refine ft_ifS mi_k183 (x3 != 0) 123 118 [] (by rfl) (fun c => ?_) (fun c => ?_)
                ·
                  have c18 : x3.toInt ≠ (0 : Int32).toInt := kd_ne c; clear c
                  first | refine ft_goS mi_k183 1 125 [.int l6_14] (by rfl) ?_ | refine ft_go mi_k183 1 125 [(7, .int l7_14), (6, .int l6_14), (5, .int l5_14), (4, .int vg7), (0, .ref 116), (1, .int x1), (2, .int x2), (3, .int x3)] [.int l6_14] i14 a14 q14 r14 (by rfl) ?_
                  exact ft_ret mi_k183 (by rfl) (hP l6_14 _ _ _ _ hG17 ⟨trivial, (show a14 118 = a 118 from (by first | rfl | (simp only [O14_0, sMn, sMx]; done) | (simp only [O14_0, sMn, sMx]; rfl)))⟩)
                ·
                  have c19 : x3.toInt = (0 : Int32).toInt := kd_neF c; clear c
                  first | refine ft_goS mi_k183 2 125 [.int l5_14] (by rfl) ?_ | refine ft_go mi_k183 2 125 [(7, .int l7_14), (6, .int l6_14), (5, .int l5_14), (4, .int vg7), (0, .ref 116), (1, .int x1), (2, .int x2), (3, .int x3)] [.int l5_14] i14 a14 q14 r14 (by rfl) ?_
                  exact ft_ret mi_k183 (by rfl) (hP l5_14 _ _ _ _ hG17 ⟨trivial, (show a14 118 = a 118 from (by first | rfl | (simp only [O14_0, sMn, sMx]; done) | (simp only [O14_0, sMn, sMx]; rfl)))⟩)
              ·
                have c20 : (l7_14 + 1).toInt < (i14 7469).toInt := kd_leF c; clear c
                first | refine ft_goS mi_k183 2 74 [.int l7_14, .ref 116] (by rfl) ?_ | refine ft_go mi_k183 2 74 [(7, .int l7_14), (6, .int l6_14), (5, .int l5_14), (4, .int vg7), (0, .ref 116), (1, .int x1), (2, .int x2), (3, .int x3)] [.int l7_14, .ref 116] i14 a14 q14 r14 (by rfl) ?_
                refine ko_callN mi_k183.1 (pc := 74) (ls := [(7, .int l7_14), (6, .int l6_14), (5, .int l5_14), (4, .int vg7), (0, .ref 116), (1, .int x1), (2, .int x2), (3, .int x3)]) (st := [.int l7_14, .ref 116]) (h := ks i14 a14 q14 r14) (i := (.invokevirtual 294, 3, 182, 0, 9, 0, 433)) (mi_k183.2 _ _ (by rfl)) (ft_invS mi_pq182 (by rfl)) (cy := mi_c182) mi_pq182 rfl (kc182_116 hL14.I hL14.R l7_14 (of149 c20 fi14_7469.2 p14_0.1 s15 kof1)) (by decide) ?_
                intro ig21 ag21 qg21 rg21 kg21 hg21
                have hGg21 := kG_call hL14 kg21 (by decide +kernel)
                first | refine ft_goS mi_k183 2 79 [.int x2, .ref 116] (by rfl) ?_ | refine ft_go mi_k183 2 79 [(7, .int l7_14), (6, .int l6_14), (5, .int l5_14), (4, .int vg7), (0, .ref 116), (1, .int x1), (2, .int x2), (3, .int x3)] [.int x2, .ref 116] ig21 ag21 qg21 rg21 (by rfl) ?_
                have hG22 := kG_call hGg12 hGg21 (by decide +kernel)
                refine ko_callI mi_k183.1 (pc := 79) (ls := [(7, .int l7_14), (6, .int l6_14), (5, .int l5_14), (4, .int vg7), (0, .ref 116), (1, .int x1), (2, .int x2), (3, .int x3)]) (st := [.int x2, .ref 116]) (h := ks ig21 ag21 qg21 rg21) (i := (.invokevirtual 288, 3, 172, 0, 9, 0, 429)) (mi_k183.2 _ _ (by rfl)) (ft_invS mi_pq172 (by rfl)) (cy := mi_c172) mi_pq172 rfl (ke172_116 hGg21.I hGg21.R x2 (of118 fi_7424.2 z4.1 z4.2) (kCode_of (i1 := ig21) hE_code (hG22.fi 7432 rfl) (hG22.fa 120 rfl) (hG22.fa 121 rfl) (hG22.fa 122 rfl) (hG22.fa 123 rfl))) (by decide) ?_
                intro vg23 ig23 ag23 qg23 rg23 kg23 hg23
                have hGg23 := kG_call hGg21 kg23 (by decide +kernel)
                obtain ⟨hg23, og23⟩ := hg23
                have q24 : ag23 118 = ag21 118 := og23
                first | refine ft_goL mi_k183 3 87 [(8, .int vg23), (7, .int l7_14), (6, .int l6_14), (5, .int l5_14), (4, .int vg7), (0, .ref 116), (1, .int x1), (2, .int x2), (3, .int x3)] [.int l7_14, .ref 116] (by rfl) ?_ | refine ft_go mi_k183 3 87 [(8, .int vg23), (7, .int l7_14), (6, .int l6_14), (5, .int l5_14), (4, .int vg7), (0, .ref 116), (1, .int x1), (2, .int x2), (3, .int x3)] [.int l7_14, .ref 116] ig23 ag23 qg23 rg23 (by rfl) ?_
                refine ko_callN mi_k183.1 (pc := 87) (ls := [(8, .int vg23), (7, .int l7_14), (6, .int l6_14), (5, .int l5_14), (4, .int vg7), (0, .ref 116), (1, .int x1), (2, .int x2), (3, .int x3)]) (st := [.int l7_14, .ref 116]) (h := ks ig23 ag23 qg23 rg23) (i := (.invokevirtual 294, 3, 182, 0, 9, 0, 433)) (mi_k183.2 _ _ (by rfl)) (ft_invS mi_pq182 (by rfl)) (cy := mi_c182) mi_pq182 rfl (kc182_116 hGg23.I hGg23.R l7_14 (of149 c20 fi14_7469.2 p14_0.1 s15 kof1)) (by decide) ?_
                intro ig25 ag25 qg25 rg25 kg25 hg25
                have hGg25 := kG_call hGg23 kg25 (by decide +kernel)
                first | refine ft_goS mi_k183 2 94 [.int l6_14, .int vg23] (by rfl) ?_ | refine ft_go mi_k183 2 94 [(8, .int vg23), (7, .int l7_14), (6, .int l6_14), (5, .int l5_14), (4, .int vg7), (0, .ref 116), (1, .int x1), (2, .int x2), (3, .int x3)] [.int l6_14, .int vg23] ig25 ag25 qg25 rg25 (by rfl) ?_
                refine ft_ifS mi_k183 (decide (l6_14 < vg23)) 100 97 [] (by rfl) (fun c => ?_) (fun c => ?_)
                ·
                  have c26 : l6_14.toInt < vg23.toInt := kd_lt c; clear c
                  first | refine fo_goL mi_k183 fz183_100_6_60 [(7, .int (l7_14 + 1)), (5, .int l7_14), (6, .int vg23), (8, .int vg23), (4, .int vg7), (0, .ref 116), (1, .int x1), (2, .int x2), (3, .int x3)] [] (by rfl) ?_ | refine ft_goL mi_k183 6 60 [(7, .int (l7_14 + 1)), (5, .int l7_14), (6, .int vg23), (8, .int vg23), (4, .int vg7), (0, .ref 116), (1, .int x1), (2, .int x2), (3, .int x3)] [] (by rfl) ?_ | refine ft_go mi_k183 6 60 [(7, .int (l7_14 + 1)), (5, .int l7_14), (6, .int vg23), (8, .int vg23), (4, .int vg7), (0, .ref 116), (1, .int x1), (2, .int x2), (3, .int x3)] [] ig25 ag25 qg25 rg25 (by rfl) ?_
                  refine ko_perm [(7, .int (l7_14 + 1)), (6, .int vg23), (5, .int l7_14), (4, .int vg7), (0, .ref 116), (1, .int x1), (2, .int x2), (3, .int x3)] (List.forall_mem_cons.mpr ⟨(List.Mem.head _), (List.forall_mem_cons.mpr ⟨(List.Mem.tail _ (List.Mem.tail _ (List.Mem.head _))), (List.forall_mem_cons.mpr ⟨(List.Mem.tail _ (List.Mem.head _)), (List.forall_mem_cons.mpr ⟨(List.Mem.tail _ (List.Mem.tail _ (List.Mem.tail _ (List.Mem.tail _ (List.Mem.head _))))), (List.forall_mem_cons.mpr ⟨(List.Mem.tail _ (List.Mem.tail _ (List.Mem.tail _ (List.Mem.tail _ (List.Mem.tail _ (List.Mem.head _)))))), (List.forall_mem_cons.mpr ⟨(List.Mem.tail _ (List.Mem.tail _ (List.Mem.tail _ (List.Mem.tail _ (List.Mem.tail _ (List.Mem.tail _ (List.Mem.head _))))))), (List.forall_mem_cons.mpr ⟨(List.Mem.tail _ (List.Mem.tail _ (List.Mem.tail _ (List.Mem.tail _ (List.Mem.tail _ (List.Mem.tail _ (List.Mem.tail _ (List.Mem.head _)))))))), (List.forall_mem_cons.mpr ⟨(List.Mem.tail _ (List.Mem.tail _ (List.Mem.tail _ (List.Mem.tail _ (List.Mem.tail _ (List.Mem.tail _ (List.Mem.tail _ (List.Mem.tail _ (List.Mem.head _))))))))), (fun _ h => absurd h List.not_mem_nil)⟩)⟩)⟩)⟩)⟩)⟩)⟩)⟩) ?_
                  have efig21_7469 : (ig21 7469).toInt = (i14 7469).toInt := kg21.ti 7469 rfl
                  have efig23_7469 : (ig23 7469).toInt = (ig21 7469).toInt := kg23.ti 7469 rfl
                  have efig25_7469 : (ig25 7469).toInt = (ig23 7469).toInt := kg25.ti 7469 rfl
                  exact ih14 _ _ _ _ _ _ _ hGg25 (of150 c20 fi14_7469.2 p14_0.1 s15 kof1) (of151 efig21_7469 efig23_7469 efig25_7469 p14_1) (by first | rfl | (simp only [kg25.fa 118 rfl, q24, kg21.fa 118 rfl, O14_0, sMn, sMx]; done) | (simp only [kg25.fa 118 rfl, q24, kg21.fa 118 rfl, O14_0, sMn, sMx]; rfl)) (kj_meas (of142 efig21_7469 efig23_7469 efig25_7469 s15 kof1) (of152 c20 s15 kof1) hm14)
                ·
                  have c27 : vg23.toInt ≤ l6_14.toInt := kd_ltF c; clear c
                  first | refine fo_goL mi_k183 fz183_55_3_60 [(7, .int (l7_14 + 1)), (8, .int vg23), (6, .int l6_14), (5, .int l5_14), (4, .int vg7), (0, .ref 116), (1, .int x1), (2, .int x2), (3, .int x3)] [] (by rfl) ?_ | refine fo_goL mi_k183 fz183_97_3_60 [(7, .int (l7_14 + 1)), (8, .int vg23), (6, .int l6_14), (5, .int l5_14), (4, .int vg7), (0, .ref 116), (1, .int x1), (2, .int x2), (3, .int x3)] [] (by rfl) ?_ | refine fo_goL mi_k183 fz183_106_3_60 [(7, .int (l7_14 + 1)), (8, .int vg23), (6, .int l6_14), (5, .int l5_14), (4, .int vg7), (0, .ref 116), (1, .int x1), (2, .int x2), (3, .int x3)] [] (by rfl) ?_ | refine ft_go mi_k183 3 60 [(7, .int (l7_14 + 1)), (8, .int vg23), (6, .int l6_14), (5, .int l5_14), (4, .int vg7), (0, .ref 116), (1, .int x1), (2, .int x2), (3, .int x3)] [] ig25 ag25 qg25 rg25 (by rfl) ?_
                  refine ko_perm [(7, .int (l7_14 + 1)), (6, .int l6_14), (5, .int l5_14), (4, .int vg7), (0, .ref 116), (1, .int x1), (2, .int x2), (3, .int x3)] (List.forall_mem_cons.mpr ⟨(List.Mem.head _), (List.forall_mem_cons.mpr ⟨(List.Mem.tail _ (List.Mem.tail _ (List.Mem.head _))), (List.forall_mem_cons.mpr ⟨(List.Mem.tail _ (List.Mem.tail _ (List.Mem.tail _ (List.Mem.head _)))), (List.forall_mem_cons.mpr ⟨(List.Mem.tail _ (List.Mem.tail _ (List.Mem.tail _ (List.Mem.tail _ (List.Mem.head _))))), (List.forall_mem_cons.mpr ⟨(List.Mem.tail _ (List.Mem.tail _ (List.Mem.tail _ (List.Mem.tail _ (List.Mem.tail _ (List.Mem.head _)))))), (List.forall_mem_cons.mpr ⟨(List.Mem.tail _ (List.Mem.tail _ (List.Mem.tail _ (List.Mem.tail _ (List.Mem.tail _ (List.Mem.tail _ (List.Mem.head _))))))), (List.forall_mem_cons.mpr ⟨(List.Mem.tail _ (List.Mem.tail _ (List.Mem.tail _ (List.Mem.tail _ (List.Mem.tail _ (List.Mem.tail _ (List.Mem.tail _ (List.Mem.head _)))))))), (List.forall_mem_cons.mpr ⟨(List.Mem.tail _ (List.Mem.tail _ (List.Mem.tail _ (List.Mem.tail _ (List.Mem.tail _ (List.Mem.tail _ (List.Mem.tail _ (List.Mem.tail _ (List.Mem.head _))))))))), (fun _ h => absurd h List.not_mem_nil)⟩)⟩)⟩)⟩)⟩)⟩)⟩)⟩) ?_
                  have efig21_7469 : (ig21 7469).toInt = (i14 7469).toInt := kg21.ti 7469 rfl
                  have efig23_7469 : (ig23 7469).toInt = (ig21 7469).toInt := kg23.ti 7469 rfl
                  have efig25_7469 : (ig25 7469).toInt = (ig23 7469).toInt := kg25.ti 7469 rfl
                  exact ih14 _ _ _ _ _ _ _ hGg25 (of150 c20 fi14_7469.2 p14_0.1 s15 kof1) (of151 efig21_7469 efig23_7469 efig25_7469 p14_1) (by first | rfl | (simp only [kg25.fa 118 rfl, q24, kg21.fa 118 rfl, O14_0, sMn, sMx]; done) | (simp only [kg25.fa 118 rfl, q24, kg21.fa 118 rfl, O14_0, sMn, sMx]; rfl)) (kj_meas (of142 efig21_7469 efig23_7469 efig25_7469 s15 kof1) (of152 c20 s15 kof1) hm14)
          have efig12_7469 : (ig12 7469).toInt = (ig10 7469).toInt := kg12.ti 7469 rfl
          exact lp14 _ _ _ _ _ _ _ _ (kG_self _ hGg12.I hGg12.R) (of153 kof0) (of154 efig12_7469 z11) (by first | rfl | (simp only [q13, kg10.fa 118 rfl, sMn, sMx]; done) | (simp only [q13, kg10.fa 118 rfl, sMn, sMx]; rfl)) (Nat.lt_succ_self _)
        ·
          have c28 : vg7.toInt < (0 : Int32).toInt := kd_leF c; clear c
          first | refine ft_goS mi_k183 1 40 [.int vg7] (by rfl) ?_ | refine ft_go mi_k183 1 40 [(4, .int vg7), (0, .ref 116), (1, .int x1), (2, .int x2), (3, .int x3)] [.int vg7] i a q r (by rfl) ?_
          exact ft_ret mi_k183 (by rfl) (hP vg7 _ _ _ _ hG ⟨trivial, (show a 118 = a 118 from rfl)⟩)
      ·
        subst eg5
        first | refine fo_goS mi_k183 fz183_4_2_25 [.int (-1)] (by rfl) ?_ | refine fo_goS mi_k183 fz183_12_2_25 [.int (-1)] (by rfl) ?_ | refine fo_goS mi_k183 fz183_21_2_25 [.int (-1)] (by rfl) ?_ | refine ft_go mi_k183 2 25 [(0, .ref 116), (1, .int x1), (2, .int x2), (3, .int x3)] [.int (-1)] i a q r (by rfl) ?_
        exact ft_ret mi_k183 (by rfl) (hP (-1) _ _ _ _ hG ⟨trivial, (show a 118 = a 118 from rfl)⟩)
    ·
      subst eg3
      first | refine fo_goS mi_k183 fz183_4_2_25 [.int (-1)] (by rfl) ?_ | refine fo_goS mi_k183 fz183_12_2_25 [.int (-1)] (by rfl) ?_ | refine fo_goS mi_k183 fz183_21_2_25 [.int (-1)] (by rfl) ?_ | refine ft_go mi_k183 2 25 [(0, .ref 116), (1, .int x1), (2, .int x2), (3, .int x3)] [.int (-1)] i a q r (by rfl) ?_
      exact ft_ret mi_k183 (by rfl) (hP (-1) _ _ _ _ hG ⟨trivial, (show a 118 = a 118 from rfl)⟩)
  ·
    subst eg1
    first | refine fo_goS mi_k183 fz183_4_2_25 [.int (-1)] (by rfl) ?_ | refine fo_goS mi_k183 fz183_12_2_25 [.int (-1)] (by rfl) ?_ | refine fo_goS mi_k183 fz183_21_2_25 [.int (-1)] (by rfl) ?_ | refine ft_go mi_k183 2 25 [(0, .ref 116), (1, .int x1), (2, .int x2), (3, .int x3)] [.int (-1)] i a q r (by rfl) ?_
    exact ft_ret mi_k183 (by rfl) (hP (-1) _ _ _ _ hG ⟨trivial, (show a 118 = a 118 from rfl)⟩)
def yw189_116 : kW := ([7464, 7465, 7466, 7467, 7469], [118, 128, 129, 139, 141, 142, 143, 144, 145, 148], [], [])
set_option maxRecDepth 100000 in
theorem ke189_116 {i : Nat → Int32} {a : Nat → List Int32} {q : Nat → List Int64} {r : Nat → Nat} (hI : kI i a q) (hr : kr r) (x1 : Int32) (x2 : Int32) (hE_code : kCode i a) : km 13 189 [.ref 116, .int x1, .int x2] (ks i a q r) (kVI yw189_116 i a q r (fun v i1 a1 q1 r1 => (True) ∧ a1 118 = a 118)) := by
  have hG := kG_self yw189_116 hI hr
  refine km_ofI (q := (mi_h189, mi_c189)) rfl (by decide) (Nat.le_of_ble_eq_true rfl) ?_
  intro P hP
  first | refine ft_goL mi_k189 1 1 [(0, .ref 116), (1, .int x1), (2, .int x2)] [.int x1] (by rfl) ?_ | refine ft_go mi_k189 1 1 [(0, .ref 116), (1, .int x1), (2, .int x2)] [.int x1] i a q r (by rfl) ?_
  refine ko_callPI mi_k189.1 (pc := 1) (ls := [(0, .ref 116), (1, .int x1), (2, .int x2)]) (st := [.int x1]) (h := ks i a q r) (i := (.invokestatic 127, 3, 133, 0, 9, 0, 382)) (mi_k189.2 _ _ (by rfl)) (ft_invS mi_pq133 (by rfl)) (cy := mi_c133) mi_pq133 rfl (kc133 hG.I hG.R x1) (by decide) ?_
  intro vg1 hg1
  rcases hg1 with ⟨eg1, hg1⟩ | ⟨eg1, hg1⟩
  ·
    subst eg1
    have z2 : ((0 : Int) ≤ x1.toInt) ∧ (x1.toInt ≤ 5) := hg1
    first | refine ft_goS mi_k189 4 10 [.int 1, .int 0, .int x2] (by rfl) ?_ | refine ft_go mi_k189 4 10 [(0, .ref 116), (1, .int x1), (2, .int x2)] [.int 1, .int 0, .int x2] i a q r (by rfl) ?_
    refine ko_callPI mi_k189.1 (pc := 10) (ls := [(0, .ref 116), (1, .int x1), (2, .int x2)]) (st := [.int 1, .int 0, .int x2]) (h := ks i a q r) (i := (.invokestatic 119, 3, 131, 0, 9, 0, 379)) (mi_k189.2 _ _ (by rfl)) (ft_invS mi_pq131 (by rfl)) (cy := mi_c131) mi_pq131 rfl (kc131 hG.I hG.R x2 0 1) (by decide) ?_
    intro vg3 hg3
    rcases hg3 with ⟨eg3, hg3⟩ | ⟨eg3, hg3⟩
    ·
      subst eg3
      first | refine ft_goS mi_k189 3 20 [.int x1, .ref 116] (by rfl) ?_ | refine ft_go mi_k189 3 20 [(0, .ref 116), (1, .int x1), (2, .int x2)] [.int x1, .ref 116] i a q r (by rfl) ?_
      refine ko_callPI mi_k189.1 (pc := 20) (ls := [(0, .ref 116), (1, .int x1), (2, .int x2)]) (st := [.int x1, .ref 116]) (h := ks i a q r) (i := (.invokevirtual 276, 3, 173, 0, 9, 0, 410)) (mi_k189.2 _ _ (by rfl)) (ft_invS mi_pq173 (by rfl)) (cy := mi_c173) mi_pq173 rfl (kc173_116 hG.I hG.R x1 (of34 z2.1 z2.2)) (by decide) ?_
      intro vg5 hg5
      first | refine ft_goL mi_k189 2 25 [(3, .int vg5), (0, .ref 116), (1, .int x1), (2, .int x2)] [.int vg5] (by rfl) ?_ | refine ft_go mi_k189 2 25 [(3, .int vg5), (0, .ref 116), (1, .int x1), (2, .int x2)] [.int vg5] i a q r (by rfl) ?_
      refine ft_ifS mi_k189 (decide (0 ≤ vg5)) 30 28 [] (by rfl) (fun c => ?_) (fun c => ?_)
      ·
        have c7 : (0 : Int32).toInt ≤ vg5.toInt := kd_le c; clear c
        first | refine ft_goS mi_k189 2 34 [.int (i 7424)] (by rfl) ?_ | refine ft_go mi_k189 2 34 [(3, .int vg5), (0, .ref 116), (1, .int x1), (2, .int x2)] [.int (i 7424)] i a q r (by rfl) ?_
        refine ft_ifS mi_k189 ((i 7424) != 0) 40 37 [] (by rfl) (fun c => ?_) (fun c => ?_)
        ·
          have c8 : (i 7424).toInt ≠ (0 : Int32).toInt := kd_ne c; clear c
          first | refine ft_goS mi_k189 2 42 [.int x1, .ref 116] (by rfl) ?_ | refine ft_go mi_k189 2 42 [(3, .int vg5), (0, .ref 116), (1, .int x1), (2, .int x2)] [.int x1, .ref 116] i a q r (by rfl) ?_
          refine ko_callN mi_k189.1 (pc := 42) (ls := [(3, .int vg5), (0, .ref 116), (1, .int x1), (2, .int x2)]) (st := [.int x1, .ref 116]) (h := ks i a q r) (i := (.invokevirtual 279, 3, 174, 0, 9, 0, 411)) (mi_k189.2 _ _ (by rfl)) (ft_invS mi_pq174 (by rfl)) (cy := mi_c174) mi_pq174 rfl (kc174_116 hG.I hG.R x1 (of34 z2.1 z2.2)) (by decide) ?_
          intro ig9 ag9 qg9 rg9 kg9 hg9
          have hGg9 := kG_call hG kg9 (by decide +kernel)
          first | refine ft_goS mi_k189 1 46 [.ref 116] (by rfl) ?_ | refine ft_go mi_k189 1 46 [(3, .int vg5), (0, .ref 116), (1, .int x1), (2, .int x2)] [.ref 116] ig9 ag9 qg9 rg9 (by rfl) ?_
          refine ko_callN mi_k189.1 (pc := 46) (ls := [(3, .int vg5), (0, .ref 116), (1, .int x1), (2, .int x2)]) (st := [.ref 116]) (h := ks ig9 ag9 qg9 rg9) (i := (.invokevirtual 267, 3, 171, 0, 9, 0, 412)) (mi_k189.2 _ _ (by rfl)) (ft_invS mi_pq171 (by rfl)) (cy := mi_c171) mi_pq171 rfl (ke171_116 hGg9.I hGg9.R ) (by decide) ?_
          intro ig11 ag11 qg11 rg11 kg11 hg11
          have hGg11 := kG_call hGg9 kg11 (by decide +kernel)
          obtain ⟨hg11, og11⟩ := hg11
          have q12 : ag11 139 = ag9 118 := og11.1
          have q13 : ag11 118 = ag9 118 := og11.2
          first | refine ft_goS mi_k189 1 50 [.ref 116] (by rfl) ?_ | refine ft_go mi_k189 1 50 [(3, .int vg5), (0, .ref 116), (1, .int x1), (2, .int x2)] [.ref 116] ig11 ag11 qg11 rg11 (by rfl) ?_
          refine ko_callN mi_k189.1 (pc := 50) (ls := [(3, .int vg5), (0, .ref 116), (1, .int x1), (2, .int x2)]) (st := [.ref 116]) (h := ks ig11 ag11 qg11 rg11) (i := (.invokevirtual 270, 3, 170, 0, 9, 0, 414)) (mi_k189.2 _ _ (by rfl)) (ft_invS mi_pq170 (by rfl)) (cy := mi_c170) mi_pq170 rfl (kc170_116 hGg11.I hGg11.R (kCode_of (i1 := ig11) hE_code (hGg11.fi 7432 rfl) (hGg11.fa 120 rfl) (hGg11.fa 121 rfl) (hGg11.fa 122 rfl) (hGg11.fa 123 rfl))) (by decide) ?_
          intro ig14 ag14 qg14 rg14 kg14 hg14
          have hGg14 := kG_call hGg11 kg14 (by decide +kernel)
          first | refine fo_goL mi_k189 fz189_53_4_59 [(5, .int 1), (4, .int 0), (3, .int vg5), (0, .ref 116), (1, .int x1), (2, .int x2)] [] (by rfl) ?_ | refine fo_goL mi_k189 fz189_101_4_59 [(5, .int 1), (4, .int 0), (3, .int vg5), (0, .ref 116), (1, .int x1), (2, .int x2)] [] (by rfl) ?_ | refine ft_goL mi_k189 4 59 [(5, .int 1), (4, .int 0), (3, .int vg5), (0, .ref 116), (1, .int x1), (2, .int x2)] [] (by rfl) ?_ | refine ft_go mi_k189 4 59 [(5, .int 1), (4, .int 0), (3, .int vg5), (0, .ref 116), (1, .int x1), (2, .int x2)] [] ig14 ag14 qg14 rg14 (by rfl) ?_
          have lp15 : ∀ (nz : Nat) (l5_15 : Int32) (l4_15 : Int32), ((0 : Int) ≤ l4_15.toInt) ∧ (l4_15.toInt ≤ 7) → (1 : Int) ≤ l5_15.toInt → ag14 139 = a 118 → (((ig14 7424).toInt - l5_15.toInt)).toNat < nz → ko 13 (mi_h189, mi_c189) P (59, [(5, .int l5_15), (4, .int l4_15), (3, .int vg5), (0, .ref 116), (1, .int x1), (2, .int x2)], [], (0, 0), ks ig14 ag14 qg14 rg14) := by
            intro nz
            induction nz with
            | zero =>
              intro _ _ _ _ _ hm
              exact absurd hm (Nat.not_lt_zero _)
            | succ nz ih15 =>
              intro l5_15 l4_15 p15_0 p15_1 O15_0 hm15
              have fig14_7424 : ((0 : Int) ≤ (ig14 7424).toInt) ∧ ((ig14 7424).toInt ≤ 8) := hGg14.I.1 7424
              first | refine ft_goL mi_k189 3 65 [(5, .int l5_15), (4, .int l4_15), (3, .int vg5), (0, .ref 116), (1, .int x1), (2, .int x2)] [.int (ig14 7424), .int l5_15] (by rfl) ?_ | refine ft_go mi_k189 3 65 [(5, .int l5_15), (4, .int l4_15), (3, .int vg5), (0, .ref 116), (1, .int x1), (2, .int x2)] [.int (ig14 7424), .int l5_15] ig14 ag14 qg14 rg14 (by rfl) ?_
              refine ft_ifS mi_k189 (decide ((ig14 7424) ≤ l5_15)) 111 68 [] (by rfl) (fun c => ?_) (fun c => ?_)
              ·
                have c16 : (ig14 7424).toInt ≤ l5_15.toInt := kd_le c; clear c
                first | refine ft_goS mi_k189 4 117 [.int 0, .ref 139, .ref 116] (by rfl) ?_ | refine ft_go mi_k189 4 117 [(5, .int l5_15), (4, .int l4_15), (3, .int vg5), (0, .ref 116), (1, .int x1), (2, .int x2)] [.int 0, .ref 139, .ref 116] ig14 ag14 qg14 rg14 (by rfl) ?_
                refine ko_callN mi_k189.1 (pc := 117) (ls := [(5, .int l5_15), (4, .int l4_15), (3, .int vg5), (0, .ref 116), (1, .int x1), (2, .int x2)]) (st := [.int 0, .ref 139, .ref 116]) (h := ks ig14 ag14 qg14 rg14) (i := (.invokevirtual 273, 3, 169, 0, 9, 0, 423)) (mi_k189.2 _ _ (by rfl)) (ft_invS mi_pq169 (by rfl)) (cy := mi_c169) mi_pq169 rfl (ke169_116_139 hGg14.I hGg14.R 0 (of20 kof0)) (by decide) ?_
                intro ig17 ag17 qg17 rg17 kg17 hg17
                have hGg17 := kG_call hGg14 kg17 (by decide +kernel)
                obtain ⟨hg17, og17⟩ := hg17
                have q18 : ag17 118 = ag14 139 := og17
                first | refine ft_goS mi_k189 1 121 [.int x2] (by rfl) ?_ | refine ft_go mi_k189 1 121 [(5, .int l5_15), (4, .int l4_15), (3, .int vg5), (0, .ref 116), (1, .int x1), (2, .int x2)] [.int x2] ig17 ag17 qg17 rg17 (by rfl) ?_
                refine ft_ifS mi_k189 (x2 != 0) 131 124 [] (by rfl) (fun c => ?_) (fun c => ?_)
                ·
                  have c19 : x2.toInt ≠ (0 : Int32).toInt := kd_ne c; clear c
                  first | refine ft_goS mi_k189 1 133 [.int l4_15] (by rfl) ?_ | refine ft_go mi_k189 1 133 [(5, .int l5_15), (4, .int l4_15), (3, .int vg5), (0, .ref 116), (1, .int x1), (2, .int x2)] [.int l4_15] ig17 ag17 qg17 rg17 (by rfl) ?_
                  exact ft_ret mi_k189 (by rfl) (hP l4_15 _ _ _ _ hGg17 ⟨trivial, (show ag17 118 = a 118 from (by first | rfl | (simp only [q18, O15_0, sMn, sMx]; done) | (simp only [q18, O15_0, sMn, sMx]; rfl)))⟩)
                ·
                  have c20 : x2.toInt = (0 : Int32).toInt := kd_neF c; clear c
                  first | refine ft_goS mi_k189 1 125 [.ref 116] (by rfl) ?_ | refine ft_go mi_k189 1 125 [(5, .int l5_15), (4, .int l4_15), (3, .int vg5), (0, .ref 116), (1, .int x1), (2, .int x2)] [.ref 116] ig17 ag17 qg17 rg17 (by rfl) ?_
                  refine ko_callI mi_k189.1 (pc := 125) (ls := [(5, .int l5_15), (4, .int l4_15), (3, .int vg5), (0, .ref 116), (1, .int x1), (2, .int x2)]) (st := [.ref 116]) (h := ks ig17 ag17 qg17 rg17) (i := (.invokevirtual 311, 3, 188, 0, 9, 0, 440)) (mi_k189.2 _ _ (by rfl)) (ft_invS mi_pq188 (by rfl)) (cy := mi_c188) mi_pq188 rfl (kc188_116 hGg17.I hGg17.R ) (by decide) ?_
                  intro vg21 ig21 ag21 qg21 rg21 kg21 hg21
                  have hGg21 := kG_call hGg17 kg21 (by decide +kernel)
                  first | refine ft_goS mi_k189 1 133 [.int vg21] (by rfl) ?_ | refine ft_go mi_k189 1 133 [(5, .int l5_15), (4, .int l4_15), (3, .int vg5), (0, .ref 116), (1, .int x1), (2, .int x2)] [.int vg21] ig21 ag21 qg21 rg21 (by rfl) ?_
                  exact ft_ret mi_k189 (by rfl) (hP vg21 _ _ _ _ hGg21 ⟨trivial, (show ag21 118 = a 118 from (by first | rfl | (simp only [kg21.fa 118 rfl, q18, O15_0, sMn, sMx]; done) | (simp only [kg21.fa 118 rfl, q18, O15_0, sMn, sMx]; rfl)))⟩)
              ·
                have c22 : l5_15.toInt < (ig14 7424).toInt := kd_leF c; clear c
                first | refine ft_goS mi_k189 3 74 [.int l5_15, .ref 118] (by rfl) ?_ | refine ft_go mi_k189 3 74 [(5, .int l5_15), (4, .int l4_15), (3, .int vg5), (0, .ref 116), (1, .int x1), (2, .int x2)] [.int l5_15, .ref 118] ig14 ag14 qg14 rg14 (by rfl) ?_
                refine ko_iald3 mi_k189.1 (n := 31) (c := 31) (ax := (0, 0, 0, 0, 0)) (mi_k189.2 _ _ (by rfl)) (by rfl) (ksG118 _ _ _ _) (hGg14.I.2.1 118) rfl (of187 p15_1) (of188 c22 fig14_7424.2) ?_
                have r23 : ((l5_15.toInt = 18 → (0 : Int) ≤ ((ag14 118).getD l5_15.toNatClampNeg 0).toInt ∧ ((ag14 118).getD l5_15.toNatClampNeg 0).toInt ≤ 5)) ∧ ((19 ≤ l5_15.toInt → l5_15.toInt ≤ 24 → (0 : Int) ≤ ((ag14 118).getD l5_15.toNatClampNeg 0).toInt ∧ ((ag14 118).getD l5_15.toNatClampNeg 0).toInt ≤ 7)) := kE_ncond (p := 118) hGg14.I (by decide) (j := l5_15) (of187 p15_1)
                first | refine ft_goS mi_k189 3 81 [.int l5_15, .ref 139, .int ((ag14 118).getD l5_15.toNatClampNeg 0)] (by rfl) ?_ | refine ft_go mi_k189 3 81 [(5, .int l5_15), (4, .int l4_15), (3, .int vg5), (0, .ref 116), (1, .int x1), (2, .int x2)] [.int l5_15, .ref 139, .int ((ag14 118).getD l5_15.toNatClampNeg 0)] ig14 ag14 qg14 rg14 (by rfl) ?_
                refine ko_iald3 mi_k189.1 (n := 31) (c := 31) (ax := (0, 0, 0, 0, 0)) (mi_k189.2 _ _ (by rfl)) (by rfl) (ksG139 _ _ _ _) (hGg14.I.2.1 139) rfl (of187 p15_1) (of188 c22 fig14_7424.2) ?_
                have r24 : ((l5_15.toInt = 18 → (0 : Int) ≤ ((ag14 139).getD l5_15.toNatClampNeg 0).toInt ∧ ((ag14 139).getD l5_15.toNatClampNeg 0).toInt ≤ 5)) ∧ ((19 ≤ l5_15.toInt → l5_15.toInt ≤ 24 → (0 : Int) ≤ ((ag14 139).getD l5_15.toNatClampNeg 0).toInt ∧ ((ag14 139).getD l5_15.toNatClampNeg 0).toInt ≤ 7)) := kE_ncond (p := 139) hGg14.I (by decide) (j := l5_15) (of187 p15_1)
                have b25 : ((-2147483648 : Int) ≤ ((ag14 118).getD l5_15.toNatClampNeg 0).toInt) ∧ (((ag14 118).getD l5_15.toNatClampNeg 0).toInt ≤ 2147483647) := kd_bd ((ag14 118).getD l5_15.toNatClampNeg 0)
                have b26 : ((-2147483648 : Int) ≤ ((ag14 139).getD l5_15.toNatClampNeg 0).toInt) ∧ (((ag14 139).getD l5_15.toNatClampNeg 0).toInt ≤ 2147483647) := kd_bd ((ag14 139).getD l5_15.toNatClampNeg 0)
                first | refine ft_goS mi_k189 4 89 [.int l4_15, .ref 118, .int (((ag14 118).getD l5_15.toNatClampNeg 0) - ((ag14 139).getD l5_15.toNatClampNeg 0))] (by rfl) ?_ | refine ft_go mi_k189 4 89 [(5, .int l5_15), (4, .int l4_15), (3, .int vg5), (0, .ref 116), (1, .int x1), (2, .int x2)] [.int l4_15, .ref 118, .int (((ag14 118).getD l5_15.toNatClampNeg 0) - ((ag14 139).getD l5_15.toNatClampNeg 0))] ig14 ag14 qg14 rg14 (by rfl) ?_
                refine ko_iald3 mi_k189.1 (n := 31) (c := 31) (ax := (0, 0, 0, 0, 0)) (mi_k189.2 _ _ (by rfl)) (by rfl) (ksG118 _ _ _ _) (hGg14.I.2.1 118) rfl (of3 p15_0.1) (of72 p15_0.2) ?_
                have r27 : ((l4_15.toInt = 18 → (0 : Int) ≤ ((ag14 118).getD l4_15.toNatClampNeg 0).toInt ∧ ((ag14 118).getD l4_15.toNatClampNeg 0).toInt ≤ 5)) ∧ ((19 ≤ l4_15.toInt → l4_15.toInt ≤ 24 → (0 : Int) ≤ ((ag14 118).getD l4_15.toNatClampNeg 0).toInt ∧ ((ag14 118).getD l4_15.toNatClampNeg 0).toInt ≤ 7)) := kE_ncond (p := 118) hGg14.I (by decide) (j := l4_15) (of3 p15_0.1)
                first | refine ft_goS mi_k189 3 96 [.int l4_15, .ref 139, .int ((ag14 118).getD l4_15.toNatClampNeg 0), .int (((ag14 118).getD l5_15.toNatClampNeg 0) - ((ag14 139).getD l5_15.toNatClampNeg 0))] (by rfl) ?_ | refine ft_go mi_k189 3 96 [(5, .int l5_15), (4, .int l4_15), (3, .int vg5), (0, .ref 116), (1, .int x1), (2, .int x2)] [.int l4_15, .ref 139, .int ((ag14 118).getD l4_15.toNatClampNeg 0), .int (((ag14 118).getD l5_15.toNatClampNeg 0) - ((ag14 139).getD l5_15.toNatClampNeg 0))] ig14 ag14 qg14 rg14 (by rfl) ?_
                refine ko_iald3 mi_k189.1 (n := 31) (c := 31) (ax := (0, 0, 0, 0, 0)) (mi_k189.2 _ _ (by rfl)) (by rfl) (ksG139 _ _ _ _) (hGg14.I.2.1 139) rfl (of3 p15_0.1) (of72 p15_0.2) ?_
                have r28 : ((l4_15.toInt = 18 → (0 : Int) ≤ ((ag14 139).getD l4_15.toNatClampNeg 0).toInt ∧ ((ag14 139).getD l4_15.toNatClampNeg 0).toInt ≤ 5)) ∧ ((19 ≤ l4_15.toInt → l4_15.toInt ≤ 24 → (0 : Int) ≤ ((ag14 139).getD l4_15.toNatClampNeg 0).toInt ∧ ((ag14 139).getD l4_15.toNatClampNeg 0).toInt ≤ 7)) := kE_ncond (p := 139) hGg14.I (by decide) (j := l4_15) (of3 p15_0.1)
                have b29 : ((-2147483648 : Int) ≤ ((ag14 118).getD l4_15.toNatClampNeg 0).toInt) ∧ (((ag14 118).getD l4_15.toNatClampNeg 0).toInt ≤ 2147483647) := kd_bd ((ag14 118).getD l4_15.toNatClampNeg 0)
                have b30 : ((-2147483648 : Int) ≤ ((ag14 139).getD l4_15.toNatClampNeg 0).toInt) ∧ (((ag14 139).getD l4_15.toNatClampNeg 0).toInt ≤ 2147483647) := kd_bd ((ag14 139).getD l4_15.toNatClampNeg 0)
                first | refine ft_goS mi_k189 1 98 [.int (((ag14 118).getD l4_15.toNatClampNeg 0) - ((ag14 139).getD l4_15.toNatClampNeg 0)), .int (((ag14 118).getD l5_15.toNatClampNeg 0) - ((ag14 139).getD l5_15.toNatClampNeg 0))] (by rfl) ?_ | refine ft_go mi_k189 1 98 [(5, .int l5_15), (4, .int l4_15), (3, .int vg5), (0, .ref 116), (1, .int x1), (2, .int x2)] [.int (((ag14 118).getD l4_15.toNatClampNeg 0) - ((ag14 139).getD l4_15.toNatClampNeg 0)), .int (((ag14 118).getD l5_15.toNatClampNeg 0) - ((ag14 139).getD l5_15.toNatClampNeg 0))] ig14 ag14 qg14 rg14 (by rfl) ?_
                refine ft_ifS mi_k189 (decide ((((ag14 118).getD l5_15.toNatClampNeg 0) - ((ag14 139).getD l5_15.toNatClampNeg 0)) ≤ (((ag14 118).getD l4_15.toNatClampNeg 0) - ((ag14 139).getD l4_15.toNatClampNeg 0)))) 105 101 [] (by rfl) (fun c => ?_) (fun c => ?_)
                ·
                  have c31 : (((ag14 118).getD l5_15.toNatClampNeg 0) - ((ag14 139).getD l5_15.toNatClampNeg 0)).toInt ≤ (((ag14 118).getD l4_15.toNatClampNeg 0) - ((ag14 139).getD l4_15.toNatClampNeg 0)).toInt := kd_le c; clear c
                  have s32 : (l5_15 + 1).toInt = l5_15.toInt + (1 : Int32).toInt := kd_add (of189 p15_1 kof1) (of139 c22 fig14_7424.2 kof1)
                  first | refine ft_goL mi_k189 2 59 [(5, .int (l5_15 + 1)), (4, .int l4_15), (3, .int vg5), (0, .ref 116), (1, .int x1), (2, .int x2)] [] (by rfl) ?_ | refine ft_go mi_k189 2 59 [(5, .int (l5_15 + 1)), (4, .int l4_15), (3, .int vg5), (0, .ref 116), (1, .int x1), (2, .int x2)] [] ig14 ag14 qg14 rg14 (by rfl) ?_
                  exact ih15 _ _ (of190 p15_0.1 p15_0.2) (of191 p15_1 s32 kof1) (by first | rfl | (simp only [O15_0, sMn, sMx]; done) | (simp only [O15_0, sMn, sMx]; rfl)) (kj_meas (of79 s32 kof1) (of80 c22) hm15)
                ·
                  have c33 : (((ag14 118).getD l4_15.toNatClampNeg 0) - ((ag14 139).getD l4_15.toNatClampNeg 0)).toInt < (((ag14 118).getD l5_15.toNatClampNeg 0) - ((ag14 139).getD l5_15.toNatClampNeg 0)).toInt := kd_leF c; clear c
                  have s34 : (l5_15 + 1).toInt = l5_15.toInt + (1 : Int32).toInt := kd_add (of189 p15_1 kof1) (of139 c22 fig14_7424.2 kof1)
                  first | refine fo_goL mi_k189 fz189_53_4_59 [(5, .int (l5_15 + 1)), (4, .int l5_15), (3, .int vg5), (0, .ref 116), (1, .int x1), (2, .int x2)] [] (by rfl) ?_ | refine fo_goL mi_k189 fz189_101_4_59 [(5, .int (l5_15 + 1)), (4, .int l5_15), (3, .int vg5), (0, .ref 116), (1, .int x1), (2, .int x2)] [] (by rfl) ?_ | refine ft_goL mi_k189 4 59 [(5, .int (l5_15 + 1)), (4, .int l5_15), (3, .int vg5), (0, .ref 116), (1, .int x1), (2, .int x2)] [] (by rfl) ?_ | refine ft_go mi_k189 4 59 [(5, .int (l5_15 + 1)), (4, .int l5_15), (3, .int vg5), (0, .ref 116), (1, .int x1), (2, .int x2)] [] ig14 ag14 qg14 rg14 (by rfl) ?_
                  exact ih15 _ _ (of192 c22 fig14_7424.2 p15_1) (of191 p15_1 s34 kof1) (by first | rfl | (simp only [O15_0, sMn, sMx]; done) | (simp only [O15_0, sMn, sMx]; rfl)) (kj_meas (of79 s34 kof1) (of80 c22) hm15)
          exact lp15 _ _ _ (of160 kof0) (of193 kof1) (by first | rfl | (simp only [kg14.fa 139 rfl, q12, kg9.fa 118 rfl, sMn, sMx]; done) | (simp only [kg14.fa 139 rfl, q12, kg9.fa 118 rfl, sMn, sMx]; rfl)) (Nat.lt_succ_self _)
        ·
          have c35 : (i 7424).toInt = (0 : Int32).toInt := kd_neF c; clear c
          first | refine ft_goS mi_k189 1 39 [.int (-2)] (by rfl) ?_ | refine ft_go mi_k189 1 39 [(3, .int vg5), (0, .ref 116), (1, .int x1), (2, .int x2)] [.int (-2)] i a q r (by rfl) ?_
          exact ft_ret mi_k189 (by rfl) (hP (-2) _ _ _ _ hG ⟨trivial, (show a 118 = a 118 from rfl)⟩)
      ·
        have c36 : vg5.toInt < (0 : Int32).toInt := kd_leF c; clear c
        first | refine ft_goS mi_k189 1 29 [.int vg5] (by rfl) ?_ | refine ft_go mi_k189 1 29 [(3, .int vg5), (0, .ref 116), (1, .int x1), (2, .int x2)] [.int vg5] i a q r (by rfl) ?_
        exact ft_ret mi_k189 (by rfl) (hP vg5 _ _ _ _ hG ⟨trivial, (show a 118 = a 118 from rfl)⟩)
    ·
      subst eg3
      first | refine ft_goS mi_k189 2 17 [.int (-1)] (by rfl) ?_ | refine ft_go mi_k189 2 17 [(0, .ref 116), (1, .int x1), (2, .int x2)] [.int (-1)] i a q r (by rfl) ?_
      exact ft_ret mi_k189 (by rfl) (hP (-1) _ _ _ _ hG ⟨trivial, (show a 118 = a 118 from rfl)⟩)
  ·
    subst eg1
    first | refine ft_goS mi_k189 2 17 [.int (-1)] (by rfl) ?_ | refine ft_go mi_k189 2 17 [(0, .ref 116), (1, .int x1), (2, .int x2)] [.int (-1)] i a q r (by rfl) ?_
    exact ft_ret mi_k189 (by rfl) (hP (-1) _ _ _ _ hG ⟨trivial, (show a 118 = a 118 from rfl)⟩)
def yw193_116 : kW := ([7464, 7465, 7466, 7467, 7469], [118, 128, 129, 139, 141, 142, 143, 144, 145], [], [])
set_option maxRecDepth 100000 in
theorem ke193_116 {i : Nat → Int32} {a : Nat → List Int32} {q : Nat → List Int64} {r : Nat → Nat} (hI : kI i a q) (hr : kr r) (x1 : Int32) (hE_code : kCode i a) : km 15 193 [.ref 116, .int x1] (ks i a q r) (kVI yw193_116 i a q r (fun v i1 a1 q1 r1 => (True) ∧ a1 118 = a 118)) := by
  have hG := kG_self yw193_116 hI hr
  refine km_ofI (q := (mi_h193, mi_c193)) rfl (by decide) (Nat.le_of_ble_eq_true rfl) ?_
  intro P hP
  first | refine ft_goL mi_k193 2 2 [(0, .ref 116), (1, .int x1)] [.int x1, .ref 116] (by rfl) ?_ | refine ft_go mi_k193 2 2 [(0, .ref 116), (1, .int x1)] [.int x1, .ref 116] i a q r (by rfl) ?_
  refine ko_callPI mi_k193.1 (pc := 2) (ls := [(0, .ref 116), (1, .int x1)]) (st := [.int x1, .ref 116]) (h := ks i a q r) (i := (.invokevirtual 314, 3, 190, 0, 9, 0, 442)) (mi_k193.2 _ _ (by rfl)) (ft_invS mi_pq190 (by rfl)) (cy := mi_c190) mi_pq190 rfl (kc190_116 hG.I hG.R x1) (by decide) ?_
  intro vg1 hg1
  rcases hg1 with ⟨eg1, hg1⟩ | ⟨eg1, hg1⟩
  ·
    subst eg1
    have z2 : ((0 : Int) ≤ x1.toInt) ∧ (((0 : Int) ≤ (x1.toInt / 10)) ∧ ((x1.toInt / 10) ≤ 5)) ∧ ((x1.toInt % 10) ≤ 5) := hg1
    first | refine ft_goS mi_k193 3 12 [.int x1, .ref 116] (by rfl) ?_ | refine ft_go mi_k193 3 12 [(0, .ref 116), (1, .int x1)] [.int x1, .ref 116] i a q r (by rfl) ?_
    refine ko_callPI mi_k193.1 (pc := 12) (ls := [(0, .ref 116), (1, .int x1)]) (st := [.int x1, .ref 116]) (h := ks i a q r) (i := (.invokevirtual 317, 3, 191, 0, 9, 0, 443)) (mi_k193.2 _ _ (by rfl)) (ft_invS mi_pq191 (by rfl)) (cy := mi_c191) mi_pq191 rfl (kc191_116 hG.I hG.R x1 (of202 z2.2.1.1 z2.2.1.2) (of3 z2.1) (of203 z2.2.2)) (by decide) ?_
    intro vg3 hg3
    first | refine ft_goL mi_k193 2 17 [(2, .int vg3), (0, .ref 116), (1, .int x1)] [.int vg3] (by rfl) ?_ | refine ft_go mi_k193 2 17 [(2, .int vg3), (0, .ref 116), (1, .int x1)] [.int vg3] i a q r (by rfl) ?_
    refine ft_ifS mi_k193 (decide (0 ≤ vg3)) 22 20 [] (by rfl) (fun c => ?_) (fun c => ?_)
    ·
      have c5 : (0 : Int32).toInt ≤ vg3.toInt := kd_le c; clear c
      have s6 : (x1 / 10).toInt = (x1.toInt / 10) := kd_div 10 kof10 (by decide) (of3 z2.1)
      first | refine ft_goS mi_k193 4 27 [.int (x1 / 10), .ref 116] (by rfl) ?_ | refine ft_go mi_k193 4 27 [(2, .int vg3), (0, .ref 116), (1, .int x1)] [.int (x1 / 10), .ref 116] i a q r (by rfl) ?_
      refine ko_callN mi_k193.1 (pc := 27) (ls := [(2, .int vg3), (0, .ref 116), (1, .int x1)]) (st := [.int (x1 / 10), .ref 116]) (h := ks i a q r) (i := (.invokevirtual 279, 3, 174, 0, 9, 0, 411)) (mi_k193.2 _ _ (by rfl)) (ft_invS mi_pq174 (by rfl)) (cy := mi_c174) mi_pq174 rfl (kc174_116 hG.I hG.R (x1 / 10) (of204 s6 z2.1 z2.2.1.2 z2.2.2)) (by decide) ?_
      intro ig7 ag7 qg7 rg7 kg7 hg7
      have hGg7 := kG_call hG kg7 (by decide +kernel)
      have s9 : (x1 - x1 / 10 * 10).toInt = (x1.toInt % 10) := kd_rem 10 kof10 (by decide) (of3 z2.1)
      first | refine ft_goS mi_k193 4 35 [.int (x1 - x1 / 10 * 10), .ref 116] (by rfl) ?_ | refine ft_go mi_k193 4 35 [(2, .int vg3), (0, .ref 116), (1, .int x1)] [.int (x1 - x1 / 10 * 10), .ref 116] ig7 ag7 qg7 rg7 (by rfl) ?_
      refine ko_callI mi_k193.1 (pc := 35) (ls := [(2, .int vg3), (0, .ref 116), (1, .int x1)]) (st := [.int (x1 - x1 / 10 * 10), .ref 116]) (h := ks ig7 ag7 qg7 rg7) (i := (.invokevirtual 320, 3, 192, 0, 9, 0, 444)) (mi_k193.2 _ _ (by rfl)) (ft_invS mi_pq192 (by rfl)) (cy := mi_c192) mi_pq192 rfl (ke192_116 hGg7.I hGg7.R (x1 - x1 / 10 * 10) (of205 s9 z2.2.2) (kCode_of (i1 := ig7) hE_code (hGg7.fi 7432 rfl) (hGg7.fa 120 rfl) (hGg7.fa 121 rfl) (hGg7.fa 122 rfl) (hGg7.fa 123 rfl))) (by decide) ?_
      intro vg10 ig10 ag10 qg10 rg10 kg10 hg10
      have hGg10 := kG_call hGg7 kg10 (by decide +kernel)
      obtain ⟨hg10, og10⟩ := hg10
      have q11 : ag10 118 = ag7 118 := og10
      exact ft_ret mi_k193 (by rfl) (hP vg10 _ _ _ _ hGg10 ⟨trivial, (show ag10 118 = a 118 from (by first | rfl | (simp only [q11, kg7.fa 118 rfl, sMn, sMx]; done) | (simp only [q11, kg7.fa 118 rfl, sMn, sMx]; rfl)))⟩)
    ·
      have c12 : vg3.toInt < (0 : Int32).toInt := kd_leF c; clear c
      first | refine ft_goS mi_k193 1 21 [.int vg3] (by rfl) ?_ | refine ft_go mi_k193 1 21 [(2, .int vg3), (0, .ref 116), (1, .int x1)] [.int vg3] i a q r (by rfl) ?_
      exact ft_ret mi_k193 (by rfl) (hP vg3 _ _ _ _ hG ⟨trivial, (show a 118 = a 118 from rfl)⟩)
  ·
    subst eg1
    first | refine ft_goS mi_k193 2 9 [.int (-1)] (by rfl) ?_ | refine ft_go mi_k193 2 9 [(0, .ref 116), (1, .int x1)] [.int (-1)] i a q r (by rfl) ?_
    exact ft_ret mi_k193 (by rfl) (hP (-1) _ _ _ _ hG ⟨trivial, (show a 118 = a 118 from rfl)⟩)
def yw195_116 : kW := ([7464, 7465, 7466, 7467], [118, 128, 129, 139, 141, 142, 143, 144, 145], [], [])
def yw195_116_L13 : kW := ([7464, 7465, 7466, 7467], [118, 128, 129, 139, 141, 142, 143, 144, 145], [], [])
set_option maxRecDepth 100000 in
theorem ke195_116 {i : Nat → Int32} {a : Nat → List Int32} {q : Nat → List Int64} {r : Nat → Nat} (hI : kI i a q) (hr : kr r) (x1 : Int32) (x2 : Int32) (hp0 : ((0 : Int) ≤ x1.toInt) ∧ (x1.toInt ≤ 5)) (hp1 : ((0 : Int) ≤ x2.toInt) ∧ (x2.toInt ≤ 20)) (hE_code : kCode i a) : km 15 195 [.ref 116, .int x1, .int x2] (ks i a q r) (kVI yw195_116 i a q r (fun v i1 a1 q1 r1 => (True) ∧ a1 118 = a 118)) := by
  have hG := kG_self yw195_116 hI hr
  refine km_ofI (q := (mi_h195, mi_c195)) rfl (by decide) (Nat.le_of_ble_eq_true rfl) ?_
  intro P hP
  first | refine ft_goL mi_k195 3 5 [(0, .ref 116), (1, .int x1), (2, .int x2)] [.int x2, .ref 142] (by rfl) ?_ | refine ft_go mi_k195 3 5 [(0, .ref 116), (1, .int x1), (2, .int x2)] [.int x2, .ref 142] i a q r (by rfl) ?_
  refine ko_iald3 mi_k195.1 (n := 21) (c := 21) (ax := (0, 0, 0, 0, 0)) (mi_k195.2 _ _ (by rfl)) (by rfl) (ksG142 _ _ _ _) (hG.I.2.1 142) rfl (of3 hp1.1) (of59 hp1.2) ?_
  have r1 : ((0 : Int) ≤ ((a 142).getD x2.toNatClampNeg 0).toInt) ∧ (((a 142).getD x2.toNatClampNeg 0).toInt ≤ 7) := hG.I.2.2.1 142 (x2.toNatClampNeg)
  first | refine fo_goL mi_k195 fz195_6_5_13 [(5, .int 0), (4, .int 0), (3, .int ((a 142).getD x2.toNatClampNeg 0)), (0, .ref 116), (1, .int x1), (2, .int x2)] [] (by rfl) ?_ | refine ft_goL mi_k195 5 13 [(5, .int 0), (4, .int 0), (3, .int ((a 142).getD x2.toNatClampNeg 0)), (0, .ref 116), (1, .int x1), (2, .int x2)] [] (by rfl) ?_ | refine ft_go mi_k195 5 13 [(5, .int 0), (4, .int 0), (3, .int ((a 142).getD x2.toNatClampNeg 0)), (0, .ref 116), (1, .int x1), (2, .int x2)] [] i a q r (by rfl) ?_
  have lp2 : ∀ (nz : Nat) (i2 : Nat → Int32) (a2 : Nat → List Int32) (q2 : Nat → List Int64) (r2 : Nat → Nat) (l5_2 : Int32) (l4_2 : Int32), kG yw195_116_L13 i a q r i2 a2 q2 r2 → (0 : Int) ≤ l5_2.toInt → a2 118 = a 118 → (((i2 7424).toInt - l5_2.toInt)).toNat < nz → ko 15 (mi_h195, mi_c195) P (13, [(5, .int l5_2), (4, .int l4_2), (3, .int ((a 142).getD x2.toNatClampNeg 0)), (0, .ref 116), (1, .int x1), (2, .int x2)], [], (0, 0), ks i2 a2 q2 r2) := by
    intro nz
    induction nz with
    | zero =>
      intro _ _ _ _ _ _ _ _ _ hm
      exact absurd hm (Nat.not_lt_zero _)
    | succ nz ih2 =>
      intro i2 a2 q2 r2 l5_2 l4_2 hL2 p2_0 O2_0 hm2
      have fi2_7424 : ((0 : Int) ≤ (i2 7424).toInt) ∧ ((i2 7424).toInt ≤ 8) := hL2.I.1 7424
      first | refine ft_goL mi_k195 3 19 [(5, .int l5_2), (4, .int l4_2), (3, .int ((a 142).getD x2.toNatClampNeg 0)), (0, .ref 116), (1, .int x1), (2, .int x2)] [.int (i2 7424), .int l5_2] (by rfl) ?_ | refine ft_go mi_k195 3 19 [(5, .int l5_2), (4, .int l4_2), (3, .int ((a 142).getD x2.toNatClampNeg 0)), (0, .ref 116), (1, .int x1), (2, .int x2)] [.int (i2 7424), .int l5_2] i2 a2 q2 r2 (by rfl) ?_
      refine ft_ifS mi_k195 (decide ((i2 7424) ≤ l5_2)) 55 22 [] (by rfl) (fun c => ?_) (fun c => ?_)
      ·
        have c3 : (i2 7424).toInt ≤ l5_2.toInt := kd_le c; clear c
        have hG4 := kG_call hG hL2 (by decide +kernel)
        first | refine ft_goS mi_k195 4 61 [.int ((a 142).getD x2.toNatClampNeg 0), .int x2, .ref 142] (by rfl) ?_ | refine ft_go mi_k195 4 61 [(5, .int l5_2), (4, .int l4_2), (3, .int ((a 142).getD x2.toNatClampNeg 0)), (0, .ref 116), (1, .int x1), (2, .int x2)] [.int ((a 142).getD x2.toNatClampNeg 0), .int x2, .ref 142] i2 a2 q2 r2 (by rfl) ?_
        refine ko_iast3 mi_k195.1 (n := 21) (c := 21) (ax := (0, 0, 0, 0, 0)) (mi_k195.2 _ _ (by rfl)) (by rfl) (ksG142 _ _ _ _) (ksA142 _ _ _ _) (hG4.I.2.1 142) rfl (of3 hp1.1) (of59 hp1.2) ?_
        intro a5 ea5 fa5
        have hJ5 := kG_a3 hG4 142 rfl ea5 fa5 ⟨(of3 r1.1), (of100 r1.2)⟩
        first | refine ft_goS mi_k195 1 64 [.int l4_2] (by rfl) ?_ | refine ft_go mi_k195 1 64 [(5, .int l5_2), (4, .int l4_2), (3, .int ((a 142).getD x2.toNatClampNeg 0)), (0, .ref 116), (1, .int x1), (2, .int x2)] [.int l4_2] i2 a5 q2 r2 (by rfl) ?_
        exact ft_ret mi_k195 (by rfl) (hP l4_2 _ _ _ _ hJ5 ⟨trivial, (show a5 118 = a 118 from (by first | rfl | (simp only [fa5 118 (by decide), O2_0, sMn, sMx]; done) | (simp only [fa5 118 (by decide), O2_0, sMn, sMx]; rfl)))⟩)
      ·
        have c6 : l5_2.toInt < (i2 7424).toInt := kd_leF c; clear c
        first | refine ft_goS mi_k195 4 29 [.int l5_2, .int x2, .ref 142] (by rfl) ?_ | refine ft_go mi_k195 4 29 [(5, .int l5_2), (4, .int l4_2), (3, .int ((a 142).getD x2.toNatClampNeg 0)), (0, .ref 116), (1, .int x1), (2, .int x2)] [.int l5_2, .int x2, .ref 142] i2 a2 q2 r2 (by rfl) ?_
        refine ko_iast3 mi_k195.1 (n := 21) (c := 21) (ax := (0, 0, 0, 0, 0)) (mi_k195.2 _ _ (by rfl)) (by rfl) (ksG142 _ _ _ _) (ksA142 _ _ _ _) (hL2.I.2.1 142) rfl (of3 hp1.1) (of59 hp1.2) ?_
        intro a7 ea7 fa7
        have hJ7 := kG_a3 hL2 142 rfl ea7 fa7 ⟨(of3 p2_0), (of206 c6 fi2_7424.2)⟩
        first | refine ft_goS mi_k195 2 32 [.int x1, .ref 116] (by rfl) ?_ | refine ft_go mi_k195 2 32 [(5, .int l5_2), (4, .int l4_2), (3, .int ((a 142).getD x2.toNatClampNeg 0)), (0, .ref 116), (1, .int x1), (2, .int x2)] [.int x1, .ref 116] i2 a7 q2 r2 (by rfl) ?_
        have hG8 := kG_call hG hJ7 (by decide +kernel)
        refine ko_callI mi_k195.1 (pc := 32) (ls := [(5, .int l5_2), (4, .int l4_2), (3, .int ((a 142).getD x2.toNatClampNeg 0)), (0, .ref 116), (1, .int x1), (2, .int x2)]) (st := [.int x1, .ref 116]) (h := ks i2 a7 q2 r2) (i := (.invokevirtual 320, 3, 192, 0, 9, 0, 444)) (mi_k195.2 _ _ (by rfl)) (ft_invS mi_pq192 (by rfl)) (cy := mi_c192) mi_pq192 rfl (ke192_116 hJ7.I hJ7.R x1 (of34 hp0.1 hp0.2) (kCode_of (i1 := i2) hE_code (hG8.fi 7432 rfl) (hG8.fa 120 rfl) (hG8.fa 121 rfl) (hG8.fa 122 rfl) (hG8.fa 123 rfl))) (by decide) ?_
        intro vg9 ig9 ag9 qg9 rg9 kg9 hg9
        have hGg9 := kG_call hJ7 kg9 (by decide +kernel)
        obtain ⟨hg9, og9⟩ := hg9
        have q10 : ag9 118 = a7 118 := og9
        first | refine ft_goS mi_k195 1 37 [.int (-2), .int vg9] (by rfl) ?_ | refine ft_go mi_k195 1 37 [(5, .int l5_2), (4, .int l4_2), (3, .int ((a 142).getD x2.toNatClampNeg 0)), (0, .ref 116), (1, .int x1), (2, .int x2)] [.int (-2), .int vg9] ig9 ag9 qg9 rg9 (by rfl) ?_
        refine ft_ifS mi_k195 (vg9 != (-2)) 49 40 [] (by rfl) (fun c => ?_) (fun c => ?_)
        ·
          have c11 : vg9.toInt ≠ ((-2) : Int32).toInt := kd_ne c; clear c
          have s12 : (l5_2 + 1).toInt = l5_2.toInt + (1 : Int32).toInt := kd_add (of9 p2_0 kof1) (of139 c6 fi2_7424.2 kof1)
          first | refine ft_goL mi_k195 2 13 [(5, .int (l5_2 + 1)), (4, .int l4_2), (3, .int ((a 142).getD x2.toNatClampNeg 0)), (0, .ref 116), (1, .int x1), (2, .int x2)] [] (by rfl) ?_ | refine ft_go mi_k195 2 13 [(5, .int (l5_2 + 1)), (4, .int l4_2), (3, .int ((a 142).getD x2.toNatClampNeg 0)), (0, .ref 116), (1, .int x1), (2, .int x2)] [] ig9 ag9 qg9 rg9 (by rfl) ?_
          have efig9_7424 : (ig9 7424).toInt = (i2 7424).toInt := kg9.ti 7424 rfl
          exact ih2 _ _ _ _ _ _ hGg9 (of11 p2_0 s12 kof1) (by first | rfl | (simp only [q10, fa7 118 (by decide), O2_0, sMn, sMx]; done) | (simp only [q10, fa7 118 (by decide), O2_0, sMn, sMx]; rfl)) (kj_meas (of207 efig9_7424 s12 kof1) (of80 c6) hm2)
        ·
          have c13 : vg9.toInt = ((-2) : Int32).toInt := kd_neF c; clear c
          have s14 : ((1 : Int) ≤ (1 <<< (l5_2 &&& 31)).toInt) ∧ ((1 <<< (l5_2 &&& 31)).toInt ≤ 256) := kd_shl1 (of3 p2_0) (of208 c6 fi2_7424.2)
          have s15 : (l5_2 + 1).toInt = l5_2.toInt + (1 : Int32).toInt := kd_add (of9 p2_0 kof1) (of139 c6 fi2_7424.2 kof1)
          first | refine ft_goL mi_k195 8 13 [(5, .int (l5_2 + 1)), (4, .int (l4_2 ||| (1 <<< (l5_2 &&& 31)))), (3, .int ((a 142).getD x2.toNatClampNeg 0)), (0, .ref 116), (1, .int x1), (2, .int x2)] [] (by rfl) ?_ | refine ft_go mi_k195 8 13 [(5, .int (l5_2 + 1)), (4, .int (l4_2 ||| (1 <<< (l5_2 &&& 31)))), (3, .int ((a 142).getD x2.toNatClampNeg 0)), (0, .ref 116), (1, .int x1), (2, .int x2)] [] ig9 ag9 qg9 rg9 (by rfl) ?_
          have efig9_7424 : (ig9 7424).toInt = (i2 7424).toInt := kg9.ti 7424 rfl
          exact ih2 _ _ _ _ _ _ hGg9 (of11 p2_0 s15 kof1) (by first | rfl | (simp only [q10, fa7 118 (by decide), O2_0, sMn, sMx]; done) | (simp only [q10, fa7 118 (by decide), O2_0, sMn, sMx]; rfl)) (kj_meas (of207 efig9_7424 s15 kof1) (of80 c6) hm2)
  exact lp2 _ _ _ _ _ _ _ (kG_self _ hG.I hG.R) (of17 kof0) rfl (Nat.lt_succ_self _)
def yw194_116 : kW := ([7426, 7464, 7465, 7466, 7467], [118, 128, 129, 139, 141, 143, 144, 145], [], [])
def yw194_116_L10 : kW := ([7426, 7464, 7465, 7466, 7467], [118, 128, 129, 139, 141, 143, 144, 145], [], [])
set_option maxRecDepth 100000 in
theorem ke194_116 {i : Nat → Int32} {a : Nat → List Int32} {q : Nat → List Int64} {r : Nat → Nat} (hI : kI i a q) (hr : kr r) (x1 : Int32) (hp0 : ((0 : Int) ≤ x1.toInt) ∧ (x1.toInt ≤ 5)) (hE_code : kCode i a) : km 15 194 [.ref 116, .int x1] (ks i a q r) (kVI yw194_116 i a q r (fun v i1 a1 q1 r1 => ((i1 7426).toInt = (i 7426).toInt) ∧ a1 118 = a 118)) := by
  have hG := kG_self yw194_116 hI hr
  refine km_ofI (q := (mi_h194, mi_c194)) rfl (by decide) (Nat.le_of_ble_eq_true rfl) ?_
  intro P hP
  have fi_7426 : ((1 : Int) ≤ (i 7426).toInt) ∧ ((i 7426).toInt ≤ 5) := hG.I.1 7426
  first | refine fo_goL mi_k194 fz194_0_7_10 [(4, .int 1), (3, .int 0), (2, .int (i 7426)), (0, .ref 116), (1, .int x1)] [] (by rfl) ?_ | refine ft_goL mi_k194 7 10 [(4, .int 1), (3, .int 0), (2, .int (i 7426)), (0, .ref 116), (1, .int x1)] [] (by rfl) ?_ | refine ft_go mi_k194 7 10 [(4, .int 1), (3, .int 0), (2, .int (i 7426)), (0, .ref 116), (1, .int x1)] [] i a q r (by rfl) ?_
  have lp1 : ∀ (nz : Nat) (i1 : Nat → Int32) (a1 : Nat → List Int32) (q1 : Nat → List Int64) (r1 : Nat → Nat) (l4_1 : Int32) (l3_1 : Int32), kG yw194_116_L10 i a q r i1 a1 q1 r1 → (1 : Int) ≤ l4_1.toInt → a1 118 = a 118 → ((6 - l4_1.toInt)).toNat < nz → ko 15 (mi_h194, mi_c194) P (10, [(4, .int l4_1), (3, .int l3_1), (2, .int (i 7426)), (0, .ref 116), (1, .int x1)], [], (0, 0), ks i1 a1 q1 r1) := by
    intro nz
    induction nz with
    | zero =>
      intro _ _ _ _ _ _ _ _ _ hm
      exact absurd hm (Nat.not_lt_zero _)
    | succ nz ih1 =>
      intro i1 a1 q1 r1 l4_1 l3_1 hL1 p1_0 O1_0 hm1
      first | refine ft_goL mi_k194 2 14 [(4, .int l4_1), (3, .int l3_1), (2, .int (i 7426)), (0, .ref 116), (1, .int x1)] [.int 6, .int l4_1] (by rfl) ?_ | refine ft_go mi_k194 2 14 [(4, .int l4_1), (3, .int l3_1), (2, .int (i 7426)), (0, .ref 116), (1, .int x1)] [.int 6, .int l4_1] i1 a1 q1 r1 (by rfl) ?_
      refine ft_ifS mi_k194 (decide (6 ≤ l4_1)) 46 17 [] (by rfl) (fun c => ?_) (fun c => ?_)
      ·
        have c2 : (6 : Int32).toInt ≤ l4_1.toInt := kd_le c; clear c
        have hG3 := kG_call hG hL1 (by decide +kernel)
        have hJ4 := kG_i hG3 7426 rfl (v := (i 7426)) ⟨(of221 fi_7426.1), (of222 fi_7426.2)⟩
        first | refine ft_goI mi_k194 4 52 [.int l3_1] (ku i1 7426 (i 7426)) (by rfl) ?_ | refine ft_go mi_k194 4 52 [(4, .int l4_1), (3, .int l3_1), (2, .int (i 7426)), (0, .ref 116), (1, .int x1)] [.int l3_1] (ku i1 7426 (i 7426)) a1 q1 r1 (by rfl) ?_
        exact ft_ret mi_k194 (by rfl) (hP l3_1 _ _ _ _ hJ4 ⟨of13, (show a1 118 = a 118 from (by first | rfl | (simp only [O1_0, sMn, sMx]; done) | (simp only [O1_0, sMn, sMx]; rfl)))⟩)
      ·
        have c5 : l4_1.toInt < (6 : Int32).toInt := kd_leF c; clear c
        have hJ6 := kG_i hL1 7426 rfl (v := l4_1) ⟨(of221 p1_0), (of223 c5 kof6)⟩
        first | refine fo_goI mi_k194 fz194_17_5_25 [.int x1, .ref 116] (ku i1 7426 l4_1) (by rfl) ?_ | refine ft_go mi_k194 5 25 [(4, .int l4_1), (3, .int l3_1), (2, .int (i 7426)), (0, .ref 116), (1, .int x1)] [.int x1, .ref 116] (ku i1 7426 l4_1) a1 q1 r1 (by rfl) ?_
        have hG7 := kG_call hG hJ6 (by decide +kernel)
        refine ko_callI mi_k194.1 (pc := 25) (ls := [(4, .int l4_1), (3, .int l3_1), (2, .int (i 7426)), (0, .ref 116), (1, .int x1)]) (st := [.int x1, .ref 116]) (h := ks (ku i1 7426 l4_1) a1 q1 r1) (i := (.invokevirtual 320, 3, 192, 0, 9, 0, 444)) (mi_k194.2 _ _ (by rfl)) (ft_invS mi_pq192 (by rfl)) (cy := mi_c192) mi_pq192 rfl (ke192_116 hJ6.I hJ6.R x1 (of34 hp0.1 hp0.2) (kCode_of (i1 := ku i1 7426 l4_1) hE_code (hG7.fi 7432 rfl) (hG7.fa 120 rfl) (hG7.fa 121 rfl) (hG7.fa 122 rfl) (hG7.fa 123 rfl))) (by decide) ?_
        intro vg8 ig8 ag8 qg8 rg8 kg8 hg8
        have hGg8 := kG_call hJ6 kg8 (by decide +kernel)
        obtain ⟨hg8, og8⟩ := hg8
        have q9 : ag8 118 = a1 118 := og8
        first | refine ft_goS mi_k194 1 30 [.int (-2), .int vg8] (by rfl) ?_ | refine ft_go mi_k194 1 30 [(4, .int l4_1), (3, .int l3_1), (2, .int (i 7426)), (0, .ref 116), (1, .int x1)] [.int (-2), .int vg8] ig8 ag8 qg8 rg8 (by rfl) ?_
        refine ft_ifS mi_k194 (vg8 != (-2)) 40 33 [] (by rfl) (fun c => ?_) (fun c => ?_)
        ·
          have c10 : vg8.toInt ≠ ((-2) : Int32).toInt := kd_ne c; clear c
          have s11 : (l4_1 + 1).toInt = l4_1.toInt + (1 : Int32).toInt := kd_add (of189 p1_0 kof1) (of224 c5 kof6 kof1)
          first | refine ft_goL mi_k194 2 10 [(4, .int (l4_1 + 1)), (3, .int l3_1), (2, .int (i 7426)), (0, .ref 116), (1, .int x1)] [] (by rfl) ?_ | refine ft_go mi_k194 2 10 [(4, .int (l4_1 + 1)), (3, .int l3_1), (2, .int (i 7426)), (0, .ref 116), (1, .int x1)] [] ig8 ag8 qg8 rg8 (by rfl) ?_
          exact ih1 _ _ _ _ _ _ hGg8 (of191 p1_0 s11 kof1) (by first | rfl | (simp only [q9, O1_0, sMn, sMx]; done) | (simp only [q9, O1_0, sMn, sMx]; rfl)) (kj_meas (of225 s11 kof1) (of226 c5 kof6) hm1)
        ·
          have c12 : vg8.toInt = ((-2) : Int32).toInt := kd_neF c; clear c
          have s13 : ((1 : Int) ≤ (1 <<< (l4_1 &&& 31)).toInt) ∧ ((1 <<< (l4_1 &&& 31)).toInt ≤ 256) := kd_shl1 (of187 p1_0) (of227 c5 kof6)
          have s14 : (1 <<< (l4_1 &&& 31)).toInt ≤ 32 := kd_shl32 (of187 p1_0) (of223 c5 kof6)
          have s15 : (l4_1 + 1).toInt = l4_1.toInt + (1 : Int32).toInt := kd_add (of189 p1_0 kof1) (of224 c5 kof6 kof1)
          first | refine ft_go mi_k194 8 10 [(4, .int (l4_1 + 1)), (3, .int (l3_1 ||| (1 <<< (l4_1 &&& 31)))), (2, .int (i 7426)), (0, .ref 116), (1, .int x1)] [] ig8 ag8 qg8 rg8 (by rfl) ?_ | refine ft_goL mi_k194 8 10 [(4, .int (l4_1 + 1)), (3, .int (l3_1 ||| (1 <<< (l4_1 &&& 31)))), (2, .int (i 7426)), (0, .ref 116), (1, .int x1)] [] (by rfl) ?_
          exact ih1 _ _ _ _ _ _ hGg8 (of191 p1_0 s15 kof1) (by first | rfl | (simp only [q9, O1_0, sMn, sMx]; done) | (simp only [q9, O1_0, sMn, sMx]; rfl)) (kj_meas (of225 s15 kof1) (of226 c5 kof6) hm1)
  exact lp1 _ _ _ _ _ _ _ (kG_self _ hG.I hG.R) (of193 kof1) rfl (Nat.lt_succ_self _)
end
section
/-! THE LAW OF THE REFERENCE AT WORK, PURELY -/
def rBoth (k x y : Int32) : Int32 :=
  if k.toInt = 6 then (if x.toInt ≠ 0 ∨ y.toInt ≠ 0 then 1 else 0)
  else if k.toInt = 7 then (if x.toInt ≠ 0 ∧ y.toInt ≠ 0 then 1 else 0)
  else if k.toInt = 8 then (if x.toInt < y.toInt then 1 else 0)
  else if k.toInt = 9 then (if x.toInt = y.toInt then 1 else 0)
  else if k.toInt = 10 then (if y.toInt < x.toInt then 1 else 0)
  else if k.toInt = 11 then x + y
  else if k.toInt = 12 then x - y
  else if k.toInt = 13 then x * y
  else if k.toInt = 14 then (if y.toInt = 0 then 0 else x / y)
  else (if y.toInt = 0 then 0 else x - x / y * y)
def wOp (nm : List Int32) (c : Int32) (s : List Int32) : List Int32 :=
  if 18 ≤ c.toInt ∨ c.toInt ≤ 5 then s ++ [if 18 ≤ c.toInt then c - 18 else nm.getD c.toNatClampNeg 0]
  else if c.toInt = 16 ∨ c.toInt = 17 then s.set (s.length - 1) (if c.toInt = 17 then -(s.getD (s.length - 1) 0) else if (s.getD (s.length - 1) 0).toInt = 0 then 1 else 0)
  else (s.set (s.length - 2) (rBoth c (s.getD (s.length - 2) 0) (s.getD (s.length - 1) 0))).take (s.length - 1)
/-- the stack behind n steps from f on -/
def wRun (L nm : List Int32) (f : Nat) : Nat → List Int32
  | 0 => []
  | n + 1 => wOp nm (L.getD (f + n) 0) (wRun L nm f n)
def wVal (L nm : List Int32) (x y : Int32) : Int32 := (wRun L nm x.toInt.toNat (y.toInt - x.toInt).toNat).getD 0 0
/-- what the lines from j on say -/
def wLaw (as sy en L nm : List Int32) : Nat → Nat → Int32
  | 0, _ => 0
  | n + 1, j => if (as.getD j 0).toInt < (sy.getD j 0).toInt ∧ (wVal L nm (as.getD j 0) (sy.getD j 0)).toInt = 0 then wLaw as sy en L nm n (j + 1) else wVal L nm (sy.getD j 0) (en.getD j 0)
def rBuyV (told lv w h o : Int32) : Int32 := sMx 0 (sMn 99 (if told.toInt = 0 then 5 * w + h - 2 * o else lv))
theorem wS_start {st L nm : List Int32} {x : Int32} {z : Int32} (hz : z.toInt = 0) : st.take z.toInt.toNat = wRun L nm x.toInt.toNat (x.toInt - x.toInt).toNat := by
  rw [hz, Int.sub_self]
  rfl
theorem wTake {st : List Int32} {k : Nat} {v : Int32} (h : k < st.length) : (st.set k v).take (k + 1) = st.take k ++ [v] := by
  rw [List.take_succ, List.take_set, List.getElem?_set_self h, List.set_eq_of_length_le (by rw [List.length_take]; omega)]
  rfl
theorem wGet {st : List Int32} {k n : Nat} (h : k < n) : (st.take n).getD k 0 = st.getD k 0 := by
  rw [List.getD_eq_getElem?_getD, List.getElem?_take_of_lt h, ← List.getD_eq_getElem?_getD]
section WS
variable {st st1 L nm : List Int32} {f : Int32} {x x1 top top1 c v : Int32}
theorem wS_push (h : st.take top.toInt.toNat = wRun L nm f.toInt.toNat (x.toInt - f.toInt).toNat) (hl : st.length = 200) (h0 : 0 ≤ top.toInt) (h1 : top.toInt < 200) (hf : 0 ≤ f.toInt) (hx : f.toInt ≤ x.toInt) (hc : c = L.getD x.toNatClampNeg 0) (hk : 18 ≤ c.toInt ∨ c.toInt ≤ 5) (hv : v = if 18 ≤ c.toInt then c - 18 else nm.getD c.toNatClampNeg 0) (e : st1 = st.set top.toNatClampNeg v) (ht : top1.toInt = top.toInt + 1) (hx1 : x1.toInt = x.toInt + 1) : st1.take top1.toInt.toNat = wRun L nm f.toInt.toNat (x1.toInt - f.toInt).toNat := by
  have tt := Int32.toNat_toInt top
  have tx := Int32.toNat_toInt x
  rw [show (x1.toInt - f.toInt).toNat = (x.toInt - f.toInt).toNat + 1 by omega]
  unfold wRun
  rw [show f.toInt.toNat + (x.toInt - f.toInt).toNat = x.toNatClampNeg by omega, ← hc, ← h]
  unfold wOp
  rw [if_pos hk, ← hv, e, show top1.toInt.toNat = top.toNatClampNeg + 1 by omega, wTake (by omega), tt]
theorem wS_un {y : Int32} (h : st.take top.toInt.toNat = wRun L nm f.toInt.toNat (x.toInt - f.toInt).toNat) (hl : st.length = 200) (h0 : 1 ≤ top.toInt) (h1 : top.toInt ≤ 200) (hf : 0 ≤ f.toInt) (hx : f.toInt ≤ x.toInt) (hc : c = L.getD x.toNatClampNeg 0) (hk : c.toInt = 16 ∨ c.toInt = 17) (hy : y.toInt = top.toInt - 1) (hv : v = if c.toInt = 17 then -(st.getD y.toNatClampNeg 0) else if (st.getD y.toNatClampNeg 0).toInt = 0 then 1 else 0) (e : st1 = st.set y.toNatClampNeg v) (ht : top1.toInt = top.toInt) (hx1 : x1.toInt = x.toInt + 1) : st1.take top1.toInt.toNat = wRun L nm f.toInt.toNat (x1.toInt - f.toInt).toNat := by
  have tt := Int32.toNat_toInt top
  have tx := Int32.toNat_toInt x
  have ty := Int32.toNat_toInt y
  have hlen : (st.take top.toInt.toNat).length = top.toInt.toNat := by rw [List.length_take]; omega
  rw [show (x1.toInt - f.toInt).toNat = (x.toInt - f.toInt).toNat + 1 by omega]
  unfold wRun
  rw [show f.toInt.toNat + (x.toInt - f.toInt).toNat = x.toNatClampNeg by omega, ← hc, ← h]
  unfold wOp
  rw [if_neg (by omega), if_pos hk, hlen, show top.toInt.toNat - 1 = y.toNatClampNeg by omega, wGet (by omega), ← hv, e, ht, List.take_set]
theorem wS_bin {y z : Int32} (h : st.take top.toInt.toNat = wRun L nm f.toInt.toNat (x.toInt - f.toInt).toNat) (hl : st.length = 200) (h0 : 2 ≤ top.toInt) (h1 : top.toInt ≤ 200) (hf : 0 ≤ f.toInt) (hx : f.toInt ≤ x.toInt) (hc : c = L.getD x.toNatClampNeg 0) (hk : 6 ≤ c.toInt) (hk2 : c.toInt ≤ 15) (hy : y.toInt = top.toInt - 2) (hz : z.toInt = top.toInt - 1) (hv : v = rBoth c (st.getD y.toNatClampNeg 0) (st.getD z.toNatClampNeg 0)) (e : st1 = st.set y.toNatClampNeg v) (ht : top1.toInt = top.toInt - 1) (hx1 : x1.toInt = x.toInt + 1) : st1.take top1.toInt.toNat = wRun L nm f.toInt.toNat (x1.toInt - f.toInt).toNat := by
  have tt := Int32.toNat_toInt top
  have tx := Int32.toNat_toInt x
  have ty := Int32.toNat_toInt y
  have tz := Int32.toNat_toInt z
  have hlen : (st.take top.toInt.toNat).length = top.toInt.toNat := by rw [List.length_take]; omega
  rw [show (x1.toInt - f.toInt).toNat = (x.toInt - f.toInt).toNat + 1 by omega]
  unfold wRun
  rw [show f.toInt.toNat + (x.toInt - f.toInt).toNat = x.toNatClampNeg by omega, ← hc, ← h]
  unfold wOp
  rw [if_neg (by omega), if_neg (by omega), hlen, show top.toInt.toNat - 2 = y.toNatClampNeg by omega, show top.toInt.toNat - 1 = z.toNatClampNeg by omega, wGet (by omega), wGet (by omega), ← hv, ← List.take_set, List.take_take, e, show min z.toNatClampNeg top.toInt.toNat = top1.toInt.toNat by omega]
theorem wS_end {y : Int32} (h : st.take top.toInt.toNat = wRun L nm f.toInt.toNat (x.toInt - f.toInt).toNat) (h1 : 1 ≤ top.toInt) (hy : y.toInt = x.toInt) : st.getD 0 0 = wVal L nm f y := by
  unfold wVal
  rw [hy, ← h, wGet (by omega)]
end WS
theorem kWk_end {L : List Int32} {f t i top : Int} (hs : kSeg L f t) (hw : kWk L f i top) (hi : i = t) : top = 1 := by
  subst hi
  have a := hs.2.2.2
  have b := hw.2.2
  rw [a] at b
  have := Option.some.inj b
  have := hw.1
  omega
theorem wLaw_skip {as sy en L nm : List Int32} {n m : Nat} {j : Nat} {R : Int32} (h : wLaw as sy en L nm m j = R) (hm : m = n + 1) (h1 : (as.getD j 0).toInt < (sy.getD j 0).toInt) (h2 : (wVal L nm (as.getD j 0) (sy.getD j 0)).toInt = 0) : wLaw as sy en L nm n (j + 1) = R := by
  subst hm
  unfold wLaw at h
  rw [if_pos ⟨h1, h2⟩] at h
  exact h
theorem wLaw_say {as sy en L nm : List Int32} {n m : Nat} {j : Nat} {R : Int32} (h : wLaw as sy en L nm m j = R) (hm : m = n + 1) (h1 : ¬ ((as.getD j 0).toInt < (sy.getD j 0).toInt ∧ (wVal L nm (as.getD j 0) (sy.getD j 0)).toInt = 0)) : wVal L nm (sy.getD j 0) (en.getD j 0) = R := by
  subst hm
  unfold wLaw at h
  rw [if_neg h1] at h
  exact h
theorem kNam5 {l : List Int32} {a c d e f : Int32} (h : l.length = 6) : (((((l.set (0 : Int32).toNatClampNeg a).set (2 : Int32).toNatClampNeg c).set (3 : Int32).toNatClampNeg d).set (4 : Int32).toNatClampNeg e).set (5 : Int32).toNatClampNeg f) = [a, l.getD 1 0, c, d, e, f] := by
  match l, h with
  | [_, _, _, _, _, _], _ => rfl
theorem kj_lines {n x : Int} (h : x < n) (h0 : 0 ≤ x) : (n - x).toNat = (n - (x + 1)).toNat + 1 := by omega
section BLN
variable {as as1 sy sy1 sy2 en en1 L nm : List Int32} {x x1 v v0 n R : Int32}
theorem bl_next (h : wLaw as sy en L nm (n.toInt - x.toInt).toNat x.toInt.toNat = R) (hm : (n.toInt - x.toInt).toNat = (n.toInt - (x.toInt + 1)).toNat + 1) (h0 : 0 ≤ x.toInt) (h1 : x1.toInt = x.toInt + 1) (ea : as1 = as) (es : sy1 = sy) (hlt : (as1.getD x.toNatClampNeg 0).toInt < (sy1.getD x.toNatClampNeg 0).toInt) (hv : v = wVal L nm (as1.getD x.toNatClampNeg 0) (sy1.getD x.toNatClampNeg 0)) (hz : v.toInt = 0) (_ : True = True) : wLaw as sy en L nm (n.toInt - x1.toInt).toNat x1.toInt.toNat = R := by
  have tx := Int32.toNat_toInt x
  subst ea
  subst es
  subst hv
  rw [h1, show (x.toInt + 1).toNat = x.toInt.toNat + 1 by omega]
  exact wLaw_skip h hm (by rw [tx]; exact hlt) (by rw [tx]; exact hz)
theorem bl_none (h : wLaw as sy en L nm (n.toInt - x.toInt).toNat x.toInt.toNat = R) (hx : n.toInt ≤ x.toInt) : R = 0 := by
  rw [show (n.toInt - x.toInt).toNat = 0 by omega] at h
  exact h.symm
theorem bl_say0 (h : wLaw as sy en L nm (n.toInt - x.toInt).toNat x.toInt.toNat = R) (hm : (n.toInt - x.toInt).toNat = (n.toInt - (x.toInt + 1)).toNat + 1) (h0 : 0 ≤ x.toInt) (ea : as1 = as) (es : sy1 = sy) (hge : (sy1.getD x.toNatClampNeg 0).toInt ≤ (as1.getD x.toNatClampNeg 0).toInt) (es2 : sy2 = sy) (ee : en1 = en) (hv : v = wVal L nm (sy2.getD x.toNatClampNeg 0) (en1.getD x.toNatClampNeg 0)) : R = v := by
  have tx := Int32.toNat_toInt x
  subst ea
  subst es
  subst es2
  subst ee
  rw [hv, ← tx]
  exact (wLaw_say h hm (by rw [tx]; omega)).symm
theorem bl_say1 (h : wLaw as sy en L nm (n.toInt - x.toInt).toNat x.toInt.toNat = R) (hm : (n.toInt - x.toInt).toNat = (n.toInt - (x.toInt + 1)).toNat + 1) (h0 : 0 ≤ x.toInt) (ea : as1 = as) (es : sy1 = sy) (hv0 : v0 = wVal L nm (as1.getD x.toNatClampNeg 0) (sy1.getD x.toNatClampNeg 0)) (hz : v0.toInt ≠ 0) (es2 : sy2 = sy) (ee : en1 = en) (hv : v = wVal L nm (sy2.getD x.toNatClampNeg 0) (en1.getD x.toNatClampNeg 0)) : R = v := by
  have tx := Int32.toNat_toInt x
  subst ea
  subst es
  subst es2
  subst ee
  subst hv0
  rw [hv, ← tx]
  exact (wLaw_say h hm (by rw [tx]; exact fun z => hz z.2)).symm
end BLN
theorem kSet1 {l : List Int32} {x : Int32} (h : l.length = 6) : (l.set (1 : Int32).toNatClampNeg x).getD 1 0 = x := by
  match l, h with
  | [_, _, _, _, _, _], _ => rfl
end
section
theorem kog0 : (0 : Int32).toInt = 0 := by decide
theorem kog1 : (1 : Int32).toInt = 1 := by decide
theorem kog8 : (8 : Int32).toInt = 8 := by decide
theorem kog9 : (9 : Int32).toInt = 9 := by decide
theorem kog10 : (10 : Int32).toInt = 10 := by decide
theorem kog18 : (18 : Int32).toInt = 18 := by decide
theorem kog5 : (5 : Int32).toInt = 5 := by decide
theorem kog16 : (16 : Int32).toInt = 16 := by decide
theorem kog17 : (17 : Int32).toInt = 17 := by decide
theorem kogm1 : ((-1) : Int32).toInt = (-1) := by decide
theorem kog2 : (2 : Int32).toInt = 2 := by decide
theorem kog3 : (3 : Int32).toInt = 3 := by decide
theorem kog4 : (4 : Int32).toInt = 4 := by decide
theorem og0 {a0 a1 : Int} (h0 : a0 ≠ a1) (h1 : a1 = 0) : a0 ≠ 0 := oz295 h0 h1
theorem og1 {a0 : Int} (h0 : ¬ (a0 = 6)) (h1 : ¬ (a0 = 7)) (h2 : ¬ (a0 = 8)) (h3 : ¬ (a0 = 9)) (h4 : ¬ (a0 = 10)) (h5 : ¬ (a0 = 11)) (h6 : ¬ (a0 = 12)) (h7 : ¬ (a0 = 13)) (h8 : ¬ (a0 = 14)) : a0 < 6 ∨ 14 < a0 := oz296 h0 h1 h2 h3 h4 h5 h6 h7 h8
theorem og2 {a0 : Int} (h0 : a0 = 0) : (0 : Int) ≤ a0 := oz46 h0
theorem og3 {a0 : Int} (h0 : a0 = 0) : a0 < 200 := oz267 h0
theorem og4 {a0 a1 : Int} (h0 : a0 ≤ a1) (h1 : a1 ≤ a0) : a1 = a0 := oy46 h0 h1
theorem og5 {a0 a1 : Int} (h0 : a0 ≤ a1) (h1 : a1 ≤ a0) : a0 = a1 := by omega
theorem og6 {a0 a1 : Int} (h0 : (0 : Int) ≤ a0) (h1 : a0 ≤ a1) : (0 : Int) ≤ a1 := oz268 h0 h1
theorem og7 {a0 a1 : Int} (h0 : a0 < a1) (h1 : a1 ≤ 200) : a0 < 200 := oz269 h0 h1
theorem og8 {a0 a1 : Int} (h0 : a0 < a1) : a0 < a1 := oz270 h0
theorem og9 {a0 a1 : Int} (h0 : (0 : Int) ≤ a0) (h1 : a1 = 1) : (-2147483648 : Int) ≤ a0 + a1 := oz12 h0 h1
theorem og10 {a0 a1 : Int} (h0 : a0 ≤ 200) (h1 : a1 = 1) : a0 + a1 ≤ 2147483647 := oz271 h0 h1
theorem og11 {a0 a1 : Int} (h0 : a0 ≤ a1) (h1 : a1 < a0) (h2 : a0 = 18) : False := oz272 h0 h1 h2
theorem og12 {a0 a1 : Int} (h0 : a0 ≤ a1) (h1 : a0 = 18) : (-2147483648 : Int) ≤ a1 - a0 := oz273 h0 h1
theorem og13 {a0 a1 : Int} (h0 : a0 ≤ 2147483647) (h1 : a1 = 18) : a0 - a1 ≤ 2147483647 := oz274 h0 h1
theorem og14 {a0 : Int} (h0 : (0 : Int) ≤ a0) : (0 : Int) ≤ a0 := oz3 h0
theorem og15 {a0 a1 a2 : Int} (h0 : a0 < a1) (h1 : a1 ≤ 200) (h2 : a2 ≤ a0) : a2 < 200 := oz275 h0 h1 h2
theorem og16 {a0 a1 a2 : Int} (h0 : (0 : Int) ≤ a0) (h1 : a0 ≤ a1) (h2 : a2 = 1) : (-2147483648 : Int) ≤ a1 + a2 := oz276 h0 h1 h2
theorem og17 {a0 a1 a2 : Int} (h0 : a0 < a1) (h1 : a1 ≤ 200) (h2 : a2 = 1) : a0 + a2 ≤ 2147483647 := oz277 h0 h1 h2
theorem og18 {a0 a1 a2 a3 : Int} (h0 : a0 ≤ a1) (h1 : a2 = a1 + a3) (h2 : a3 = 1) : a0 ≤ a2 := oz278 h0 h1 h2
theorem og19 {a0 a1 a2 a3 a4 : Int} (h0 : a0 < a1) (h1 : a1 ≤ 200) (h2 : (0 : Int) ≤ a2) (h3 : a3 = a2 + a4) (h4 : a2 ≤ a0) (h5 : a4 = 1) : ((0 : Int) ≤ a3) ∧ (a3 ≤ 200) := oz279 h0 h1 h2 h3 h4 h5
theorem og20 {a0 a1 a2 a3 : Int} (h0 : a0 < a1) (h1 : a2 = a0 + a3) (h2 : a3 = 1) : a2 ≤ a1 := by omega
theorem og21 {a0 a1 a2 a3 a4 : Int} (h0 : a0 ≤ a1) (h1 : a2 = a3 + a4) (h2 : a0 = 18) (h3 : a4 = 1) : ((18 ≤ a1 ∨ a1 ≤ 5) → a2 = a3 + 1) ∧ ((a1 = 16 ∨ a1 = 17) → a2 = a3) ∧ ((6 ≤ a1 ∧ a1 ≤ 15) → a2 = a3 - 1) := oz280 h0 h1 h2 h3
theorem og22 {a0 a1 a2 : Int} (h0 : a0 = a1 + a2) (h1 : a2 = 1) : a0 = a1 + 1 := oz169 h0 h1
theorem og23 {a0 a1 : Int} (h0 : a0 ≤ a1) : a0 ≤ a1 := oz173 h0
theorem og24 {a0 : Int} (h0 : a0 ≤ 200) : a0 ≤ 200 := oz1293 h0
theorem og25 {a0 a1 : Int} (h0 : a0 ≤ a1) (h1 : a0 = 18) : 18 ≤ a1 ∨ a1 ≤ 5 := by omega
theorem og26 {a0 a1 : Int} (h0 : a0 ≤ a1) (h1 : a0 = 18) : 18 ≤ a1 := by omega
theorem og27 {a0 a1 a2 a3 : Int} (h0 : a0 = a1 + a2) (h1 : a2 = 1) : (a3 - a0) < (a3 - a1) := oz44 h0 h1
theorem og28 {a0 a1 : Int} (h0 : a0 < a1) : (1 : Int) ≤ (a1 - a0) := oz45 h0
theorem og29 {a0 a1 : Int} (h0 : (0 : Int) ≤ a0) (h1 : a1 = 1) : (-2147483648 : Int) ≤ a0 - a1 := oz47 h0 h1
theorem og30 {a0 a1 : Int} (h0 : a0 ≤ 200) (h1 : a1 = 1) : a0 - a1 ≤ 2147483647 := oz281 h0 h1
theorem og31 {a0 a1 a2 a3 a4 a5 : Int} (h0 : a0 < a1) (h1 : a0 = a2) (h2 : a3 = a4 - a5) (h3 : ((a0 = 16 ∨ a0 = 17) → (1 : Int) ≤ a4)) (h4 : a1 = 18) (h5 : a2 = 16) (h6 : a5 = 1) : (0 : Int) ≤ a3 := oz282 h0 h1 h2 h3 h4 h5 h6
theorem og32 {a0 a1 a2 : Int} (h0 : a0 ≤ 200) (h1 : a1 = a0 - a2) (h2 : a2 = 1) : a1 < 200 := oz283 h0 h1 h2
theorem og33 {a0 : Int} (h0 : (0 : Int) ≤ a0) (h1 : a0 ≤ 200) : ((0 : Int) ≤ a0) ∧ (a0 ≤ 200) := oz284 h0 h1
theorem og34 {a0 a1 a2 a3 : Int} (h0 : a0 < a1) (h1 : a0 = a2) (h2 : a1 = 18) (h3 : a2 = 16) : ((18 ≤ a0 ∨ a0 ≤ 5) → a3 = a3 + 1) ∧ ((a0 = 16 ∨ a0 = 17) → a3 = a3) ∧ ((6 ≤ a0 ∧ a0 ≤ 15) → a3 = a3 - 1) := oz285 h0 h1 h2 h3
theorem og35 {a0 a1 : Int} (h0 : a0 = a1) (h1 : a1 = 16) : a0 = 16 ∨ a0 = 17 := by omega
theorem og36 {a0 a1 : Int} (h0 : a0 = a1) (h1 : a1 = 16) : ¬ (a0 = 17) := by omega
theorem og37 {a0 a1 : Int} (h0 : a0 ≠ a1) (h1 : a1 = 0) : ¬ (a0 = 0) := by omega
theorem og38 {a0 a1 a2 a3 : Int} (h0 : a0 < a1) (h1 : a0 = a2) (h2 : ((a0 = 16 ∨ a0 = 17) → (1 : Int) ≤ a3)) (h3 : a1 = 18) (h4 : a2 = 16) : (1 : Int) ≤ a3 := by omega
theorem og39 {a0 a1 a2 : Int} (h0 : a0 = a1 - a2) (h1 : a2 = 1) : a0 = a1 - 1 := by omega
theorem og40 {a0 : Int}  : a0 = a0 := oz34
theorem og41 {a0 a1 : Int} (h0 : a0 = a1) (h1 : a1 = 0) : a0 = 0 := by omega
theorem og42 {a0 a1 a2 : Int} (h0 : a0 = a1) (h1 : a0 = a2) (h2 : a1 = 16) (h3 : a2 = 17) : False := oz286 h0 h1 h2 h3
theorem og43 {a0 a1 : Int} (h0 : (0 : Int) ≤ a0) (h1 : a1 = (-1)) : (-2147483648 : Int) ≤ a0 + a1 := oz287 h0 h1
theorem og44 {a0 a1 : Int} (h0 : a0 ≤ 200) (h1 : a1 = (-1)) : a0 + a1 ≤ 2147483647 := oz288 h0 h1
theorem og45 {a0 a1 a2 a3 : Int} (h0 : (0 : Int) ≤ a0) (h1 : a1 = a0 + a2) (h2 : a2 = (-1)) (h3 : a3 = 1) : (-2147483648 : Int) ≤ a1 - a3 := oz289 h0 h1 h2 h3
theorem og46 {a0 a1 a2 a3 : Int} (h0 : a0 ≤ 200) (h1 : a1 = a0 + a2) (h2 : a2 = (-1)) (h3 : a3 = 1) : a1 - a3 ≤ 2147483647 := oz290 h0 h1 h2 h3
theorem og47 {a0 a1 a2 a3 a4 a5 a6 a7 a8 a9 : Int} (h0 : a0 < a1) (h1 : a2 < a0) (h2 : a0 ≠ a3) (h3 : a0 ≠ a4) (h4 : a5 = a6 + a7) (h5 : a8 = a5 - a9) (h6 : ((6 ≤ a0 ∧ a0 ≤ 15) → (2 : Int) ≤ a6)) (h7 : a1 = 18) (h8 : a2 = 5) (h9 : a3 = 16) (h10 : a4 = 17) (h11 : a7 = (-1)) (h12 : a9 = 1) : (0 : Int) ≤ a8 := oz291 h0 h1 h2 h3 h4 h5 h6 h7 h8 h9 h10 h11 h12
theorem og48 {a0 a1 a2 a3 a4 : Int} (h0 : a0 ≤ 200) (h1 : a1 = a0 + a2) (h2 : a3 = a1 - a4) (h3 : a2 = (-1)) (h4 : a4 = 1) : a3 < 200 := oz292 h0 h1 h2 h3 h4
theorem og49 {a0 a1 a2 a3 a4 a5 : Int} (h0 : a0 < a1) (h1 : a2 < a0) (h2 : a3 = a4 + a5) (h3 : ((a0 = 16 ∨ a0 = 17) → (1 : Int) ≤ a4)) (h4 : ((6 ≤ a0 ∧ a0 ≤ 15) → (2 : Int) ≤ a4)) (h5 : a1 = 18) (h6 : a2 = 5) (h7 : a5 = (-1)) : (0 : Int) ≤ a3 := oz293 h0 h1 h2 h3 h4 h5 h6 h7
theorem og50 {a0 a1 a2 : Int} (h0 : a0 ≤ 200) (h1 : a1 = a0 + a2) (h2 : a2 = (-1)) : a1 < 200 := oz294 h0 h1 h2
theorem og51 {a0 a1 a2 a3 a4 a5 : Int} (h0 : a0 < a1) (h1 : a2 < a0) (h2 : a3 ≤ 200) (h3 : a4 = a3 + a5) (h4 : ((a0 = 16 ∨ a0 = 17) → (1 : Int) ≤ a3)) (h5 : ((6 ≤ a0 ∧ a0 ≤ 15) → (2 : Int) ≤ a3)) (h6 : a1 = 18) (h7 : a2 = 5) (h8 : a5 = (-1)) : ((0 : Int) ≤ a4) ∧ (a4 ≤ 200) := oz297 h0 h1 h2 h3 h4 h5 h6 h7 h8
theorem og52 {a0 a1 a2 a3 a4 a5 a6 a7 : Int} (h0 : a0 < a1) (h1 : a2 < a0) (h2 : a0 ≠ a3) (h3 : a0 ≠ a4) (h4 : a5 = a6 + a7) (h5 : a1 = 18) (h6 : a2 = 5) (h7 : a3 = 16) (h8 : a4 = 17) (h9 : a7 = (-1)) : ((18 ≤ a0 ∨ a0 ≤ 5) → a5 = a6 + 1) ∧ ((a0 = 16 ∨ a0 = 17) → a5 = a6) ∧ ((6 ≤ a0 ∧ a0 ≤ 15) → a5 = a6 - 1) := oz298 h0 h1 h2 h3 h4 h5 h6 h7 h8 h9
theorem og53 {a0 a1 a2 a3 a4 a5 : Int} (h0 : a0 < a1) (h1 : a2 < a0) (h2 : a0 ≠ a3) (h3 : a0 ≠ a4) (h4 : ((6 ≤ a0 ∧ a0 ≤ 15) → (2 : Int) ≤ a5)) (h5 : a1 = 18) (h6 : a2 = 5) (h7 : a3 = 16) (h8 : a4 = 17) : (2 : Int) ≤ a5 := by omega
theorem og54 {a0 a1 : Int} (h0 : a0 < a1) (h1 : a0 = 5) : (6 : Int) ≤ a1 := by omega
theorem og55 {a0 a1 a2 a3 : Int} (h0 : a0 < a1) (h1 : a0 ≠ a2) (h2 : a0 ≠ a3) (h3 : a1 = 18) (h4 : a2 = 16) (h5 : a3 = 17) : a0 ≤ 15 := by omega
theorem og56 {a0 a1 a2 a3 a4 : Int} (h0 : a0 = a1 + a2) (h1 : a3 = a0 - a4) (h2 : a2 = (-1)) (h3 : a4 = 1) : a3 = a1 - 2 := by omega
theorem og57 {a0 a1 a2 : Int} (h0 : a0 = a1 + a2) (h1 : a2 = (-1)) : a0 = a1 - 1 := oy90 h0 h1
theorem og58 {a0 a1 a2 : Int} (h0 : a0 < a1) (h1 : a0 = a2) (h2 : a0 ≠ a2) (h3 : a1 = 18) (h4 : a2 = 17) : False := oz299 h0 h1 h2 h3 h4
theorem og59 {a0 a1 a2 a3 a4 a5 : Int} (h0 : a0 < a1) (h1 : a0 = a2) (h2 : a3 = a4 - a5) (h3 : ((a0 = 16 ∨ a0 = 17) → (1 : Int) ≤ a4)) (h4 : a1 = 18) (h5 : a2 = 17) (h6 : a5 = 1) : (0 : Int) ≤ a3 := oz300 h0 h1 h2 h3 h4 h5 h6
theorem og60 {a0 a1 a2 a3 : Int} (h0 : a0 < a1) (h1 : a0 = a2) (h2 : a1 = 18) (h3 : a2 = 17) : ((18 ≤ a0 ∨ a0 ≤ 5) → a3 = a3 + 1) ∧ ((a0 = 16 ∨ a0 = 17) → a3 = a3) ∧ ((6 ≤ a0 ∧ a0 ≤ 15) → a3 = a3 - 1) := oz301 h0 h1 h2 h3
theorem og61 {a0 a1 a2 : Int} (h0 : a0 < a1) (h1 : a0 = a2) (h2 : a1 = 18) (h3 : a2 = 17) : a0 = 16 ∨ a0 = 17 := by omega
theorem og62 {a0 a1 a2 : Int} (h0 : a0 < a1) (h1 : a0 = a2) (h2 : a1 = 18) (h3 : a2 = 17) : a0 = 17 := by omega
theorem og63 {a0 a1 a2 a3 : Int} (h0 : a0 < a1) (h1 : a0 = a2) (h2 : ((a0 = 16 ∨ a0 = 17) → (1 : Int) ≤ a3)) (h3 : a1 = 18) (h4 : a2 = 17) : (1 : Int) ≤ a3 := by omega
theorem og64 {a0 a1 : Int} (h0 : a0 ≤ a1) (h1 : a1 = 5) : a0 < 6 := oz302 h0 h1
theorem og65 {a0 a1 a2 a3 a4 : Int} (h0 : a0 ≤ a1) (h1 : a2 = a3 + a4) (h2 : a1 = 5) (h3 : a4 = 1) : ((18 ≤ a0 ∨ a0 ≤ 5) → a2 = a3 + 1) ∧ ((a0 = 16 ∨ a0 = 17) → a2 = a3) ∧ ((6 ≤ a0 ∧ a0 ≤ 15) → a2 = a3 - 1) := oz303 h0 h1 h2 h3
theorem og66 {a0 a1 : Int} (h0 : a0 ≤ a1) (h1 : a1 = 5) : 18 ≤ a0 ∨ a0 ≤ 5 := by omega
theorem og67 {a0 a1 : Int} (h0 : a0 < a1) (h1 : a1 = 18) : ¬ (18 ≤ a0) := by omega
theorem og68 {a0 a1 : Int} (h0 : a0 < a1) (h1 : a1 ≤ a0) (h2 : a1 = 18) : False := oz304 h0 h1 h2
theorem og69 {a0 : Int}  : a0 ≤ a0 := oz122
theorem og70 {a0 : Int} (h0 : a0 = 0) : ((0 : Int) ≤ a0) ∧ (a0 ≤ 200) := oz305 h0
theorem og71 {a0 : Int} (h0 : a0 ≤ 7) : a0 < 24 := oz248 h0
theorem og72 {a0 : Int} (h0 : a0 = 0) : a0 < 6 := oz255 h0
theorem og73 {a0 a1 : Int} (h0 : (0 : Int) ≤ a0) (h1 : a1 = 8) : (-2147483648 : Int) ≤ a1 + a0 := oz8 h0 h1
theorem og74 {a0 a1 : Int} (h0 : a0 ≤ 7) (h1 : a1 = 8) : a1 + a0 ≤ 2147483647 := oz249 h0 h1
theorem og75 {a0 a1 a2 : Int} (h0 : (0 : Int) ≤ a0) (h1 : a1 = a2 + a0) (h2 : a2 = 8) : (0 : Int) ≤ a1 := oz10 h0 h1 h2
theorem og76 {a0 a1 a2 : Int} (h0 : a0 ≤ 7) (h1 : a1 = a2 + a0) (h2 : a2 = 8) : a1 < 24 := oz250 h0 h1 h2
theorem og77 {a0 : Int} (h0 : a0 = 2) : (0 : Int) ≤ a0 := oz256 h0
theorem og78 {a0 : Int} (h0 : a0 = 2) : a0 < 6 := oz257 h0
theorem og79 {a0 : Int} (h0 : a0 = 9) : (0 : Int) ≤ a0 := oz258 h0
theorem og80 {a0 : Int} (h0 : a0 = 9) : a0 < 31 := oz259 h0
theorem og81 {a0 : Int} (h0 : a0 = 3) : (0 : Int) ≤ a0 := oz260 h0
theorem og82 {a0 : Int} (h0 : a0 = 3) : a0 < 6 := oz261 h0
theorem og83 {a0 a1 : Int} (h0 : (0 : Int) ≤ a0) (h1 : a1 = 10) : (-2147483648 : Int) ≤ a1 + a0 := oz251 h0 h1
theorem og84 {a0 a1 : Int} (h0 : a0 ≤ 7) (h1 : a1 = 10) : a1 + a0 ≤ 2147483647 := oz252 h0 h1
theorem og85 {a0 a1 a2 : Int} (h0 : (0 : Int) ≤ a0) (h1 : a1 = a2 + a0) (h2 : a2 = 10) : (0 : Int) ≤ a1 := oz253 h0 h1 h2
theorem og86 {a0 a1 a2 : Int} (h0 : a0 ≤ 7) (h1 : a1 = a2 + a0) (h2 : a2 = 10) : a1 < 31 := oz254 h0 h1 h2
theorem og87 {a0 : Int} (h0 : a0 = 4) : (0 : Int) ≤ a0 := oz262 h0
theorem og88 {a0 : Int} (h0 : a0 = 4) : a0 < 6 := oz263 h0
theorem og89 {a0 : Int} (h0 : a0 = 8) : (0 : Int) ≤ a0 := oz85 h0
theorem og90 {a0 : Int} (h0 : a0 = 8) : a0 < 31 := oz86 h0
theorem og91 {a0 : Int} (h0 : a0 = 5) : (0 : Int) ≤ a0 := oz264 h0
theorem og92 {a0 : Int} (h0 : a0 = 5) : a0 < 6 := oz265 h0
theorem og93 {a0 a1 a2 : Int} (h0 : a0 ≤ a1) (h1 : a0 = a2) : a2 ≤ a1 := oz1318 h0 h1
theorem og94 {a0 a1 : Int} (h0 : a0 < a1) (h1 : a1 ≤ 60) : a0 < 60 := oz266 h0 h1
theorem og95 {a0 a1 a2 : Int} (h0 : a0 < a1) (h1 : a1 = a2) : a0 < a2 := od20 h0 h1
theorem og96 {a0 a1 a2 : Int} (h0 : a0 < a1) (h1 : a2 = a1) : a0 < a2 := oz306 h0 h1
theorem og97 {a0 a1 a2 : Int} (h0 : a0 < a1) (h1 : a1 ≤ 60) (h2 : a2 = 1) : a0 + a2 ≤ 2147483647 := oz307 h0 h1 h2
theorem og98 {a0 a1 a2 : Int} (h0 : (0 : Int) ≤ a0) (h1 : a1 = a0 + a2) (h2 : a2 = 1) : (0 : Int) ≤ a1 := oz14 h0 h1 h2
theorem og99 {a0 a1 a2 a3 a4 : Int} (h0 : a0 = a1) (h1 : a2 = a3 + a4) (h2 : a4 = 1) : (a0 - a2) < (a1 - a3) := oz308 h0 h1 h2
theorem og100 {a0 : Int} (h0 : a0 = 1) : (0 : Int) ≤ a0 := oz246 h0
theorem og101 {a0 : Int} (h0 : a0 = 1) : a0 < 6 := oz247 h0
theorem og102 {a0 a1 : Int} (h0 : a0 = a1) (h1 : (0 : Int) ≤ a0) (h2 : a1 = 0) : a0 = 0 := od48 h0 h1 h2
theorem og103 {a0 : Int} (h0 : (0 : Int) ≤ a0) (h1 : a0 ≤ 7) : ((0 : Int) ≤ a0) ∧ (a0 ≤ 7) := oz181 h0 h1
theorem og104 {a0 a1 : Int} (h0 : a0 ≠ a1) (h1 : (0 : Int) ≤ a0) (h2 : a1 = 0) : ¬ (a0 = 0) := od60 h0 h1 h2
set_option maxRecDepth 100000 in
theorem ke160 {i : Nat → Int32} {a : Nat → List Int32} {q : Nat → List Int64} {r : Nat → Nat} (hI : kI i a q) (hr : kr r) (x1 : Int32) (x2 : Int32) (x3 : Int32) : km 1 160 [.int x1, .int x2, .int x3] (ks i a q r) (kPI (ks i a q r) (fun v => (True) ∧ v = rBoth x1 x2 x3)) := by
  have hG := kG_self kW0 hI hr
  refine km_ofPI (q := (mi_h160, mi_c160)) rfl (by decide) (Nat.le_of_ble_eq_true rfl) ?_
  intro P hP
  first | refine ft_goL mi_k160 1 1 [(0, .int x1), (1, .int x2), (2, .int x3)] [.int x1] (by rfl) ?_ | refine ft_go mi_k160 1 1 [(0, .int x1), (1, .int x2), (2, .int x3)] [.int x1] i a q r (by rfl) ?_
  by_cases w1 : x1.toInt = 6
  ·
    refine ft_swx mi_k160 (pc := 1) (v := 6) (t := 52) (kj_eq w1 (by decide) : x1 = 6) (by decide +kernel) ?_
    first | refine ft_goS mi_k160 1 53 [.int x2] (by rfl) ?_ | refine ft_go mi_k160 1 53 [(0, .int x1), (1, .int x2), (2, .int x3)] [.int x2] i a q r (by rfl) ?_
    refine ft_ifS mi_k160 (x2 != 0) 60 56 [] (by rfl) (fun c => ?_) (fun c => ?_)
    ·
      have c2 : x2.toInt ≠ (0 : Int32).toInt := kd_ne c; clear c
      first | refine fo_goS mi_k160 fz160_60_2_65 [.int 1] (by rfl) ?_ | refine fo_goS mi_k160 fz160_57_2_65 [.int 1] (by rfl) ?_ | refine ft_go mi_k160 2 65 [(0, .int x1), (1, .int x2), (2, .int x3)] [.int 1] i a q r (by rfl) ?_
      exact ft_ret mi_k160 (by rfl) (hP 1 ⟨trivial, (show (1 : Int32) = rBoth x1 x2 x3 from (by have k0_ : (0 : Int32).toInt = 0 := (by decide); have k6_ : (6 : Int32).toInt = 6 := (by decide); first | (unfold rBoth; rw [if_pos w1]; all_goals first | (split <;> first | rfl | (exfalso; omega)) | rfl) | (unfold rBoth; (repeat' split) <;> first | rfl | (exfalso; omega))))⟩)
    ·
      have c3 : x2.toInt = (0 : Int32).toInt := kd_neF c; clear c
      first | refine ft_goS mi_k160 1 57 [.int x3] (by rfl) ?_ | refine ft_go mi_k160 1 57 [(0, .int x1), (1, .int x2), (2, .int x3)] [.int x3] i a q r (by rfl) ?_
      refine ft_ifS mi_k160 (x3 == 0) 64 60 [] (by rfl) (fun c => ?_) (fun c => ?_)
      ·
        have c4 : x3.toInt = (0 : Int32).toInt := kd_eq c; clear c
        first | refine ft_goS mi_k160 1 65 [.int 0] (by rfl) ?_ | refine ft_go mi_k160 1 65 [(0, .int x1), (1, .int x2), (2, .int x3)] [.int 0] i a q r (by rfl) ?_
        exact ft_ret mi_k160 (by rfl) (hP 0 ⟨trivial, (show (0 : Int32) = rBoth x1 x2 x3 from (by have k0_ : (0 : Int32).toInt = 0 := (by decide); have k6_ : (6 : Int32).toInt = 6 := (by decide); first | (unfold rBoth; rw [if_pos w1]; all_goals first | (split <;> first | rfl | (exfalso; omega)) | rfl) | (unfold rBoth; (repeat' split) <;> first | rfl | (exfalso; omega))))⟩)
      ·
        have c5 : x3.toInt ≠ (0 : Int32).toInt := kd_eqF c; clear c
        first | refine fo_goS mi_k160 fz160_60_2_65 [.int 1] (by rfl) ?_ | refine fo_goS mi_k160 fz160_57_2_65 [.int 1] (by rfl) ?_ | refine ft_go mi_k160 2 65 [(0, .int x1), (1, .int x2), (2, .int x3)] [.int 1] i a q r (by rfl) ?_
        exact ft_ret mi_k160 (by rfl) (hP 1 ⟨trivial, (show (1 : Int32) = rBoth x1 x2 x3 from (by have k0_ : (0 : Int32).toInt = 0 := (by decide); have k6_ : (6 : Int32).toInt = 6 := (by decide); first | (unfold rBoth; rw [if_pos w1]; all_goals first | (split <;> first | rfl | (exfalso; omega)) | rfl) | (unfold rBoth; (repeat' split) <;> first | rfl | (exfalso; omega))))⟩)
  by_cases w6 : x1.toInt = 7
  ·
    refine ft_swx mi_k160 (pc := 1) (v := 7) (t := 66) (kj_eq w6 (by decide) : x1 = 7) (by decide +kernel) ?_
    first | refine ft_goS mi_k160 1 67 [.int x2] (by rfl) ?_ | refine ft_go mi_k160 1 67 [(0, .int x1), (1, .int x2), (2, .int x3)] [.int x2] i a q r (by rfl) ?_
    refine ft_ifS mi_k160 (x2 == 0) 78 70 [] (by rfl) (fun c => ?_) (fun c => ?_)
    ·
      have c7 : x2.toInt = (0 : Int32).toInt := kd_eq c; clear c
      first | refine ft_goS mi_k160 1 79 [.int 0] (by rfl) ?_ | refine ft_go mi_k160 1 79 [(0, .int x1), (1, .int x2), (2, .int x3)] [.int 0] i a q r (by rfl) ?_
      exact ft_ret mi_k160 (by rfl) (hP 0 ⟨trivial, (show (0 : Int32) = rBoth x1 x2 x3 from (by have k0_ : (0 : Int32).toInt = 0 := (by decide); have k6_ : (6 : Int32).toInt = 6 := (by decide); first | (unfold rBoth; rw [if_neg w1, if_pos w6]; all_goals first | (split <;> first | rfl | (exfalso; omega)) | rfl) | (unfold rBoth; (repeat' split) <;> first | rfl | (exfalso; omega))))⟩)
    ·
      have c8 : x2.toInt ≠ (0 : Int32).toInt := kd_eqF c; clear c
      first | refine ft_goS mi_k160 1 71 [.int x3] (by rfl) ?_ | refine ft_go mi_k160 1 71 [(0, .int x1), (1, .int x2), (2, .int x3)] [.int x3] i a q r (by rfl) ?_
      refine ft_ifS mi_k160 (x3 == 0) 78 74 [] (by rfl) (fun c => ?_) (fun c => ?_)
      ·
        have c9 : x3.toInt = (0 : Int32).toInt := kd_eq c; clear c
        first | refine ft_goS mi_k160 1 79 [.int 0] (by rfl) ?_ | refine ft_go mi_k160 1 79 [(0, .int x1), (1, .int x2), (2, .int x3)] [.int 0] i a q r (by rfl) ?_
        exact ft_ret mi_k160 (by rfl) (hP 0 ⟨trivial, (show (0 : Int32) = rBoth x1 x2 x3 from (by have k0_ : (0 : Int32).toInt = 0 := (by decide); have k6_ : (6 : Int32).toInt = 6 := (by decide); first | (unfold rBoth; rw [if_neg w1, if_pos w6]; all_goals first | (split <;> first | rfl | (exfalso; omega)) | rfl) | (unfold rBoth; (repeat' split) <;> first | rfl | (exfalso; omega))))⟩)
      ·
        have c10 : x3.toInt ≠ (0 : Int32).toInt := kd_eqF c; clear c
        first | refine ft_goS mi_k160 2 79 [.int 1] (by rfl) ?_ | refine ft_go mi_k160 2 79 [(0, .int x1), (1, .int x2), (2, .int x3)] [.int 1] i a q r (by rfl) ?_
        exact ft_ret mi_k160 (by rfl) (hP 1 ⟨trivial, (show (1 : Int32) = rBoth x1 x2 x3 from (by have k0_ : (0 : Int32).toInt = 0 := (by decide); have k6_ : (6 : Int32).toInt = 6 := (by decide); first | (unfold rBoth; rw [if_neg w1, if_pos w6]; all_goals first | (split <;> first | rfl | (exfalso; omega)) | rfl) | (unfold rBoth; (repeat' split) <;> first | rfl | (exfalso; omega))))⟩)
  by_cases w11 : x1.toInt = 8
  ·
    refine ft_swx mi_k160 (pc := 1) (v := 8) (t := 80) (kj_eq w11 (by decide) : x1 = 8) (by decide +kernel) ?_
    first | refine ft_goS mi_k160 2 82 [.int x3, .int x2] (by rfl) ?_ | refine ft_go mi_k160 2 82 [(0, .int x1), (1, .int x2), (2, .int x3)] [.int x3, .int x2] i a q r (by rfl) ?_
    refine ft_ifS mi_k160 (decide (x3 ≤ x2)) 89 85 [] (by rfl) (fun c => ?_) (fun c => ?_)
    ·
      have c12 : x3.toInt ≤ x2.toInt := kd_le c; clear c
      first | refine ft_goS mi_k160 1 90 [.int 0] (by rfl) ?_ | refine ft_go mi_k160 1 90 [(0, .int x1), (1, .int x2), (2, .int x3)] [.int 0] i a q r (by rfl) ?_
      exact ft_ret mi_k160 (by rfl) (hP 0 ⟨trivial, (show (0 : Int32) = rBoth x1 x2 x3 from (by have k0_ : (0 : Int32).toInt = 0 := (by decide); have k6_ : (6 : Int32).toInt = 6 := (by decide); first | (unfold rBoth; rw [if_neg w1, if_neg w6, if_pos w11]; all_goals first | (split <;> first | rfl | (exfalso; omega)) | rfl) | (unfold rBoth; (repeat' split) <;> first | rfl | (exfalso; omega))))⟩)
    ·
      have c13 : x2.toInt < x3.toInt := kd_leF c; clear c
      first | refine ft_goS mi_k160 2 90 [.int 1] (by rfl) ?_ | refine ft_go mi_k160 2 90 [(0, .int x1), (1, .int x2), (2, .int x3)] [.int 1] i a q r (by rfl) ?_
      exact ft_ret mi_k160 (by rfl) (hP 1 ⟨trivial, (show (1 : Int32) = rBoth x1 x2 x3 from (by have k0_ : (0 : Int32).toInt = 0 := (by decide); have k6_ : (6 : Int32).toInt = 6 := (by decide); first | (unfold rBoth; rw [if_neg w1, if_neg w6, if_pos w11]; all_goals first | (split <;> first | rfl | (exfalso; omega)) | rfl) | (unfold rBoth; (repeat' split) <;> first | rfl | (exfalso; omega))))⟩)
  by_cases w14 : x1.toInt = 9
  ·
    refine ft_swx mi_k160 (pc := 1) (v := 9) (t := 91) (kj_eq w14 (by decide) : x1 = 9) (by decide +kernel) ?_
    first | refine ft_goS mi_k160 2 93 [.int x3, .int x2] (by rfl) ?_ | refine ft_go mi_k160 2 93 [(0, .int x1), (1, .int x2), (2, .int x3)] [.int x3, .int x2] i a q r (by rfl) ?_
    refine ft_ifS mi_k160 (x2 != x3) 100 96 [] (by rfl) (fun c => ?_) (fun c => ?_)
    ·
      have c15 : x2.toInt ≠ x3.toInt := kd_ne c; clear c
      first | refine ft_goS mi_k160 1 101 [.int 0] (by rfl) ?_ | refine ft_go mi_k160 1 101 [(0, .int x1), (1, .int x2), (2, .int x3)] [.int 0] i a q r (by rfl) ?_
      exact ft_ret mi_k160 (by rfl) (hP 0 ⟨trivial, (show (0 : Int32) = rBoth x1 x2 x3 from (by have k0_ : (0 : Int32).toInt = 0 := (by decide); have k6_ : (6 : Int32).toInt = 6 := (by decide); first | (unfold rBoth; rw [if_neg w1, if_neg w6, if_neg w11, if_pos w14]; all_goals first | (split <;> first | rfl | (exfalso; omega)) | rfl) | (unfold rBoth; (repeat' split) <;> first | rfl | (exfalso; omega))))⟩)
    ·
      have c16 : x2.toInt = x3.toInt := kd_neF c; clear c
      first | refine ft_goS mi_k160 2 101 [.int 1] (by rfl) ?_ | refine ft_go mi_k160 2 101 [(0, .int x1), (1, .int x2), (2, .int x3)] [.int 1] i a q r (by rfl) ?_
      exact ft_ret mi_k160 (by rfl) (hP 1 ⟨trivial, (show (1 : Int32) = rBoth x1 x2 x3 from (by have k0_ : (0 : Int32).toInt = 0 := (by decide); have k6_ : (6 : Int32).toInt = 6 := (by decide); first | (unfold rBoth; rw [if_neg w1, if_neg w6, if_neg w11, if_pos w14]; all_goals first | (split <;> first | rfl | (exfalso; omega)) | rfl) | (unfold rBoth; (repeat' split) <;> first | rfl | (exfalso; omega))))⟩)
  by_cases w17 : x1.toInt = 10
  ·
    refine ft_swx mi_k160 (pc := 1) (v := 10) (t := 102) (kj_eq w17 (by decide) : x1 = 10) (by decide +kernel) ?_
    first | refine ft_goS mi_k160 2 104 [.int x3, .int x2] (by rfl) ?_ | refine ft_go mi_k160 2 104 [(0, .int x1), (1, .int x2), (2, .int x3)] [.int x3, .int x2] i a q r (by rfl) ?_
    refine ft_ifS mi_k160 (decide (x2 ≤ x3)) 111 107 [] (by rfl) (fun c => ?_) (fun c => ?_)
    ·
      have c18 : x2.toInt ≤ x3.toInt := kd_le c; clear c
      first | refine ft_goS mi_k160 1 112 [.int 0] (by rfl) ?_ | refine ft_go mi_k160 1 112 [(0, .int x1), (1, .int x2), (2, .int x3)] [.int 0] i a q r (by rfl) ?_
      exact ft_ret mi_k160 (by rfl) (hP 0 ⟨trivial, (show (0 : Int32) = rBoth x1 x2 x3 from (by have k0_ : (0 : Int32).toInt = 0 := (by decide); have k6_ : (6 : Int32).toInt = 6 := (by decide); first | (unfold rBoth; rw [if_neg w1, if_neg w6, if_neg w11, if_neg w14, if_pos w17]; all_goals first | (split <;> first | rfl | (exfalso; omega)) | rfl) | (unfold rBoth; (repeat' split) <;> first | rfl | (exfalso; omega))))⟩)
    ·
      have c19 : x3.toInt < x2.toInt := kd_leF c; clear c
      first | refine ft_goS mi_k160 2 112 [.int 1] (by rfl) ?_ | refine ft_go mi_k160 2 112 [(0, .int x1), (1, .int x2), (2, .int x3)] [.int 1] i a q r (by rfl) ?_
      exact ft_ret mi_k160 (by rfl) (hP 1 ⟨trivial, (show (1 : Int32) = rBoth x1 x2 x3 from (by have k0_ : (0 : Int32).toInt = 0 := (by decide); have k6_ : (6 : Int32).toInt = 6 := (by decide); first | (unfold rBoth; rw [if_neg w1, if_neg w6, if_neg w11, if_neg w14, if_pos w17]; all_goals first | (split <;> first | rfl | (exfalso; omega)) | rfl) | (unfold rBoth; (repeat' split) <;> first | rfl | (exfalso; omega))))⟩)
  by_cases w20 : x1.toInt = 11
  ·
    refine ko_eq (x1 := (1, [(0, .int x1), (1, .int x2), (2, .int x3)], [.int 11], (0, 0), ks i a q r)) (by rw [(kj_eq w20 (by decide) : x1 = 11)]) ?_
    have b21 : ((-2147483648 : Int) ≤ x2.toInt) ∧ (x2.toInt ≤ 2147483647) := kd_bd x2
    have b22 : ((-2147483648 : Int) ≤ x3.toInt) ∧ (x3.toInt ≤ 2147483647) := kd_bd x3
    first | refine ft_goS mi_k160 4 116 [.int (x2 + x3)] (by rfl) ?_ | refine ft_go mi_k160 4 116 [(0, .int x1), (1, .int x2), (2, .int x3)] [.int (x2 + x3)] i a q r (by rfl) ?_
    exact ft_ret mi_k160 (by rfl) (hP (x2 + x3) ⟨trivial, (show (x2 + x3) = rBoth x1 x2 x3 from (by have k0_ : (0 : Int32).toInt = 0 := (by decide); have k6_ : (6 : Int32).toInt = 6 := (by decide); first | (unfold rBoth; rw [if_neg w1, if_neg w6, if_neg w11, if_neg w14, if_neg w17, if_pos w20]; all_goals first | (split <;> first | rfl | (exfalso; omega)) | rfl) | (unfold rBoth; (repeat' split) <;> first | rfl | (exfalso; omega))))⟩)
  by_cases w23 : x1.toInt = 12
  ·
    refine ko_eq (x1 := (1, [(0, .int x1), (1, .int x2), (2, .int x3)], [.int 12], (0, 0), ks i a q r)) (by rw [(kj_eq w23 (by decide) : x1 = 12)]) ?_
    have b24 : ((-2147483648 : Int) ≤ x2.toInt) ∧ (x2.toInt ≤ 2147483647) := kd_bd x2
    have b25 : ((-2147483648 : Int) ≤ x3.toInt) ∧ (x3.toInt ≤ 2147483647) := kd_bd x3
    first | refine ft_goS mi_k160 4 120 [.int (x2 - x3)] (by rfl) ?_ | refine ft_go mi_k160 4 120 [(0, .int x1), (1, .int x2), (2, .int x3)] [.int (x2 - x3)] i a q r (by rfl) ?_
    exact ft_ret mi_k160 (by rfl) (hP (x2 - x3) ⟨trivial, (show (x2 - x3) = rBoth x1 x2 x3 from (by have k0_ : (0 : Int32).toInt = 0 := (by decide); have k6_ : (6 : Int32).toInt = 6 := (by decide); first | (unfold rBoth; rw [if_neg w1, if_neg w6, if_neg w11, if_neg w14, if_neg w17, if_neg w20, if_pos w23]; all_goals first | (split <;> first | rfl | (exfalso; omega)) | rfl) | (unfold rBoth; (repeat' split) <;> first | rfl | (exfalso; omega))))⟩)
  by_cases w26 : x1.toInt = 13
  ·
    refine ft_swx mi_k160 (pc := 1) (v := 13) (t := 121) (kj_eq w26 (by decide) : x1 = 13) (by decide +kernel) ?_
    first | refine fo_goS mi_k160 fz160_121_3_124 [.int (x2 * x3)] (by rfl) ?_ | refine ft_go mi_k160 3 124 [(0, .int x1), (1, .int x2), (2, .int x3)] [.int (x2 * x3)] i a q r (by rfl) ?_
    exact ft_ret mi_k160 (by rfl) (hP (x2 * x3) ⟨trivial, (show (x2 * x3) = rBoth x1 x2 x3 from (by have k0_ : (0 : Int32).toInt = 0 := (by decide); have k6_ : (6 : Int32).toInt = 6 := (by decide); first | (unfold rBoth; rw [if_neg w1, if_neg w6, if_neg w11, if_neg w14, if_neg w17, if_neg w20, if_neg w23, if_pos w26]; all_goals first | (split <;> first | rfl | (exfalso; omega)) | rfl) | (unfold rBoth; (repeat' split) <;> first | rfl | (exfalso; omega))))⟩)
  by_cases w27 : x1.toInt = 14
  ·
    refine ft_swx mi_k160 (pc := 1) (v := 14) (t := 125) (kj_eq w27 (by decide) : x1 = 14) (by decide +kernel) ?_
    first | refine ft_goS mi_k160 1 126 [.int x3] (by rfl) ?_ | refine ft_go mi_k160 1 126 [(0, .int x1), (1, .int x2), (2, .int x3)] [.int x3] i a q r (by rfl) ?_
    refine ft_ifS mi_k160 (x3 != 0) 133 129 [] (by rfl) (fun c => ?_) (fun c => ?_)
    ·
      have c28 : x3.toInt ≠ (0 : Int32).toInt := kd_ne c; clear c
      first | refine ft_goS mi_k160 2 135 [.int x3, .int x2] (by rfl) ?_ | refine ft_go mi_k160 2 135 [(0, .int x1), (1, .int x2), (2, .int x3)] [.int x3, .int x2] i a q r (by rfl) ?_
      refine ko_idiv mi_k160.1 (ax := (0, 0, 0, 0, 0)) (mi_k160.2 _ _ (by rfl)) (og0 c28 kog0) ?_
      exact ft_ret mi_k160 (by rfl) (hP (x2 / x3) ⟨trivial, (show (x2 / x3) = rBoth x1 x2 x3 from (by have k0_ : (0 : Int32).toInt = 0 := (by decide); have k6_ : (6 : Int32).toInt = 6 := (by decide); first | (unfold rBoth; rw [if_neg w1, if_neg w6, if_neg w11, if_neg w14, if_neg w17, if_neg w20, if_neg w23, if_neg w26, if_pos w27]; all_goals first | (split <;> first | rfl | (exfalso; omega)) | rfl) | (unfold rBoth; (repeat' split) <;> first | rfl | (exfalso; omega))))⟩)
    ·
      have c29 : x3.toInt = (0 : Int32).toInt := kd_neF c; clear c
      first | refine ft_goS mi_k160 2 136 [.int 0] (by rfl) ?_ | refine ft_go mi_k160 2 136 [(0, .int x1), (1, .int x2), (2, .int x3)] [.int 0] i a q r (by rfl) ?_
      exact ft_ret mi_k160 (by rfl) (hP 0 ⟨trivial, (show (0 : Int32) = rBoth x1 x2 x3 from (by have k0_ : (0 : Int32).toInt = 0 := (by decide); have k6_ : (6 : Int32).toInt = 6 := (by decide); first | (unfold rBoth; rw [if_neg w1, if_neg w6, if_neg w11, if_neg w14, if_neg w17, if_neg w20, if_neg w23, if_neg w26, if_pos w27]; all_goals first | (split <;> first | rfl | (exfalso; omega)) | rfl) | (unfold rBoth; (repeat' split) <;> first | rfl | (exfalso; omega))))⟩)
  refine ko_sw (ls := [(0, .int x1), (1, .int x2), (2, .int x3)]) (r := []) (h := ks i a q r) mi_in160 (v := x1) (i := (.tableswitch 136 6 14 #[51, 65, 79, 90, 101, 112, 116, 120, 124], 51, 0, 0, 0, 0, 0)) (by rfl) rfl (og1 w1 w6 w11 w14 w17 w20 w23 w26 w27) 137 (by rfl) ?_
  first | refine ft_goS mi_k160 1 138 [.int x3] (by rfl) ?_ | refine ft_go mi_k160 1 138 [(0, .int x1), (1, .int x2), (2, .int x3)] [.int x3] i a q r (by rfl) ?_
  refine ft_ifS mi_k160 (x3 != 0) 145 141 [] (by rfl) (fun c => ?_) (fun c => ?_)
  ·
    have c30 : x3.toInt ≠ (0 : Int32).toInt := kd_ne c; clear c
    first | refine ft_goS mi_k160 2 147 [.int x3, .int x2] (by rfl) ?_ | refine ft_go mi_k160 2 147 [(0, .int x1), (1, .int x2), (2, .int x3)] [.int x3, .int x2] i a q r (by rfl) ?_
    refine ko_irem mi_k160.1 (ax := (0, 0, 0, 0, 0)) (mi_k160.2 _ _ (by rfl)) (og0 c30 kog0) ?_
    exact ft_ret mi_k160 (by rfl) (hP (x2 - x2 / x3 * x3) ⟨trivial, (show (x2 - x2 / x3 * x3) = rBoth x1 x2 x3 from (by have k0_ : (0 : Int32).toInt = 0 := (by decide); have k6_ : (6 : Int32).toInt = 6 := (by decide); first | (unfold rBoth; rw [if_neg w1, if_neg w6, if_neg w11, if_neg w14, if_neg w17, if_neg w20, if_neg w23, if_neg w26, if_neg w27]; all_goals first | (split <;> first | rfl | (exfalso; omega)) | rfl) | (unfold rBoth; (repeat' split) <;> first | rfl | (exfalso; omega))))⟩)
  ·
    have c31 : x3.toInt = (0 : Int32).toInt := kd_neF c; clear c
    first | refine ft_goS mi_k160 2 148 [.int 0] (by rfl) ?_ | refine ft_go mi_k160 2 148 [(0, .int x1), (1, .int x2), (2, .int x3)] [.int 0] i a q r (by rfl) ?_
    exact ft_ret mi_k160 (by rfl) (hP 0 ⟨trivial, (show (0 : Int32) = rBoth x1 x2 x3 from (by have k0_ : (0 : Int32).toInt = 0 := (by decide); have k6_ : (6 : Int32).toInt = 6 := (by decide); first | (unfold rBoth; rw [if_neg w1, if_neg w6, if_neg w11, if_neg w14, if_neg w17, if_neg w20, if_neg w23, if_neg w26, if_neg w27]; all_goals first | (split <;> first | rfl | (exfalso; omega)) | rfl) | (unfold rBoth; (repeat' split) <;> first | rfl | (exfalso; omega))))⟩)
def yw161_116 : kW := ([], [128], [], [])
def yw161_116_L5 : kW := ([], [128], [], [])
set_option maxRecDepth 100000 in
theorem ke161_116 {i : Nat → Int32} {a : Nat → List Int32} {q : Nat → List Int64} {r : Nat → Nat} (hI : kI i a q) (hr : kr r) (x1 : Int32) (x2 : Int32) (hS : kSeg (a 123) x1.toInt x2.toInt) : km 3 161 [.ref 116, .int x1, .int x2] (ks i a q r) (kVI yw161_116 i a q r (fun v i1 a1 q1 r1 => (True) ∧ v = wVal (a 123) (a 129) x1 x2)) := by
  have hG := kG_self yw161_116 hI hr
  refine km_ofI (q := (mi_h161, mi_c161)) rfl (by decide) (Nat.le_of_ble_eq_true rfl) ?_
  intro P hP
  have hs1 : (0 : Int) ≤ x1.toInt := hS.1
  have hs2 : x1.toInt ≤ x2.toInt := hS.2.1
  have hs3 : x2.toInt ≤ 200 := hS.2.2.1
  first | refine fo_goL mi_k161 fz161_0_4_5 [(4, .int x1), (3, .int 0), (0, .ref 116), (1, .int x1), (2, .int x2)] [] (by rfl) ?_ | refine ft_goL mi_k161 4 5 [(4, .int x1), (3, .int 0), (0, .ref 116), (1, .int x1), (2, .int x2)] [] (by rfl) ?_ | refine ft_go mi_k161 4 5 [(4, .int x1), (3, .int 0), (0, .ref 116), (1, .int x1), (2, .int x2)] [] i a q r (by rfl) ?_
  have lp4 : ∀ (nz : Nat) (i4 : Nat → Int32) (a4 : Nat → List Int32) (q4 : Nat → List Int64) (r4 : Nat → Nat) (l4_4 : Int32) (l3_4 : Int32), kG yw161_116_L5 i a q r i4 a4 q4 r4 → x1.toInt ≤ l4_4.toInt → ((0 : Int) ≤ l3_4.toInt) ∧ (l3_4.toInt ≤ 200) → l4_4.toInt ≤ x2.toInt → kWk (a4 123) x1.toInt l4_4.toInt l3_4.toInt → (a4 128).take l3_4.toInt.toNat = wRun (a 123) (a 129) x1.toInt.toNat (l4_4.toInt - x1.toInt).toNat → ((x2.toInt - l4_4.toInt)).toNat < nz → ko 3 (mi_h161, mi_c161) P (5, [(4, .int l4_4), (3, .int l3_4), (0, .ref 116), (1, .int x1), (2, .int x2)], [], (0, 0), ks i4 a4 q4 r4) := by
    intro nz
    induction nz with
    | zero =>
      intro _ _ _ _ _ _ _ _ _ _ _ _ hm
      exact absurd hm (Nat.not_lt_zero _)
    | succ nz ih4 =>
      intro i4 a4 q4 r4 l4_4 l3_4 hL4 p4_0 p4_1 p4_2 O4_0 O4_1 hm4
      have hS5 : kSeg (a4 123) x1.toInt x2.toInt := kSeg_cast hS (hL4.fa 123 rfl)
      first | refine ft_goL mi_k161 2 8 [(4, .int l4_4), (3, .int l3_4), (0, .ref 116), (1, .int x1), (2, .int x2)] [.int x2, .int l4_4] (by rfl) ?_ | refine ft_go mi_k161 2 8 [(4, .int l4_4), (3, .int l3_4), (0, .ref 116), (1, .int x1), (2, .int x2)] [.int x2, .int l4_4] i4 a4 q4 r4 (by rfl) ?_
      refine ft_ifS mi_k161 (decide (x2 ≤ l4_4)) 163 11 [] (by rfl) (fun c => ?_) (fun c => ?_)
      ·
        have c6 : x2.toInt ≤ l4_4.toInt := kd_le c; clear c
        have hG7 := kG_call hG hL4 (by decide +kernel)
        first | refine fo_goS mi_k161 fz161_163_3_168 [.int 0, .ref 128] (by rfl) ?_ | refine ft_go mi_k161 3 168 [(4, .int l4_4), (3, .int l3_4), (0, .ref 116), (1, .int x1), (2, .int x2)] [.int 0, .ref 128] i4 a4 q4 r4 (by rfl) ?_
        refine ko_iald3 mi_k161.1 (n := 200) (c := 200) (ax := (0, 0, 0, 0, 0)) (mi_k161.2 _ _ (by rfl)) (by rfl) (ksG128 _ _ _ _) (hG7.I.2.1 128) rfl (og2 kog0) (og3 kog0) ?_
        exact ft_ret mi_k161 (by rfl) (hP ((a4 128).getD (0 : Int32).toNatClampNeg 0) _ _ _ _ hG7 ⟨trivial, (show ((a4 128).getD (0 : Int32).toNatClampNeg 0) = wVal (a 123) (a 129) x1 x2 from (wS_end O4_1 (Int.le_of_eq (kWk_end hS5 O4_0 (og4 c6 p4_2)).symm) (og5 c6 p4_2)))⟩)
      ·
        have c8 : l4_4.toInt < x2.toInt := kd_leF c; clear c
        first | refine fo_goS mi_k161 fz161_11_3_17 [.int l4_4, .ref 123] (by rfl) ?_ | refine ft_go mi_k161 3 17 [(4, .int l4_4), (3, .int l3_4), (0, .ref 116), (1, .int x1), (2, .int x2)] [.int l4_4, .ref 123] i4 a4 q4 r4 (by rfl) ?_
        refine ko_iald3 mi_k161.1 (n := 200) (c := 200) (ax := (0, 0, 0, 0, 0)) (mi_k161.2 _ _ (by rfl)) (by rfl) (ksG123 _ _ _ _) (hL4.I.2.1 123) rfl (og6 hs1 p4_0) (og7 c8 hs3) ?_
        have wf9 : ((0 : Int) ≤ ((a4 123).getD l4_4.toNatClampNeg 0).toInt) ∧ (((((a4 123).getD l4_4.toNatClampNeg 0).toInt = 16 ∨ ((a4 123).getD l4_4.toNatClampNeg 0).toInt = 17) → (1 : Int) ≤ l3_4.toInt)) ∧ (((6 ≤ ((a4 123).getD l4_4.toNatClampNeg 0).toInt ∧ ((a4 123).getD l4_4.toNatClampNeg 0).toInt ≤ 15) → (2 : Int) ≤ l3_4.toInt)) ∧ (l3_4.toInt ≤ l4_4.toInt) := kWk_facts hS5 O4_0 rfl (og8 c8)
        first | refine fo_goL mi_k161 fz161_18_3_24 [(5, .int ((a4 123).getD l4_4.toNatClampNeg 0)), (4, .int l4_4), (3, .int l3_4), (0, .ref 116), (1, .int x1), (2, .int x2)] [.int 18, .int ((a4 123).getD l4_4.toNatClampNeg 0)] (by rfl) ?_ | refine ft_go mi_k161 3 24 [(5, .int ((a4 123).getD l4_4.toNatClampNeg 0)), (4, .int l4_4), (3, .int l3_4), (0, .ref 116), (1, .int x1), (2, .int x2)] [.int 18, .int ((a4 123).getD l4_4.toNatClampNeg 0)] i4 a4 q4 r4 (by rfl) ?_
        refine ft_ifS mi_k161 (decide (18 ≤ ((a4 123).getD l4_4.toNatClampNeg 0))) 33 27 [] (by rfl) (fun c => ?_) (fun c => ?_)
        ·
          have c10 : (18 : Int32).toInt ≤ ((a4 123).getD l4_4.toNatClampNeg 0).toInt := kd_le c; clear c
          have s11 : (l3_4 + 1).toInt = l3_4.toInt + (1 : Int32).toInt := kd_add (og9 p4_1.1 kog1) (og10 p4_1.2 kog1)
          first | refine fo_goL mi_k161 fz161_33_6_45 [(3, .int (l3_4 + 1)), (5, .int ((a4 123).getD l4_4.toNatClampNeg 0)), (4, .int l4_4), (0, .ref 116), (1, .int x1), (2, .int x2)] [.int 18, .int ((a4 123).getD l4_4.toNatClampNeg 0), .int l3_4, .ref 128] (by rfl) ?_ | refine ft_go mi_k161 6 45 [(3, .int (l3_4 + 1)), (5, .int ((a4 123).getD l4_4.toNatClampNeg 0)), (4, .int l4_4), (0, .ref 116), (1, .int x1), (2, .int x2)] [.int 18, .int ((a4 123).getD l4_4.toNatClampNeg 0), .int l3_4, .ref 128] i4 a4 q4 r4 (by rfl) ?_
          refine ft_ifS mi_k161 (decide (((a4 123).getD l4_4.toNatClampNeg 0) < 18)) 56 48 [.int l3_4, .ref 128] (by rfl) (fun c => ?_) (fun c => ?_)
          ·
            have c12 : ((a4 123).getD l4_4.toNatClampNeg 0).toInt < (18 : Int32).toInt := kd_lt c; clear c
            exact (og11 c10 c12 kog18).elim
          ·
            have c13 : (18 : Int32).toInt ≤ ((a4 123).getD l4_4.toNatClampNeg 0).toInt := kd_ltF c; clear c
            have b14 : ((-2147483648 : Int) ≤ ((a4 123).getD l4_4.toNatClampNeg 0).toInt) ∧ (((a4 123).getD l4_4.toNatClampNeg 0).toInt ≤ 2147483647) := kd_bd ((a4 123).getD l4_4.toNatClampNeg 0)
            have s15 : (((a4 123).getD l4_4.toNatClampNeg 0) - 18).toInt = ((a4 123).getD l4_4.toNatClampNeg 0).toInt - (18 : Int32).toInt := kd_sub (og12 c10 kog18) (og13 b14.2 kog18)
            first | refine fo_goS mi_k161 fz161_48_4_63 [.int (((a4 123).getD l4_4.toNatClampNeg 0) - 18), .int l3_4, .ref 128] (by rfl) ?_ | refine ft_goS mi_k161 4 63 [.int (((a4 123).getD l4_4.toNatClampNeg 0) - 18), .int l3_4, .ref 128] (by rfl) ?_ | refine ft_go mi_k161 4 63 [(3, .int (l3_4 + 1)), (5, .int ((a4 123).getD l4_4.toNatClampNeg 0)), (4, .int l4_4), (0, .ref 116), (1, .int x1), (2, .int x2)] [.int (((a4 123).getD l4_4.toNatClampNeg 0) - 18), .int l3_4, .ref 128] i4 a4 q4 r4 (by rfl) ?_
            refine ko_iast3 mi_k161.1 (n := 200) (c := 200) (ax := (0, 0, 0, 0, 0)) (mi_k161.2 _ _ (by rfl)) (by rfl) (ksG128 _ _ _ _) (ksA128 _ _ _ _) (hL4.I.2.1 128) rfl (og14 p4_1.1) (og15 c8 hs3 wf9.2.2.2) ?_
            intro a16 ea16 fa16
            have hJ16 := kG_a3 hL4 128 rfl ea16 fa16 (kd_bd _)
            have s17 : (l4_4 + 1).toInt = l4_4.toInt + (1 : Int32).toInt := kd_add (og16 hs1 p4_0 kog1) (og17 c8 hs3 kog1)
            first | refine fo_goL mi_k161 fz161_1_3_5 [(4, .int (l4_4 + 1)), (3, .int (l3_4 + 1)), (5, .int ((a4 123).getD l4_4.toNatClampNeg 0)), (0, .ref 116), (1, .int x1), (2, .int x2)] [] (by rfl) ?_ | refine fo_goL mi_k161 fz161_64_3_5 [(4, .int (l4_4 + 1)), (3, .int (l3_4 + 1)), (5, .int ((a4 123).getD l4_4.toNatClampNeg 0)), (0, .ref 116), (1, .int x1), (2, .int x2)] [] (by rfl) ?_ | refine fo_goL mi_k161 fz161_124_3_5 [(4, .int (l4_4 + 1)), (3, .int (l3_4 + 1)), (5, .int ((a4 123).getD l4_4.toNatClampNeg 0)), (0, .ref 116), (1, .int x1), (2, .int x2)] [] (by rfl) ?_ | refine ft_goL mi_k161 3 5 [(4, .int (l4_4 + 1)), (3, .int (l3_4 + 1)), (5, .int ((a4 123).getD l4_4.toNatClampNeg 0)), (0, .ref 116), (1, .int x1), (2, .int x2)] [] (by rfl) ?_ | refine ft_go mi_k161 3 5 [(4, .int (l4_4 + 1)), (3, .int (l3_4 + 1)), (5, .int ((a4 123).getD l4_4.toNatClampNeg 0)), (0, .ref 116), (1, .int x1), (2, .int x2)] [] i4 a16 q4 r4 (by rfl) ?_
            refine ko_perm [(4, .int (l4_4 + 1)), (3, .int (l3_4 + 1)), (0, .ref 116), (1, .int x1), (2, .int x2)] (List.forall_mem_cons.mpr ⟨(List.Mem.head _), (List.forall_mem_cons.mpr ⟨(List.Mem.tail _ (List.Mem.head _)), (List.forall_mem_cons.mpr ⟨(List.Mem.tail _ (List.Mem.tail _ (List.Mem.tail _ (List.Mem.head _)))), (List.forall_mem_cons.mpr ⟨(List.Mem.tail _ (List.Mem.tail _ (List.Mem.tail _ (List.Mem.tail _ (List.Mem.head _))))), (List.forall_mem_cons.mpr ⟨(List.Mem.tail _ (List.Mem.tail _ (List.Mem.tail _ (List.Mem.tail _ (List.Mem.tail _ (List.Mem.head _)))))), (fun _ h => absurd h List.not_mem_nil)⟩)⟩)⟩)⟩)⟩) ?_
            exact ih4 _ _ _ _ _ _ hJ16 (og18 p4_0 s17 kog1) (og19 c8 hs3 p4_1.1 s11 wf9.2.2.2 kog1) (og20 c8 s17 kog1) (kWk_cast (kWk_next hS5 O4_0 rfl (og8 c8) (og22 s17 kog1) (og21 c10 s11 kog18 kog1)) (fa16 123 (by decide))) (wS_push (c := ((a4 123).getD l4_4.toNatClampNeg 0)) O4_1 (hL4.I.2.1 128) (og14 p4_1.1) (og15 c8 hs3 wf9.2.2.2) (og14 hs1) (og23 p4_0) (congrArg (fun z : List Int32 => z.getD l4_4.toNatClampNeg 0) (hL4.fa 123 rfl)) (og25 c10 kog18) (if_pos (og26 c10 kog18)).symm (ea16) (og22 s11 kog1) (og22 s17 kog1)) (kj_meas (og27 s17 kog1) (og28 c8) hm4)
        ·
          have c18 : ((a4 123).getD l4_4.toNatClampNeg 0).toInt < (18 : Int32).toInt := kd_leF c; clear c
          first | refine ft_goS mi_k161 2 30 [.int 5, .int ((a4 123).getD l4_4.toNatClampNeg 0)] (by rfl) ?_ | refine ft_go mi_k161 2 30 [(5, .int ((a4 123).getD l4_4.toNatClampNeg 0)), (4, .int l4_4), (3, .int l3_4), (0, .ref 116), (1, .int x1), (2, .int x2)] [.int 5, .int ((a4 123).getD l4_4.toNatClampNeg 0)] i4 a4 q4 r4 (by rfl) ?_
          refine ft_ifS mi_k161 (decide (5 < ((a4 123).getD l4_4.toNatClampNeg 0))) 67 33 [] (by rfl) (fun c => ?_) (fun c => ?_)
          ·
            have c19 : (5 : Int32).toInt < ((a4 123).getD l4_4.toNatClampNeg 0).toInt := kd_lt c; clear c
            first | refine ft_goS mi_k161 2 71 [.int 16, .int ((a4 123).getD l4_4.toNatClampNeg 0)] (by rfl) ?_ | refine ft_go mi_k161 2 71 [(5, .int ((a4 123).getD l4_4.toNatClampNeg 0)), (4, .int l4_4), (3, .int l3_4), (0, .ref 116), (1, .int x1), (2, .int x2)] [.int 16, .int ((a4 123).getD l4_4.toNatClampNeg 0)] i4 a4 q4 r4 (by rfl) ?_
            refine ft_ifS mi_k161 (((a4 123).getD l4_4.toNatClampNeg 0) == 16) 81 74 [] (by rfl) (fun c => ?_) (fun c => ?_)
            ·
              have c20 : ((a4 123).getD l4_4.toNatClampNeg 0).toInt = (16 : Int32).toInt := kd_eq c; clear c
              have s21 : (l3_4 - 1).toInt = l3_4.toInt - (1 : Int32).toInt := kd_sub (og29 p4_1.1 kog1) (og30 p4_1.2 kog1)
              first | refine fo_goS mi_k161 fz161_81_7_92 [.int 17, .int ((a4 123).getD l4_4.toNatClampNeg 0), .int (l3_4 - 1), .ref 128] (by rfl) ?_ | refine ft_go mi_k161 7 92 [(5, .int ((a4 123).getD l4_4.toNatClampNeg 0)), (4, .int l4_4), (3, .int l3_4), (0, .ref 116), (1, .int x1), (2, .int x2)] [.int 17, .int ((a4 123).getD l4_4.toNatClampNeg 0), .int (l3_4 - 1), .ref 128] i4 a4 q4 r4 (by rfl) ?_
              refine ft_ifS mi_k161 (((a4 123).getD l4_4.toNatClampNeg 0) != 17) 107 95 [.int (l3_4 - 1), .ref 128] (by rfl) (fun c => ?_) (fun c => ?_)
              ·
                have c22 : ((a4 123).getD l4_4.toNatClampNeg 0).toInt ≠ (17 : Int32).toInt := kd_ne c; clear c
                first | refine fo_goS mi_k161 fz161_107_5_114 [.int (l3_4 - 1), .ref 128, .int (l3_4 - 1), .ref 128] (by rfl) ?_ | refine ft_go mi_k161 5 114 [(5, .int ((a4 123).getD l4_4.toNatClampNeg 0)), (4, .int l4_4), (3, .int l3_4), (0, .ref 116), (1, .int x1), (2, .int x2)] [.int (l3_4 - 1), .ref 128, .int (l3_4 - 1), .ref 128] i4 a4 q4 r4 (by rfl) ?_
                refine ko_iald3 mi_k161.1 (n := 200) (c := 200) (ax := (0, 0, 0, 0, 0)) (mi_k161.2 _ _ (by rfl)) (by rfl) (ksG128 _ _ _ _) (hL4.I.2.1 128) rfl (og31 c18 c20 s21 wf9.2.1 kog18 kog16 kog1) (og32 p4_1.2 s21 kog1) ?_
                refine ft_ifS mi_k161 (((a4 128).getD (l3_4 - 1).toNatClampNeg 0) != 0) 122 118 [.int (l3_4 - 1), .ref 128] (by rfl) (fun c => ?_) (fun c => ?_)
                ·
                  have c23 : ((a4 128).getD (l3_4 - 1).toNatClampNeg 0).toInt ≠ (0 : Int32).toInt := kd_ne c; clear c
                  first | refine ft_goS mi_k161 1 123 [.int 0, .int (l3_4 - 1), .ref 128] (by rfl) ?_ | refine ft_go mi_k161 1 123 [(5, .int ((a4 123).getD l4_4.toNatClampNeg 0)), (4, .int l4_4), (3, .int l3_4), (0, .ref 116), (1, .int x1), (2, .int x2)] [.int 0, .int (l3_4 - 1), .ref 128] i4 a4 q4 r4 (by rfl) ?_
                  refine ko_iast3 mi_k161.1 (n := 200) (c := 200) (ax := (0, 0, 0, 0, 0)) (mi_k161.2 _ _ (by rfl)) (by rfl) (ksG128 _ _ _ _) (ksA128 _ _ _ _) (hL4.I.2.1 128) rfl (og31 c18 c20 s21 wf9.2.1 kog18 kog16 kog1) (og32 p4_1.2 s21 kog1) ?_
                  intro a24 ea24 fa24
                  have hJ24 := kG_a3 hL4 128 rfl ea24 fa24 (kd_bd _)
                  have s25 : (l4_4 + 1).toInt = l4_4.toInt + (1 : Int32).toInt := kd_add (og16 hs1 p4_0 kog1) (og17 c8 hs3 kog1)
                  first | refine fo_goL mi_k161 fz161_1_3_5 [(4, .int (l4_4 + 1)), (5, .int ((a4 123).getD l4_4.toNatClampNeg 0)), (3, .int l3_4), (0, .ref 116), (1, .int x1), (2, .int x2)] [] (by rfl) ?_ | refine fo_goL mi_k161 fz161_64_3_5 [(4, .int (l4_4 + 1)), (5, .int ((a4 123).getD l4_4.toNatClampNeg 0)), (3, .int l3_4), (0, .ref 116), (1, .int x1), (2, .int x2)] [] (by rfl) ?_ | refine fo_goL mi_k161 fz161_124_3_5 [(4, .int (l4_4 + 1)), (5, .int ((a4 123).getD l4_4.toNatClampNeg 0)), (3, .int l3_4), (0, .ref 116), (1, .int x1), (2, .int x2)] [] (by rfl) ?_ | refine ft_goL mi_k161 3 5 [(4, .int (l4_4 + 1)), (5, .int ((a4 123).getD l4_4.toNatClampNeg 0)), (3, .int l3_4), (0, .ref 116), (1, .int x1), (2, .int x2)] [] (by rfl) ?_ | refine ft_go mi_k161 3 5 [(4, .int (l4_4 + 1)), (5, .int ((a4 123).getD l4_4.toNatClampNeg 0)), (3, .int l3_4), (0, .ref 116), (1, .int x1), (2, .int x2)] [] i4 a24 q4 r4 (by rfl) ?_
                  refine ko_perm [(4, .int (l4_4 + 1)), (3, .int l3_4), (0, .ref 116), (1, .int x1), (2, .int x2)] (List.forall_mem_cons.mpr ⟨(List.Mem.head _), (List.forall_mem_cons.mpr ⟨(List.Mem.tail _ (List.Mem.tail _ (List.Mem.head _))), (List.forall_mem_cons.mpr ⟨(List.Mem.tail _ (List.Mem.tail _ (List.Mem.tail _ (List.Mem.head _)))), (List.forall_mem_cons.mpr ⟨(List.Mem.tail _ (List.Mem.tail _ (List.Mem.tail _ (List.Mem.tail _ (List.Mem.head _))))), (List.forall_mem_cons.mpr ⟨(List.Mem.tail _ (List.Mem.tail _ (List.Mem.tail _ (List.Mem.tail _ (List.Mem.tail _ (List.Mem.head _)))))), (fun _ h => absurd h List.not_mem_nil)⟩)⟩)⟩)⟩)⟩) ?_
                  exact ih4 _ _ _ _ _ _ hJ24 (og18 p4_0 s25 kog1) (og33 p4_1.1 p4_1.2) (og20 c8 s25 kog1) (kWk_cast (kWk_next hS5 O4_0 rfl (og8 c8) (og22 s25 kog1) (og34 c18 c20 kog18 kog16)) (fa24 123 (by decide))) (wS_un (c := ((a4 123).getD l4_4.toNatClampNeg 0)) (y := (l3_4 - 1)) O4_1 (hL4.I.2.1 128) (og38 c18 c20 wf9.2.1 kog18 kog16) (og24 p4_1.2) (og14 hs1) (og23 p4_0) (congrArg (fun z : List Int32 => z.getD l4_4.toNatClampNeg 0) (hL4.fa 123 rfl)) (og35 c20 kog16) (og39 s21 kog1) ((if_neg (og36 c20 kog16)).trans (if_neg (og37 c23 kog0))).symm (ea24) og40 (og22 s25 kog1)) (kj_meas (og27 s25 kog1) (og28 c8) hm4)
                ·
                  have c26 : ((a4 128).getD (l3_4 - 1).toNatClampNeg 0).toInt = (0 : Int32).toInt := kd_neF c; clear c
                  first | refine fo_goS mi_k161 fz161_103_2_123 [.int 1, .int (l3_4 - 1), .ref 128] (by rfl) ?_ | refine fo_goS mi_k161 fz161_118_2_123 [.int 1, .int (l3_4 - 1), .ref 128] (by rfl) ?_ | refine fo_goS mi_k161 fz161_115_2_123 [.int 1, .int (l3_4 - 1), .ref 128] (by rfl) ?_ | refine ft_go mi_k161 2 123 [(5, .int ((a4 123).getD l4_4.toNatClampNeg 0)), (4, .int l4_4), (3, .int l3_4), (0, .ref 116), (1, .int x1), (2, .int x2)] [.int 1, .int (l3_4 - 1), .ref 128] i4 a4 q4 r4 (by rfl) ?_
                  refine ko_iast3 mi_k161.1 (n := 200) (c := 200) (ax := (0, 0, 0, 0, 0)) (mi_k161.2 _ _ (by rfl)) (by rfl) (ksG128 _ _ _ _) (ksA128 _ _ _ _) (hL4.I.2.1 128) rfl (og31 c18 c20 s21 wf9.2.1 kog18 kog16 kog1) (og32 p4_1.2 s21 kog1) ?_
                  intro a27 ea27 fa27
                  have hJ27 := kG_a3 hL4 128 rfl ea27 fa27 (kd_bd _)
                  have s28 : (l4_4 + 1).toInt = l4_4.toInt + (1 : Int32).toInt := kd_add (og16 hs1 p4_0 kog1) (og17 c8 hs3 kog1)
                  first | refine fo_goL mi_k161 fz161_1_3_5 [(4, .int (l4_4 + 1)), (5, .int ((a4 123).getD l4_4.toNatClampNeg 0)), (3, .int l3_4), (0, .ref 116), (1, .int x1), (2, .int x2)] [] (by rfl) ?_ | refine fo_goL mi_k161 fz161_64_3_5 [(4, .int (l4_4 + 1)), (5, .int ((a4 123).getD l4_4.toNatClampNeg 0)), (3, .int l3_4), (0, .ref 116), (1, .int x1), (2, .int x2)] [] (by rfl) ?_ | refine fo_goL mi_k161 fz161_124_3_5 [(4, .int (l4_4 + 1)), (5, .int ((a4 123).getD l4_4.toNatClampNeg 0)), (3, .int l3_4), (0, .ref 116), (1, .int x1), (2, .int x2)] [] (by rfl) ?_ | refine ft_goL mi_k161 3 5 [(4, .int (l4_4 + 1)), (5, .int ((a4 123).getD l4_4.toNatClampNeg 0)), (3, .int l3_4), (0, .ref 116), (1, .int x1), (2, .int x2)] [] (by rfl) ?_ | refine ft_go mi_k161 3 5 [(4, .int (l4_4 + 1)), (5, .int ((a4 123).getD l4_4.toNatClampNeg 0)), (3, .int l3_4), (0, .ref 116), (1, .int x1), (2, .int x2)] [] i4 a27 q4 r4 (by rfl) ?_
                  refine ko_perm [(4, .int (l4_4 + 1)), (3, .int l3_4), (0, .ref 116), (1, .int x1), (2, .int x2)] (List.forall_mem_cons.mpr ⟨(List.Mem.head _), (List.forall_mem_cons.mpr ⟨(List.Mem.tail _ (List.Mem.tail _ (List.Mem.head _))), (List.forall_mem_cons.mpr ⟨(List.Mem.tail _ (List.Mem.tail _ (List.Mem.tail _ (List.Mem.head _)))), (List.forall_mem_cons.mpr ⟨(List.Mem.tail _ (List.Mem.tail _ (List.Mem.tail _ (List.Mem.tail _ (List.Mem.head _))))), (List.forall_mem_cons.mpr ⟨(List.Mem.tail _ (List.Mem.tail _ (List.Mem.tail _ (List.Mem.tail _ (List.Mem.tail _ (List.Mem.head _)))))), (fun _ h => absurd h List.not_mem_nil)⟩)⟩)⟩)⟩)⟩) ?_
                  exact ih4 _ _ _ _ _ _ hJ27 (og18 p4_0 s28 kog1) (og33 p4_1.1 p4_1.2) (og20 c8 s28 kog1) (kWk_cast (kWk_next hS5 O4_0 rfl (og8 c8) (og22 s28 kog1) (og34 c18 c20 kog18 kog16)) (fa27 123 (by decide))) (wS_un (c := ((a4 123).getD l4_4.toNatClampNeg 0)) (y := (l3_4 - 1)) O4_1 (hL4.I.2.1 128) (og38 c18 c20 wf9.2.1 kog18 kog16) (og24 p4_1.2) (og14 hs1) (og23 p4_0) (congrArg (fun z : List Int32 => z.getD l4_4.toNatClampNeg 0) (hL4.fa 123 rfl)) (og35 c20 kog16) (og39 s21 kog1) ((if_neg (og36 c20 kog16)).trans (if_pos (og41 c26 kog0))).symm (ea27) og40 (og22 s28 kog1)) (kj_meas (og27 s28 kog1) (og28 c8) hm4)
              ·
                have c29 : ((a4 123).getD l4_4.toNatClampNeg 0).toInt = (17 : Int32).toInt := kd_neF c; clear c
                exact (og42 c20 c29 kog16 kog17).elim
            ·
              have c30 : ((a4 123).getD l4_4.toNatClampNeg 0).toInt ≠ (16 : Int32).toInt := kd_eqF c; clear c
              first | refine ft_goS mi_k161 2 78 [.int 17, .int ((a4 123).getD l4_4.toNatClampNeg 0)] (by rfl) ?_ | refine ft_go mi_k161 2 78 [(5, .int ((a4 123).getD l4_4.toNatClampNeg 0)), (4, .int l4_4), (3, .int l3_4), (0, .ref 116), (1, .int x1), (2, .int x2)] [.int 17, .int ((a4 123).getD l4_4.toNatClampNeg 0)] i4 a4 q4 r4 (by rfl) ?_
              refine ft_ifS mi_k161 (((a4 123).getD l4_4.toNatClampNeg 0) != 17) 127 81 [] (by rfl) (fun c => ?_) (fun c => ?_)
              ·
                have c31 : ((a4 123).getD l4_4.toNatClampNeg 0).toInt ≠ (17 : Int32).toInt := kd_ne c; clear c
                have s32 : (l3_4 + (-1)).toInt = l3_4.toInt + ((-1) : Int32).toInt := kd_add (og43 p4_1.1 kogm1) (og44 p4_1.2 kogm1)
                have s33 : ((l3_4 + (-1)) - 1).toInt = (l3_4 + (-1)).toInt - (1 : Int32).toInt := kd_sub (og45 p4_1.1 s32 kogm1 kog1) (og46 p4_1.2 s32 kogm1 kog1)
                first | refine fo_goL mi_k161 fz161_127_12_146 [(3, .int (l3_4 + (-1))), (5, .int ((a4 123).getD l4_4.toNatClampNeg 0)), (4, .int l4_4), (0, .ref 116), (1, .int x1), (2, .int x2)] [.int ((l3_4 + (-1)) - 1), .ref 128, .int ((a4 123).getD l4_4.toNatClampNeg 0), .int ((l3_4 + (-1)) - 1), .ref 128] (by rfl) ?_ | refine ft_go mi_k161 12 146 [(3, .int (l3_4 + (-1))), (5, .int ((a4 123).getD l4_4.toNatClampNeg 0)), (4, .int l4_4), (0, .ref 116), (1, .int x1), (2, .int x2)] [.int ((l3_4 + (-1)) - 1), .ref 128, .int ((a4 123).getD l4_4.toNatClampNeg 0), .int ((l3_4 + (-1)) - 1), .ref 128] i4 a4 q4 r4 (by rfl) ?_
                refine ko_iald3 mi_k161.1 (n := 200) (c := 200) (ax := (0, 0, 0, 0, 0)) (mi_k161.2 _ _ (by rfl)) (by rfl) (ksG128 _ _ _ _) (hL4.I.2.1 128) rfl (og47 c18 c19 c30 c31 s32 s33 wf9.2.2.1 kog18 kog5 kog16 kog17 kogm1 kog1) (og48 p4_1.2 s32 s33 kogm1 kog1) ?_
                first | refine fo_goS mi_k161 fz161_147_3_152 [.int (l3_4 + (-1)), .ref 128, .int ((a4 128).getD ((l3_4 + (-1)) - 1).toNatClampNeg 0), .int ((a4 123).getD l4_4.toNatClampNeg 0), .int ((l3_4 + (-1)) - 1), .ref 128] (by rfl) ?_ | refine ft_go mi_k161 3 152 [(3, .int (l3_4 + (-1))), (5, .int ((a4 123).getD l4_4.toNatClampNeg 0)), (4, .int l4_4), (0, .ref 116), (1, .int x1), (2, .int x2)] [.int (l3_4 + (-1)), .ref 128, .int ((a4 128).getD ((l3_4 + (-1)) - 1).toNatClampNeg 0), .int ((a4 123).getD l4_4.toNatClampNeg 0), .int ((l3_4 + (-1)) - 1), .ref 128] i4 a4 q4 r4 (by rfl) ?_
                refine ko_iald3 mi_k161.1 (n := 200) (c := 200) (ax := (0, 0, 0, 0, 0)) (mi_k161.2 _ _ (by rfl)) (by rfl) (ksG128 _ _ _ _) (hL4.I.2.1 128) rfl (og49 c18 c19 s32 wf9.2.1 wf9.2.2.1 kog18 kog5 kogm1) (og50 p4_1.2 s32 kogm1) ?_
                refine ko_callPI mi_k161.1 (pc := 153) (ls := [(3, .int (l3_4 + (-1))), (5, .int ((a4 123).getD l4_4.toNatClampNeg 0)), (4, .int l4_4), (0, .ref 116), (1, .int x1), (2, .int x2)]) (st := [.int ((a4 128).getD (l3_4 + (-1)).toNatClampNeg 0), .int ((a4 128).getD ((l3_4 + (-1)) - 1).toNatClampNeg 0), .int ((a4 123).getD l4_4.toNatClampNeg 0), .int ((l3_4 + (-1)) - 1), .ref 128]) (h := ks i4 a4 q4 r4) (i := (.invokestatic 221, 3, 160, 0, 9, 0, 421)) (mi_k161.2 _ _ (by rfl)) (ft_invS mi_pq160 (by rfl)) (cy := mi_c160) mi_pq160 rfl (ke160 hL4.I hL4.R ((a4 123).getD l4_4.toNatClampNeg 0) ((a4 128).getD ((l3_4 + (-1)) - 1).toNatClampNeg 0) ((a4 128).getD (l3_4 + (-1)).toNatClampNeg 0)) (by decide) ?_
                intro vg34 hg34
                obtain ⟨hg34, og34⟩ := hg34
                have q35 : vg34 = rBoth ((a4 123).getD l4_4.toNatClampNeg 0) ((a4 128).getD ((l3_4 + (-1)) - 1).toNatClampNeg 0) ((a4 128).getD (l3_4 + (-1)).toNatClampNeg 0) := og34
                refine ko_iast3 mi_k161.1 (n := 200) (c := 200) (ax := (0, 0, 0, 0, 0)) (mi_k161.2 _ _ (by rfl)) (by rfl) (ksG128 _ _ _ _) (ksA128 _ _ _ _) (hL4.I.2.1 128) rfl (og47 c18 c19 c30 c31 s32 s33 wf9.2.2.1 kog18 kog5 kog16 kog17 kogm1 kog1) (og48 p4_1.2 s32 s33 kogm1 kog1) ?_
                intro a36 ea36 fa36
                have hJ36 := kG_a3 hL4 128 rfl ea36 fa36 (kd_bd _)
                have s37 : (l4_4 + 1).toInt = l4_4.toInt + (1 : Int32).toInt := kd_add (og16 hs1 p4_0 kog1) (og17 c8 hs3 kog1)
                first | refine ft_goL mi_k161 2 5 [(4, .int (l4_4 + 1)), (3, .int (l3_4 + (-1))), (5, .int ((a4 123).getD l4_4.toNatClampNeg 0)), (0, .ref 116), (1, .int x1), (2, .int x2)] [] (by rfl) ?_ | refine ft_go mi_k161 2 5 [(4, .int (l4_4 + 1)), (3, .int (l3_4 + (-1))), (5, .int ((a4 123).getD l4_4.toNatClampNeg 0)), (0, .ref 116), (1, .int x1), (2, .int x2)] [] i4 a36 q4 r4 (by rfl) ?_
                refine ko_perm [(4, .int (l4_4 + 1)), (3, .int (l3_4 + (-1))), (0, .ref 116), (1, .int x1), (2, .int x2)] (List.forall_mem_cons.mpr ⟨(List.Mem.head _), (List.forall_mem_cons.mpr ⟨(List.Mem.tail _ (List.Mem.head _)), (List.forall_mem_cons.mpr ⟨(List.Mem.tail _ (List.Mem.tail _ (List.Mem.tail _ (List.Mem.head _)))), (List.forall_mem_cons.mpr ⟨(List.Mem.tail _ (List.Mem.tail _ (List.Mem.tail _ (List.Mem.tail _ (List.Mem.head _))))), (List.forall_mem_cons.mpr ⟨(List.Mem.tail _ (List.Mem.tail _ (List.Mem.tail _ (List.Mem.tail _ (List.Mem.tail _ (List.Mem.head _)))))), (fun _ h => absurd h List.not_mem_nil)⟩)⟩)⟩)⟩)⟩) ?_
                exact ih4 _ _ _ _ _ _ hJ36 (og18 p4_0 s37 kog1) (og51 c18 c19 p4_1.2 s32 wf9.2.1 wf9.2.2.1 kog18 kog5 kogm1) (og20 c8 s37 kog1) (kWk_cast (kWk_next hS5 O4_0 rfl (og8 c8) (og22 s37 kog1) (og52 c18 c19 c30 c31 s32 kog18 kog5 kog16 kog17 kogm1)) (fa36 123 (by decide))) (wS_bin (c := ((a4 123).getD l4_4.toNatClampNeg 0)) (y := ((l3_4 + (-1)) - 1)) (z := (l3_4 + (-1))) O4_1 (hL4.I.2.1 128) (og53 c18 c19 c30 c31 wf9.2.2.1 kog18 kog5 kog16 kog17) (og24 p4_1.2) (og14 hs1) (og23 p4_0) (congrArg (fun z : List Int32 => z.getD l4_4.toNatClampNeg 0) (hL4.fa 123 rfl)) (og54 c19 kog5) (og55 c18 c30 c31 kog18 kog16 kog17) (og56 s32 s33 kogm1 kog1) (og57 s32 kogm1) og34 (ea36) (og57 s32 kogm1) (og22 s37 kog1)) (kj_meas (og27 s37 kog1) (og28 c8) hm4)
              ·
                have c38 : ((a4 123).getD l4_4.toNatClampNeg 0).toInt = (17 : Int32).toInt := kd_neF c; clear c
                have s39 : (l3_4 - 1).toInt = l3_4.toInt - (1 : Int32).toInt := kd_sub (og29 p4_1.1 kog1) (og30 p4_1.2 kog1)
                first | refine fo_goS mi_k161 fz161_81_7_92 [.int 17, .int ((a4 123).getD l4_4.toNatClampNeg 0), .int (l3_4 - 1), .ref 128] (by rfl) ?_ | refine ft_go mi_k161 7 92 [(5, .int ((a4 123).getD l4_4.toNatClampNeg 0)), (4, .int l4_4), (3, .int l3_4), (0, .ref 116), (1, .int x1), (2, .int x2)] [.int 17, .int ((a4 123).getD l4_4.toNatClampNeg 0), .int (l3_4 - 1), .ref 128] i4 a4 q4 r4 (by rfl) ?_
                refine ft_ifS mi_k161 (((a4 123).getD l4_4.toNatClampNeg 0) != 17) 107 95 [.int (l3_4 - 1), .ref 128] (by rfl) (fun c => ?_) (fun c => ?_)
                ·
                  have c40 : ((a4 123).getD l4_4.toNatClampNeg 0).toInt ≠ (17 : Int32).toInt := kd_ne c; clear c
                  exact (og58 c18 c38 c40 kog18 kog17).elim
                ·
                  have c41 : ((a4 123).getD l4_4.toNatClampNeg 0).toInt = (17 : Int32).toInt := kd_neF c; clear c
                  first | refine fo_goS mi_k161 fz161_95_5_102 [.int (l3_4 - 1), .ref 128, .int (l3_4 - 1), .ref 128] (by rfl) ?_ | refine ft_go mi_k161 5 102 [(5, .int ((a4 123).getD l4_4.toNatClampNeg 0)), (4, .int l4_4), (3, .int l3_4), (0, .ref 116), (1, .int x1), (2, .int x2)] [.int (l3_4 - 1), .ref 128, .int (l3_4 - 1), .ref 128] i4 a4 q4 r4 (by rfl) ?_
                  refine ko_iald3 mi_k161.1 (n := 200) (c := 200) (ax := (0, 0, 0, 0, 0)) (mi_k161.2 _ _ (by rfl)) (by rfl) (ksG128 _ _ _ _) (hL4.I.2.1 128) rfl (og59 c18 c38 s39 wf9.2.1 kog18 kog17 kog1) (og32 p4_1.2 s39 kog1) ?_
                  first | refine fo_goS mi_k161 fz161_103_2_123 [.int (-((a4 128).getD (l3_4 - 1).toNatClampNeg 0)), .int (l3_4 - 1), .ref 128] (by rfl) ?_ | refine fo_goS mi_k161 fz161_118_2_123 [.int (-((a4 128).getD (l3_4 - 1).toNatClampNeg 0)), .int (l3_4 - 1), .ref 128] (by rfl) ?_ | refine fo_goS mi_k161 fz161_115_2_123 [.int (-((a4 128).getD (l3_4 - 1).toNatClampNeg 0)), .int (l3_4 - 1), .ref 128] (by rfl) ?_ | refine ft_go mi_k161 2 123 [(5, .int ((a4 123).getD l4_4.toNatClampNeg 0)), (4, .int l4_4), (3, .int l3_4), (0, .ref 116), (1, .int x1), (2, .int x2)] [.int (-((a4 128).getD (l3_4 - 1).toNatClampNeg 0)), .int (l3_4 - 1), .ref 128] i4 a4 q4 r4 (by rfl) ?_
                  refine ko_iast3 mi_k161.1 (n := 200) (c := 200) (ax := (0, 0, 0, 0, 0)) (mi_k161.2 _ _ (by rfl)) (by rfl) (ksG128 _ _ _ _) (ksA128 _ _ _ _) (hL4.I.2.1 128) rfl (og59 c18 c38 s39 wf9.2.1 kog18 kog17 kog1) (og32 p4_1.2 s39 kog1) ?_
                  intro a42 ea42 fa42
                  have hJ42 := kG_a3 hL4 128 rfl ea42 fa42 (kd_bd _)
                  have s43 : (l4_4 + 1).toInt = l4_4.toInt + (1 : Int32).toInt := kd_add (og16 hs1 p4_0 kog1) (og17 c8 hs3 kog1)
                  first | refine fo_goL mi_k161 fz161_1_3_5 [(4, .int (l4_4 + 1)), (5, .int ((a4 123).getD l4_4.toNatClampNeg 0)), (3, .int l3_4), (0, .ref 116), (1, .int x1), (2, .int x2)] [] (by rfl) ?_ | refine fo_goL mi_k161 fz161_64_3_5 [(4, .int (l4_4 + 1)), (5, .int ((a4 123).getD l4_4.toNatClampNeg 0)), (3, .int l3_4), (0, .ref 116), (1, .int x1), (2, .int x2)] [] (by rfl) ?_ | refine fo_goL mi_k161 fz161_124_3_5 [(4, .int (l4_4 + 1)), (5, .int ((a4 123).getD l4_4.toNatClampNeg 0)), (3, .int l3_4), (0, .ref 116), (1, .int x1), (2, .int x2)] [] (by rfl) ?_ | refine ft_goL mi_k161 3 5 [(4, .int (l4_4 + 1)), (5, .int ((a4 123).getD l4_4.toNatClampNeg 0)), (3, .int l3_4), (0, .ref 116), (1, .int x1), (2, .int x2)] [] (by rfl) ?_ | refine ft_go mi_k161 3 5 [(4, .int (l4_4 + 1)), (5, .int ((a4 123).getD l4_4.toNatClampNeg 0)), (3, .int l3_4), (0, .ref 116), (1, .int x1), (2, .int x2)] [] i4 a42 q4 r4 (by rfl) ?_
                  refine ko_perm [(4, .int (l4_4 + 1)), (3, .int l3_4), (0, .ref 116), (1, .int x1), (2, .int x2)] (List.forall_mem_cons.mpr ⟨(List.Mem.head _), (List.forall_mem_cons.mpr ⟨(List.Mem.tail _ (List.Mem.tail _ (List.Mem.head _))), (List.forall_mem_cons.mpr ⟨(List.Mem.tail _ (List.Mem.tail _ (List.Mem.tail _ (List.Mem.head _)))), (List.forall_mem_cons.mpr ⟨(List.Mem.tail _ (List.Mem.tail _ (List.Mem.tail _ (List.Mem.tail _ (List.Mem.head _))))), (List.forall_mem_cons.mpr ⟨(List.Mem.tail _ (List.Mem.tail _ (List.Mem.tail _ (List.Mem.tail _ (List.Mem.tail _ (List.Mem.head _)))))), (fun _ h => absurd h List.not_mem_nil)⟩)⟩)⟩)⟩)⟩) ?_
                  exact ih4 _ _ _ _ _ _ hJ42 (og18 p4_0 s43 kog1) (og33 p4_1.1 p4_1.2) (og20 c8 s43 kog1) (kWk_cast (kWk_next hS5 O4_0 rfl (og8 c8) (og22 s43 kog1) (og60 c18 c38 kog18 kog17)) (fa42 123 (by decide))) (wS_un (c := ((a4 123).getD l4_4.toNatClampNeg 0)) (y := (l3_4 - 1)) O4_1 (hL4.I.2.1 128) (og63 c18 c38 wf9.2.1 kog18 kog17) (og24 p4_1.2) (og14 hs1) (og23 p4_0) (congrArg (fun z : List Int32 => z.getD l4_4.toNatClampNeg 0) (hL4.fa 123 rfl)) (og61 c18 c38 kog18 kog17) (og39 s39 kog1) (if_pos (og62 c18 c38 kog18 kog17)).symm (ea42) og40 (og22 s43 kog1)) (kj_meas (og27 s43 kog1) (og28 c8) hm4)
          ·
            have c44 : ((a4 123).getD l4_4.toNatClampNeg 0).toInt ≤ (5 : Int32).toInt := kd_ltF c; clear c
            have s45 : (l3_4 + 1).toInt = l3_4.toInt + (1 : Int32).toInt := kd_add (og9 p4_1.1 kog1) (og10 p4_1.2 kog1)
            first | refine fo_goL mi_k161 fz161_33_6_45 [(3, .int (l3_4 + 1)), (5, .int ((a4 123).getD l4_4.toNatClampNeg 0)), (4, .int l4_4), (0, .ref 116), (1, .int x1), (2, .int x2)] [.int 18, .int ((a4 123).getD l4_4.toNatClampNeg 0), .int l3_4, .ref 128] (by rfl) ?_ | refine ft_go mi_k161 6 45 [(3, .int (l3_4 + 1)), (5, .int ((a4 123).getD l4_4.toNatClampNeg 0)), (4, .int l4_4), (0, .ref 116), (1, .int x1), (2, .int x2)] [.int 18, .int ((a4 123).getD l4_4.toNatClampNeg 0), .int l3_4, .ref 128] i4 a4 q4 r4 (by rfl) ?_
            refine ft_ifS mi_k161 (decide (((a4 123).getD l4_4.toNatClampNeg 0) < 18)) 56 48 [.int l3_4, .ref 128] (by rfl) (fun c => ?_) (fun c => ?_)
            ·
              have c46 : ((a4 123).getD l4_4.toNatClampNeg 0).toInt < (18 : Int32).toInt := kd_lt c; clear c
              first | refine fo_goS mi_k161 fz161_56_3_62 [.int ((a4 123).getD l4_4.toNatClampNeg 0), .ref 129, .int l3_4, .ref 128] (by rfl) ?_ | refine ft_go mi_k161 3 62 [(3, .int (l3_4 + 1)), (5, .int ((a4 123).getD l4_4.toNatClampNeg 0)), (4, .int l4_4), (0, .ref 116), (1, .int x1), (2, .int x2)] [.int ((a4 123).getD l4_4.toNatClampNeg 0), .ref 129, .int l3_4, .ref 128] i4 a4 q4 r4 (by rfl) ?_
              refine ko_iald3 mi_k161.1 (n := 6) (c := 6) (ax := (0, 0, 0, 0, 0)) (mi_k161.2 _ _ (by rfl)) (by rfl) (ksG129 _ _ _ _) (hL4.I.2.1 129) rfl (og14 wf9.1) (og64 c44 kog5) ?_
              refine ko_iast3 mi_k161.1 (n := 200) (c := 200) (ax := (0, 0, 0, 0, 0)) (mi_k161.2 _ _ (by rfl)) (by rfl) (ksG128 _ _ _ _) (ksA128 _ _ _ _) (hL4.I.2.1 128) rfl (og14 p4_1.1) (og15 c8 hs3 wf9.2.2.2) ?_
              intro a47 ea47 fa47
              have hJ47 := kG_a3 hL4 128 rfl ea47 fa47 (kd_bd _)
              have s48 : (l4_4 + 1).toInt = l4_4.toInt + (1 : Int32).toInt := kd_add (og16 hs1 p4_0 kog1) (og17 c8 hs3 kog1)
              first | refine fo_goL mi_k161 fz161_1_3_5 [(4, .int (l4_4 + 1)), (3, .int (l3_4 + 1)), (5, .int ((a4 123).getD l4_4.toNatClampNeg 0)), (0, .ref 116), (1, .int x1), (2, .int x2)] [] (by rfl) ?_ | refine fo_goL mi_k161 fz161_64_3_5 [(4, .int (l4_4 + 1)), (3, .int (l3_4 + 1)), (5, .int ((a4 123).getD l4_4.toNatClampNeg 0)), (0, .ref 116), (1, .int x1), (2, .int x2)] [] (by rfl) ?_ | refine fo_goL mi_k161 fz161_124_3_5 [(4, .int (l4_4 + 1)), (3, .int (l3_4 + 1)), (5, .int ((a4 123).getD l4_4.toNatClampNeg 0)), (0, .ref 116), (1, .int x1), (2, .int x2)] [] (by rfl) ?_ | refine ft_goL mi_k161 3 5 [(4, .int (l4_4 + 1)), (3, .int (l3_4 + 1)), (5, .int ((a4 123).getD l4_4.toNatClampNeg 0)), (0, .ref 116), (1, .int x1), (2, .int x2)] [] (by rfl) ?_ | refine ft_go mi_k161 3 5 [(4, .int (l4_4 + 1)), (3, .int (l3_4 + 1)), (5, .int ((a4 123).getD l4_4.toNatClampNeg 0)), (0, .ref 116), (1, .int x1), (2, .int x2)] [] i4 a47 q4 r4 (by rfl) ?_
              refine ko_perm [(4, .int (l4_4 + 1)), (3, .int (l3_4 + 1)), (0, .ref 116), (1, .int x1), (2, .int x2)] (List.forall_mem_cons.mpr ⟨(List.Mem.head _), (List.forall_mem_cons.mpr ⟨(List.Mem.tail _ (List.Mem.head _)), (List.forall_mem_cons.mpr ⟨(List.Mem.tail _ (List.Mem.tail _ (List.Mem.tail _ (List.Mem.head _)))), (List.forall_mem_cons.mpr ⟨(List.Mem.tail _ (List.Mem.tail _ (List.Mem.tail _ (List.Mem.tail _ (List.Mem.head _))))), (List.forall_mem_cons.mpr ⟨(List.Mem.tail _ (List.Mem.tail _ (List.Mem.tail _ (List.Mem.tail _ (List.Mem.tail _ (List.Mem.head _)))))), (fun _ h => absurd h List.not_mem_nil)⟩)⟩)⟩)⟩)⟩) ?_
              exact ih4 _ _ _ _ _ _ hJ47 (og18 p4_0 s48 kog1) (og19 c8 hs3 p4_1.1 s45 wf9.2.2.2 kog1) (og20 c8 s48 kog1) (kWk_cast (kWk_next hS5 O4_0 rfl (og8 c8) (og22 s48 kog1) (og65 c44 s45 kog5 kog1)) (fa47 123 (by decide))) (wS_push (c := ((a4 123).getD l4_4.toNatClampNeg 0)) O4_1 (hL4.I.2.1 128) (og14 p4_1.1) (og15 c8 hs3 wf9.2.2.2) (og14 hs1) (og23 p4_0) (congrArg (fun z : List Int32 => z.getD l4_4.toNatClampNeg 0) (hL4.fa 123 rfl)) (og66 c44 kog5) ((congrArg (fun z : List Int32 => z.getD ((a4 123).getD l4_4.toNatClampNeg 0).toNatClampNeg 0) (hL4.fa 129 rfl)).trans (if_neg (og67 c18 kog18)).symm) (ea47) (og22 s45 kog1) (og22 s48 kog1)) (kj_meas (og27 s48 kog1) (og28 c8) hm4)
            ·
              have c49 : (18 : Int32).toInt ≤ ((a4 123).getD l4_4.toNatClampNeg 0).toInt := kd_ltF c; clear c
              exact (og68 c18 c49 kog18).elim
  exact lp4 _ _ _ _ _ _ _ (kG_self _ hG.I hG.R) og69 (og70 kog0) (og23 hs2) (kWk_begin hS rfl rfl kn0) (wS_start (x := x1) kog0) (Nat.lt_succ_self _)
def yw162_116 : kW := ([], [128, 129], [], [])
def yw162_116_L70 : kW := ([], [128], [], [])
set_option maxRecDepth 100000 in
theorem ke162_116 {i : Nat → Int32} {a : Nat → List Int32} {q : Nat → List Int64} {r : Nat → Nat} (hI : kI i a q) (hr : kr r) (x1 : Int32) (hp0 : ((0 : Int) ≤ x1.toInt) ∧ (x1.toInt ≤ 7)) (hE_code : kCode i a) : km 5 162 [.ref 116, .int x1] (ks i a q r) (kVI yw162_116 i a q r (fun v i1 a1 q1 r1 => (True) ∧ v = wLaw (a 120) (a 121) (a 122) (a 123) [(a 117).getD x1.toNatClampNeg 0, (a 129).getD 1 0, (a 117).getD (8 + x1).toNatClampNeg 0, (a 118).getD (9 : Int32).toNatClampNeg 0, (a 118).getD (10 + x1).toNatClampNeg 0, (a 118).getD (8 : Int32).toNatClampNeg 0] (i 7432).toInt.toNat 0)) := by
  have hG := kG_self yw162_116 hI hr
  refine km_ofI (q := (mi_h162, mi_c162)) rfl (by decide) (Nat.le_of_ble_eq_true rfl) ?_
  intro P hP
  first | refine fo_goL mi_k162 fz162_0_6_10 [(0, .ref 116), (1, .int x1)] [.int x1, .ref 117, .int 0, .ref 129] (by rfl) ?_ | refine ft_go mi_k162 6 10 [(0, .ref 116), (1, .int x1)] [.int x1, .ref 117, .int 0, .ref 129] i a q r (by rfl) ?_
  refine ko_iald3 mi_k162.1 (n := 24) (c := 24) (ax := (0, 0, 0, 0, 0)) (mi_k162.2 _ _ (by rfl)) (by rfl) (ksG117 _ _ _ _) (hG.I.2.1 117) rfl (og14 hp0.1) (og71 hp0.2) ?_
  refine ko_iast3 mi_k162.1 (n := 6) (c := 6) (ax := (0, 0, 0, 0, 0)) (mi_k162.2 _ _ (by rfl)) (by rfl) (ksG129 _ _ _ _) (ksA129 _ _ _ _) (hG.I.2.1 129) rfl (og2 kog0) (og72 kog0) ?_
  intro a1 ea1 fa1
  have hJ1 := kG_a3 hG 129 rfl ea1 fa1 (kd_bd _)
  have s2 : (8 + x1).toInt = (8 : Int32).toInt + x1.toInt := kd_add (og73 hp0.1 kog8) (og74 hp0.2 kog8)
  first | refine fo_goS mi_k162 fz162_12_8_25 [.int (8 + x1), .ref 117, .int 2, .ref 129] (by rfl) ?_ | refine ft_go mi_k162 8 25 [(0, .ref 116), (1, .int x1)] [.int (8 + x1), .ref 117, .int 2, .ref 129] i a1 q r (by rfl) ?_
  refine ko_iald3 mi_k162.1 (n := 24) (c := 24) (ax := (0, 0, 0, 0, 0)) (mi_k162.2 _ _ (by rfl)) (by rfl) (ksG117 _ _ _ _) (hJ1.I.2.1 117) rfl (og75 hp0.1 s2 kog8) (og76 hp0.2 s2 kog8) ?_
  refine ko_iast3 mi_k162.1 (n := 6) (c := 6) (ax := (0, 0, 0, 0, 0)) (mi_k162.2 _ _ (by rfl)) (by rfl) (ksG129 _ _ _ _) (ksA129 _ _ _ _) (hJ1.I.2.1 129) rfl (og77 kog2) (og78 kog2) ?_
  intro a3 ea3 fa3
  have hJ3 := kG_a3 hJ1 129 rfl ea3 fa3 (kd_bd _)
  first | refine fo_goS mi_k162 fz162_27_6_38 [.int 9, .ref 118, .int 3, .ref 129] (by rfl) ?_ | refine ft_go mi_k162 6 38 [(0, .ref 116), (1, .int x1)] [.int 9, .ref 118, .int 3, .ref 129] i a3 q r (by rfl) ?_
  refine ko_iald3 mi_k162.1 (n := 31) (c := 31) (ax := (0, 0, 0, 0, 0)) (mi_k162.2 _ _ (by rfl)) (by rfl) (ksG118 _ _ _ _) (hJ3.I.2.1 118) rfl (og79 kog9) (og80 kog9) ?_
  have u4 : ((a1 118).getD (9 : Int32).toNatClampNeg 0).toInt = ((a 118).getD (9 : Int32).toNatClampNeg 0).toInt := congrArg (fun z : List Int32 => (z.getD (9 : Int32).toNatClampNeg 0).toInt) (fa1 118 (by decide))
  have u5 : ((a3 118).getD (9 : Int32).toNatClampNeg 0).toInt = ((a1 118).getD (9 : Int32).toNatClampNeg 0).toInt := congrArg (fun z : List Int32 => (z.getD (9 : Int32).toNatClampNeg 0).toInt) (fa3 118 (by decide))
  refine ko_iast3 mi_k162.1 (n := 6) (c := 6) (ax := (0, 0, 0, 0, 0)) (mi_k162.2 _ _ (by rfl)) (by rfl) (ksG129 _ _ _ _) (ksA129 _ _ _ _) (hJ3.I.2.1 129) rfl (og81 kog3) (og82 kog3) ?_
  intro a6 ea6 fa6
  have hJ6 := kG_a3 hJ3 129 rfl ea6 fa6 (kd_bd _)
  have s7 : (10 + x1).toInt = (10 : Int32).toInt + x1.toInt := kd_add (og83 hp0.1 kog10) (og84 hp0.2 kog10)
  first | refine fo_goS mi_k162 fz162_40_8_53 [.int (10 + x1), .ref 118, .int 4, .ref 129] (by rfl) ?_ | refine ft_go mi_k162 8 53 [(0, .ref 116), (1, .int x1)] [.int (10 + x1), .ref 118, .int 4, .ref 129] i a6 q r (by rfl) ?_
  refine ko_iald3 mi_k162.1 (n := 31) (c := 31) (ax := (0, 0, 0, 0, 0)) (mi_k162.2 _ _ (by rfl)) (by rfl) (ksG118 _ _ _ _) (hJ6.I.2.1 118) rfl (og85 hp0.1 s7 kog10) (og86 hp0.2 s7 kog10) ?_
  have r8 : (((10 + x1).toInt = 18 → (0 : Int) ≤ ((a6 118).getD (10 + x1).toNatClampNeg 0).toInt ∧ ((a6 118).getD (10 + x1).toNatClampNeg 0).toInt ≤ 5)) ∧ ((19 ≤ (10 + x1).toInt → (10 + x1).toInt ≤ 24 → (0 : Int) ≤ ((a6 118).getD (10 + x1).toNatClampNeg 0).toInt ∧ ((a6 118).getD (10 + x1).toNatClampNeg 0).toInt ≤ 7)) := kE_ncond (p := 118) hJ6.I (by decide) (j := (10 + x1)) (og85 hp0.1 s7 kog10)
  have u9 : ((a1 118).getD (10 + x1).toNatClampNeg 0).toInt = ((a 118).getD (10 + x1).toNatClampNeg 0).toInt := congrArg (fun z : List Int32 => (z.getD (10 + x1).toNatClampNeg 0).toInt) (fa1 118 (by decide))
  have u10 : ((a3 118).getD (10 + x1).toNatClampNeg 0).toInt = ((a1 118).getD (10 + x1).toNatClampNeg 0).toInt := congrArg (fun z : List Int32 => (z.getD (10 + x1).toNatClampNeg 0).toInt) (fa3 118 (by decide))
  have u11 : ((a6 118).getD (10 + x1).toNatClampNeg 0).toInt = ((a3 118).getD (10 + x1).toNatClampNeg 0).toInt := congrArg (fun z : List Int32 => (z.getD (10 + x1).toNatClampNeg 0).toInt) (fa6 118 (by decide))
  refine ko_iast3 mi_k162.1 (n := 6) (c := 6) (ax := (0, 0, 0, 0, 0)) (mi_k162.2 _ _ (by rfl)) (by rfl) (ksG129 _ _ _ _) (ksA129 _ _ _ _) (hJ6.I.2.1 129) rfl (og87 kog4) (og88 kog4) ?_
  intro a12 ea12 fa12
  have hJ12 := kG_a3 hJ6 129 rfl ea12 fa12 (kd_bd _)
  first | refine fo_goS mi_k162 fz162_55_6_66 [.int 8, .ref 118, .int 5, .ref 129] (by rfl) ?_ | refine ft_go mi_k162 6 66 [(0, .ref 116), (1, .int x1)] [.int 8, .ref 118, .int 5, .ref 129] i a12 q r (by rfl) ?_
  refine ko_iald3 mi_k162.1 (n := 31) (c := 31) (ax := (0, 0, 0, 0, 0)) (mi_k162.2 _ _ (by rfl)) (by rfl) (ksG118 _ _ _ _) (hJ12.I.2.1 118) rfl (og89 kog8) (og90 kog8) ?_
  have u13 : ((a1 118).getD (8 : Int32).toNatClampNeg 0).toInt = ((a 118).getD (8 : Int32).toNatClampNeg 0).toInt := congrArg (fun z : List Int32 => (z.getD (8 : Int32).toNatClampNeg 0).toInt) (fa1 118 (by decide))
  have u14 : ((a3 118).getD (8 : Int32).toNatClampNeg 0).toInt = ((a1 118).getD (8 : Int32).toNatClampNeg 0).toInt := congrArg (fun z : List Int32 => (z.getD (8 : Int32).toNatClampNeg 0).toInt) (fa3 118 (by decide))
  have u15 : ((a6 118).getD (8 : Int32).toNatClampNeg 0).toInt = ((a3 118).getD (8 : Int32).toNatClampNeg 0).toInt := congrArg (fun z : List Int32 => (z.getD (8 : Int32).toNatClampNeg 0).toInt) (fa6 118 (by decide))
  have u16 : ((a12 118).getD (8 : Int32).toNatClampNeg 0).toInt = ((a6 118).getD (8 : Int32).toNatClampNeg 0).toInt := congrArg (fun z : List Int32 => (z.getD (8 : Int32).toNatClampNeg 0).toInt) (fa12 118 (by decide))
  refine ko_iast3 mi_k162.1 (n := 6) (c := 6) (ax := (0, 0, 0, 0, 0)) (mi_k162.2 _ _ (by rfl)) (by rfl) (ksG129 _ _ _ _) (ksA129 _ _ _ _) (hJ12.I.2.1 129) rfl (og91 kog5) (og92 kog5) ?_
  intro a17 ea17 fa17
  have hJ17 := kG_a3 hJ12 129 rfl ea17 fa17 (kd_bd _)
  have qn18 : a17 129 = [((a 117).getD x1.toNatClampNeg 0), (a 129).getD 1 0, ((a1 117).getD (8 + x1).toNatClampNeg 0), ((a3 118).getD (9 : Int32).toNatClampNeg 0), ((a6 118).getD (10 + x1).toNatClampNeg 0), ((a12 118).getD (8 : Int32).toNatClampNeg 0)] := by rw [ea17, ea12, ea6, ea3, ea1]; exact kNam5 (hG.I.2.1 129)
  have qn19 : a17 129 = [(a 117).getD x1.toNatClampNeg 0, (a 129).getD 1 0, (a 117).getD (8 + x1).toNatClampNeg 0, (a 118).getD (9 : Int32).toNatClampNeg 0, (a 118).getD (10 + x1).toNatClampNeg 0, (a 118).getD (8 : Int32).toNatClampNeg 0] := qn18.trans (by first | rfl | (simp only [fa1 117 (by decide), fa3 118 (by decide), fa6 118 (by decide), fa12 118 (by decide), fa1 118 (by decide)]; done) | (simp only [fa1 117 (by decide), fa3 118 (by decide), fa6 118 (by decide), fa12 118 (by decide), fa1 118 (by decide)]; rfl))
  first | refine ft_goL mi_k162 2 70 [(2, .int 0), (0, .ref 116), (1, .int x1)] [] (by rfl) ?_ | refine ft_go mi_k162 2 70 [(2, .int 0), (0, .ref 116), (1, .int x1)] [] i a17 q r (by rfl) ?_
  have lp20 : ∀ (nz : Nat) (i20 : Nat → Int32) (a20 : Nat → List Int32) (q20 : Nat → List Int64) (r20 : Nat → Nat) (l2_20 : Int32), kG yw162_116_L70 i a17 q r i20 a20 q20 r20 → (0 : Int) ≤ l2_20.toInt → wLaw (a 120) (a 121) (a 122) (a 123) [(a 117).getD x1.toNatClampNeg 0, (a 129).getD 1 0, (a 117).getD (8 + x1).toNatClampNeg 0, (a 118).getD (9 : Int32).toNatClampNeg 0, (a 118).getD (10 + x1).toNatClampNeg 0, (a 118).getD (8 : Int32).toNatClampNeg 0] ((i 7432).toInt - l2_20.toInt).toNat l2_20.toInt.toNat = wLaw (a 120) (a 121) (a 122) (a 123) [(a 117).getD x1.toNatClampNeg 0, (a 129).getD 1 0, (a 117).getD (8 + x1).toNatClampNeg 0, (a 118).getD (9 : Int32).toNatClampNeg 0, (a 118).getD (10 + x1).toNatClampNeg 0, (a 118).getD (8 : Int32).toNatClampNeg 0] (i 7432).toInt.toNat 0 → a20 129 = [(a 117).getD x1.toNatClampNeg 0, (a 129).getD 1 0, (a 117).getD (8 + x1).toNatClampNeg 0, (a 118).getD (9 : Int32).toNatClampNeg 0, (a 118).getD (10 + x1).toNatClampNeg 0, (a 118).getD (8 : Int32).toNatClampNeg 0] → (((i20 7432).toInt - l2_20.toInt)).toNat < nz → ko 5 (mi_h162, mi_c162) P (70, [(2, .int l2_20), (0, .ref 116), (1, .int x1)], [], (0, 0), ks i20 a20 q20 r20) := by
    intro nz
    induction nz with
    | zero =>
      intro _ _ _ _ _ _ _ _ _ hm
      exact absurd hm (Nat.not_lt_zero _)
    | succ nz ih20 =>
      intro i20 a20 q20 r20 l2_20 hL20 p20_0 O20_0 O20_1 hm20
      have fi20_7432 : ((0 : Int) ≤ (i20 7432).toInt) ∧ ((i20 7432).toInt ≤ 60) := hL20.I.1 7432
      have efi20_7432 : (i20 7432).toInt = (i 7432).toInt := hL20.ti 7432 rfl
      first | refine fo_goL mi_k162 fz162_70_3_75 [(2, .int l2_20), (0, .ref 116), (1, .int x1)] [.int (i20 7432), .int l2_20] (by rfl) ?_ | refine ft_go mi_k162 3 75 [(2, .int l2_20), (0, .ref 116), (1, .int x1)] [.int (i20 7432), .int l2_20] i20 a20 q20 r20 (by rfl) ?_
      refine ft_ifS mi_k162 (decide ((i20 7432) ≤ l2_20)) 138 78 [] (by rfl) (fun c => ?_) (fun c => ?_)
      ·
        have c21 : (i20 7432).toInt ≤ l2_20.toInt := kd_le c; clear c
        have hG22 := kG_call hJ17 hL20 (by decide +kernel)
        first | refine ft_goS mi_k162 1 139 [.int 0] (by rfl) ?_ | refine ft_go mi_k162 1 139 [(2, .int l2_20), (0, .ref 116), (1, .int x1)] [.int 0] i20 a20 q20 r20 (by rfl) ?_
        exact ft_ret mi_k162 (by rfl) (hP 0 _ _ _ _ hG22 ⟨trivial, (show (0 : Int32) = wLaw (a 120) (a 121) (a 122) (a 123) [(a 117).getD x1.toNatClampNeg 0, (a 129).getD 1 0, (a 117).getD (8 + x1).toNatClampNeg 0, (a 118).getD (9 : Int32).toNatClampNeg 0, (a 118).getD (10 + x1).toNatClampNeg 0, (a 118).getD (8 : Int32).toNatClampNeg 0] (i 7432).toInt.toNat 0 from (bl_none O20_0 (og93 c21 efi20_7432)).symm)⟩)
      ·
        have c23 : l2_20.toInt < (i20 7432).toInt := kd_leF c; clear c
        first | refine fo_goS mi_k162 fz162_78_3_83 [.int l2_20, .ref 121] (by rfl) ?_ | refine ft_go mi_k162 3 83 [(2, .int l2_20), (0, .ref 116), (1, .int x1)] [.int l2_20, .ref 121] i20 a20 q20 r20 (by rfl) ?_
        refine ko_iald3 mi_k162.1 (n := 60) (c := 60) (ax := (0, 0, 0, 0, 0)) (mi_k162.2 _ _ (by rfl)) (by rfl) (ksG121 _ _ _ _) (hL20.I.2.1 121) rfl (og14 p20_0) (og94 c23 fi20_7432.2) ?_
        first | refine fo_goS mi_k162 fz162_84_3_89 [.int l2_20, .ref 120, .int ((a20 121).getD l2_20.toNatClampNeg 0)] (by rfl) ?_ | refine ft_go mi_k162 3 89 [(2, .int l2_20), (0, .ref 116), (1, .int x1)] [.int l2_20, .ref 120, .int ((a20 121).getD l2_20.toNatClampNeg 0)] i20 a20 q20 r20 (by rfl) ?_
        refine ko_iald3 mi_k162.1 (n := 60) (c := 60) (ax := (0, 0, 0, 0, 0)) (mi_k162.2 _ _ (by rfl)) (by rfl) (ksG120 _ _ _ _) (hL20.I.2.1 120) rfl (og14 p20_0) (og94 c23 fi20_7432.2) ?_
        refine ft_ifS mi_k162 (decide (((a20 121).getD l2_20.toNatClampNeg 0) ≤ ((a20 120).getD l2_20.toNatClampNeg 0))) 115 93 [] (by rfl) (fun c => ?_) (fun c => ?_)
        ·
          have c24 : ((a20 121).getD l2_20.toNatClampNeg 0).toInt ≤ ((a20 120).getD l2_20.toNatClampNeg 0).toInt := kd_le c; clear c
          have hG25 := kG_call hJ17 hL20 (by decide +kernel)
          first | refine fo_goS mi_k162 fz162_115_4_121 [.int l2_20, .ref 121, .ref 116] (by rfl) ?_ | refine ft_go mi_k162 4 121 [(2, .int l2_20), (0, .ref 116), (1, .int x1)] [.int l2_20, .ref 121, .ref 116] i20 a20 q20 r20 (by rfl) ?_
          refine ko_iald3 mi_k162.1 (n := 60) (c := 60) (ax := (0, 0, 0, 0, 0)) (mi_k162.2 _ _ (by rfl)) (by rfl) (ksG121 _ _ _ _) (hG25.I.2.1 121) rfl (og14 p20_0) (og94 c23 fi20_7432.2) ?_
          first | refine fo_goS mi_k162 fz162_122_3_127 [.int l2_20, .ref 122, .int ((a20 121).getD l2_20.toNatClampNeg 0), .ref 116] (by rfl) ?_ | refine ft_go mi_k162 3 127 [(2, .int l2_20), (0, .ref 116), (1, .int x1)] [.int l2_20, .ref 122, .int ((a20 121).getD l2_20.toNatClampNeg 0), .ref 116] i20 a20 q20 r20 (by rfl) ?_
          refine ko_iald3 mi_k162.1 (n := 60) (c := 60) (ax := (0, 0, 0, 0, 0)) (mi_k162.2 _ _ (by rfl)) (by rfl) (ksG122 _ _ _ _) (hG25.I.2.1 122) rfl (og14 p20_0) (og94 c23 fi20_7432.2) ?_
          refine ko_callI mi_k162.1 (pc := 128) (ls := [(2, .int l2_20), (0, .ref 116), (1, .int x1)]) (st := [.int ((a20 122).getD l2_20.toNatClampNeg 0), .int ((a20 121).getD l2_20.toNatClampNeg 0), .ref 116]) (h := ks i20 a20 q20 r20) (i := (.invokevirtual 224, 3, 161, 0, 9, 0, 420)) (mi_k162.2 _ _ (by rfl)) (ft_invS mi_pq161 (by rfl)) (cy := mi_c161) mi_pq161 rfl (ke161_116 hG25.I hG25.R ((a20 121).getD l2_20.toNatClampNeg 0) ((a20 122).getD l2_20.toNatClampNeg 0) (kCode_l2 (kCode_of (i1 := i20) hE_code (hG25.fi 7432 rfl) (hG25.fa 120 rfl) (hG25.fa 121 rfl) (hG25.fa 122 rfl) (hG25.fa 123 rfl)) (og14 p20_0) (og8 c23))) (by decide) ?_
          intro vg26 ig26 ag26 qg26 rg26 kg26 hg26
          have hGg26 := kG_call hG25 kg26 (by decide +kernel)
          obtain ⟨hg26, og26⟩ := hg26
          have q27 : vg26 = wVal (a20 123) (a20 129) ((a20 121).getD l2_20.toNatClampNeg 0) ((a20 122).getD l2_20.toNatClampNeg 0) := og26
          exact ft_ret mi_k162 (by rfl) (hP vg26 _ _ _ _ hGg26 ⟨trivial, (show vg26 = wLaw (a 120) (a 121) (a 122) (a 123) [(a 117).getD x1.toNatClampNeg 0, (a 129).getD 1 0, (a 117).getD (8 + x1).toNatClampNeg 0, (a 118).getD (9 : Int32).toNatClampNeg 0, (a 118).getD (10 + x1).toNatClampNeg 0, (a 118).getD (8 : Int32).toNatClampNeg 0] (i 7432).toInt.toNat 0 from (bl_say0 O20_0 (kj_lines (og95 c23 efi20_7432) (og14 p20_0)) (og14 p20_0) ((((((hL20.fa 120 rfl).trans (fa17 120 (by decide))).trans (fa12 120 (by decide))).trans (fa6 120 (by decide))).trans (fa3 120 (by decide))).trans (fa1 120 (by decide))) ((((((hL20.fa 121 rfl).trans (fa17 121 (by decide))).trans (fa12 121 (by decide))).trans (fa6 121 (by decide))).trans (fa3 121 (by decide))).trans (fa1 121 (by decide))) (og23 c24) ((((((hL20.fa 121 rfl).trans (fa17 121 (by decide))).trans (fa12 121 (by decide))).trans (fa6 121 (by decide))).trans (fa3 121 (by decide))).trans (fa1 121 (by decide))) ((((((hL20.fa 122 rfl).trans (fa17 122 (by decide))).trans (fa12 122 (by decide))).trans (fa6 122 (by decide))).trans (fa3 122 (by decide))).trans (fa1 122 (by decide))) (by have hq := og26; rw [(((((((hL20.fa 123 rfl).trans (fa17 123 (by decide))).trans (fa12 123 (by decide))).trans (fa6 123 (by decide))).trans (fa3 123 (by decide))).trans (fa1 123 (by decide))) : a20 123 = a 123), (O20_1 : a20 129 = [(a 117).getD x1.toNatClampNeg 0, (a 129).getD 1 0, (a 117).getD (8 + x1).toNatClampNeg 0, (a 118).getD (9 : Int32).toNatClampNeg 0, (a 118).getD (10 + x1).toNatClampNeg 0, (a 118).getD (8 : Int32).toNatClampNeg 0])] at hq; exact hq)).symm)⟩)
        ·
          have c28 : ((a20 120).getD l2_20.toNatClampNeg 0).toInt < ((a20 121).getD l2_20.toNatClampNeg 0).toInt := kd_leF c; clear c
          first | refine fo_goS mi_k162 fz162_93_4_99 [.int l2_20, .ref 120, .ref 116] (by rfl) ?_ | refine ft_go mi_k162 4 99 [(2, .int l2_20), (0, .ref 116), (1, .int x1)] [.int l2_20, .ref 120, .ref 116] i20 a20 q20 r20 (by rfl) ?_
          refine ko_iald3 mi_k162.1 (n := 60) (c := 60) (ax := (0, 0, 0, 0, 0)) (mi_k162.2 _ _ (by rfl)) (by rfl) (ksG120 _ _ _ _) (hL20.I.2.1 120) rfl (og14 p20_0) (og94 c23 fi20_7432.2) ?_
          first | refine fo_goS mi_k162 fz162_100_3_105 [.int l2_20, .ref 121, .int ((a20 120).getD l2_20.toNatClampNeg 0), .ref 116] (by rfl) ?_ | refine ft_go mi_k162 3 105 [(2, .int l2_20), (0, .ref 116), (1, .int x1)] [.int l2_20, .ref 121, .int ((a20 120).getD l2_20.toNatClampNeg 0), .ref 116] i20 a20 q20 r20 (by rfl) ?_
          refine ko_iald3 mi_k162.1 (n := 60) (c := 60) (ax := (0, 0, 0, 0, 0)) (mi_k162.2 _ _ (by rfl)) (by rfl) (ksG121 _ _ _ _) (hL20.I.2.1 121) rfl (og14 p20_0) (og94 c23 fi20_7432.2) ?_
          have hG29 := kG_call hJ17 hL20 (by decide +kernel)
          refine ko_callI mi_k162.1 (pc := 106) (ls := [(2, .int l2_20), (0, .ref 116), (1, .int x1)]) (st := [.int ((a20 121).getD l2_20.toNatClampNeg 0), .int ((a20 120).getD l2_20.toNatClampNeg 0), .ref 116]) (h := ks i20 a20 q20 r20) (i := (.invokevirtual 224, 3, 161, 0, 9, 0, 420)) (mi_k162.2 _ _ (by rfl)) (ft_invS mi_pq161 (by rfl)) (cy := mi_c161) mi_pq161 rfl (ke161_116 hL20.I hL20.R ((a20 120).getD l2_20.toNatClampNeg 0) ((a20 121).getD l2_20.toNatClampNeg 0) (kCode_l1 (kCode_of (i1 := i20) hE_code (hG29.fi 7432 rfl) (hG29.fa 120 rfl) (hG29.fa 121 rfl) (hG29.fa 122 rfl) (hG29.fa 123 rfl)) (og14 p20_0) (og8 c23) (og8 c28))) (by decide) ?_
          intro vg30 ig30 ag30 qg30 rg30 kg30 hg30
          have hGg30 := kG_call hL20 kg30 (by decide +kernel)
          obtain ⟨hg30, og30⟩ := hg30
          have q31 : vg30 = wVal (a20 123) (a20 129) ((a20 120).getD l2_20.toNatClampNeg 0) ((a20 121).getD l2_20.toNatClampNeg 0) := og30
          refine ft_ifS mi_k162 (vg30 != 0) 115 112 [] (by rfl) (fun c => ?_) (fun c => ?_)
          ·
            have c32 : vg30.toInt ≠ (0 : Int32).toInt := kd_ne c; clear c
            have hG33 := kG_call hJ17 hGg30 (by decide +kernel)
            first | refine fo_goS mi_k162 fz162_115_4_121 [.int l2_20, .ref 121, .ref 116] (by rfl) ?_ | refine ft_go mi_k162 4 121 [(2, .int l2_20), (0, .ref 116), (1, .int x1)] [.int l2_20, .ref 121, .ref 116] ig30 ag30 qg30 rg30 (by rfl) ?_
            refine ko_iald3 mi_k162.1 (n := 60) (c := 60) (ax := (0, 0, 0, 0, 0)) (mi_k162.2 _ _ (by rfl)) (by rfl) (ksG121 _ _ _ _) (hG33.I.2.1 121) rfl (og14 p20_0) (og94 c23 fi20_7432.2) ?_
            first | refine fo_goS mi_k162 fz162_122_3_127 [.int l2_20, .ref 122, .int ((ag30 121).getD l2_20.toNatClampNeg 0), .ref 116] (by rfl) ?_ | refine ft_go mi_k162 3 127 [(2, .int l2_20), (0, .ref 116), (1, .int x1)] [.int l2_20, .ref 122, .int ((ag30 121).getD l2_20.toNatClampNeg 0), .ref 116] ig30 ag30 qg30 rg30 (by rfl) ?_
            refine ko_iald3 mi_k162.1 (n := 60) (c := 60) (ax := (0, 0, 0, 0, 0)) (mi_k162.2 _ _ (by rfl)) (by rfl) (ksG122 _ _ _ _) (hG33.I.2.1 122) rfl (og14 p20_0) (og94 c23 fi20_7432.2) ?_
            have efig30_7432 : (ig30 7432).toInt = (i20 7432).toInt := kg30.ti 7432 rfl
            refine ko_callI mi_k162.1 (pc := 128) (ls := [(2, .int l2_20), (0, .ref 116), (1, .int x1)]) (st := [.int ((ag30 122).getD l2_20.toNatClampNeg 0), .int ((ag30 121).getD l2_20.toNatClampNeg 0), .ref 116]) (h := ks ig30 ag30 qg30 rg30) (i := (.invokevirtual 224, 3, 161, 0, 9, 0, 420)) (mi_k162.2 _ _ (by rfl)) (ft_invS mi_pq161 (by rfl)) (cy := mi_c161) mi_pq161 rfl (ke161_116 hG33.I hG33.R ((ag30 121).getD l2_20.toNatClampNeg 0) ((ag30 122).getD l2_20.toNatClampNeg 0) (kCode_l2 (kCode_of (i1 := ig30) hE_code (hG33.fi 7432 rfl) (hG33.fa 120 rfl) (hG33.fa 121 rfl) (hG33.fa 122 rfl) (hG33.fa 123 rfl)) (og14 p20_0) (og96 c23 efig30_7432))) (by decide) ?_
            intro vg34 ig34 ag34 qg34 rg34 kg34 hg34
            have hGg34 := kG_call hG33 kg34 (by decide +kernel)
            obtain ⟨hg34, og34⟩ := hg34
            have q35 : vg34 = wVal (ag30 123) (ag30 129) ((ag30 121).getD l2_20.toNatClampNeg 0) ((ag30 122).getD l2_20.toNatClampNeg 0) := og34
            exact ft_ret mi_k162 (by rfl) (hP vg34 _ _ _ _ hGg34 ⟨trivial, (show vg34 = wLaw (a 120) (a 121) (a 122) (a 123) [(a 117).getD x1.toNatClampNeg 0, (a 129).getD 1 0, (a 117).getD (8 + x1).toNatClampNeg 0, (a 118).getD (9 : Int32).toNatClampNeg 0, (a 118).getD (10 + x1).toNatClampNeg 0, (a 118).getD (8 : Int32).toNatClampNeg 0] (i 7432).toInt.toNat 0 from (bl_say1 O20_0 (kj_lines (og95 c23 efi20_7432) (og14 p20_0)) (og14 p20_0) ((((((hL20.fa 120 rfl).trans (fa17 120 (by decide))).trans (fa12 120 (by decide))).trans (fa6 120 (by decide))).trans (fa3 120 (by decide))).trans (fa1 120 (by decide))) ((((((hL20.fa 121 rfl).trans (fa17 121 (by decide))).trans (fa12 121 (by decide))).trans (fa6 121 (by decide))).trans (fa3 121 (by decide))).trans (fa1 121 (by decide))) (by have hq := og30; rw [(((((((hL20.fa 123 rfl).trans (fa17 123 (by decide))).trans (fa12 123 (by decide))).trans (fa6 123 (by decide))).trans (fa3 123 (by decide))).trans (fa1 123 (by decide))) : a20 123 = a 123), (O20_1 : a20 129 = [(a 117).getD x1.toNatClampNeg 0, (a 129).getD 1 0, (a 117).getD (8 + x1).toNatClampNeg 0, (a 118).getD (9 : Int32).toNatClampNeg 0, (a 118).getD (10 + x1).toNatClampNeg 0, (a 118).getD (8 : Int32).toNatClampNeg 0])] at hq; exact hq) (og0 c32 kog0) (((((((kg30.fa 121 rfl).trans (hL20.fa 121 rfl)).trans (fa17 121 (by decide))).trans (fa12 121 (by decide))).trans (fa6 121 (by decide))).trans (fa3 121 (by decide))).trans (fa1 121 (by decide))) (((((((kg30.fa 122 rfl).trans (hL20.fa 122 rfl)).trans (fa17 122 (by decide))).trans (fa12 122 (by decide))).trans (fa6 122 (by decide))).trans (fa3 122 (by decide))).trans (fa1 122 (by decide))) (by have hq := og34; rw [((((((((kg30.fa 123 rfl).trans (hL20.fa 123 rfl)).trans (fa17 123 (by decide))).trans (fa12 123 (by decide))).trans (fa6 123 (by decide))).trans (fa3 123 (by decide))).trans (fa1 123 (by decide))) : ag30 123 = a 123), ((by simp only [kg30.fa 129 rfl, O20_1]) : ag30 129 = [(a 117).getD x1.toNatClampNeg 0, (a 129).getD 1 0, (a 117).getD (8 + x1).toNatClampNeg 0, (a 118).getD (9 : Int32).toNatClampNeg 0, (a 118).getD (10 + x1).toNatClampNeg 0, (a 118).getD (8 : Int32).toNatClampNeg 0])] at hq; exact hq)).symm)⟩)
          ·
            have c36 : vg30.toInt = (0 : Int32).toInt := kd_neF c; clear c
            have s37 : (l2_20 + 1).toInt = l2_20.toInt + (1 : Int32).toInt := kd_add (og9 p20_0 kog1) (og97 c23 fi20_7432.2 kog1)
            first | refine fo_goL mi_k162 fz162_112_3_70 [(2, .int (l2_20 + 1)), (0, .ref 116), (1, .int x1)] [] (by rfl) ?_ | refine ft_goL mi_k162 3 70 [(2, .int (l2_20 + 1)), (0, .ref 116), (1, .int x1)] [] (by rfl) ?_ | refine ft_go mi_k162 3 70 [(2, .int (l2_20 + 1)), (0, .ref 116), (1, .int x1)] [] ig30 ag30 qg30 rg30 (by rfl) ?_
            have efig30_7432 : (ig30 7432).toInt = (i20 7432).toInt := kg30.ti 7432 rfl
            exact ih20 _ _ _ _ _ hGg30 (og98 p20_0 s37 kog1) (bl_next O20_0 (kj_lines (og95 c23 efi20_7432) (og14 p20_0)) (og14 p20_0) (og22 s37 kog1) ((((((hL20.fa 120 rfl).trans (fa17 120 (by decide))).trans (fa12 120 (by decide))).trans (fa6 120 (by decide))).trans (fa3 120 (by decide))).trans (fa1 120 (by decide))) ((((((hL20.fa 121 rfl).trans (fa17 121 (by decide))).trans (fa12 121 (by decide))).trans (fa6 121 (by decide))).trans (fa3 121 (by decide))).trans (fa1 121 (by decide))) (og8 c28) (by have hq := og30; rw [(((((((hL20.fa 123 rfl).trans (fa17 123 (by decide))).trans (fa12 123 (by decide))).trans (fa6 123 (by decide))).trans (fa3 123 (by decide))).trans (fa1 123 (by decide))) : a20 123 = a 123), (O20_1 : a20 129 = [(a 117).getD x1.toNatClampNeg 0, (a 129).getD 1 0, (a 117).getD (8 + x1).toNatClampNeg 0, (a 118).getD (9 : Int32).toNatClampNeg 0, (a 118).getD (10 + x1).toNatClampNeg 0, (a 118).getD (8 : Int32).toNatClampNeg 0])] at hq; exact hq) (og41 c36 kog0) rfl) (by first | rfl | (simp only [kg30.fa 129 rfl, O20_1, sMn, sMx]; done) | (simp only [kg30.fa 129 rfl, O20_1, sMn, sMx]; rfl)) (kj_meas (og99 efig30_7432 s37 kog1) (og28 c23) hm20)
  exact lp20 _ _ _ _ _ _ (kG_self _ hJ17.I hJ17.R) (og2 kog0) (by rw [kog0, Int.sub_zero]; rfl) (by first | rfl | (simp only [qn19, sMn, sMx]; done) | (simp only [qn19, sMn, sMx]; rfl)) (Nat.lt_succ_self _)
def yw163_116 : kW := ([], [128, 129], [], [])
set_option maxRecDepth 100000 in
theorem ke163_116 {i : Nat → Int32} {a : Nat → List Int32} {q : Nat → List Int64} {r : Nat → Nat} (hI : kI i a q) (hr : kr r) (x1 : Int32) (x2 : Int32) (hp0 : ((0 : Int) ≤ x1.toInt) ∧ (x1.toInt ≤ 7)) (hE_code : kCode i a) : km 7 163 [.ref 116, .int x1, .int x2] (ks i a q r) (kVI yw163_116 i a q r (fun v i1 a1 q1 r1 => (True) ∧ v = rBuyV (i 7431) (wLaw (a 120) (a 121) (a 122) (a 123) [(a 117).getD x1.toNatClampNeg 0, x2, (a 117).getD (8 + x1).toNatClampNeg 0, (a 118).getD (9 : Int32).toNatClampNeg 0, (a 118).getD (10 + x1).toNatClampNeg 0, (a 118).getD (8 : Int32).toNatClampNeg 0] (i 7432).toInt.toNat 0) ((a 117).getD x1.toNatClampNeg 0) ((a 117).getD (8 + x1).toNatClampNeg 0) ((a 118).getD (10 + x1).toNatClampNeg 0))) := by
  have hG := kG_self yw163_116 hI hr
  refine km_ofI (q := (mi_h163, mi_c163)) rfl (by decide) (Nat.le_of_ble_eq_true rfl) ?_
  intro P hP
  first | refine fo_goL mi_k163 fz163_0_4_6 [(0, .ref 116), (1, .int x1), (2, .int x2)] [.int x2, .int 1, .ref 129] (by rfl) ?_ | refine ft_go mi_k163 4 6 [(0, .ref 116), (1, .int x1), (2, .int x2)] [.int x2, .int 1, .ref 129] i a q r (by rfl) ?_
  refine ko_iast3 mi_k163.1 (n := 6) (c := 6) (ax := (0, 0, 0, 0, 0)) (mi_k163.2 _ _ (by rfl)) (by rfl) (ksG129 _ _ _ _) (ksA129 _ _ _ _) (hG.I.2.1 129) rfl (og100 kog1) (og101 kog1) ?_
  intro a1 ea1 fa1
  have hJ1 := kG_a3 hG 129 rfl ea1 fa1 (kd_bd _)
  have fi_7431 : ((0 : Int) ≤ (i 7431).toInt) ∧ ((i 7431).toInt ≤ 1) := hJ1.I.1 7431
  first | refine ft_goS mi_k163 2 11 [.int (i 7431)] (by rfl) ?_ | refine ft_go mi_k163 2 11 [(0, .ref 116), (1, .int x1), (2, .int x2)] [.int (i 7431)] i a1 q r (by rfl) ?_
  refine ft_ifS mi_k163 ((i 7431) == 0) 22 14 [] (by rfl) (fun c => ?_) (fun c => ?_)
  ·
    have c2 : (i 7431).toInt = (0 : Int32).toInt := kd_eq c; clear c
    first | refine fo_goS mi_k163 fz163_22_4_28 [.int x1, .ref 117, .int 5] (by rfl) ?_ | refine ft_go mi_k163 4 28 [(0, .ref 116), (1, .int x1), (2, .int x2)] [.int x1, .ref 117, .int 5] i a1 q r (by rfl) ?_
    refine ko_iald3 mi_k163.1 (n := 24) (c := 24) (ax := (0, 0, 0, 0, 0)) (mi_k163.2 _ _ (by rfl)) (by rfl) (ksG117 _ _ _ _) (hJ1.I.2.1 117) rfl (og14 hp0.1) (og71 hp0.2) ?_
    have b3 : ((-2147483648 : Int) ≤ ((a1 117).getD x1.toNatClampNeg 0).toInt) ∧ (((a1 117).getD x1.toNatClampNeg 0).toInt ≤ 2147483647) := kd_bd ((a1 117).getD x1.toNatClampNeg 0)
    have s4 : (8 + x1).toInt = (8 : Int32).toInt + x1.toInt := kd_add (og73 hp0.1 kog8) (og74 hp0.2 kog8)
    first | refine fo_goS mi_k163 fz163_29_6_38 [.int (8 + x1), .ref 117, .int (5 * ((a1 117).getD x1.toNatClampNeg 0))] (by rfl) ?_ | refine ft_go mi_k163 6 38 [(0, .ref 116), (1, .int x1), (2, .int x2)] [.int (8 + x1), .ref 117, .int (5 * ((a1 117).getD x1.toNatClampNeg 0))] i a1 q r (by rfl) ?_
    refine ko_iald3 mi_k163.1 (n := 24) (c := 24) (ax := (0, 0, 0, 0, 0)) (mi_k163.2 _ _ (by rfl)) (by rfl) (ksG117 _ _ _ _) (hJ1.I.2.1 117) rfl (og75 hp0.1 s4 kog8) (og76 hp0.2 s4 kog8) ?_
    have b5 : ((-2147483648 : Int) ≤ (5 * ((a1 117).getD x1.toNatClampNeg 0)).toInt) ∧ ((5 * ((a1 117).getD x1.toNatClampNeg 0)).toInt ≤ 2147483647) := kd_bd (5 * ((a1 117).getD x1.toNatClampNeg 0))
    have b6 : ((-2147483648 : Int) ≤ ((a1 117).getD (8 + x1).toNatClampNeg 0).toInt) ∧ (((a1 117).getD (8 + x1).toNatClampNeg 0).toInt ≤ 2147483647) := kd_bd ((a1 117).getD (8 + x1).toNatClampNeg 0)
    have s7 : (10 + x1).toInt = (10 : Int32).toInt + x1.toInt := kd_add (og83 hp0.1 kog10) (og84 hp0.2 kog10)
    first | refine fo_goS mi_k163 fz163_39_7_49 [.int (10 + x1), .ref 118, .int 2, .int ((5 * ((a1 117).getD x1.toNatClampNeg 0)) + ((a1 117).getD (8 + x1).toNatClampNeg 0))] (by rfl) ?_ | refine ft_go mi_k163 7 49 [(0, .ref 116), (1, .int x1), (2, .int x2)] [.int (10 + x1), .ref 118, .int 2, .int ((5 * ((a1 117).getD x1.toNatClampNeg 0)) + ((a1 117).getD (8 + x1).toNatClampNeg 0))] i a1 q r (by rfl) ?_
    refine ko_iald3 mi_k163.1 (n := 31) (c := 31) (ax := (0, 0, 0, 0, 0)) (mi_k163.2 _ _ (by rfl)) (by rfl) (ksG118 _ _ _ _) (hJ1.I.2.1 118) rfl (og85 hp0.1 s7 kog10) (og86 hp0.2 s7 kog10) ?_
    have r8 : (((10 + x1).toInt = 18 → (0 : Int) ≤ ((a1 118).getD (10 + x1).toNatClampNeg 0).toInt ∧ ((a1 118).getD (10 + x1).toNatClampNeg 0).toInt ≤ 5)) ∧ ((19 ≤ (10 + x1).toInt → (10 + x1).toInt ≤ 24 → (0 : Int) ≤ ((a1 118).getD (10 + x1).toNatClampNeg 0).toInt ∧ ((a1 118).getD (10 + x1).toNatClampNeg 0).toInt ≤ 7)) := kE_ncond (p := 118) hJ1.I (by decide) (j := (10 + x1)) (og85 hp0.1 s7 kog10)
    have u9 : ((a1 118).getD (10 + x1).toNatClampNeg 0).toInt = ((a 118).getD (10 + x1).toNatClampNeg 0).toInt := congrArg (fun z : List Int32 => (z.getD (10 + x1).toNatClampNeg 0).toInt) (fa1 118 (by decide))
    have b10 : ((-2147483648 : Int) ≤ ((a1 118).getD (10 + x1).toNatClampNeg 0).toInt) ∧ (((a1 118).getD (10 + x1).toNatClampNeg 0).toInt ≤ 2147483647) := kd_bd ((a1 118).getD (10 + x1).toNatClampNeg 0)
    have b11 : ((-2147483648 : Int) ≤ ((5 * ((a1 117).getD x1.toNatClampNeg 0)) + ((a1 117).getD (8 + x1).toNatClampNeg 0)).toInt) ∧ (((5 * ((a1 117).getD x1.toNatClampNeg 0)) + ((a1 117).getD (8 + x1).toNatClampNeg 0)).toInt ≤ 2147483647) := kd_bd ((5 * ((a1 117).getD x1.toNatClampNeg 0)) + ((a1 117).getD (8 + x1).toNatClampNeg 0))
    have b12 : ((-2147483648 : Int) ≤ (2 * ((a1 118).getD (10 + x1).toNatClampNeg 0)).toInt) ∧ ((2 * ((a1 118).getD (10 + x1).toNatClampNeg 0)).toInt ≤ 2147483647) := kd_bd (2 * ((a1 118).getD (10 + x1).toNatClampNeg 0))
    first | refine fo_goL mi_k163 fz163_50_6_57 [(3, .int (((5 * ((a1 117).getD x1.toNatClampNeg 0)) + ((a1 117).getD (8 + x1).toNatClampNeg 0)) - (2 * ((a1 118).getD (10 + x1).toNatClampNeg 0)))), (0, .ref 116), (1, .int x1), (2, .int x2)] [.int (((5 * ((a1 117).getD x1.toNatClampNeg 0)) + ((a1 117).getD (8 + x1).toNatClampNeg 0)) - (2 * ((a1 118).getD (10 + x1).toNatClampNeg 0))), .int 99, .int 0] (by rfl) ?_ | refine ft_goL mi_k163 6 57 [(3, .int (((5 * ((a1 117).getD x1.toNatClampNeg 0)) + ((a1 117).getD (8 + x1).toNatClampNeg 0)) - (2 * ((a1 118).getD (10 + x1).toNatClampNeg 0)))), (0, .ref 116), (1, .int x1), (2, .int x2)] [.int (((5 * ((a1 117).getD x1.toNatClampNeg 0)) + ((a1 117).getD (8 + x1).toNatClampNeg 0)) - (2 * ((a1 118).getD (10 + x1).toNatClampNeg 0))), .int 99, .int 0] (by rfl) ?_ | refine ft_go mi_k163 6 57 [(3, .int (((5 * ((a1 117).getD x1.toNatClampNeg 0)) + ((a1 117).getD (8 + x1).toNatClampNeg 0)) - (2 * ((a1 118).getD (10 + x1).toNatClampNeg 0)))), (0, .ref 116), (1, .int x1), (2, .int x2)] [.int (((5 * ((a1 117).getD x1.toNatClampNeg 0)) + ((a1 117).getD (8 + x1).toNatClampNeg 0)) - (2 * ((a1 118).getD (10 + x1).toNatClampNeg 0))), .int 99, .int 0] i a1 q r (by rfl) ?_
    have m14 : (((bif decide ((((5 * ((a1 117).getD x1.toNatClampNeg 0)) + ((a1 117).getD (8 + x1).toNatClampNeg 0)) - (2 * ((a1 118).getD (10 + x1).toNatClampNeg 0))) < 99) then (((5 * ((a1 117).getD x1.toNatClampNeg 0)) + ((a1 117).getD (8 + x1).toNatClampNeg 0)) - (2 * ((a1 118).getD (10 + x1).toNatClampNeg 0))) else 99).toInt ≤ (99 : Int32).toInt) ∧ ((bif decide ((((5 * ((a1 117).getD x1.toNatClampNeg 0)) + ((a1 117).getD (8 + x1).toNatClampNeg 0)) - (2 * ((a1 118).getD (10 + x1).toNatClampNeg 0))) < 99) then (((5 * ((a1 117).getD x1.toNatClampNeg 0)) + ((a1 117).getD (8 + x1).toNatClampNeg 0)) - (2 * ((a1 118).getD (10 + x1).toNatClampNeg 0))) else 99).toInt ≤ (((5 * ((a1 117).getD x1.toNatClampNeg 0)) + ((a1 117).getD (8 + x1).toNatClampNeg 0)) - (2 * ((a1 118).getD (10 + x1).toNatClampNeg 0))).toInt)) ∧ ((bif decide ((((5 * ((a1 117).getD x1.toNatClampNeg 0)) + ((a1 117).getD (8 + x1).toNatClampNeg 0)) - (2 * ((a1 118).getD (10 + x1).toNatClampNeg 0))) < 99) then (((5 * ((a1 117).getD x1.toNatClampNeg 0)) + ((a1 117).getD (8 + x1).toNatClampNeg 0)) - (2 * ((a1 118).getD (10 + x1).toNatClampNeg 0))) else 99).toInt = (99 : Int32).toInt ∨ (bif decide ((((5 * ((a1 117).getD x1.toNatClampNeg 0)) + ((a1 117).getD (8 + x1).toNatClampNeg 0)) - (2 * ((a1 118).getD (10 + x1).toNatClampNeg 0))) < 99) then (((5 * ((a1 117).getD x1.toNatClampNeg 0)) + ((a1 117).getD (8 + x1).toNatClampNeg 0)) - (2 * ((a1 118).getD (10 + x1).toNatClampNeg 0))) else 99).toInt = (((5 * ((a1 117).getD x1.toNatClampNeg 0)) + ((a1 117).getD (8 + x1).toNatClampNeg 0)) - (2 * ((a1 118).getD (10 + x1).toNatClampNeg 0))).toInt) := kd_min
    first | refine ft_goS mi_k163 1 60 [.int (bif decide ((((5 * ((a1 117).getD x1.toNatClampNeg 0)) + ((a1 117).getD (8 + x1).toNatClampNeg 0)) - (2 * ((a1 118).getD (10 + x1).toNatClampNeg 0))) < 99) then (((5 * ((a1 117).getD x1.toNatClampNeg 0)) + ((a1 117).getD (8 + x1).toNatClampNeg 0)) - (2 * ((a1 118).getD (10 + x1).toNatClampNeg 0))) else 99), .int 0] (by rfl) ?_ | refine ft_go mi_k163 1 60 [(3, .int (((5 * ((a1 117).getD x1.toNatClampNeg 0)) + ((a1 117).getD (8 + x1).toNatClampNeg 0)) - (2 * ((a1 118).getD (10 + x1).toNatClampNeg 0)))), (0, .ref 116), (1, .int x1), (2, .int x2)] [.int (bif decide ((((5 * ((a1 117).getD x1.toNatClampNeg 0)) + ((a1 117).getD (8 + x1).toNatClampNeg 0)) - (2 * ((a1 118).getD (10 + x1).toNatClampNeg 0))) < 99) then (((5 * ((a1 117).getD x1.toNatClampNeg 0)) + ((a1 117).getD (8 + x1).toNatClampNeg 0)) - (2 * ((a1 118).getD (10 + x1).toNatClampNeg 0))) else 99), .int 0] i a1 q r (by rfl) ?_
    generalize hm13 : (bif decide ((((5 * ((a1 117).getD x1.toNatClampNeg 0)) + ((a1 117).getD (8 + x1).toNatClampNeg 0)) - (2 * ((a1 118).getD (10 + x1).toNatClampNeg 0))) < 99) then (((5 * ((a1 117).getD x1.toNatClampNeg 0)) + ((a1 117).getD (8 + x1).toNatClampNeg 0)) - (2 * ((a1 118).getD (10 + x1).toNatClampNeg 0))) else 99) = m13 at m14 ⊢
    have qm13 := hm13.symm
    have m16 : (((0 : Int32).toInt ≤ (bif decide (0 < m13) then m13 else 0).toInt) ∧ (m13.toInt ≤ (bif decide (0 < m13) then m13 else 0).toInt)) ∧ ((bif decide (0 < m13) then m13 else 0).toInt = (0 : Int32).toInt ∨ (bif decide (0 < m13) then m13 else 0).toInt = m13.toInt) := kd_max
    first | refine ft_goS mi_k163 1 63 [.int (bif decide (0 < m13) then m13 else 0)] (by rfl) ?_ | refine ft_go mi_k163 1 63 [(3, .int (((5 * ((a1 117).getD x1.toNatClampNeg 0)) + ((a1 117).getD (8 + x1).toNatClampNeg 0)) - (2 * ((a1 118).getD (10 + x1).toNatClampNeg 0)))), (0, .ref 116), (1, .int x1), (2, .int x2)] [.int (bif decide (0 < m13) then m13 else 0)] i a1 q r (by rfl) ?_
    generalize hm15 : (bif decide (0 < m13) then m13 else 0) = m15 at m16 ⊢
    have qm15 := hm15.symm
    exact ft_ret mi_k163 (by rfl) (hP m15 _ _ _ _ hJ1 ⟨trivial, (show m15 = rBuyV (i 7431) (wLaw (a 120) (a 121) (a 122) (a 123) [(a 117).getD x1.toNatClampNeg 0, x2, (a 117).getD (8 + x1).toNatClampNeg 0, (a 118).getD (9 : Int32).toNatClampNeg 0, (a 118).getD (10 + x1).toNatClampNeg 0, (a 118).getD (8 : Int32).toNatClampNeg 0] (i 7432).toInt.toNat 0) ((a 117).getD x1.toNatClampNeg 0) ((a 117).getD (8 + x1).toNatClampNeg 0) ((a 118).getD (10 + x1).toNatClampNeg 0) from (by unfold rBuyV; rw [if_pos (og102 c2 fi_7431.1 kog0)]; first | rfl | (simp only [kSet1 (l := a 129) (x := x2) (hG.I.2.1 129), qm15, qm13, fa1 117 (by decide), fa1 118 (by decide), sMn, sMx]; done) | (simp only [kSet1 (l := a 129) (x := x2) (hG.I.2.1 129), qm15, qm13, fa1 117 (by decide), fa1 118 (by decide), sMn, sMx]; rfl)))⟩)
  ·
    have c17 : (i 7431).toInt ≠ (0 : Int32).toInt := kd_eqF c; clear c
    first | refine ft_goS mi_k163 2 16 [.int x1, .ref 116] (by rfl) ?_ | refine ft_go mi_k163 2 16 [(0, .ref 116), (1, .int x1), (2, .int x2)] [.int x1, .ref 116] i a1 q r (by rfl) ?_
    refine ko_callI mi_k163.1 (pc := 16) (ls := [(0, .ref 116), (1, .int x1), (2, .int x2)]) (st := [.int x1, .ref 116]) (h := ks i a1 q r) (i := (.invokevirtual 227, 3, 162, 0, 9, 0, 419)) (mi_k163.2 _ _ (by rfl)) (ft_invS mi_pq162 (by rfl)) (cy := mi_c162) mi_pq162 rfl (ke162_116 hJ1.I hJ1.R x1 (og103 hp0.1 hp0.2) (kCode_of (i1 := i) hE_code (hJ1.fi 7432 rfl) (hJ1.fa 120 rfl) (hJ1.fa 121 rfl) (hJ1.fa 122 rfl) (hJ1.fa 123 rfl))) (by decide) ?_
    intro vg18 ig18 ag18 qg18 rg18 kg18 hg18
    have hGg18 := kG_call hJ1 kg18 (by decide +kernel)
    obtain ⟨hg18, og18⟩ := hg18
    have q19 : vg18 = wLaw (a1 120) (a1 121) (a1 122) (a1 123) [(a1 117).getD x1.toNatClampNeg 0, (a1 129).getD 1 0, (a1 117).getD (8 + x1).toNatClampNeg 0, (a1 118).getD (9 : Int32).toNatClampNeg 0, (a1 118).getD (10 + x1).toNatClampNeg 0, (a1 118).getD (8 : Int32).toNatClampNeg 0] (i 7432).toInt.toNat 0 := og18
    first | refine fo_goL mi_k163 fz163_19_5_57 [(3, .int vg18), (0, .ref 116), (1, .int x1), (2, .int x2)] [.int vg18, .int 99, .int 0] (by rfl) ?_ | refine fo_goL mi_k163 fz163_51_5_57 [(3, .int vg18), (0, .ref 116), (1, .int x1), (2, .int x2)] [.int vg18, .int 99, .int 0] (by rfl) ?_ | refine ft_go mi_k163 5 57 [(3, .int vg18), (0, .ref 116), (1, .int x1), (2, .int x2)] [.int vg18, .int 99, .int 0] ig18 ag18 qg18 rg18 (by rfl) ?_
    have m21 : (((bif decide (vg18 < 99) then vg18 else 99).toInt ≤ (99 : Int32).toInt) ∧ ((bif decide (vg18 < 99) then vg18 else 99).toInt ≤ vg18.toInt)) ∧ ((bif decide (vg18 < 99) then vg18 else 99).toInt = (99 : Int32).toInt ∨ (bif decide (vg18 < 99) then vg18 else 99).toInt = vg18.toInt) := kd_min
    first | refine ft_goS mi_k163 1 60 [.int (bif decide (vg18 < 99) then vg18 else 99), .int 0] (by rfl) ?_ | refine ft_go mi_k163 1 60 [(3, .int vg18), (0, .ref 116), (1, .int x1), (2, .int x2)] [.int (bif decide (vg18 < 99) then vg18 else 99), .int 0] ig18 ag18 qg18 rg18 (by rfl) ?_
    generalize hm20 : (bif decide (vg18 < 99) then vg18 else 99) = m20 at m21 ⊢
    have qm20 := hm20.symm
    have m23 : (((0 : Int32).toInt ≤ (bif decide (0 < m20) then m20 else 0).toInt) ∧ (m20.toInt ≤ (bif decide (0 < m20) then m20 else 0).toInt)) ∧ ((bif decide (0 < m20) then m20 else 0).toInt = (0 : Int32).toInt ∨ (bif decide (0 < m20) then m20 else 0).toInt = m20.toInt) := kd_max
    first | refine ft_goS mi_k163 1 63 [.int (bif decide (0 < m20) then m20 else 0)] (by rfl) ?_ | refine ft_go mi_k163 1 63 [(3, .int vg18), (0, .ref 116), (1, .int x1), (2, .int x2)] [.int (bif decide (0 < m20) then m20 else 0)] ig18 ag18 qg18 rg18 (by rfl) ?_
    generalize hm22 : (bif decide (0 < m20) then m20 else 0) = m22 at m23 ⊢
    have qm22 := hm22.symm
    exact ft_ret mi_k163 (by rfl) (hP m22 _ _ _ _ hGg18 ⟨trivial, (show m22 = rBuyV (i 7431) (wLaw (a 120) (a 121) (a 122) (a 123) [(a 117).getD x1.toNatClampNeg 0, x2, (a 117).getD (8 + x1).toNatClampNeg 0, (a 118).getD (9 : Int32).toNatClampNeg 0, (a 118).getD (10 + x1).toNatClampNeg 0, (a 118).getD (8 : Int32).toNatClampNeg 0] (i 7432).toInt.toNat 0) ((a 117).getD x1.toNatClampNeg 0) ((a 117).getD (8 + x1).toNatClampNeg 0) ((a 118).getD (10 + x1).toNatClampNeg 0) from (by unfold rBuyV; rw [if_neg (og104 c17 fi_7431.1 kog0)]; first | rfl | (simp only [kSet1 (l := a 129) (x := x2) (hG.I.2.1 129), qm22, qm20, q19, fa1 120 (by decide), fa1 121 (by decide), fa1 122 (by decide), fa1 123 (by decide), fa1 117 (by decide), ea1, fa1 118 (by decide), sMn, sMx]; done) | (simp only [kSet1 (l := a 129) (x := x2) (hG.I.2.1 129), qm22, qm20, q19, fa1 120 (by decide), fa1 121 (by decide), fa1 122 (by decide), fa1 123 (by decide), fa1 117 (by decide), ea1, fa1 118 (by decide), sMn, sMx]; rfl)))⟩)
end
section
/-! ONE COMES IN, PURELY, AS THE REFERENCE HAS IT -/
theorem kT5 {A B C D E : Type} {a a1 : A} {b b1 : B} {c c1 : C} {d d1 : D} {e e1 : E} (h1 : a = a1) (h2 : b = b1) (h3 : c = c1) (h4 : d = d1) (h5 : e = e1) : (a, b, c, d, e) = (a1, b1, c1, d1, e1) := by subst h1; subst h2; subst h3; subst h4; subst h5; rfl
theorem sP_again {t3 c : Int32} {S S1 R : kSt} (h : sPaid t3 c (S.1.getD 18 0).toInt.toNat S = R) (o : S1 = sPay c S) (h1 : 1 ≤ t3.toInt) (ht : t3.toInt ≤ (S.1.getD 18 0).toInt) (hd : (S1.1.getD 18 0).toInt = (S.1.getD 18 0).toInt - 1) : sPaid t3 c (S1.1.getD 18 0).toInt.toNat S1 = R := by
  subst o
  rw [← h]
  exact (sPaid_more h1 ht hd).symm
theorem sP_done {t3 c : Int32} {n : Nat} {S R : kSt} (h : sPaid t3 c n S = R) (hlt : (S.1.getD 18 0).toInt < t3.toInt) : S = R := (sPaid_done hlt).symm.trans h
def gPaid (t3 c : Int32) (N : List Int32) (la : Int32) (F : List Int32) : kSt := sPaid t3 c (N.getD 18 0).toInt.toNat (N, 8, 0, la, F)
def gBuy (told : Int32) (as sy en L : List Int32) (ln : Int32) (W N N1 : List Int32) (c : Int32) : Int32 := rBuyV told (wLaw as sy en L [W.getD c.toNatClampNeg 0, N.getD c.toNatClampNeg 0, W.getD (8 + c).toNatClampNeg 0, N1.getD (9 : Int32).toNatClampNeg 0, N1.getD (10 + c).toNatClampNeg 0, N1.getD (8 : Int32).toNatClampNeg 0] ln.toInt.toNat 0) (W.getD c.toNatClampNeg 0) (W.getD (8 + c).toNatClampNeg 0) (N1.getD (10 + c).toNatClampNeg 0)
def sC1 (c : Int32) (N : List Int32) : List Int32 := N.set (19 + N.getD (18 : Int32).toNatClampNeg 0).toNatClampNeg c
def sC2 (b : Int32) (N : List Int32) : List Int32 := N.set (25 + N.getD (18 : Int32).toNatClampNeg 0).toNatClampNeg b
def sC3 (N : List Int32) : List Int32 := N.set (18 : Int32).toNatClampNeg (N.getD (18 : Int32).toNatClampNeg 0 + 1)
def sC4 (N : List Int32) : List Int32 := N.set (9 : Int32).toNatClampNeg (N.getD (9 : Int32).toNatClampNeg 0 + 1)
def sC5 (c : Int32) (N : List Int32) : List Int32 := N.set (10 + c).toNatClampNeg (N.getD (10 + c).toNatClampNeg 0 + 1)
def sCome (c b : Int32) (N : List Int32) : List Int32 := sC5 c (sC4 (sC3 (sC2 b (sC1 c N))))
end
