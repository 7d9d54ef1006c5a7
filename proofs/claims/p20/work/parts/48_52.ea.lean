theorem koa0 : (0 : Int32).toInt = 0 := by decide
theorem koa255 : (255 : Int32).toInt = 255 := by decide
theorem koa1 : (1 : Int32).toInt = 1 := by decide
theorem koa120 : (120 : Int32).toInt = 120 := by decide
theorem koam3 : ((-3) : Int32).toInt = (-3) := by decide
theorem koam1 : ((-1) : Int32).toInt = (-1) := by decide
theorem koa6 : (6 : Int32).toInt = 6 := by decide
theorem koa9 : (9 : Int32).toInt = 9 := by decide
theorem koa2 : (2 : Int32).toInt = 2 := by decide
theorem koa8 : (8 : Int32).toInt = 8 := by decide
theorem oa3 {a0 a1 : Int} (h0 : a0 ≤ a1) (h1 : a0 = 120) : (((120 : Int) ≤ a1) ∧ (a1 = a1) ∧ (a1 = a1)) ∨ ((a1 < 120) ∧ (a1 = (a1 + 1)) ∧ (a1 = (a1 + 1))) := by omega
theorem oa4 {a0 a1 : Int} (h0 : a0 ≤ a1) (h1 : a0 = 120) : ¬ (a1 < 120) := by omega
theorem oa5 {a0 : Int} (h0 : (0 : Int) ≤ a0) : (0 : Int) ≤ a0 := oz3 h0
theorem oa6 {a0 a1 : Int} (h0 : a0 < a1) (h1 : a1 = 120) : a0 < 120 := oz986 h0 h1
theorem oa7 {a0 a1 : Int} (h0 : (0 : Int) ≤ a0) (h1 : a1 = 1) : (-2147483648 : Int) ≤ a0 + a1 := oz12 h0 h1
theorem oa8 {a0 a1 : Int} (h0 : a0 ≤ 120) (h1 : a1 = 1) : a0 + a1 ≤ 2147483647 := oz192 h0 h1
theorem oa9 {a0 a1 a2 : Int} (h0 : (0 : Int) ≤ a0) (h1 : a1 = a0 + a2) (h2 : a2 = 1) : (0 : Int) ≤ a1 := oz14 h0 h1 h2
theorem oa10 {a0 a1 a2 a3 : Int} (h0 : a0 < a1) (h1 : a2 = a0 + a3) (h2 : a1 = 120) (h3 : a3 = 1) : a2 ≤ 120 := oz987 h0 h1 h2 h3
theorem oa11 {a0 a1 a2 a3 : Int} (h0 : a0 < a1) (h1 : a2 = a0 + a3) (h2 : a1 = 120) (h3 : a3 = 1) : (((120 : Int) ≤ a0) ∧ (a2 = a0) ∧ (a2 = a0)) ∨ ((a0 < 120) ∧ (a2 = (a0 + 1)) ∧ (a2 = (a0 + 1))) := by omega
theorem oa12 {a0 a1 : Int} (h0 : a0 < a1) (h1 : a1 = 120) : ¬ ((120 : Int) ≤ a0) := by omega
theorem oa13 {a0 a1 a2 a3 a4 a5 a6 : Int} (h0 : a0 < a1) (h1 : a2 ≤ a3) (h2 : a3 ≤ a4) (h3 : (((120 : Int) ≤ a0) ∧ (a5 = a0) ∧ (a6 = a0)) ∨ ((a0 < 120) ∧ (a5 = (a0 + 1)) ∧ (a6 = (a0 + 1)))) (h4 : a1 = 120) (h5 : a2 = 0) (h6 : a4 = 255) : ((a5 = (-1)) ∧ (¬ (((0 : Int) ≤ a3) ∧ (a3 ≤ 255))) ∧ (a6 = a0)) ∨ (((0 : Int) ≤ a3) ∧ (a3 ≤ 255) ∧ (((a5 = (-3)) ∧ ((120 : Int) ≤ a0) ∧ (a6 = a0)) ∨ ((a0 < 120) ∧ (a5 = (a0 + 1)) ∧ (a6 = (a0 + 1))))) := by omega
theorem oa14 {a0 a1 a2 a3 a4 : Int} (h0 : a0 < a1) (h1 : a2 ≤ a3) (h2 : a3 ≤ a4) (h3 : a1 = 120) (h4 : a2 = 0) (h5 : a4 = 255) : ¬ (¬ (((0 : Int) ≤ a3) ∧ (a3 ≤ 255) ∧ (a0 < 120))) := by omega
theorem oa15 {a0 a1 a2 a3 a4 a5 : Int} (h0 : a0 ≤ a1) (h1 : a2 ≤ a3) (h2 : a3 ≤ a4) (h3 : a0 = 120) (h4 : a2 = 0) (h5 : a4 = 255) (h6 : a5 = (-3)) : ((a5 = (-1)) ∧ (¬ (((0 : Int) ≤ a3) ∧ (a3 ≤ 255))) ∧ (a1 = a1)) ∨ (((0 : Int) ≤ a3) ∧ (a3 ≤ 255) ∧ (((a5 = (-3)) ∧ ((120 : Int) ≤ a1) ∧ (a1 = a1)) ∨ ((a1 < 120) ∧ (a5 = (a1 + 1)) ∧ (a1 = (a1 + 1))))) := by omega
theorem oa16 {a0 a1 a2 : Int} (h0 : a0 ≤ a1) (h1 : a0 = 120) : ¬ (((0 : Int) ≤ a2) ∧ (a2 ≤ 255) ∧ (a1 < 120)) := by omega
theorem oa17 {a0 a1 a2 a3 a4 : Int} (h0 : ¬ ((a0 ≤ a1) ∧ (a1 ≤ a2))) (h1 : a0 = 0) (h2 : a2 = 255) (h3 : a3 = (-1)) : ((a3 = (-1)) ∧ (¬ (((0 : Int) ≤ a1) ∧ (a1 ≤ 255))) ∧ (a4 = a4)) ∨ (((0 : Int) ≤ a1) ∧ (a1 ≤ 255) ∧ (((a3 = (-3)) ∧ ((120 : Int) ≤ a4) ∧ (a4 = a4)) ∨ ((a4 < 120) ∧ (a3 = (a4 + 1)) ∧ (a4 = (a4 + 1))))) := by omega
theorem oa18 {a0 a1 a2 a3 : Int} (h0 : ¬ ((a0 ≤ a1) ∧ (a1 ≤ a2))) (h1 : a0 = 0) (h2 : a2 = 255) : ¬ (((0 : Int) ≤ a1) ∧ (a1 ≤ 255) ∧ (a3 < 120)) := by omega
theorem oa19 {a0 a1 a2 a3 : Int} (h0 : a0 ≠ a1) (h1 : a0 ≤ 120) (h2 : a2 = a0 + a3) (h3 : a1 = 120) (h4 : a3 = 1) : a2 ≤ 120 := oz193 h0 h1 h2 h3 h4
theorem oa20 {a0 a1 : Int} (h0 : a0 ≠ a1) (h1 : a0 ≤ 120) (h2 : a1 = 120) : a0 < 120 := oz194 h0 h1 h2
theorem oa21 {a0 a1 a2 a3 a4 a5 a6 : Int} (h0 : a0 ≠ a1) (h1 : a0 ≤ 120) (h2 : a2 = a0 + a3) (h3 : a4 ≤ a5) (h4 : a5 ≤ a6) (h5 : a1 = 120) (h6 : a3 = 1) (h7 : a4 = 0) (h8 : a6 = 255) : ((a2 = (-1)) ∧ (¬ (((0 : Int) ≤ a5) ∧ (a5 ≤ 255))) ∧ (a2 = a0)) ∨ (((0 : Int) ≤ a5) ∧ (a5 ≤ 255) ∧ (((a2 = (-3)) ∧ ((120 : Int) ≤ a0) ∧ (a2 = a0)) ∨ ((a0 < 120) ∧ (a2 = (a0 + 1)) ∧ (a2 = (a0 + 1))))) := by omega
theorem oa22 {a0 a1 a2 a3 a4 : Int} (h0 : a0 ≠ a1) (h1 : a0 ≤ 120) (h2 : a2 ≤ a3) (h3 : a3 ≤ a4) (h4 : a1 = 120) (h5 : a2 = 0) (h6 : a4 = 255) : ¬ (¬ (((0 : Int) ≤ a3) ∧ (a3 ≤ 255) ∧ (a0 < 120))) := by omega
theorem oa23 {a0 a1 a2 a3 a4 a5 : Int} (h0 : a0 = a1) (h1 : a2 ≤ a3) (h2 : a3 ≤ a4) (h3 : a1 = 120) (h4 : a2 = 0) (h5 : a4 = 255) (h6 : a5 = (-3)) : ((a5 = (-1)) ∧ (¬ (((0 : Int) ≤ a3) ∧ (a3 ≤ 255))) ∧ (a0 = a0)) ∨ (((0 : Int) ≤ a3) ∧ (a3 ≤ 255) ∧ (((a5 = (-3)) ∧ ((120 : Int) ≤ a0) ∧ (a0 = a0)) ∨ ((a0 < 120) ∧ (a5 = (a0 + 1)) ∧ (a0 = (a0 + 1))))) := by omega
theorem oa24 {a0 a1 a2 : Int} (h0 : a0 = a1) (h1 : a1 = 120) : ¬ (((0 : Int) ≤ a2) ∧ (a2 ≤ 255) ∧ (a0 < 120)) := by omega
theorem oa25 {a0 : Int} (h0 : a0 = 1) : (0 : Int) ≤ a0 := oz246 h0
theorem oa26 {a0 : Int} (h0 : a0 = 1) : a0 < 7 := oz1181 h0
theorem oa27 {a0 a1 a2 : Int} (h0 : a0 ≤ a1) (h1 : a1 ≤ a2) (h2 : a0 = 0) (h3 : a2 = 9) : ((0 : Int) ≤ a1) ∧ (a1 ≤ 9) := by omega
theorem oa28 {a0 a1 a2 : Int} (h0 : ¬ ((a0 ≤ a1) ∧ (a1 ≤ a2))) (h1 : a0 = 0) (h2 : a2 = 9) : ¬ (((0 : Int) ≤ a1) ∧ (a1 ≤ 9)) := by omega
theorem oa29 {a0 a1 a2 : Int} (h0 : ¬ ((a0 ≤ a1) ∧ (a1 ≤ a2))) (h1 : a0 = 0) (h2 : a1 = 1) (h3 : a2 = 6) : False := by omega
theorem oa30 {a0 : Int} (h0 : a0 = 2) : (0 : Int) ≤ a0 := oz256 h0
theorem oa31 {a0 : Int} (h0 : a0 = 2) : a0 < 7 := by omega
theorem oa32 {a0 a1 a2 : Int} (h0 : ¬ ((a0 ≤ a1) ∧ (a1 ≤ a2))) (h1 : a0 = 0) (h2 : a1 = 2) (h3 : a2 = 6) : False := by omega
theorem oa33 {a0 a1 : Int} (h0 : a0 < a1) (h1 : a1 = 8) : a0 < 8 := oz936 h0 h1
theorem oa34 {a0 a1 : Int} (h0 : a0 ≤ 8) (h1 : a1 = 1) : a0 + a1 ≤ 2147483647 := oz13 h0 h1
theorem oa35 {a0 a1 a2 a3 : Int} (h0 : a0 < a1) (h1 : a2 = a0 + a3) (h2 : a1 = 8) (h3 : a3 = 1) : a2 ≤ 8 := oz937 h0 h1 h2 h3
theorem oa36 {a0 a1 a2 : Int} (h0 : (0 : Int) ≤ a0) (h1 : a1 = a0 + a2) (h2 : a2 = 1) : (-2147483648 : Int) ≤ a1 - a2 := oz915 h0 h1 h2
theorem oa37 {a0 a1 a2 : Int} (h0 : a0 ≤ 8) (h1 : a1 = a0 + a2) (h2 : a2 = 1) : a1 - a2 ≤ 2147483647 := oz938 h0 h1 h2
theorem oa38 {a0 a1 a2 a3 a4 : Int} (h0 : a0 < a1) (h1 : a2 = a0 + a3) (h2 : a4 = a2 - a3) (h3 : a1 = 8) (h4 : a3 = 1) : (((8 : Int) ≤ a0) ∧ (a4 = (-3)) ∧ (a2 = a0)) ∨ ((a0 < 8) ∧ (a4 = a0) ∧ (a2 = (a0 + 1))) := by omega
theorem oa39 {a0 a1 a2 : Int} (h0 : a0 ≤ a1) (h1 : a0 = 8) (h2 : a2 = (-3)) : (((8 : Int) ≤ a1) ∧ (a2 = (-3)) ∧ (a1 = a1)) ∨ ((a1 < 8) ∧ (a2 = a1) ∧ (a1 = (a1 + 1))) := by omega
theorem oa40 {a0 a1 : Int} (h0 : a0 ≤ a1) (h1 : a0 = 8) : ¬ (a1 < 8) := by omega
theorem oa41 {a0 a1 a2 a3 a4 a5 : Int} (h0 : a0 < a1) (h1 : (0 : Int) ≤ a2) (h2 : a2 ≤ 9) (h3 : (0 : Int) ≤ a3) (h4 : a3 ≤ 9) (h5 : (((8 : Int) ≤ a0) ∧ (a4 = (-3)) ∧ (a5 = a0)) ∨ ((a0 < 8) ∧ (a4 = a0) ∧ (a5 = (a0 + 1)))) (h6 : a1 = 8) : ((a4 = (-1)) ∧ (¬ (((0 : Int) ≤ a2) ∧ (a2 ≤ 9) ∧ ((0 : Int) ≤ a3) ∧ (a3 ≤ 9))) ∧ (a5 = a0)) ∨ (((0 : Int) ≤ a2) ∧ (a2 ≤ 9) ∧ ((0 : Int) ≤ a3) ∧ (a3 ≤ 9) ∧ (((a4 = (-3)) ∧ ((8 : Int) ≤ a0) ∧ (a5 = a0)) ∨ ((a0 < 8) ∧ (a4 = a0) ∧ (a5 = (a0 + 1))))) := by omega
theorem oa42 {a0 a1 a2 a3 : Int} (h0 : a0 < a1) (h1 : (0 : Int) ≤ a2) (h2 : a2 ≤ 9) (h3 : (0 : Int) ≤ a3) (h4 : a3 ≤ 9) (h5 : a1 = 8) : ¬ (¬ (((0 : Int) ≤ a2) ∧ (a2 ≤ 9) ∧ ((0 : Int) ≤ a3) ∧ (a3 ≤ 9) ∧ (a0 < 8))) := by omega
theorem oa43 {a0 a1 a2 a3 a4 : Int} (h0 : a0 ≤ a1) (h1 : (0 : Int) ≤ a2) (h2 : a2 ≤ 9) (h3 : (0 : Int) ≤ a3) (h4 : a3 ≤ 9) (h5 : a0 = 8) (h6 : a4 = (-3)) : ((a4 = (-1)) ∧ (¬ (((0 : Int) ≤ a2) ∧ (a2 ≤ 9) ∧ ((0 : Int) ≤ a3) ∧ (a3 ≤ 9))) ∧ (a1 = a1)) ∨ (((0 : Int) ≤ a2) ∧ (a2 ≤ 9) ∧ ((0 : Int) ≤ a3) ∧ (a3 ≤ 9) ∧ (((a4 = (-3)) ∧ ((8 : Int) ≤ a1) ∧ (a1 = a1)) ∨ ((a1 < 8) ∧ (a4 = a1) ∧ (a1 = (a1 + 1))))) := by omega
theorem oa44 {a0 a1 a2 a3 : Int} (h0 : a0 ≤ a1) (h1 : a0 = 8) : ¬ (((0 : Int) ≤ a2) ∧ (a2 ≤ 9) ∧ ((0 : Int) ≤ a3) ∧ (a3 ≤ 9) ∧ (a1 < 8)) := by omega
theorem oa45 {a0 a1 a2 a3 : Int} (h0 : ¬ (((0 : Int) ≤ a0) ∧ (a0 ≤ 9))) (h1 : a1 = (-1)) : ((a1 = (-1)) ∧ (¬ (((0 : Int) ≤ a2) ∧ (a2 ≤ 9) ∧ ((0 : Int) ≤ a0) ∧ (a0 ≤ 9))) ∧ (a3 = a3)) ∨ (((0 : Int) ≤ a2) ∧ (a2 ≤ 9) ∧ ((0 : Int) ≤ a0) ∧ (a0 ≤ 9) ∧ (((a1 = (-3)) ∧ ((8 : Int) ≤ a3) ∧ (a3 = a3)) ∨ ((a3 < 8) ∧ (a1 = a3) ∧ (a3 = (a3 + 1))))) := by omega
theorem oa46 {a0 a1 a2 : Int} (h0 : ¬ (((0 : Int) ≤ a0) ∧ (a0 ≤ 9))) : ¬ (((0 : Int) ≤ a1) ∧ (a1 ≤ 9) ∧ ((0 : Int) ≤ a0) ∧ (a0 ≤ 9) ∧ (a2 < 8)) := by omega
theorem oa47 {a0 a1 a2 a3 : Int} (h0 : ¬ (((0 : Int) ≤ a0) ∧ (a0 ≤ 9))) (h1 : a1 = (-1)) : ((a1 = (-1)) ∧ (¬ (((0 : Int) ≤ a0) ∧ (a0 ≤ 9) ∧ ((0 : Int) ≤ a2) ∧ (a2 ≤ 9))) ∧ (a3 = a3)) ∨ (((0 : Int) ≤ a0) ∧ (a0 ≤ 9) ∧ ((0 : Int) ≤ a2) ∧ (a2 ≤ 9) ∧ (((a1 = (-3)) ∧ ((8 : Int) ≤ a3) ∧ (a3 = a3)) ∨ ((a3 < 8) ∧ (a1 = a3) ∧ (a3 = (a3 + 1))))) := by omega
theorem oa48 {a0 a1 a2 : Int} (h0 : ¬ (((0 : Int) ≤ a0) ∧ (a0 ≤ 9))) : ¬ (((0 : Int) ≤ a0) ∧ (a0 ≤ 9) ∧ ((0 : Int) ≤ a1) ∧ (a1 ≤ 9) ∧ (a2 < 8)) := by omega
theorem oa49 {a0 : Int} (h0 : a0 ≤ 8) : a0 < 31 := oz4 h0
theorem oa50 {a0 a1 : Int} (h0 : a0 ≤ 8) : a0 = 18 → (0 : Int) ≤ a1 ∧ a1 ≤ 5 := oz5 h0
theorem oa51 {a0 a1 : Int} (h0 : a0 ≤ 8) : 19 ≤ a0 → a0 ≤ 24 → (0 : Int) ≤ a1 ∧ a1 ≤ 7 := oz6 h0
theorem oa52 {a0 : Int} (h0 : a0 ≤ 8) : a0 < 24 := oz7 h0
theorem oa53 {a0 a1 : Int} (h0 : (0 : Int) ≤ a0) (h1 : a1 = 8) : (-2147483648 : Int) ≤ a1 + a0 := oz8 h0 h1
theorem oa54 {a0 a1 : Int} (h0 : a0 ≤ 8) (h1 : a1 = 8) : a1 + a0 ≤ 2147483647 := oz9 h0 h1
theorem oa55 {a0 a1 a2 : Int} (h0 : (0 : Int) ≤ a0) (h1 : a1 = a2 + a0) (h2 : a2 = 8) : (0 : Int) ≤ a1 := oz10 h0 h1 h2
theorem oa56 {a0 a1 a2 : Int} (h0 : a0 ≤ 8) (h1 : a1 = a2 + a0) (h2 : a2 = 8) : a1 < 24 := oz11 h0 h1 h2
theorem oa57 {a0 a1 a2 : Int} (h0 : a0 ≤ 7) (h1 : a1 = a0 + a2) (h2 : a2 = 1) : a1 ≤ 8 := oz15 h0 h1 h2
theorem oa58 {a0 a1 a2 : Int} (h0 : a0 = a1 + a2) (h1 : a2 = 1) : (a1 = a1) ∧ (a0 = (a1 + 1)) := by omega
theorem oa59 {a0 a1 : Int} (h0 : a0 ≠ a1) (h1 : a0 ≤ 8) (h2 : a1 = 8) : a0 ≤ 7 := oz16 h0 h1 h2
theorem oa60 {a0 a1 a2 a3 a4 a5 a6 : Int} (h0 : a0 ≤ 8) (h1 : a1 ≤ a2) (h2 : a2 ≤ a3) (h3 : a1 ≤ a4) (h4 : a4 ≤ a3) (h5 : a5 = a6) (h6 : a0 = (a6 + 1)) (h7 : a1 = 0) (h8 : a3 = 9) : ((a5 = (-1)) ∧ (¬ (((0 : Int) ≤ a2) ∧ (a2 ≤ 9) ∧ ((0 : Int) ≤ a4) ∧ (a4 ≤ 9))) ∧ (a0 = a6)) ∨ (((0 : Int) ≤ a2) ∧ (a2 ≤ 9) ∧ ((0 : Int) ≤ a4) ∧ (a4 ≤ 9) ∧ (((a5 = (-3)) ∧ ((8 : Int) ≤ a6) ∧ (a0 = a6)) ∨ ((a6 < 8) ∧ (a5 = a6) ∧ (a0 = (a6 + 1))))) := by omega
theorem oa61 {a0 a1 a2 a3 a4 a5 : Int} (h0 : a0 ≤ 8) (h1 : a1 ≤ a2) (h2 : a2 ≤ a3) (h3 : a1 ≤ a4) (h4 : a4 ≤ a3) (h5 : a0 = (a5 + 1)) (h6 : a1 = 0) (h7 : a3 = 9) : ¬ (¬ (((0 : Int) ≤ a2) ∧ (a2 ≤ 9) ∧ ((0 : Int) ≤ a4) ∧ (a4 ≤ 9) ∧ (a5 < 8))) := by omega
theorem oa62 {a0 a1 a2 a3 a4 a5 a6 : Int} (h0 : a0 = a1) (h1 : a2 ≤ a3) (h2 : a3 ≤ a4) (h3 : a2 ≤ a5) (h4 : a5 ≤ a4) (h5 : a1 = 8) (h6 : a2 = 0) (h7 : a4 = 9) (h8 : a6 = (-3)) : ((a6 = (-1)) ∧ (¬ (((0 : Int) ≤ a3) ∧ (a3 ≤ 9) ∧ ((0 : Int) ≤ a5) ∧ (a5 ≤ 9))) ∧ (a0 = a0)) ∨ (((0 : Int) ≤ a3) ∧ (a3 ≤ 9) ∧ ((0 : Int) ≤ a5) ∧ (a5 ≤ 9) ∧ (((a6 = (-3)) ∧ ((8 : Int) ≤ a0) ∧ (a0 = a0)) ∨ ((a0 < 8) ∧ (a6 = a0) ∧ (a0 = (a0 + 1))))) := by omega
theorem oa63 {a0 a1 a2 a3 : Int} (h0 : a0 = a1) (h1 : a1 = 8) : ¬ (((0 : Int) ≤ a2) ∧ (a2 ≤ 9) ∧ ((0 : Int) ≤ a3) ∧ (a3 ≤ 9) ∧ (a0 < 8)) := by omega
theorem oa64 {a0 a1 a2 a3 a4 a5 : Int} (h0 : ¬ ((a0 ≤ a1) ∧ (a1 ≤ a2))) (h1 : a0 = 0) (h2 : a2 = 9) (h3 : a3 = (-1)) : ((a3 = (-1)) ∧ (¬ (((0 : Int) ≤ a4) ∧ (a4 ≤ 9) ∧ ((0 : Int) ≤ a1) ∧ (a1 ≤ 9))) ∧ (a5 = a5)) ∨ (((0 : Int) ≤ a4) ∧ (a4 ≤ 9) ∧ ((0 : Int) ≤ a1) ∧ (a1 ≤ 9) ∧ (((a3 = (-3)) ∧ ((8 : Int) ≤ a5) ∧ (a5 = a5)) ∨ ((a5 < 8) ∧ (a3 = a5) ∧ (a5 = (a5 + 1))))) := by omega
theorem oa65 {a0 a1 a2 a3 a4 : Int} (h0 : ¬ ((a0 ≤ a1) ∧ (a1 ≤ a2))) (h1 : a0 = 0) (h2 : a2 = 9) : ¬ (((0 : Int) ≤ a3) ∧ (a3 ≤ 9) ∧ ((0 : Int) ≤ a1) ∧ (a1 ≤ 9) ∧ (a4 < 8)) := by omega
theorem oa66 {a0 a1 a2 a3 a4 a5 : Int} (h0 : ¬ ((a0 ≤ a1) ∧ (a1 ≤ a2))) (h1 : a0 = 0) (h2 : a2 = 9) (h3 : a3 = (-1)) : ((a3 = (-1)) ∧ (¬ (((0 : Int) ≤ a1) ∧ (a1 ≤ 9) ∧ ((0 : Int) ≤ a4) ∧ (a4 ≤ 9))) ∧ (a5 = a5)) ∨ (((0 : Int) ≤ a1) ∧ (a1 ≤ 9) ∧ ((0 : Int) ≤ a4) ∧ (a4 ≤ 9) ∧ (((a3 = (-3)) ∧ ((8 : Int) ≤ a5) ∧ (a5 = a5)) ∨ ((a5 < 8) ∧ (a3 = a5) ∧ (a5 = (a5 + 1))))) := by omega
theorem oa67 {a0 a1 a2 a3 a4 : Int} (h0 : ¬ ((a0 ≤ a1) ∧ (a1 ≤ a2))) (h1 : a0 = 0) (h2 : a2 = 9) : ¬ (((0 : Int) ≤ a1) ∧ (a1 ≤ 9) ∧ ((0 : Int) ≤ a3) ∧ (a3 ≤ 9) ∧ (a4 < 8)) := by omega
def yw42_98 : kW := ([6273], [99], [], [])
set_option maxRecDepth 100000 in
theorem ke42_98 {i : Nat → Int32} {a : Nat → List Int32} {q : Nat → List Int64} {r : Nat → Nat} (hI : kI i a q) (hr : kr r) (x1 : Int32) : km 1 42 [.ref 98, .int x1] (ks i a q r) (kVI yw42_98 i a q r (fun v i1 a1 q1 r1 => ((((120 : Int) ≤ (i 6273).toInt) ∧ (v.toInt = (i 6273).toInt) ∧ ((i1 6273).toInt = (i 6273).toInt)) ∨ (((i 6273).toInt < 120) ∧ (v.toInt = ((i 6273).toInt + 1)) ∧ ((i1 6273).toInt = ((i 6273).toInt + 1)))) ∧ (((i 6273).toInt < 120 → a1 99 = (a 99).set (i 6273).toNatClampNeg x1) ∧ ((120 : Int) ≤ (i 6273).toInt → a1 99 = a 99)))) := by
  have hG := kG_self yw42_98 hI hr
  refine km_ofI (q := (mi_h42, mi_c42)) rfl (by decide) (Nat.le_of_ble_eq_true rfl) ?_
  intro P hP
  have fi_6273 : ((0 : Int) ≤ (i 6273).toInt) ∧ ((i 6273).toInt ≤ 120) := hG.I.1 6273
  refine ft_go mi_k42 3 6 [(0, .ref 98), (1, .int x1)] [.int 120, .int (i 6273)] i a q r (by rfl) ?_
  refine ft_if mi_k42 (decide (120 ≤ (i 6273))) 29 9 [(0, .ref 98), (1, .int x1)] [] (by rfl) (fun c => ?_) (fun c => ?_)
  ·
    have c1 : (120 : Int32).toInt ≤ (i 6273).toInt := kd_le c; clear c
    refine ft_go mi_k42 2 33 [(0, .ref 98), (1, .int x1)] [.int (i 6273)] i a q r (by rfl) ?_
    exact ft_ret mi_k42 (by rfl) (hP (i 6273) _ _ _ _ hG ⟨(oa3 c1 koa120), ⟨(fun h => absurd h (oa4 c1 koa120)), (fun _ => (show a 99 = a 99 from rfl))⟩⟩)
  ·
    have c2 : (i 6273).toInt < (120 : Int32).toInt := kd_leF c; clear c
    refine ft_go mi_k42 5 18 [(0, .ref 98), (1, .int x1)] [.int x1, .int (i 6273), .ref 99] i a q r (by rfl) ?_
    refine ko_iast3 mi_k42.1 (n := 120) (c := 120) (ax := (0, 0, 0, 0, 0)) (mi_k42.2 _ _ (by rfl)) (by rfl) (ksG99 _ _ _ _) (ksA99 _ _ _ _) (hG.I.2.1 99) rfl (oa5 fi_6273.1) (oa6 c2 koa120) ?_
    intro a3 ea3 fa3
    have hJ3 := kG_a3 hG 99 rfl ea3 fa3 (kd_bd _)
    have s4 : ((i 6273) + 1).toInt = (i 6273).toInt + (1 : Int32).toInt := kd_add (oa7 fi_6273.1 koa1) (oa8 fi_6273.2 koa1)
    have hJ5 := kG_i hJ3 6273 rfl (v := ((i 6273) + 1)) ⟨(oa9 fi_6273.1 s4 koa1), (oa10 c2 s4 koa120 koa1)⟩
    refine ft_go mi_k42 8 33 [(0, .ref 98), (1, .int x1)] [.int ((i 6273) + 1)] (ku i 6273 ((i 6273) + 1)) a3 q r (by rfl) ?_
    exact ft_ret mi_k42 (by rfl) (hP ((i 6273) + 1) _ _ _ _ hJ5 ⟨(oa11 c2 s4 koa120 koa1), ⟨(fun _ => (show a3 99 = (a 99).set (i 6273).toNatClampNeg x1 from (by first | rfl | (simp only [ea3, sMn, sMx]; done) | (simp only [ea3, sMn, sMx]; rfl)))), (fun h => absurd h (oa12 c2 koa120))⟩⟩)
def yw85_0 : kW := ([6273], [99], [], [])
set_option maxRecDepth 100000 in
theorem ke85_0 {i : Nat → Int32} {a : Nat → List Int32} {q : Nat → List Int64} {r : Nat → Nat} (hI : kI i a q) (hr : kr r) (x1 : Int32) : km 3 85 [.ref 0, .int x1] (ks i a q r) (kVI yw85_0 i a q r (fun v i1 a1 q1 r1 => (((v.toInt = (-1)) ∧ (¬ (((0 : Int) ≤ x1.toInt) ∧ (x1.toInt ≤ 255))) ∧ ((i1 6273).toInt = (i 6273).toInt)) ∨ (((0 : Int) ≤ x1.toInt) ∧ (x1.toInt ≤ 255) ∧ (((v.toInt = (-3)) ∧ ((120 : Int) ≤ (i 6273).toInt) ∧ ((i1 6273).toInt = (i 6273).toInt)) ∨ (((i 6273).toInt < 120) ∧ (v.toInt = ((i 6273).toInt + 1)) ∧ ((i1 6273).toInt = ((i 6273).toInt + 1)))))) ∧ ((((0 : Int) ≤ x1.toInt) ∧ (x1.toInt ≤ 255) ∧ ((i 6273).toInt < 120) → a1 99 = (a 99).set (i 6273).toNatClampNeg x1) ∧ (¬ (((0 : Int) ≤ x1.toInt) ∧ (x1.toInt ≤ 255) ∧ ((i 6273).toInt < 120)) → a1 99 = a 99)))) := by
  have hG := kG_self yw85_0 hI hr
  refine km_ofI (q := (mi_h85, mi_c85)) rfl (by decide) (Nat.le_of_ble_eq_true rfl) ?_
  intro P hP
  refine ft_go mi_k85 3 5 [(0, .ref 0), (1, .int x1)] [.int 255, .int 0, .int x1] i a q r (by rfl) ?_
  refine ko_callPI mi_k85.1 (pc := 5) (ls := [(0, .ref 0), (1, .int x1)]) (st := [.int 255, .int 0, .int x1]) (h := ks i a q r) (i := (.invokestatic 74, 3, 120, 0, 9, 0, 152)) (mi_k85.2 _ _ (by rfl)) (ft_invS mi_pq120 (by rfl)) (cy := mi_c120) mi_pq120 rfl (kc120 hG.I hG.R x1 0 255) (by decide) ?_
  intro vg1 hg1
  rcases hg1 with ⟨eg1, hg1⟩ | ⟨eg1, hg1⟩
  ·
    subst eg1
    have z2 : ((0 : Int32).toInt ≤ x1.toInt) ∧ (x1.toInt ≤ (255 : Int32).toInt) := hg1
    refine ft_go mi_k85 5 22 [(0, .ref 0), (1, .int x1)] [.int 120, .int (i 6273)] i a q r (by rfl) ?_
    refine ft_if mi_k85 (decide ((i 6273) < 120)) 30 25 [(0, .ref 0), (1, .int x1)] [] (by rfl) (fun c => ?_) (fun c => ?_)
    ·
      have c3 : (i 6273).toInt < (120 : Int32).toInt := kd_lt c; clear c
      refine ft_go mi_k85 3 35 [(0, .ref 0), (1, .int x1)] [.int x1, .ref 98] i a q r (by rfl) ?_
      refine ko_callI mi_k85.1 (pc := 35) (ls := [(0, .ref 0), (1, .int x1)]) (st := [.int x1, .ref 98]) (h := ks i a q r) (i := (.invokevirtual 110, 3, 42, 0, 9, 0, 173)) (mi_k85.2 _ _ (by rfl)) (ft_invS mi_pq42 (by rfl)) (cy := mi_c42) mi_pq42 rfl (ke42_98 hG.I hG.R x1) (by decide) ?_
      intro vg4 ig4 ag4 qg4 rg4 kg4 hg4
      have hGg4 := kG_call hG kg4 (by decide +kernel)
      obtain ⟨hg4, og4⟩ := hg4
      have z5 : (((120 : Int) ≤ (i 6273).toInt) ∧ (vg4.toInt = (i 6273).toInt) ∧ ((ig4 6273).toInt = (i 6273).toInt)) ∨ (((i 6273).toInt < 120) ∧ (vg4.toInt = ((i 6273).toInt + 1)) ∧ ((ig4 6273).toInt = ((i 6273).toInt + 1))) := hg4
      have q6 : ag4 99 = (a 99).set (i 6273).toNatClampNeg x1 := og4.1 (oa6 c3 koa120)
      exact ft_ret mi_k85 (by rfl) (hP vg4 _ _ _ _ hGg4 ⟨(oa13 c3 z2.1 z2.2 z5 koa120 koa0 koa255), ⟨(fun _ => (show ag4 99 = (a 99).set (i 6273).toNatClampNeg x1 from (by first | rfl | (simp only [q6, sMn, sMx]; done) | (simp only [q6, sMn, sMx]; rfl)))), (fun h => absurd h (oa14 c3 z2.1 z2.2 koa120 koa0 koa255))⟩⟩)
    ·
      have c7 : (120 : Int32).toInt ≤ (i 6273).toInt := kd_ltF c; clear c
      refine ft_go mi_k85 2 38 [(0, .ref 0), (1, .int x1)] [.int (-3)] i a q r (by rfl) ?_
      exact ft_ret mi_k85 (by rfl) (hP (-3) _ _ _ _ hG ⟨(oa15 c7 z2.1 z2.2 koa120 koa0 koa255 koam3), ⟨(fun h => absurd h (oa16 c7 koa120)), (fun _ => (show a 99 = a 99 from rfl))⟩⟩)
  ·
    subst eg1
    have z8 : ¬ (((0 : Int32).toInt ≤ x1.toInt) ∧ (x1.toInt ≤ (255 : Int32).toInt)) := hg1
    refine ft_go mi_k85 2 12 [(0, .ref 0), (1, .int x1)] [.int (-1)] i a q r (by rfl) ?_
    exact ft_ret mi_k85 (by rfl) (hP (-1) _ _ _ _ hG ⟨(oa17 z8 koa0 koa255 koam1), ⟨(fun h => absurd h (oa18 z8 koa0 koa255)), (fun _ => (show a 99 = a 99 from rfl))⟩⟩)
def yw146_116 : kW := ([7429], [119], [], [])
set_option maxRecDepth 100000 in
theorem ke146_116 {i : Nat → Int32} {a : Nat → List Int32} {q : Nat → List Int64} {r : Nat → Nat} (hI : kI i a q) (hr : kr r) (x1 : Int32) : km 3 146 [.ref 116, .int x1] (ks i a q r) (kVI yw146_116 i a q r (fun v i1 a1 q1 r1 => (((v.toInt = (-1)) ∧ (¬ (((0 : Int) ≤ x1.toInt) ∧ (x1.toInt ≤ 255))) ∧ ((i1 7429).toInt = (i 7429).toInt)) ∨ (((0 : Int) ≤ x1.toInt) ∧ (x1.toInt ≤ 255) ∧ (((v.toInt = (-3)) ∧ ((120 : Int) ≤ (i 7429).toInt) ∧ ((i1 7429).toInt = (i 7429).toInt)) ∨ (((i 7429).toInt < 120) ∧ (v.toInt = ((i 7429).toInt + 1)) ∧ ((i1 7429).toInt = ((i 7429).toInt + 1)))))) ∧ ((((0 : Int) ≤ x1.toInt) ∧ (x1.toInt ≤ 255) ∧ ((i 7429).toInt < 120) → a1 119 = (a 119).set (i 7429).toNatClampNeg x1) ∧ (¬ (((0 : Int) ≤ x1.toInt) ∧ (x1.toInt ≤ 255) ∧ ((i 7429).toInt < 120)) → a1 119 = a 119)))) := by
  have hG := kG_self yw146_116 hI hr
  refine km_ofI (q := (mi_h146, mi_c146)) rfl (by decide) (Nat.le_of_ble_eq_true rfl) ?_
  intro P hP
  refine ft_go mi_k146 3 5 [(0, .ref 116), (1, .int x1)] [.int 255, .int 0, .int x1] i a q r (by rfl) ?_
  refine ko_callPI mi_k146.1 (pc := 5) (ls := [(0, .ref 116), (1, .int x1)]) (st := [.int 255, .int 0, .int x1]) (h := ks i a q r) (i := (.invokestatic 119, 3, 131, 0, 9, 0, 379)) (mi_k146.2 _ _ (by rfl)) (ft_invS mi_pq131 (by rfl)) (cy := mi_c131) mi_pq131 rfl (kc131 hG.I hG.R x1 0 255) (by decide) ?_
  intro vg1 hg1
  rcases hg1 with ⟨eg1, hg1⟩ | ⟨eg1, hg1⟩
  ·
    subst eg1
    have z2 : ((0 : Int32).toInt ≤ x1.toInt) ∧ (x1.toInt ≤ (255 : Int32).toInt) := hg1
    have fi_7429 : ((0 : Int) ≤ (i 7429).toInt) ∧ ((i 7429).toInt ≤ 120) := hG.I.1 7429
    refine ft_go mi_k146 4 19 [(0, .ref 116), (1, .int x1)] [.int 120, .int (i 7429)] i a q r (by rfl) ?_
    refine ft_if mi_k146 ((i 7429) != 120) 25 22 [(0, .ref 116), (1, .int x1)] [] (by rfl) (fun c => ?_) (fun c => ?_)
    ·
      have c3 : (i 7429).toInt ≠ (120 : Int32).toInt := kd_ne c; clear c
      have s4 : ((i 7429) + 1).toInt = (i 7429).toInt + (1 : Int32).toInt := kd_add (oa7 fi_7429.1 koa1) (oa8 fi_7429.2 koa1)
      have hJ5 := kG_i hG 7429 rfl (v := ((i 7429) + 1)) ⟨(oa9 fi_7429.1 s4 koa1), (oa19 c3 fi_7429.2 s4 koa120 koa1)⟩
      refine ft_go mi_k146 10 41 [(0, .ref 116), (1, .int x1)] [.int x1, .int (i 7429), .ref 119] (ku i 7429 ((i 7429) + 1)) a q r (by rfl) ?_
      refine ko_iast3 mi_k146.1 (n := 120) (c := 120) (ax := (0, 0, 0, 0, 0)) (mi_k146.2 _ _ (by rfl)) (by rfl) (ksG119 _ _ _ _) (ksA119 _ _ _ _) (hJ5.I.2.1 119) rfl (oa5 fi_7429.1) (oa20 c3 fi_7429.2 koa120) ?_
      intro a6 ea6 fa6
      have hJ6 := kG_a3 hJ5 119 rfl ea6 fa6 (kd_bd _)
      refine ft_go mi_k146 2 46 [(0, .ref 116), (1, .int x1)] [.int ((i 7429) + 1)] (ku i 7429 ((i 7429) + 1)) a6 q r (by rfl) ?_
      exact ft_ret mi_k146 (by rfl) (hP ((i 7429) + 1) _ _ _ _ hJ6 ⟨(oa21 c3 fi_7429.2 s4 z2.1 z2.2 koa120 koa1 koa0 koa255), ⟨(fun _ => (show a6 119 = (a 119).set (i 7429).toNatClampNeg x1 from (by first | rfl | (simp only [ea6, sMn, sMx]; done) | (simp only [ea6, sMn, sMx]; rfl)))), (fun h => absurd h (oa22 c3 fi_7429.2 z2.1 z2.2 koa120 koa0 koa255))⟩⟩)
    ·
      have c7 : (i 7429).toInt = (120 : Int32).toInt := kd_neF c; clear c
      refine ft_go mi_k146 1 24 [(0, .ref 116), (1, .int x1)] [.int (-3)] i a q r (by rfl) ?_
      exact ft_ret mi_k146 (by rfl) (hP (-3) _ _ _ _ hG ⟨(oa23 c7 z2.1 z2.2 koa120 koa0 koa255 koam3), ⟨(fun h => absurd h (oa24 c7 koa120)), (fun _ => (show a 119 = a 119 from rfl))⟩⟩)
  ·
    subst eg1
    have z8 : ¬ (((0 : Int32).toInt ≤ x1.toInt) ∧ (x1.toInt ≤ (255 : Int32).toInt)) := hg1
    refine ft_go mi_k146 2 12 [(0, .ref 116), (1, .int x1)] [.int (-1)] i a q r (by rfl) ?_
    exact ft_ret mi_k146 (by rfl) (hP (-1) _ _ _ _ hG ⟨(oa17 z8 koa0 koa255 koam1), ⟨(fun h => absurd h (oa18 z8 koa0 koa255)), (fun _ => (show a 119 = a 119 from rfl))⟩⟩)
set_option maxRecDepth 100000 in
theorem ke126_l01 {i : Nat → Int32} {a : Nat → List Int32} {q : Nat → List Int64} {r : Nat → Nat} (hI : kI i a q) (hr : kr r) (x2 : Int32) : km 3 126 [.int 1, .int x2] (ks i a q r) (kPI (ks i a q r) (fun v => (v = 1 ∧ (((0 : Int) ≤ x2.toInt) ∧ (x2.toInt ≤ 9))) ∨ (v = 0 ∧ (¬ (((0 : Int) ≤ x2.toInt) ∧ (x2.toInt ≤ 9)))))) := by
  have hG := kG_self kW0 hI hr
  refine km_ofPI (q := (mi_h126, mi_c126)) rfl (by decide) (Nat.le_of_ble_eq_true rfl) ?_
  intro P hP
  refine ft_go mi_k126 3 4 [(0, .int 1), (1, .int x2)] [.int 6, .int 0, .int 1] i a q r (by rfl) ?_
  refine ko_callPI mi_k126.1 (pc := 4) (ls := [(0, .int 1), (1, .int x2)]) (st := [.int 6, .int 0, .int 1]) (h := ks i a q r) (i := (.invokestatic 74, 3, 120, 0, 9, 0, 152)) (mi_k126.2 _ _ (by rfl)) (ft_invS mi_pq120 (by rfl)) (cy := mi_c120) mi_pq120 rfl (kc120 hG.I hG.R 1 0 6) (by decide) ?_
  intro vg1 hg1
  rcases hg1 with ⟨eg1, hg1⟩ | ⟨eg1, hg1⟩
  ·
    subst eg1
    refine ft_go mi_k126 4 15 [(0, .int 1), (1, .int x2)] [.int 1, .ref (mi_RO + 1), .int x2] i a q r (by rfl) ?_
    refine ko_iaro2 mi_k126.1 (l := [0, 0, 0, 0, 1, 0, 0]) (n := 7) (c := 7) (ax := (0, 0, 0, 0, 0)) (mi_k126.2 _ _ (by rfl)) (by rfl) (by rfl) rfl rfl (oa25 koa1) (oa26 koa1) ?_
    have r3 : ((0 : Int) ≤ (([0, 0, 0, 0, 1, 0, 0] : List Int32).getD (1 : Int32).toNatClampNeg 0).toInt) ∧ ((([0, 0, 0, 0, 1, 0, 0] : List Int32).getD (1 : Int32).toNatClampNeg 0).toInt ≤ 1) := kro_rng (lo := 0) (hi := 1) (by decide) ((1 : Int32).toNatClampNeg)
    refine ko_eq (x1 := (16, [(0, .int 1), (1, .int x2)], [.int 0, .int x2], (0, 0), ks i a q r)) (by rw [(by decide : (([0, 0, 0, 0, 1, 0, 0] : List Int32).getD (1 : Int32).toNatClampNeg 0) = 0)]) ?_
    refine ft_go mi_k126 2 20 [(0, .int 1), (1, .int x2)] [.int 1, .ref (mi_RO + 2), .int 0, .int x2] i a q r (by rfl) ?_
    refine ko_iaro2 mi_k126.1 (l := [999, 9, 9, 1, 5, 1, 99]) (n := 7) (c := 7) (ax := (0, 0, 0, 0, 0)) (mi_k126.2 _ _ (by rfl)) (by rfl) (by rfl) rfl rfl (oa25 koa1) (oa26 koa1) ?_
    have r4 : ((0 : Int) ≤ (([999, 9, 9, 1, 5, 1, 99] : List Int32).getD (1 : Int32).toNatClampNeg 0).toInt) ∧ ((([999, 9, 9, 1, 5, 1, 99] : List Int32).getD (1 : Int32).toNatClampNeg 0).toInt ≤ 999) := kro_rng (lo := 0) (hi := 999) (by decide) ((1 : Int32).toNatClampNeg)
    refine ko_eq (x1 := (21, [(0, .int 1), (1, .int x2)], [.int 9, .int 0, .int x2], (0, 0), ks i a q r)) (by rw [(by decide : (([999, 9, 9, 1, 5, 1, 99] : List Int32).getD (1 : Int32).toNatClampNeg 0) = 9)]) ?_
    refine ko_callPI mi_k126.1 (pc := 21) (ls := [(0, .int 1), (1, .int x2)]) (st := [.int 9, .int 0, .int x2]) (h := ks i a q r) (i := (.invokestatic 74, 3, 120, 0, 9, 0, 152)) (mi_k126.2 _ _ (by rfl)) (ft_invS mi_pq120 (by rfl)) (cy := mi_c120) mi_pq120 rfl (kc120 hG.I hG.R x2 0 9) (by decide) ?_
    intro vg5 hg5
    rcases hg5 with ⟨eg5, hg5⟩ | ⟨eg5, hg5⟩
    ·
      subst eg5
      have z6 : ((0 : Int32).toInt ≤ x2.toInt) ∧ (x2.toInt ≤ (9 : Int32).toInt) := hg5
      refine ft_go mi_k126 3 32 [(0, .int 1), (1, .int x2)] [.int 1] i a q r (by rfl) ?_
      exact ft_ret mi_k126 (by rfl) (hP 1 (Or.inl ⟨rfl, (oa27 z6.1 z6.2 koa0 koa9)⟩))
    ·
      subst eg5
      have z7 : ¬ (((0 : Int32).toInt ≤ x2.toInt) ∧ (x2.toInt ≤ (9 : Int32).toInt)) := hg5
      refine ft_go mi_k126 2 32 [(0, .int 1), (1, .int x2)] [.int 0] i a q r (by rfl) ?_
      exact ft_ret mi_k126 (by rfl) (hP 0 (Or.inr ⟨rfl, (oa28 z7 koa0 koa9)⟩))
  ·
    subst eg1
    have z8 : ¬ (((0 : Int32).toInt ≤ (1 : Int32).toInt) ∧ ((1 : Int32).toInt ≤ (6 : Int32).toInt)) := hg1
    exact (oa29 z8 koa0 koa1 koa6).elim
set_option maxRecDepth 100000 in
theorem ke126_l02 {i : Nat → Int32} {a : Nat → List Int32} {q : Nat → List Int64} {r : Nat → Nat} (hI : kI i a q) (hr : kr r) (x2 : Int32) : km 3 126 [.int 2, .int x2] (ks i a q r) (kPI (ks i a q r) (fun v => (v = 1 ∧ (((0 : Int) ≤ x2.toInt) ∧ (x2.toInt ≤ 9))) ∨ (v = 0 ∧ (¬ (((0 : Int) ≤ x2.toInt) ∧ (x2.toInt ≤ 9)))))) := by
  have hG := kG_self kW0 hI hr
  refine km_ofPI (q := (mi_h126, mi_c126)) rfl (by decide) (Nat.le_of_ble_eq_true rfl) ?_
  intro P hP
  refine ft_go mi_k126 3 4 [(0, .int 2), (1, .int x2)] [.int 6, .int 0, .int 2] i a q r (by rfl) ?_
  refine ko_callPI mi_k126.1 (pc := 4) (ls := [(0, .int 2), (1, .int x2)]) (st := [.int 6, .int 0, .int 2]) (h := ks i a q r) (i := (.invokestatic 74, 3, 120, 0, 9, 0, 152)) (mi_k126.2 _ _ (by rfl)) (ft_invS mi_pq120 (by rfl)) (cy := mi_c120) mi_pq120 rfl (kc120 hG.I hG.R 2 0 6) (by decide) ?_
  intro vg1 hg1
  rcases hg1 with ⟨eg1, hg1⟩ | ⟨eg1, hg1⟩
  ·
    subst eg1
    refine ft_go mi_k126 4 15 [(0, .int 2), (1, .int x2)] [.int 2, .ref (mi_RO + 1), .int x2] i a q r (by rfl) ?_
    refine ko_iaro2 mi_k126.1 (l := [0, 0, 0, 0, 1, 0, 0]) (n := 7) (c := 7) (ax := (0, 0, 0, 0, 0)) (mi_k126.2 _ _ (by rfl)) (by rfl) (by rfl) rfl rfl (oa30 koa2) (oa31 koa2) ?_
    have r3 : ((0 : Int) ≤ (([0, 0, 0, 0, 1, 0, 0] : List Int32).getD (2 : Int32).toNatClampNeg 0).toInt) ∧ ((([0, 0, 0, 0, 1, 0, 0] : List Int32).getD (2 : Int32).toNatClampNeg 0).toInt ≤ 1) := kro_rng (lo := 0) (hi := 1) (by decide) ((2 : Int32).toNatClampNeg)
    refine ko_eq (x1 := (16, [(0, .int 2), (1, .int x2)], [.int 0, .int x2], (0, 0), ks i a q r)) (by rw [(by decide : (([0, 0, 0, 0, 1, 0, 0] : List Int32).getD (2 : Int32).toNatClampNeg 0) = 0)]) ?_
    refine ft_go mi_k126 2 20 [(0, .int 2), (1, .int x2)] [.int 2, .ref (mi_RO + 2), .int 0, .int x2] i a q r (by rfl) ?_
    refine ko_iaro2 mi_k126.1 (l := [999, 9, 9, 1, 5, 1, 99]) (n := 7) (c := 7) (ax := (0, 0, 0, 0, 0)) (mi_k126.2 _ _ (by rfl)) (by rfl) (by rfl) rfl rfl (oa30 koa2) (oa31 koa2) ?_
    have r4 : ((0 : Int) ≤ (([999, 9, 9, 1, 5, 1, 99] : List Int32).getD (2 : Int32).toNatClampNeg 0).toInt) ∧ ((([999, 9, 9, 1, 5, 1, 99] : List Int32).getD (2 : Int32).toNatClampNeg 0).toInt ≤ 999) := kro_rng (lo := 0) (hi := 999) (by decide) ((2 : Int32).toNatClampNeg)
    refine ko_eq (x1 := (21, [(0, .int 2), (1, .int x2)], [.int 9, .int 0, .int x2], (0, 0), ks i a q r)) (by rw [(by decide : (([999, 9, 9, 1, 5, 1, 99] : List Int32).getD (2 : Int32).toNatClampNeg 0) = 9)]) ?_
    refine ko_callPI mi_k126.1 (pc := 21) (ls := [(0, .int 2), (1, .int x2)]) (st := [.int 9, .int 0, .int x2]) (h := ks i a q r) (i := (.invokestatic 74, 3, 120, 0, 9, 0, 152)) (mi_k126.2 _ _ (by rfl)) (ft_invS mi_pq120 (by rfl)) (cy := mi_c120) mi_pq120 rfl (kc120 hG.I hG.R x2 0 9) (by decide) ?_
    intro vg5 hg5
    rcases hg5 with ⟨eg5, hg5⟩ | ⟨eg5, hg5⟩
    ·
      subst eg5
      have z6 : ((0 : Int32).toInt ≤ x2.toInt) ∧ (x2.toInt ≤ (9 : Int32).toInt) := hg5
      refine ft_go mi_k126 3 32 [(0, .int 2), (1, .int x2)] [.int 1] i a q r (by rfl) ?_
      exact ft_ret mi_k126 (by rfl) (hP 1 (Or.inl ⟨rfl, (oa27 z6.1 z6.2 koa0 koa9)⟩))
    ·
      subst eg5
      have z7 : ¬ (((0 : Int32).toInt ≤ x2.toInt) ∧ (x2.toInt ≤ (9 : Int32).toInt)) := hg5
      refine ft_go mi_k126 2 32 [(0, .int 2), (1, .int x2)] [.int 0] i a q r (by rfl) ?_
      exact ft_ret mi_k126 (by rfl) (hP 0 (Or.inr ⟨rfl, (oa28 z7 koa0 koa9)⟩))
  ·
    subst eg1
    have z8 : ¬ (((0 : Int32).toInt ≤ (2 : Int32).toInt) ∧ ((2 : Int32).toInt ≤ (6 : Int32).toInt)) := hg1
    exact (oa32 z8 koa0 koa2 koa6).elim
def yw25_1 : kW := ([64], [2, 3, 4, 5, 6], [], [])
set_option maxRecDepth 100000 in
theorem ke25_1 {i : Nat → Int32} {a : Nat → List Int32} {q : Nat → List Int64} {r : Nat → Nat} (hI : kI i a q) (hr : kr r) (x1 : Int32) (x2 : Int32) (x3 : Int32) : km 1 25 [.ref 1, .int x1, .int x2, .int x3] (ks i a q r) (kVI yw25_1 i a q r (fun v i1 a1 q1 r1 => ((((8 : Int) ≤ (i 64).toInt) ∧ (v.toInt = (-3)) ∧ ((i1 64).toInt = (i 64).toInt)) ∨ (((i 64).toInt < 8) ∧ (v.toInt = (i 64).toInt) ∧ ((i1 64).toInt = ((i 64).toInt + 1)))) ∧ (((i 64).toInt < 8 → a1 2 = (a 2).set (i 64).toNatClampNeg x1) ∧ ((i 64).toInt < 8 → a1 3 = (a 3).set (i 64).toNatClampNeg x2) ∧ ((i 64).toInt < 8 → a1 4 = (a 4).set (i 64).toNatClampNeg x3) ∧ ((i 64).toInt < 8 → a1 5 = (a 5).set (i 64).toNatClampNeg 0) ∧ ((i 64).toInt < 8 → a1 6 = (a 6).set (i 64).toNatClampNeg 0)))) := by
  have hG := kG_self yw25_1 hI hr
  refine km_ofI (q := (mi_h25, mi_c25)) rfl (by decide) (Nat.le_of_ble_eq_true rfl) ?_
  intro P hP
  have fi_64 : ((0 : Int) ≤ (i 64).toInt) ∧ ((i 64).toInt ≤ 8) := hG.I.1 64
  refine ft_go mi_k25 3 6 [(0, .ref 1), (1, .int x1), (2, .int x2), (3, .int x3)] [.int 8, .int (i 64)] i a q r (by rfl) ?_
  refine ft_if mi_k25 (decide ((i 64) < 8)) 12 9 [(0, .ref 1), (1, .int x1), (2, .int x2), (3, .int x3)] [] (by rfl) (fun c => ?_) (fun c => ?_)
  ·
    have c1 : (i 64).toInt < (8 : Int32).toInt := kd_lt c; clear c
    refine ft_go mi_k25 5 21 [(0, .ref 1), (1, .int x1), (2, .int x2), (3, .int x3)] [.int x1, .int (i 64), .ref 2] i a q r (by rfl) ?_
    refine ko_iast3 mi_k25.1 (n := 8) (c := 8) (ax := (0, 0, 0, 0, 0)) (mi_k25.2 _ _ (by rfl)) (by rfl) (ksG2 _ _ _ _) (ksA2 _ _ _ _) (hG.I.2.1 2) rfl (oa5 fi_64.1) (oa33 c1 koa8) ?_
    intro a2 ea2 fa2
    have hJ2 := kG_a3 hG 2 rfl ea2 fa2 (kd_bd _)
    refine ft_go mi_k25 5 31 [(0, .ref 1), (1, .int x1), (2, .int x2), (3, .int x3)] [.int x2, .int (i 64), .ref 3] i a2 q r (by rfl) ?_
    refine ko_iast3 mi_k25.1 (n := 8) (c := 8) (ax := (0, 0, 0, 0, 0)) (mi_k25.2 _ _ (by rfl)) (by rfl) (ksG3 _ _ _ _) (ksA3 _ _ _ _) (hJ2.I.2.1 3) rfl (oa5 fi_64.1) (oa33 c1 koa8) ?_
    intro a3 ea3 fa3
    have hJ3 := kG_a3 hJ2 3 rfl ea3 fa3 (kd_bd _)
    refine ft_go mi_k25 5 41 [(0, .ref 1), (1, .int x1), (2, .int x2), (3, .int x3)] [.int x3, .int (i 64), .ref 4] i a3 q r (by rfl) ?_
    refine ko_iast3 mi_k25.1 (n := 8) (c := 8) (ax := (0, 0, 0, 0, 0)) (mi_k25.2 _ _ (by rfl)) (by rfl) (ksG4 _ _ _ _) (ksA4 _ _ _ _) (hJ3.I.2.1 4) rfl (oa5 fi_64.1) (oa33 c1 koa8) ?_
    intro a4 ea4 fa4
    have hJ4 := kG_a3 hJ3 4 rfl ea4 fa4 (kd_bd _)
    refine ft_go mi_k25 5 51 [(0, .ref 1), (1, .int x1), (2, .int x2), (3, .int x3)] [.int 0, .int (i 64), .ref 5] i a4 q r (by rfl) ?_
    refine ko_iast3 mi_k25.1 (n := 8) (c := 8) (ax := (0, 0, 0, 0, 0)) (mi_k25.2 _ _ (by rfl)) (by rfl) (ksG5 _ _ _ _) (ksA5 _ _ _ _) (hJ4.I.2.1 5) rfl (oa5 fi_64.1) (oa33 c1 koa8) ?_
    intro a5 ea5 fa5
    have hJ5 := kG_a3 hJ4 5 rfl ea5 fa5 (kd_bd _)
    refine ft_go mi_k25 5 61 [(0, .ref 1), (1, .int x1), (2, .int x2), (3, .int x3)] [.int 0, .int (i 64), .ref 6] i a5 q r (by rfl) ?_
    refine ko_iast3 mi_k25.1 (n := 8) (c := 8) (ax := (0, 0, 0, 0, 0)) (mi_k25.2 _ _ (by rfl)) (by rfl) (ksG6 _ _ _ _) (ksA6 _ _ _ _) (hJ5.I.2.1 6) rfl (oa5 fi_64.1) (oa33 c1 koa8) ?_
    intro a6 ea6 fa6
    have hJ6 := kG_a3 hJ5 6 rfl ea6 fa6 (kd_bd _)
    have s7 : ((i 64) + 1).toInt = (i 64).toInt + (1 : Int32).toInt := kd_add (oa7 fi_64.1 koa1) (oa34 fi_64.2 koa1)
    have hJ8 := kG_i hJ6 64 rfl (v := ((i 64) + 1)) ⟨(oa9 fi_64.1 s7 koa1), (oa35 c1 s7 koa8 koa1)⟩
    have s9 : (((i 64) + 1) - 1).toInt = ((i 64) + 1).toInt - (1 : Int32).toInt := kd_sub (oa36 fi_64.1 s7 koa1) (oa37 fi_64.2 s7 koa1)
    refine ft_go mi_k25 10 78 [(0, .ref 1), (1, .int x1), (2, .int x2), (3, .int x3)] [.int (((i 64) + 1) - 1)] (ku i 64 ((i 64) + 1)) a6 q r (by rfl) ?_
    exact ft_ret mi_k25 (by rfl) (hP (((i 64) + 1) - 1) _ _ _ _ hJ8 ⟨(oa38 c1 s7 s9 koa8 koa1), ⟨(fun _ => (show a6 2 = (a 2).set (i 64).toNatClampNeg x1 from (by first | rfl | (simp only [fa6 2 (by decide), fa5 2 (by decide), fa4 2 (by decide), fa3 2 (by decide), ea2, sMn, sMx]; done) | (simp only [fa6 2 (by decide), fa5 2 (by decide), fa4 2 (by decide), fa3 2 (by decide), ea2, sMn, sMx]; rfl)))), (fun _ => (show a6 3 = (a 3).set (i 64).toNatClampNeg x2 from (by first | rfl | (simp only [fa6 3 (by decide), fa5 3 (by decide), fa4 3 (by decide), ea3, fa2 3 (by decide), sMn, sMx]; done) | (simp only [fa6 3 (by decide), fa5 3 (by decide), fa4 3 (by decide), ea3, fa2 3 (by decide), sMn, sMx]; rfl)))), (fun _ => (show a6 4 = (a 4).set (i 64).toNatClampNeg x3 from (by first | rfl | (simp only [fa6 4 (by decide), fa5 4 (by decide), ea4, fa3 4 (by decide), fa2 4 (by decide), sMn, sMx]; done) | (simp only [fa6 4 (by decide), fa5 4 (by decide), ea4, fa3 4 (by decide), fa2 4 (by decide), sMn, sMx]; rfl)))), (fun _ => (show a6 5 = (a 5).set (i 64).toNatClampNeg 0 from (by first | rfl | (simp only [fa6 5 (by decide), ea5, fa4 5 (by decide), fa3 5 (by decide), fa2 5 (by decide), sMn, sMx]; done) | (simp only [fa6 5 (by decide), ea5, fa4 5 (by decide), fa3 5 (by decide), fa2 5 (by decide), sMn, sMx]; rfl)))), (fun _ => (show a6 6 = (a 6).set (i 64).toNatClampNeg 0 from (by first | rfl | (simp only [ea6, fa5 6 (by decide), fa4 6 (by decide), fa3 6 (by decide), fa2 6 (by decide), sMn, sMx]; done) | (simp only [ea6, fa5 6 (by decide), fa4 6 (by decide), fa3 6 (by decide), fa2 6 (by decide), sMn, sMx]; rfl))))⟩⟩)
  ·
    have c10 : (8 : Int32).toInt ≤ (i 64).toInt := kd_ltF c; clear c
    refine ft_go mi_k25 1 11 [(0, .ref 1), (1, .int x1), (2, .int x2), (3, .int x3)] [.int (-3)] i a q r (by rfl) ?_
    exact ft_ret mi_k25 (by rfl) (hP (-3) _ _ _ _ hG ⟨(oa39 c10 koa8 koam3), ⟨(fun h => absurd h (oa40 c10 koa8)), (fun h => absurd h (oa40 c10 koa8)), (fun h => absurd h (oa40 c10 koa8)), (fun h => absurd h (oa40 c10 koa8)), (fun h => absurd h (oa40 c10 koa8))⟩⟩)
def yw80_0 : kW := ([64], [2, 3, 4, 5, 6], [], [])
set_option maxRecDepth 100000 in
theorem ke80_0 {i : Nat → Int32} {a : Nat → List Int32} {q : Nat → List Int64} {r : Nat → Nat} (hI : kI i a q) (hr : kr r) (x1 : Int32) (x2 : Int32) : km 5 80 [.ref 0, .int x1, .int x2] (ks i a q r) (kVI yw80_0 i a q r (fun v i1 a1 q1 r1 => (((v.toInt = (-1)) ∧ (¬ (((0 : Int) ≤ x1.toInt) ∧ (x1.toInt ≤ 9) ∧ ((0 : Int) ≤ x2.toInt) ∧ (x2.toInt ≤ 9))) ∧ ((i1 64).toInt = (i 64).toInt)) ∨ (((0 : Int) ≤ x1.toInt) ∧ (x1.toInt ≤ 9) ∧ ((0 : Int) ≤ x2.toInt) ∧ (x2.toInt ≤ 9) ∧ (((v.toInt = (-3)) ∧ ((8 : Int) ≤ (i 64).toInt) ∧ ((i1 64).toInt = (i 64).toInt)) ∨ (((i 64).toInt < 8) ∧ (v.toInt = (i 64).toInt) ∧ ((i1 64).toInt = ((i 64).toInt + 1)))))) ∧ ((((0 : Int) ≤ x1.toInt) ∧ (x1.toInt ≤ 9) ∧ ((0 : Int) ≤ x2.toInt) ∧ (x2.toInt ≤ 9) ∧ ((i 64).toInt < 8) → a1 2 = (a 2).set (i 64).toNatClampNeg 100) ∧ (((0 : Int) ≤ x1.toInt) ∧ (x1.toInt ≤ 9) ∧ ((0 : Int) ≤ x2.toInt) ∧ (x2.toInt ≤ 9) ∧ ((i 64).toInt < 8) → a1 3 = (a 3).set (i 64).toNatClampNeg x1) ∧ (((0 : Int) ≤ x1.toInt) ∧ (x1.toInt ≤ 9) ∧ ((0 : Int) ≤ x2.toInt) ∧ (x2.toInt ≤ 9) ∧ ((i 64).toInt < 8) → a1 4 = (a 4).set (i 64).toNatClampNeg x2) ∧ (((0 : Int) ≤ x1.toInt) ∧ (x1.toInt ≤ 9) ∧ ((0 : Int) ≤ x2.toInt) ∧ (x2.toInt ≤ 9) ∧ ((i 64).toInt < 8) → a1 5 = (a 5).set (i 64).toNatClampNeg 0) ∧ (((0 : Int) ≤ x1.toInt) ∧ (x1.toInt ≤ 9) ∧ ((0 : Int) ≤ x2.toInt) ∧ (x2.toInt ≤ 9) ∧ ((i 64).toInt < 8) → a1 6 = (a 6).set (i 64).toNatClampNeg 0) ∧ (¬ (((0 : Int) ≤ x1.toInt) ∧ (x1.toInt ≤ 9) ∧ ((0 : Int) ≤ x2.toInt) ∧ (x2.toInt ≤ 9) ∧ ((i 64).toInt < 8)) → a1 2 = a 2) ∧ (¬ (((0 : Int) ≤ x1.toInt) ∧ (x1.toInt ≤ 9) ∧ ((0 : Int) ≤ x2.toInt) ∧ (x2.toInt ≤ 9) ∧ ((i 64).toInt < 8)) → a1 3 = a 3) ∧ (¬ (((0 : Int) ≤ x1.toInt) ∧ (x1.toInt ≤ 9) ∧ ((0 : Int) ≤ x2.toInt) ∧ (x2.toInt ≤ 9) ∧ ((i 64).toInt < 8)) → a1 4 = a 4) ∧ (¬ (((0 : Int) ≤ x1.toInt) ∧ (x1.toInt ≤ 9) ∧ ((0 : Int) ≤ x2.toInt) ∧ (x2.toInt ≤ 9) ∧ ((i 64).toInt < 8)) → a1 5 = a 5) ∧ (¬ (((0 : Int) ≤ x1.toInt) ∧ (x1.toInt ≤ 9) ∧ ((0 : Int) ≤ x2.toInt) ∧ (x2.toInt ≤ 9) ∧ ((i 64).toInt < 8)) → a1 6 = a 6)))) := by
  have hG := kG_self yw80_0 hI hr
  refine km_ofI (q := (mi_h80, mi_c80)) rfl (by decide) (Nat.le_of_ble_eq_true rfl) ?_
  intro P hP
  refine ft_go mi_k80 2 2 [(0, .ref 0), (1, .int x1), (2, .int x2)] [.int x1, .int 1] i a q r (by rfl) ?_
  refine ko_callPI mi_k80.1 (pc := 2) (ls := [(0, .ref 0), (1, .int x1), (2, .int x2)]) (st := [.int x1, .int 1]) (h := ks i a q r) (i := (.invokestatic 58, 3, 126, 0, 9, 0, 151)) (mi_k80.2 _ _ (by rfl)) (ft_invS mi_pq126 (by rfl)) (cy := mi_c126) mi_pq126 rfl (ke126_l01 hG.I hG.R x1) (by decide) ?_
  intro vg1 hg1
  rcases hg1 with ⟨eg1, hg1⟩ | ⟨eg1, hg1⟩
  ·
    subst eg1
    have z2 : ((0 : Int) ≤ x1.toInt) ∧ (x1.toInt ≤ 9) := hg1
    refine ft_go mi_k80 3 10 [(0, .ref 0), (1, .int x1), (2, .int x2)] [.int x2, .int 2] i a q r (by rfl) ?_
    refine ko_callPI mi_k80.1 (pc := 10) (ls := [(0, .ref 0), (1, .int x1), (2, .int x2)]) (st := [.int x2, .int 2]) (h := ks i a q r) (i := (.invokestatic 58, 3, 126, 0, 9, 0, 151)) (mi_k80.2 _ _ (by rfl)) (ft_invS mi_pq126 (by rfl)) (cy := mi_c126) mi_pq126 rfl (ke126_l02 hG.I hG.R x2) (by decide) ?_
    intro vg3 hg3
    rcases hg3 with ⟨eg3, hg3⟩ | ⟨eg3, hg3⟩
    ·
      subst eg3
      have z4 : ((0 : Int) ≤ x2.toInt) ∧ (x2.toInt ≤ 9) := hg3
      refine ft_go mi_k80 5 27 [(0, .ref 0), (1, .int x1), (2, .int x2)] [.int 8, .int (i 64)] i a q r (by rfl) ?_
      refine ft_if mi_k80 (decide ((i 64) < 8)) 35 30 [(0, .ref 0), (1, .int x1), (2, .int x2)] [] (by rfl) (fun c => ?_) (fun c => ?_)
      ·
        have c5 : (i 64).toInt < (8 : Int32).toInt := kd_lt c; clear c
        refine ft_go mi_k80 5 43 [(0, .ref 0), (1, .int x1), (2, .int x2)] [.int x2, .int x1, .int 100, .ref 1] i a q r (by rfl) ?_
        refine ko_callI mi_k80.1 (pc := 43) (ls := [(0, .ref 0), (1, .int x1), (2, .int x2)]) (st := [.int x2, .int x1, .int 100, .ref 1]) (h := ks i a q r) (i := (.invokevirtual 66, 3, 25, 0, 9, 0, 155)) (mi_k80.2 _ _ (by rfl)) (ft_invS mi_pq25 (by rfl)) (cy := mi_c25) mi_pq25 rfl (ke25_1 hG.I hG.R 100 x1 x2) (by decide) ?_
        intro vg6 ig6 ag6 qg6 rg6 kg6 hg6
        have hGg6 := kG_call hG kg6 (by decide +kernel)
        obtain ⟨hg6, og6⟩ := hg6
        have z7 : (((8 : Int) ≤ (i 64).toInt) ∧ (vg6.toInt = (-3)) ∧ ((ig6 64).toInt = (i 64).toInt)) ∨ (((i 64).toInt < 8) ∧ (vg6.toInt = (i 64).toInt) ∧ ((ig6 64).toInt = ((i 64).toInt + 1))) := hg6
        have q8 : ag6 2 = (a 2).set (i 64).toNatClampNeg (100 : Int32) := og6.1 (oa33 c5 koa8)
        have q9 : ag6 3 = (a 3).set (i 64).toNatClampNeg x1 := og6.2.1 (oa33 c5 koa8)
        have q10 : ag6 4 = (a 4).set (i 64).toNatClampNeg x2 := og6.2.2.1 (oa33 c5 koa8)
        have q11 : ag6 5 = (a 5).set (i 64).toNatClampNeg 0 := og6.2.2.2.1 (oa33 c5 koa8)
        have q12 : ag6 6 = (a 6).set (i 64).toNatClampNeg 0 := og6.2.2.2.2 (oa33 c5 koa8)
        exact ft_ret mi_k80 (by rfl) (hP vg6 _ _ _ _ hGg6 ⟨(oa41 c5 z2.1 z2.2 z4.1 z4.2 z7 koa8), ⟨(fun _ => (show ag6 2 = (a 2).set (i 64).toNatClampNeg 100 from (by first | rfl | (simp only [q8, sMn, sMx]; done) | (simp only [q8, sMn, sMx]; rfl)))), (fun _ => (show ag6 3 = (a 3).set (i 64).toNatClampNeg x1 from (by first | rfl | (simp only [q9, sMn, sMx]; done) | (simp only [q9, sMn, sMx]; rfl)))), (fun _ => (show ag6 4 = (a 4).set (i 64).toNatClampNeg x2 from (by first | rfl | (simp only [q10, sMn, sMx]; done) | (simp only [q10, sMn, sMx]; rfl)))), (fun _ => (show ag6 5 = (a 5).set (i 64).toNatClampNeg 0 from (by first | rfl | (simp only [q11, sMn, sMx]; done) | (simp only [q11, sMn, sMx]; rfl)))), (fun _ => (show ag6 6 = (a 6).set (i 64).toNatClampNeg 0 from (by first | rfl | (simp only [q12, sMn, sMx]; done) | (simp only [q12, sMn, sMx]; rfl)))), (fun h => absurd h (oa42 c5 z2.1 z2.2 z4.1 z4.2 koa8)), (fun h => absurd h (oa42 c5 z2.1 z2.2 z4.1 z4.2 koa8)), (fun h => absurd h (oa42 c5 z2.1 z2.2 z4.1 z4.2 koa8)), (fun h => absurd h (oa42 c5 z2.1 z2.2 z4.1 z4.2 koa8)), (fun h => absurd h (oa42 c5 z2.1 z2.2 z4.1 z4.2 koa8))⟩⟩)
      ·
        have c13 : (8 : Int32).toInt ≤ (i 64).toInt := kd_ltF c; clear c
        refine ft_go mi_k80 2 46 [(0, .ref 0), (1, .int x1), (2, .int x2)] [.int (-3)] i a q r (by rfl) ?_
        exact ft_ret mi_k80 (by rfl) (hP (-3) _ _ _ _ hG ⟨(oa43 c13 z2.1 z2.2 z4.1 z4.2 koa8 koam3), ⟨(fun h => absurd h (oa44 c13 koa8)), (fun h => absurd h (oa44 c13 koa8)), (fun h => absurd h (oa44 c13 koa8)), (fun h => absurd h (oa44 c13 koa8)), (fun h => absurd h (oa44 c13 koa8)), (fun _ => (show a 2 = a 2 from rfl)), (fun _ => (show a 3 = a 3 from rfl)), (fun _ => (show a 4 = a 4 from rfl)), (fun _ => (show a 5 = a 5 from rfl)), (fun _ => (show a 6 = a 6 from rfl))⟩⟩)
    ·
      subst eg3
      have z14 : ¬ (((0 : Int) ≤ x2.toInt) ∧ (x2.toInt ≤ 9)) := hg3
      refine ft_go mi_k80 2 17 [(0, .ref 0), (1, .int x1), (2, .int x2)] [.int (-1)] i a q r (by rfl) ?_
      exact ft_ret mi_k80 (by rfl) (hP (-1) _ _ _ _ hG ⟨(oa45 z14 koam1), ⟨(fun h => absurd h (oa46 z14)), (fun h => absurd h (oa46 z14)), (fun h => absurd h (oa46 z14)), (fun h => absurd h (oa46 z14)), (fun h => absurd h (oa46 z14)), (fun _ => (show a 2 = a 2 from rfl)), (fun _ => (show a 3 = a 3 from rfl)), (fun _ => (show a 4 = a 4 from rfl)), (fun _ => (show a 5 = a 5 from rfl)), (fun _ => (show a 6 = a 6 from rfl))⟩⟩)
  ·
    subst eg1
    have z15 : ¬ (((0 : Int) ≤ x1.toInt) ∧ (x1.toInt ≤ 9)) := hg1
    refine ft_go mi_k80 2 17 [(0, .ref 0), (1, .int x1), (2, .int x2)] [.int (-1)] i a q r (by rfl) ?_
    exact ft_ret mi_k80 (by rfl) (hP (-1) _ _ _ _ hG ⟨(oa47 z15 koam1), ⟨(fun h => absurd h (oa48 z15)), (fun h => absurd h (oa48 z15)), (fun h => absurd h (oa48 z15)), (fun h => absurd h (oa48 z15)), (fun h => absurd h (oa48 z15)), (fun _ => (show a 2 = a 2 from rfl)), (fun _ => (show a 3 = a 3 from rfl)), (fun _ => (show a 4 = a 4 from rfl)), (fun _ => (show a 5 = a 5 from rfl)), (fun _ => (show a 6 = a 6 from rfl))⟩⟩)
def yw134_116 : kW := ([7424], [117, 118], [], [])
set_option maxRecDepth 100000 in
theorem ke134_116 {i : Nat → Int32} {a : Nat → List Int32} {q : Nat → List Int64} {r : Nat → Nat} (hI : kI i a q) (hr : kr r) (x1 : Int32) (x2 : Int32) (x3 : Int32) (hp0 : (i 7424).toInt ≤ 7) : km 1 134 [.ref 116, .int x1, .int x2, .int x3] (ks i a q r) (kVI yw134_116 i a q r (fun v i1 a1 q1 r1 => ((v.toInt = (i 7424).toInt) ∧ ((i1 7424).toInt = ((i 7424).toInt + 1))) ∧ (a1 118 = (a 118).set (i 7424).toNatClampNeg x1 ∧ a1 117 = ((a 117).set (i 7424).toNatClampNeg x2).set (8 + i 7424).toNatClampNeg x3))) := by
  have hG := kG_self yw134_116 hI hr
  refine km_ofI (q := (mi_h134, mi_c134)) rfl (by decide) (Nat.le_of_ble_eq_true rfl) ?_
  intro P hP
  have fi_7424 : ((0 : Int) ≤ (i 7424).toInt) ∧ ((i 7424).toInt ≤ 8) := hG.I.1 7424
  refine ft_go mi_k134 5 9 [(0, .ref 116), (1, .int x1), (2, .int x2), (3, .int x3)] [.int x1, .int (i 7424), .ref 118] i a q r (by rfl) ?_
  refine ko_iast3 mi_k134.1 (n := 31) (c := 31) (ax := (0, 0, 0, 0, 0)) (mi_k134.2 _ _ (by rfl)) (by rfl) (ksG118 _ _ _ _) (ksA118 _ _ _ _) (hG.I.2.1 118) rfl (oa5 fi_7424.1) (oa49 fi_7424.2) ?_
  intro a1 ea1 fa1
  have hJ1 := kG_a3 hG 118 rfl ea1 fa1 (kE_nset (p := 118) (by decide) (oa5 fi_7424.1) (oa50 fi_7424.2) (oa51 fi_7424.2))
  refine ft_go mi_k134 5 19 [(0, .ref 116), (1, .int x1), (2, .int x2), (3, .int x3)] [.int x2, .int (i 7424), .ref 117] i a1 q r (by rfl) ?_
  refine ko_iast3 mi_k134.1 (n := 24) (c := 24) (ax := (0, 0, 0, 0, 0)) (mi_k134.2 _ _ (by rfl)) (by rfl) (ksG117 _ _ _ _) (ksA117 _ _ _ _) (hJ1.I.2.1 117) rfl (oa5 fi_7424.1) (oa52 fi_7424.2) ?_
  intro a2 ea2 fa2
  have hJ2 := kG_a3 hJ1 117 rfl ea2 fa2 (kd_bd _)
  have s3 : (8 + (i 7424)).toInt = (8 : Int32).toInt + (i 7424).toInt := kd_add (oa53 fi_7424.1 koa8) (oa54 fi_7424.2 koa8)
  refine ft_go mi_k134 7 32 [(0, .ref 116), (1, .int x1), (2, .int x2), (3, .int x3)] [.int x3, .int (8 + (i 7424)), .ref 117] i a2 q r (by rfl) ?_
  refine ko_iast3 mi_k134.1 (n := 24) (c := 24) (ax := (0, 0, 0, 0, 0)) (mi_k134.2 _ _ (by rfl)) (by rfl) (ksG117 _ _ _ _) (ksA117 _ _ _ _) (hJ2.I.2.1 117) rfl (oa55 fi_7424.1 s3 koa8) (oa56 fi_7424.2 s3 koa8) ?_
  intro a4 ea4 fa4
  have hJ4 := kG_a3 hJ2 117 rfl ea4 fa4 (kd_bd _)
  have s5 : ((i 7424) + 1).toInt = (i 7424).toInt + (1 : Int32).toInt := kd_add (oa7 fi_7424.1 koa1) (oa34 fi_7424.2 koa1)
  have hJ6 := kG_i hJ4 7424 rfl (v := ((i 7424) + 1)) ⟨(oa9 fi_7424.1 s5 koa1), (oa57 hp0 s5 koa1)⟩
  refine ft_go mi_k134 7 44 [(0, .ref 116), (1, .int x1), (2, .int x2), (3, .int x3)] [.int (i 7424)] (ku i 7424 ((i 7424) + 1)) a4 q r (by rfl) ?_
  exact ft_ret mi_k134 (by rfl) (hP (i 7424) _ _ _ _ hJ6 ⟨(oa58 s5 koa1), ⟨(show a4 118 = (a 118).set (i 7424).toNatClampNeg x1 from (by first | rfl | (simp only [fa4 118 (by decide), fa2 118 (by decide), ea1, sMn, sMx]; done) | (simp only [fa4 118 (by decide), fa2 118 (by decide), ea1, sMn, sMx]; rfl))), (show a4 117 = ((a 117).set (i 7424).toNatClampNeg x2).set (8 + i 7424).toNatClampNeg x3 from (by first | rfl | (simp only [ea4, ea2, fa1 117 (by decide), sMn, sMx]; done) | (simp only [ea4, ea2, fa1 117 (by decide), sMn, sMx]; rfl)))⟩⟩)
def yw135_116 : kW := ([7424], [117, 118], [], [])
set_option maxRecDepth 100000 in
theorem ke135_116 {i : Nat → Int32} {a : Nat → List Int32} {q : Nat → List Int64} {r : Nat → Nat} (hI : kI i a q) (hr : kr r) (x1 : Int32) (x2 : Int32) : km 3 135 [.ref 116, .int x1, .int x2] (ks i a q r) (kVI yw135_116 i a q r (fun v i1 a1 q1 r1 => (((v.toInt = (-1)) ∧ (¬ (((0 : Int) ≤ x1.toInt) ∧ (x1.toInt ≤ 9) ∧ ((0 : Int) ≤ x2.toInt) ∧ (x2.toInt ≤ 9))) ∧ ((i1 7424).toInt = (i 7424).toInt)) ∨ (((0 : Int) ≤ x1.toInt) ∧ (x1.toInt ≤ 9) ∧ ((0 : Int) ≤ x2.toInt) ∧ (x2.toInt ≤ 9) ∧ (((v.toInt = (-3)) ∧ ((8 : Int) ≤ (i 7424).toInt) ∧ ((i1 7424).toInt = (i 7424).toInt)) ∨ (((i 7424).toInt < 8) ∧ (v.toInt = (i 7424).toInt) ∧ ((i1 7424).toInt = ((i 7424).toInt + 1)))))) ∧ ((((0 : Int) ≤ x1.toInt) ∧ (x1.toInt ≤ 9) ∧ ((0 : Int) ≤ x2.toInt) ∧ (x2.toInt ≤ 9) ∧ ((i 7424).toInt < 8) → a1 118 = (a 118).set (i 7424).toNatClampNeg 100) ∧ (((0 : Int) ≤ x1.toInt) ∧ (x1.toInt ≤ 9) ∧ ((0 : Int) ≤ x2.toInt) ∧ (x2.toInt ≤ 9) ∧ ((i 7424).toInt < 8) → a1 117 = ((a 117).set (i 7424).toNatClampNeg x1).set (8 + i 7424).toNatClampNeg x2) ∧ (¬ (((0 : Int) ≤ x1.toInt) ∧ (x1.toInt ≤ 9) ∧ ((0 : Int) ≤ x2.toInt) ∧ (x2.toInt ≤ 9) ∧ ((i 7424).toInt < 8)) → a1 118 = a 118) ∧ (¬ (((0 : Int) ≤ x1.toInt) ∧ (x1.toInt ≤ 9) ∧ ((0 : Int) ≤ x2.toInt) ∧ (x2.toInt ≤ 9) ∧ ((i 7424).toInt < 8)) → a1 117 = a 117)))) := by
  have hG := kG_self yw135_116 hI hr
  refine km_ofI (q := (mi_h135, mi_c135)) rfl (by decide) (Nat.le_of_ble_eq_true rfl) ?_
  intro P hP
  refine ft_go mi_k135 3 4 [(0, .ref 116), (1, .int x1), (2, .int x2)] [.int 9, .int 0, .int x1] i a q r (by rfl) ?_
  refine ko_callPI mi_k135.1 (pc := 4) (ls := [(0, .ref 116), (1, .int x1), (2, .int x2)]) (st := [.int 9, .int 0, .int x1]) (h := ks i a q r) (i := (.invokestatic 119, 3, 131, 0, 9, 0, 379)) (mi_k135.2 _ _ (by rfl)) (ft_invS mi_pq131 (by rfl)) (cy := mi_c131) mi_pq131 rfl (kc131 hG.I hG.R x1 0 9) (by decide) ?_
  intro vg1 hg1
  rcases hg1 with ⟨eg1, hg1⟩ | ⟨eg1, hg1⟩
  ·
    subst eg1
    have z2 : ((0 : Int32).toInt ≤ x1.toInt) ∧ (x1.toInt ≤ (9 : Int32).toInt) := hg1
    refine ft_go mi_k135 4 14 [(0, .ref 116), (1, .int x1), (2, .int x2)] [.int 9, .int 0, .int x2] i a q r (by rfl) ?_
    refine ko_callPI mi_k135.1 (pc := 14) (ls := [(0, .ref 116), (1, .int x1), (2, .int x2)]) (st := [.int 9, .int 0, .int x2]) (h := ks i a q r) (i := (.invokestatic 119, 3, 131, 0, 9, 0, 379)) (mi_k135.2 _ _ (by rfl)) (ft_invS mi_pq131 (by rfl)) (cy := mi_c131) mi_pq131 rfl (kc131 hG.I hG.R x2 0 9) (by decide) ?_
    intro vg3 hg3
    rcases hg3 with ⟨eg3, hg3⟩ | ⟨eg3, hg3⟩
    ·
      subst eg3
      have z4 : ((0 : Int32).toInt ≤ x2.toInt) ∧ (x2.toInt ≤ (9 : Int32).toInt) := hg3
      have fi_7424 : ((0 : Int) ≤ (i 7424).toInt) ∧ ((i 7424).toInt ≤ 8) := hG.I.1 7424
      refine ft_go mi_k135 4 28 [(0, .ref 116), (1, .int x1), (2, .int x2)] [.int 8, .int (i 7424)] i a q r (by rfl) ?_
      refine ft_if mi_k135 ((i 7424) != 8) 36 31 [(0, .ref 116), (1, .int x1), (2, .int x2)] [] (by rfl) (fun c => ?_) (fun c => ?_)
      ·
        have c5 : (i 7424).toInt ≠ (8 : Int32).toInt := kd_ne c; clear c
        refine ft_go mi_k135 4 41 [(0, .ref 116), (1, .int x1), (2, .int x2)] [.int x2, .int x1, .int 100, .ref 116] i a q r (by rfl) ?_
        refine ko_callI mi_k135.1 (pc := 41) (ls := [(0, .ref 116), (1, .int x1), (2, .int x2)]) (st := [.int x2, .int x1, .int 100, .ref 116]) (h := ks i a q r) (i := (.invokevirtual 123, 3, 134, 0, 9, 0, 380)) (mi_k135.2 _ _ (by rfl)) (ft_invS mi_pq134 (by rfl)) (cy := mi_c134) mi_pq134 rfl (ke134_116 hG.I hG.R 100 x1 x2 (oa59 c5 fi_7424.2 koa8)) (by decide) ?_
        intro vg6 ig6 ag6 qg6 rg6 kg6 hg6
        have hGg6 := kG_call hG kg6 (by decide +kernel)
        obtain ⟨hg6, og6⟩ := hg6
        have fig6_7424 : ((0 : Int) ≤ (ig6 7424).toInt) ∧ ((ig6 7424).toInt ≤ 8) := hGg6.I.1 7424
        have z7 : (vg6.toInt = (i 7424).toInt) ∧ ((ig6 7424).toInt = ((i 7424).toInt + 1)) := hg6
        have q8 : ag6 118 = (a 118).set (i 7424).toNatClampNeg (100 : Int32) := og6.1
        have q9 : ag6 117 = ((a 117).set (i 7424).toNatClampNeg x1).set (8 + i 7424).toNatClampNeg x2 := og6.2
        exact ft_ret mi_k135 (by rfl) (hP vg6 _ _ _ _ hGg6 ⟨(oa60 fig6_7424.2 z2.1 z2.2 z4.1 z4.2 z7.1 z7.2 koa0 koa9), ⟨(fun _ => (show ag6 118 = (a 118).set (i 7424).toNatClampNeg 100 from (by first | rfl | (simp only [q8, sMn, sMx]; done) | (simp only [q8, sMn, sMx]; rfl)))), (fun _ => (show ag6 117 = ((a 117).set (i 7424).toNatClampNeg x1).set (8 + i 7424).toNatClampNeg x2 from (by first | rfl | (simp only [q9, sMn, sMx]; done) | (simp only [q9, sMn, sMx]; rfl)))), (fun h => absurd h (oa61 fig6_7424.2 z2.1 z2.2 z4.1 z4.2 z7.2 koa0 koa9)), (fun h => absurd h (oa61 fig6_7424.2 z2.1 z2.2 z4.1 z4.2 z7.2 koa0 koa9))⟩⟩)
      ·
        have c10 : (i 7424).toInt = (8 : Int32).toInt := kd_neF c; clear c
        refine ft_go mi_k135 2 44 [(0, .ref 116), (1, .int x1), (2, .int x2)] [.int (-3)] i a q r (by rfl) ?_
        exact ft_ret mi_k135 (by rfl) (hP (-3) _ _ _ _ hG ⟨(oa62 c10 z2.1 z2.2 z4.1 z4.2 koa8 koa0 koa9 koam3), ⟨(fun h => absurd h (oa63 c10 koa8)), (fun h => absurd h (oa63 c10 koa8)), (fun _ => (show a 118 = a 118 from rfl)), (fun _ => (show a 117 = a 117 from rfl))⟩⟩)
    ·
      subst eg3
      have z11 : ¬ (((0 : Int32).toInt ≤ x2.toInt) ∧ (x2.toInt ≤ (9 : Int32).toInt)) := hg3
      refine ft_go mi_k135 2 21 [(0, .ref 116), (1, .int x1), (2, .int x2)] [.int (-1)] i a q r (by rfl) ?_
      exact ft_ret mi_k135 (by rfl) (hP (-1) _ _ _ _ hG ⟨(oa64 z11 koa0 koa9 koam1), ⟨(fun h => absurd h (oa65 z11 koa0 koa9)), (fun h => absurd h (oa65 z11 koa0 koa9)), (fun _ => (show a 118 = a 118 from rfl)), (fun _ => (show a 117 = a 117 from rfl))⟩⟩)
  ·
    subst eg1
    have z12 : ¬ (((0 : Int32).toInt ≤ x1.toInt) ∧ (x1.toInt ≤ (9 : Int32).toInt)) := hg1
    refine ft_go mi_k135 2 21 [(0, .ref 116), (1, .int x1), (2, .int x2)] [.int (-1)] i a q r (by rfl) ?_
    exact ft_ret mi_k135 (by rfl) (hP (-1) _ _ _ _ hG ⟨(oa66 z12 koa0 koa9 koam1), ⟨(fun h => absurd h (oa67 z12 koa0 koa9)), (fun h => absurd h (oa67 z12 koa0 koa9)), (fun _ => (show a 118 = a 118 from rfl)), (fun _ => (show a 117 = a 117 from rfl))⟩⟩)
