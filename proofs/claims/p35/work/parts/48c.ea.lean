theorem koa0 : (0 : Int32).toInt = 0 := by decide
theorem koa255 : (255 : Int32).toInt = 255 := by decide
theorem koa1 : (1 : Int32).toInt = 1 := by decide
theorem koa120 : (120 : Int32).toInt = 120 := by decide
theorem koam3 : ((-3) : Int32).toInt = (-3) := by decide
theorem koam1 : ((-1) : Int32).toInt = (-1) := by decide
theorem koa6 : (6 : Int32).toInt = 6 := by decide
theorem koa9 : (9 : Int32).toInt = 9 := by decide
theorem koa2 : (2 : Int32).toInt = 2 := by decide
theorem koa8 : (8 : Int32).toInt = 8 := by decide
theorem koam13 : ((-13) : Int32).toInt = (-13) := by decide
theorem koam12 : ((-12) : Int32).toInt = (-12) := by decide
theorem koam11 : ((-11) : Int32).toInt = (-11) := by decide
theorem koa60 : (60 : Int32).toInt = 60 := by decide
theorem oa3 {a0 a1 : Int} (h0 : a0 ≤ a1) (h1 : a0 = 120) : (((120 : Int) ≤ a1) ∧ (a1 = a1) ∧ (a1 = a1)) ∨ ((a1 < 120) ∧ (a1 = (a1 + 1)) ∧ (a1 = (a1 + 1))) := by omega
theorem oa4 {a0 a1 : Int} (h0 : a0 ≤ a1) (h1 : a0 = 120) : ¬ (a1 < 120) := by omega
theorem oa5 {a0 : Int} (h0 : (0 : Int) ≤ a0) : (0 : Int) ≤ a0 := by omega
theorem oa6 {a0 a1 : Int} (h0 : a0 < a1) (h1 : a1 = 120) : a0 < 120 := by omega
theorem oa7 {a0 a1 : Int} (h0 : (0 : Int) ≤ a0) (h1 : a1 = 1) : (-2147483648 : Int) ≤ a0 + a1 := by omega
theorem oa8 {a0 a1 : Int} (h0 : a0 ≤ 120) (h1 : a1 = 1) : a0 + a1 ≤ 2147483647 := by omega
theorem oa9 {a0 a1 a2 : Int} (h0 : (0 : Int) ≤ a0) (h1 : a1 = a0 + a2) (h2 : a2 = 1) : (0 : Int) ≤ a1 := by omega
theorem oa10 {a0 a1 a2 a3 : Int} (h0 : a0 < a1) (h1 : a2 = a0 + a3) (h2 : a1 = 120) (h3 : a3 = 1) : a2 ≤ 120 := by omega
theorem oa11 {a0 a1 a2 a3 : Int} (h0 : a0 < a1) (h1 : a2 = a0 + a3) (h2 : a1 = 120) (h3 : a3 = 1) : (((120 : Int) ≤ a0) ∧ (a2 = a0) ∧ (a2 = a0)) ∨ ((a0 < 120) ∧ (a2 = (a0 + 1)) ∧ (a2 = (a0 + 1))) := by omega
theorem oa12 {a0 a1 : Int} (h0 : a0 < a1) (h1 : a1 = 120) : ¬ ((120 : Int) ≤ a0) := by omega
theorem oa13 {a0 a1 a2 a3 a4 a5 a6 : Int} (h0 : a0 < a1) (h1 : a2 ≤ a3) (h2 : a3 ≤ a4) (h3 : (((120 : Int) ≤ a0) ∧ (a5 = a0) ∧ (a6 = a0)) ∨ ((a0 < 120) ∧ (a5 = (a0 + 1)) ∧ (a6 = (a0 + 1)))) (h4 : a1 = 120) (h5 : a2 = 0) (h6 : a4 = 255) : ((a5 = (-1)) ∧ (¬ (((0 : Int) ≤ a3) ∧ (a3 ≤ 255))) ∧ (a6 = a0)) ∨ (((0 : Int) ≤ a3) ∧ (a3 ≤ 255) ∧ (((a5 = (-3)) ∧ ((120 : Int) ≤ a0) ∧ (a6 = a0)) ∨ ((a0 < 120) ∧ (a5 = (a0 + 1)) ∧ (a6 = (a0 + 1))))) := by omega
theorem oa14 {a0 a1 a2 a3 a4 : Int} (h0 : a0 < a1) (h1 : a2 ≤ a3) (h2 : a3 ≤ a4) (h3 : a1 = 120) (h4 : a2 = 0) (h5 : a4 = 255) : ¬ (¬ (((0 : Int) ≤ a3) ∧ (a3 ≤ 255) ∧ (a0 < 120))) := by omega
theorem oa15 {a0 a1 a2 a3 a4 a5 : Int} (h0 : a0 ≤ a1) (h1 : a2 ≤ a3) (h2 : a3 ≤ a4) (h3 : a0 = 120) (h4 : a2 = 0) (h5 : a4 = 255) (h6 : a5 = (-3)) : ((a5 = (-1)) ∧ (¬ (((0 : Int) ≤ a3) ∧ (a3 ≤ 255))) ∧ (a1 = a1)) ∨ (((0 : Int) ≤ a3) ∧ (a3 ≤ 255) ∧ (((a5 = (-3)) ∧ ((120 : Int) ≤ a1) ∧ (a1 = a1)) ∨ ((a1 < 120) ∧ (a5 = (a1 + 1)) ∧ (a1 = (a1 + 1))))) := by omega
theorem oa16 {a0 a1 a2 : Int} (h0 : a0 ≤ a1) (h1 : a0 = 120) : ¬ (((0 : Int) ≤ a2) ∧ (a2 ≤ 255) ∧ (a1 < 120)) := by omega
theorem oa17 {a0 a1 a2 a3 a4 : Int} (h0 : ¬ ((a0 ≤ a1) ∧ (a1 ≤ a2))) (h1 : a0 = 0) (h2 : a2 = 255) (h3 : a3 = (-1)) : ((a3 = (-1)) ∧ (¬ (((0 : Int) ≤ a1) ∧ (a1 ≤ 255))) ∧ (a4 = a4)) ∨ (((0 : Int) ≤ a1) ∧ (a1 ≤ 255) ∧ (((a3 = (-3)) ∧ ((120 : Int) ≤ a4) ∧ (a4 = a4)) ∨ ((a4 < 120) ∧ (a3 = (a4 + 1)) ∧ (a4 = (a4 + 1))))) := by omega
theorem oa18 {a0 a1 a2 a3 : Int} (h0 : ¬ ((a0 ≤ a1) ∧ (a1 ≤ a2))) (h1 : a0 = 0) (h2 : a2 = 255) : ¬ (((0 : Int) ≤ a1) ∧ (a1 ≤ 255) ∧ (a3 < 120)) := by omega
theorem oa19 {a0 a1 a2 a3 : Int} (h0 : a0 ≠ a1) (h1 : a0 ≤ 120) (h2 : a2 = a0 + a3) (h3 : a1 = 120) (h4 : a3 = 1) : a2 ≤ 120 := by omega
theorem oa20 {a0 a1 : Int} (h0 : a0 ≠ a1) (h1 : a0 ≤ 120) (h2 : a1 = 120) : a0 < 120 := by omega
theorem oa21 {a0 a1 a2 a3 a4 a5 a6 : Int} (h0 : a0 ≠ a1) (h1 : a0 ≤ 120) (h2 : a2 = a0 + a3) (h3 : a4 ≤ a5) (h4 : a5 ≤ a6) (h5 : a1 = 120) (h6 : a3 = 1) (h7 : a4 = 0) (h8 : a6 = 255) : ((a2 = (-1)) ∧ (¬ (((0 : Int) ≤ a5) ∧ (a5 ≤ 255))) ∧ (a2 = a0)) ∨ (((0 : Int) ≤ a5) ∧ (a5 ≤ 255) ∧ (((a2 = (-3)) ∧ ((120 : Int) ≤ a0) ∧ (a2 = a0)) ∨ ((a0 < 120) ∧ (a2 = (a0 + 1)) ∧ (a2 = (a0 + 1))))) := by omega
theorem oa22 {a0 a1 a2 a3 a4 : Int} (h0 : a0 ≠ a1) (h1 : a0 ≤ 120) (h2 : a2 ≤ a3) (h3 : a3 ≤ a4) (h4 : a1 = 120) (h5 : a2 = 0) (h6 : a4 = 255) : ¬ (¬ (((0 : Int) ≤ a3) ∧ (a3 ≤ 255) ∧ (a0 < 120))) := by omega
theorem oa23 {a0 a1 a2 a3 a4 a5 : Int} (h0 : a0 = a1) (h1 : a2 ≤ a3) (h2 : a3 ≤ a4) (h3 : a1 = 120) (h4 : a2 = 0) (h5 : a4 = 255) (h6 : a5 = (-3)) : ((a5 = (-1)) ∧ (¬ (((0 : Int) ≤ a3) ∧ (a3 ≤ 255))) ∧ (a0 = a0)) ∨ (((0 : Int) ≤ a3) ∧ (a3 ≤ 255) ∧ (((a5 = (-3)) ∧ ((120 : Int) ≤ a0) ∧ (a0 = a0)) ∨ ((a0 < 120) ∧ (a5 = (a0 + 1)) ∧ (a0 = (a0 + 1))))) := by omega
theorem oa24 {a0 a1 a2 : Int} (h0 : a0 = a1) (h1 : a1 = 120) : ¬ (((0 : Int) ≤ a2) ∧ (a2 ≤ 255) ∧ (a0 < 120)) := by omega
theorem oa25 {a0 : Int} (h0 : a0 = 1) : (0 : Int) ≤ a0 := by omega
theorem oa26 {a0 : Int} (h0 : a0 = 1) : a0 < 7 := by omega
theorem oa27 {a0 a1 a2 : Int} (h0 : a0 ≤ a1) (h1 : a1 ≤ a2) (h2 : a0 = 0) (h3 : a2 = 9) : ((0 : Int) ≤ a1) ∧ (a1 ≤ 9) := by omega
theorem oa28 {a0 a1 a2 : Int} (h0 : ¬ ((a0 ≤ a1) ∧ (a1 ≤ a2))) (h1 : a0 = 0) (h2 : a2 = 9) : ¬ (((0 : Int) ≤ a1) ∧ (a1 ≤ 9)) := by omega
theorem oa29 {a0 a1 a2 : Int} (h0 : ¬ ((a0 ≤ a1) ∧ (a1 ≤ a2))) (h1 : a0 = 0) (h2 : a1 = 1) (h3 : a2 = 6) : False := by omega
theorem oa30 {a0 : Int} (h0 : a0 = 2) : (0 : Int) ≤ a0 := by omega
theorem oa31 {a0 : Int} (h0 : a0 = 2) : a0 < 7 := by omega
theorem oa32 {a0 a1 a2 : Int} (h0 : ¬ ((a0 ≤ a1) ∧ (a1 ≤ a2))) (h1 : a0 = 0) (h2 : a1 = 2) (h3 : a2 = 6) : False := by omega
theorem oa33 {a0 a1 : Int} (h0 : a0 < a1) (h1 : a1 = 8) : a0 < 8 := by omega
theorem oa34 {a0 a1 : Int} (h0 : a0 ≤ 8) (h1 : a1 = 1) : a0 + a1 ≤ 2147483647 := by omega
theorem oa35 {a0 a1 a2 a3 : Int} (h0 : a0 < a1) (h1 : a2 = a0 + a3) (h2 : a1 = 8) (h3 : a3 = 1) : a2 ≤ 8 := by omega
theorem oa36 {a0 a1 a2 : Int} (h0 : (0 : Int) ≤ a0) (h1 : a1 = a0 + a2) (h2 : a2 = 1) : (-2147483648 : Int) ≤ a1 - a2 := by omega
theorem oa37 {a0 a1 a2 : Int} (h0 : a0 ≤ 8) (h1 : a1 = a0 + a2) (h2 : a2 = 1) : a1 - a2 ≤ 2147483647 := by omega
theorem oa38 {a0 a1 a2 a3 a4 : Int} (h0 : a0 < a1) (h1 : a2 = a0 + a3) (h2 : a4 = a2 - a3) (h3 : a1 = 8) (h4 : a3 = 1) : (((8 : Int) ≤ a0) ∧ (a4 = (-3)) ∧ (a2 = a0)) ∨ ((a0 < 8) ∧ (a4 = a0) ∧ (a2 = (a0 + 1))) := by omega
theorem oa39 {a0 a1 a2 : Int} (h0 : a0 ≤ a1) (h1 : a0 = 8) (h2 : a2 = (-3)) : (((8 : Int) ≤ a1) ∧ (a2 = (-3)) ∧ (a1 = a1)) ∨ ((a1 < 8) ∧ (a2 = a1) ∧ (a1 = (a1 + 1))) := by omega
theorem oa40 {a0 a1 : Int} (h0 : a0 ≤ a1) (h1 : a0 = 8) : ¬ (a1 < 8) := by omega
theorem oa41 {a0 a1 a2 a3 a4 a5 : Int} (h0 : a0 < a1) (h1 : (0 : Int) ≤ a2) (h2 : a2 ≤ 9) (h3 : (0 : Int) ≤ a3) (h4 : a3 ≤ 9) (h5 : (((8 : Int) ≤ a0) ∧ (a4 = (-3)) ∧ (a5 = a0)) ∨ ((a0 < 8) ∧ (a4 = a0) ∧ (a5 = (a0 + 1)))) (h6 : a1 = 8) : ((a4 = (-1)) ∧ (¬ (((0 : Int) ≤ a2) ∧ (a2 ≤ 9) ∧ ((0 : Int) ≤ a3) ∧ (a3 ≤ 9))) ∧ (a5 = a0)) ∨ (((0 : Int) ≤ a2) ∧ (a2 ≤ 9) ∧ ((0 : Int) ≤ a3) ∧ (a3 ≤ 9) ∧ (((a4 = (-3)) ∧ ((8 : Int) ≤ a0) ∧ (a5 = a0)) ∨ ((a0 < 8) ∧ (a4 = a0) ∧ (a5 = (a0 + 1))))) := by omega
theorem oa42 {a0 a1 a2 a3 : Int} (h0 : a0 < a1) (h1 : (0 : Int) ≤ a2) (h2 : a2 ≤ 9) (h3 : (0 : Int) ≤ a3) (h4 : a3 ≤ 9) (h5 : a1 = 8) : ¬ (¬ (((0 : Int) ≤ a2) ∧ (a2 ≤ 9) ∧ ((0 : Int) ≤ a3) ∧ (a3 ≤ 9) ∧ (a0 < 8))) := by omega
theorem oa43 {a0 a1 a2 a3 a4 : Int} (h0 : a0 ≤ a1) (h1 : (0 : Int) ≤ a2) (h2 : a2 ≤ 9) (h3 : (0 : Int) ≤ a3) (h4 : a3 ≤ 9) (h5 : a0 = 8) (h6 : a4 = (-3)) : ((a4 = (-1)) ∧ (¬ (((0 : Int) ≤ a2) ∧ (a2 ≤ 9) ∧ ((0 : Int) ≤ a3) ∧ (a3 ≤ 9))) ∧ (a1 = a1)) ∨ (((0 : Int) ≤ a2) ∧ (a2 ≤ 9) ∧ ((0 : Int) ≤ a3) ∧ (a3 ≤ 9) ∧ (((a4 = (-3)) ∧ ((8 : Int) ≤ a1) ∧ (a1 = a1)) ∨ ((a1 < 8) ∧ (a4 = a1) ∧ (a1 = (a1 + 1))))) := by omega
theorem oa44 {a0 a1 a2 a3 : Int} (h0 : a0 ≤ a1) (h1 : a0 = 8) : ¬ (((0 : Int) ≤ a2) ∧ (a2 ≤ 9) ∧ ((0 : Int) ≤ a3) ∧ (a3 ≤ 9) ∧ (a1 < 8)) := by omega
theorem oa45 {a0 a1 a2 a3 : Int} (h0 : ¬ (((0 : Int) ≤ a0) ∧ (a0 ≤ 9))) (h1 : a1 = (-1)) : ((a1 = (-1)) ∧ (¬ (((0 : Int) ≤ a2) ∧ (a2 ≤ 9) ∧ ((0 : Int) ≤ a0) ∧ (a0 ≤ 9))) ∧ (a3 = a3)) ∨ (((0 : Int) ≤ a2) ∧ (a2 ≤ 9) ∧ ((0 : Int) ≤ a0) ∧ (a0 ≤ 9) ∧ (((a1 = (-3)) ∧ ((8 : Int) ≤ a3) ∧ (a3 = a3)) ∨ ((a3 < 8) ∧ (a1 = a3) ∧ (a3 = (a3 + 1))))) := by omega
theorem oa46 {a0 a1 a2 : Int} (h0 : ¬ (((0 : Int) ≤ a0) ∧ (a0 ≤ 9))) : ¬ (((0 : Int) ≤ a1) ∧ (a1 ≤ 9) ∧ ((0 : Int) ≤ a0) ∧ (a0 ≤ 9) ∧ (a2 < 8)) := by omega
theorem oa47 {a0 a1 a2 a3 : Int} (h0 : ¬ (((0 : Int) ≤ a0) ∧ (a0 ≤ 9))) (h1 : a1 = (-1)) : ((a1 = (-1)) ∧ (¬ (((0 : Int) ≤ a0) ∧ (a0 ≤ 9) ∧ ((0 : Int) ≤ a2) ∧ (a2 ≤ 9))) ∧ (a3 = a3)) ∨ (((0 : Int) ≤ a0) ∧ (a0 ≤ 9) ∧ ((0 : Int) ≤ a2) ∧ (a2 ≤ 9) ∧ (((a1 = (-3)) ∧ ((8 : Int) ≤ a3) ∧ (a3 = a3)) ∨ ((a3 < 8) ∧ (a1 = a3) ∧ (a3 = (a3 + 1))))) := by omega
theorem oa48 {a0 a1 a2 : Int} (h0 : ¬ (((0 : Int) ≤ a0) ∧ (a0 ≤ 9))) : ¬ (((0 : Int) ≤ a0) ∧ (a0 ≤ 9) ∧ ((0 : Int) ≤ a1) ∧ (a1 ≤ 9) ∧ (a2 < 8)) := by omega
theorem oa49 {a0 : Int} (h0 : a0 ≤ 8) : a0 < 31 := by omega
theorem oa50 {a0 a1 : Int} (h0 : a0 ≤ 8) : a0 = 18 → (0 : Int) ≤ a1 ∧ a1 ≤ 5 := by omega
theorem oa51 {a0 a1 : Int} (h0 : a0 ≤ 8) : 19 ≤ a0 → a0 ≤ 24 → (0 : Int) ≤ a1 ∧ a1 ≤ 7 := by omega
theorem oa52 {a0 : Int} (h0 : a0 ≤ 8) : a0 < 24 := by omega
theorem oa53 {a0 a1 : Int} (h0 : (0 : Int) ≤ a0) (h1 : a1 = 8) : (-2147483648 : Int) ≤ a1 + a0 := by omega
theorem oa54 {a0 a1 : Int} (h0 : a0 ≤ 8) (h1 : a1 = 8) : a1 + a0 ≤ 2147483647 := by omega
theorem oa55 {a0 a1 a2 : Int} (h0 : (0 : Int) ≤ a0) (h1 : a1 = a2 + a0) (h2 : a2 = 8) : (0 : Int) ≤ a1 := by omega
theorem oa56 {a0 a1 a2 : Int} (h0 : a0 ≤ 8) (h1 : a1 = a2 + a0) (h2 : a2 = 8) : a1 < 24 := by omega
theorem oa57 {a0 a1 a2 : Int} (h0 : a0 ≤ 7) (h1 : a1 = a0 + a2) (h2 : a2 = 1) : a1 ≤ 8 := by omega
theorem oa58 {a0 a1 a2 : Int} (h0 : a0 = a1 + a2) (h1 : a2 = 1) : (a1 = a1) ∧ (a0 = (a1 + 1)) := by omega
theorem oa59 {a0 a1 : Int} (h0 : a0 ≠ a1) (h1 : a0 ≤ 8) (h2 : a1 = 8) : a0 ≤ 7 := by omega
theorem oa60 {a0 a1 a2 a3 a4 a5 a6 : Int} (h0 : a0 ≤ 8) (h1 : a1 ≤ a2) (h2 : a2 ≤ a3) (h3 : a1 ≤ a4) (h4 : a4 ≤ a3) (h5 : a5 = a6) (h6 : a0 = (a6 + 1)) (h7 : a1 = 0) (h8 : a3 = 9) : ((a5 = (-1)) ∧ (¬ (((0 : Int) ≤ a2) ∧ (a2 ≤ 9) ∧ ((0 : Int) ≤ a4) ∧ (a4 ≤ 9))) ∧ (a0 = a6)) ∨ (((0 : Int) ≤ a2) ∧ (a2 ≤ 9) ∧ ((0 : Int) ≤ a4) ∧ (a4 ≤ 9) ∧ (((a5 = (-3)) ∧ ((8 : Int) ≤ a6) ∧ (a0 = a6)) ∨ ((a6 < 8) ∧ (a5 = a6) ∧ (a0 = (a6 + 1))))) := by omega
theorem oa61 {a0 a1 a2 a3 a4 a5 : Int} (h0 : a0 ≤ 8) (h1 : a1 ≤ a2) (h2 : a2 ≤ a3) (h3 : a1 ≤ a4) (h4 : a4 ≤ a3) (h5 : a0 = (a5 + 1)) (h6 : a1 = 0) (h7 : a3 = 9) : ¬ (¬ (((0 : Int) ≤ a2) ∧ (a2 ≤ 9) ∧ ((0 : Int) ≤ a4) ∧ (a4 ≤ 9) ∧ (a5 < 8))) := by omega
theorem oa62 {a0 a1 a2 a3 a4 a5 a6 : Int} (h0 : a0 = a1) (h1 : a2 ≤ a3) (h2 : a3 ≤ a4) (h3 : a2 ≤ a5) (h4 : a5 ≤ a4) (h5 : a1 = 8) (h6 : a2 = 0) (h7 : a4 = 9) (h8 : a6 = (-3)) : ((a6 = (-1)) ∧ (¬ (((0 : Int) ≤ a3) ∧ (a3 ≤ 9) ∧ ((0 : Int) ≤ a5) ∧ (a5 ≤ 9))) ∧ (a0 = a0)) ∨ (((0 : Int) ≤ a3) ∧ (a3 ≤ 9) ∧ ((0 : Int) ≤ a5) ∧ (a5 ≤ 9) ∧ (((a6 = (-3)) ∧ ((8 : Int) ≤ a0) ∧ (a0 = a0)) ∨ ((a0 < 8) ∧ (a6 = a0) ∧ (a0 = (a0 + 1))))) := by omega
theorem oa63 {a0 a1 a2 a3 : Int} (h0 : a0 = a1) (h1 : a1 = 8) : ¬ (((0 : Int) ≤ a2) ∧ (a2 ≤ 9) ∧ ((0 : Int) ≤ a3) ∧ (a3 ≤ 9) ∧ (a0 < 8)) := by omega
theorem oa64 {a0 a1 a2 a3 a4 a5 : Int} (h0 : ¬ ((a0 ≤ a1) ∧ (a1 ≤ a2))) (h1 : a0 = 0) (h2 : a2 = 9) (h3 : a3 = (-1)) : ((a3 = (-1)) ∧ (¬ (((0 : Int) ≤ a4) ∧ (a4 ≤ 9) ∧ ((0 : Int) ≤ a1) ∧ (a1 ≤ 9))) ∧ (a5 = a5)) ∨ (((0 : Int) ≤ a4) ∧ (a4 ≤ 9) ∧ ((0 : Int) ≤ a1) ∧ (a1 ≤ 9) ∧ (((a3 = (-3)) ∧ ((8 : Int) ≤ a5) ∧ (a5 = a5)) ∨ ((a5 < 8) ∧ (a3 = a5) ∧ (a5 = (a5 + 1))))) := by omega
theorem oa65 {a0 a1 a2 a3 a4 : Int} (h0 : ¬ ((a0 ≤ a1) ∧ (a1 ≤ a2))) (h1 : a0 = 0) (h2 : a2 = 9) : ¬ (((0 : Int) ≤ a3) ∧ (a3 ≤ 9) ∧ ((0 : Int) ≤ a1) ∧ (a1 ≤ 9) ∧ (a4 < 8)) := by omega
theorem oa66 {a0 a1 a2 a3 a4 a5 : Int} (h0 : ¬ ((a0 ≤ a1) ∧ (a1 ≤ a2))) (h1 : a0 = 0) (h2 : a2 = 9) (h3 : a3 = (-1)) : ((a3 = (-1)) ∧ (¬ (((0 : Int) ≤ a1) ∧ (a1 ≤ 9) ∧ ((0 : Int) ≤ a4) ∧ (a4 ≤ 9))) ∧ (a5 = a5)) ∨ (((0 : Int) ≤ a1) ∧ (a1 ≤ 9) ∧ ((0 : Int) ≤ a4) ∧ (a4 ≤ 9) ∧ (((a3 = (-3)) ∧ ((8 : Int) ≤ a5) ∧ (a5 = a5)) ∨ ((a5 < 8) ∧ (a3 = a5) ∧ (a5 = (a5 + 1))))) := by omega
theorem oa67 {a0 a1 a2 a3 a4 : Int} (h0 : ¬ ((a0 ≤ a1) ∧ (a1 ≤ a2))) (h1 : a0 = 0) (h2 : a2 = 9) : ¬ (((0 : Int) ≤ a1) ∧ (a1 ≤ 9) ∧ ((0 : Int) ≤ a3) ∧ (a3 ≤ 9) ∧ (a4 < 8)) := by omega
theorem oa71 {a0 a1 : Int} (h0 : (0 : Int) ≤ a0) (h1 : a1 = 1) : (-2147483648 : Int) ≤ a0 - a1 := by omega
theorem oa72 {a0 a1 : Int} (h0 : a0 ≤ 60) (h1 : a1 = 1) : a0 - a1 ≤ 2147483647 := by omega
theorem oa102 {a0 : Int} (h0 : a0 = 1) : a0 = 1 := by omega
theorem oa103 {a0 : Int} (h0 : a0 = 2) : a0 = 2 := by omega
theorem oa104 {a0 : Int} (h0 : a0 = 3) : a0 = 3 := by omega
theorem oa112 {a0 a1 a2 a3 a4 a5 : Int} (h0 : a0 ≤ a1) (h1 : a2 = 0) (h2 : ((a2 = 0) → (((a1 = 0) ∧ (a3 = 2) ∧ ((0 : Int) ≤ a4) ∧ (a4 < a5)) ∨ ((a1 = (-11)) ∧ (a3 = 0)) ∨ ((a1 = (-12)) ∧ (a3 = 1)) ∨ ((a1 = (-13)) ∧ (a3 = 2) ∧ ((a4 < 0) ∨ (a5 ≤ a4)))))) (h3 : a0 = 0) : (0 : Int) ≤ a4 := by omega
theorem oa113 {a0 a1 a2 a3 a4 a5 : Int} (h0 : a0 ≤ a1) (h1 : a2 ≤ 60) (h2 : a3 = 0) (h3 : ((a3 = 0) → (((a1 = 0) ∧ (a4 = 2) ∧ ((0 : Int) ≤ a5) ∧ (a5 < a2)) ∨ ((a1 = (-11)) ∧ (a4 = 0)) ∨ ((a1 = (-12)) ∧ (a4 = 1)) ∨ ((a1 = (-13)) ∧ (a4 = 2) ∧ ((a5 < 0) ∨ (a2 ≤ a5)))))) (h4 : a0 = 0) : a5 < 60 := by omega
theorem oa114 {a0 a1 a2 a3 a4 a5 a6 a7 a8 a9 a10 a11 a12 a13 a14 a15 a16 : Int} (h0 : a0 ≤ a1) (h1 : a2 ≤ 2) (h2 : a3 = 0) (h3 : ((a3 = 0) → (((a1 = 0) ∧ (a2 = 2) ∧ ((0 : Int) ≤ a4) ∧ (a4 < a5)) ∨ ((a1 = (-11)) ∧ (a2 = 0)) ∨ ((a1 = (-12)) ∧ (a2 = 1)) ∨ ((a1 = (-13)) ∧ (a2 = 2) ∧ ((a4 < 0) ∨ (a5 ≤ a4)))))) (h4 : a0 = 0) (h5 : a6 = 1) : ((((a3 < 0) ∨ ((5 : Int) < a3)) → (a6 = (-1)))) ∧ (((a3 = 0) → (((a6 = 1) ∧ (a2 = 2) ∧ ((0 : Int) ≤ a4) ∧ (a4 < a5)) ∨ ((a6 = (-11)) ∧ (a2 = 0)) ∨ ((a6 = (-12)) ∧ (a2 = 1)) ∨ ((a6 = (-13)) ∧ (a2 = 2) ∧ ((a4 < 0) ∨ (a5 ≤ a4)))))) ∧ (((a3 = 1) → (((a6 = 1) ∧ (a7 = 2) ∧ ((0 : Int) ≤ a4) ∧ (a4 < a8)) ∨ ((a6 = (-11)) ∧ (a7 = 0)) ∨ ((a6 = (-12)) ∧ (a7 = 1)) ∨ ((a6 = (-13)) ∧ (a7 = 2) ∧ ((a4 < 0) ∨ (a8 ≤ a4)))))) ∧ (((a3 = 2) → (((a6 = 1) ∧ (a9 = 2) ∧ ((0 : Int) ≤ a4) ∧ (a4 < a10)) ∨ ((a6 = (-11)) ∧ (a9 = 0)) ∨ ((a6 = (-12)) ∧ (a9 = 1)) ∨ ((a6 = (-13)) ∧ (a9 = 2) ∧ ((a4 < 0) ∨ (a10 ≤ a4)))))) ∧ (((a3 = 3) → (((a6 = 1) ∧ (a11 = 2) ∧ ((0 : Int) ≤ a4) ∧ (a4 < a12)) ∨ ((a6 = (-11)) ∧ (a11 = 0)) ∨ ((a6 = (-12)) ∧ (a11 = 1)) ∨ ((a6 = (-13)) ∧ (a11 = 2) ∧ ((a4 < 0) ∨ (a12 ≤ a4)))))) ∧ (((a3 = 4) → (((a6 = 1) ∧ (a13 = 2) ∧ ((0 : Int) ≤ a4) ∧ (a4 < a14)) ∨ ((a6 = (-11)) ∧ (a13 = 0)) ∨ ((a6 = (-12)) ∧ (a13 = 1)) ∨ ((a6 = (-13)) ∧ (a13 = 2) ∧ ((a4 < 0) ∨ (a14 ≤ a4)))))) ∧ (((a3 = 5) → (((a6 = 1) ∧ (a15 = 2) ∧ ((0 : Int) ≤ a4) ∧ (a4 < a16)) ∨ ((a6 = (-11)) ∧ (a15 = 0)) ∨ ((a6 = (-12)) ∧ (a15 = 1)) ∨ ((a6 = (-13)) ∧ (a15 = 2) ∧ ((a4 < 0) ∨ (a16 ≤ a4)))))) := by omega
theorem oa115 {a0 : Int} (h0 : a0 = 0) : a0 = 0 := by omega
theorem oa116 {a0 : Int} (h0 : a0 = 0) (h1 : ¬ (a0 = 0)) : False := by omega
theorem oa118 {a0 a1 a2 a3 a4 a5 : Int} (h0 : a0 ≤ a1) (h1 : a2 = 1) (h2 : ((a2 = 1) → (((a1 = 0) ∧ (a3 = 2) ∧ ((0 : Int) ≤ a4) ∧ (a4 < a5)) ∨ ((a1 = (-11)) ∧ (a3 = 0)) ∨ ((a1 = (-12)) ∧ (a3 = 1)) ∨ ((a1 = (-13)) ∧ (a3 = 2) ∧ ((a4 < 0) ∨ (a5 ≤ a4)))))) (h3 : a0 = 0) : (0 : Int) ≤ a4 := by omega
theorem oa119 {a0 a1 a2 a3 a4 a5 : Int} (h0 : a0 ≤ a1) (h1 : a2 ≤ 60) (h2 : a3 = 1) (h3 : ((a3 = 1) → (((a1 = 0) ∧ (a4 = 2) ∧ ((0 : Int) ≤ a5) ∧ (a5 < a2)) ∨ ((a1 = (-11)) ∧ (a4 = 0)) ∨ ((a1 = (-12)) ∧ (a4 = 1)) ∨ ((a1 = (-13)) ∧ (a4 = 2) ∧ ((a5 < 0) ∨ (a2 ≤ a5)))))) (h4 : a0 = 0) : a5 < 60 := by omega
theorem oa120 {a0 a1 a2 a3 a4 a5 a6 a7 a8 a9 a10 a11 a12 a13 a14 a15 a16 : Int} (h0 : a0 ≤ a1) (h1 : a2 ≤ 2) (h2 : a3 = 1) (h3 : ((a3 = 1) → (((a1 = 0) ∧ (a2 = 2) ∧ ((0 : Int) ≤ a4) ∧ (a4 < a5)) ∨ ((a1 = (-11)) ∧ (a2 = 0)) ∨ ((a1 = (-12)) ∧ (a2 = 1)) ∨ ((a1 = (-13)) ∧ (a2 = 2) ∧ ((a4 < 0) ∨ (a5 ≤ a4)))))) (h4 : a0 = 0) (h5 : a6 = 1) : ((((a3 < 0) ∨ ((5 : Int) < a3)) → (a6 = (-1)))) ∧ (((a3 = 0) → (((a6 = 1) ∧ (a7 = 2) ∧ ((0 : Int) ≤ a4) ∧ (a4 < a8)) ∨ ((a6 = (-11)) ∧ (a7 = 0)) ∨ ((a6 = (-12)) ∧ (a7 = 1)) ∨ ((a6 = (-13)) ∧ (a7 = 2) ∧ ((a4 < 0) ∨ (a8 ≤ a4)))))) ∧ (((a3 = 1) → (((a6 = 1) ∧ (a2 = 2) ∧ ((0 : Int) ≤ a4) ∧ (a4 < a5)) ∨ ((a6 = (-11)) ∧ (a2 = 0)) ∨ ((a6 = (-12)) ∧ (a2 = 1)) ∨ ((a6 = (-13)) ∧ (a2 = 2) ∧ ((a4 < 0) ∨ (a5 ≤ a4)))))) ∧ (((a3 = 2) → (((a6 = 1) ∧ (a9 = 2) ∧ ((0 : Int) ≤ a4) ∧ (a4 < a10)) ∨ ((a6 = (-11)) ∧ (a9 = 0)) ∨ ((a6 = (-12)) ∧ (a9 = 1)) ∨ ((a6 = (-13)) ∧ (a9 = 2) ∧ ((a4 < 0) ∨ (a10 ≤ a4)))))) ∧ (((a3 = 3) → (((a6 = 1) ∧ (a11 = 2) ∧ ((0 : Int) ≤ a4) ∧ (a4 < a12)) ∨ ((a6 = (-11)) ∧ (a11 = 0)) ∨ ((a6 = (-12)) ∧ (a11 = 1)) ∨ ((a6 = (-13)) ∧ (a11 = 2) ∧ ((a4 < 0) ∨ (a12 ≤ a4)))))) ∧ (((a3 = 4) → (((a6 = 1) ∧ (a13 = 2) ∧ ((0 : Int) ≤ a4) ∧ (a4 < a14)) ∨ ((a6 = (-11)) ∧ (a13 = 0)) ∨ ((a6 = (-12)) ∧ (a13 = 1)) ∨ ((a6 = (-13)) ∧ (a13 = 2) ∧ ((a4 < 0) ∨ (a14 ≤ a4)))))) ∧ (((a3 = 5) → (((a6 = 1) ∧ (a15 = 2) ∧ ((0 : Int) ≤ a4) ∧ (a4 < a16)) ∨ ((a6 = (-11)) ∧ (a15 = 0)) ∨ ((a6 = (-12)) ∧ (a15 = 1)) ∨ ((a6 = (-13)) ∧ (a15 = 2) ∧ ((a4 < 0) ∨ (a16 ≤ a4)))))) := by omega
theorem oa121 {a0 : Int} (h0 : a0 = 1) (h1 : ¬ (a0 = 1)) : False := by omega
theorem oa123 {a0 a1 a2 a3 a4 a5 : Int} (h0 : a0 ≤ a1) (h1 : a2 = 2) (h2 : ((a2 = 2) → (((a1 = 0) ∧ (a3 = 2) ∧ ((0 : Int) ≤ a4) ∧ (a4 < a5)) ∨ ((a1 = (-11)) ∧ (a3 = 0)) ∨ ((a1 = (-12)) ∧ (a3 = 1)) ∨ ((a1 = (-13)) ∧ (a3 = 2) ∧ ((a4 < 0) ∨ (a5 ≤ a4)))))) (h3 : a0 = 0) : (0 : Int) ≤ a4 := by omega
theorem oa124 {a0 a1 a2 a3 a4 a5 : Int} (h0 : a0 ≤ a1) (h1 : a2 ≤ 60) (h2 : a3 = 2) (h3 : ((a3 = 2) → (((a1 = 0) ∧ (a4 = 2) ∧ ((0 : Int) ≤ a5) ∧ (a5 < a2)) ∨ ((a1 = (-11)) ∧ (a4 = 0)) ∨ ((a1 = (-12)) ∧ (a4 = 1)) ∨ ((a1 = (-13)) ∧ (a4 = 2) ∧ ((a5 < 0) ∨ (a2 ≤ a5)))))) (h4 : a0 = 0) : a5 < 60 := by omega
theorem oa125 {a0 a1 a2 a3 a4 a5 a6 a7 a8 a9 a10 a11 a12 a13 a14 a15 a16 : Int} (h0 : a0 ≤ a1) (h1 : a2 ≤ 2) (h2 : a3 = 2) (h3 : ((a3 = 2) → (((a1 = 0) ∧ (a2 = 2) ∧ ((0 : Int) ≤ a4) ∧ (a4 < a5)) ∨ ((a1 = (-11)) ∧ (a2 = 0)) ∨ ((a1 = (-12)) ∧ (a2 = 1)) ∨ ((a1 = (-13)) ∧ (a2 = 2) ∧ ((a4 < 0) ∨ (a5 ≤ a4)))))) (h4 : a0 = 0) (h5 : a6 = 1) : ((((a3 < 0) ∨ ((5 : Int) < a3)) → (a6 = (-1)))) ∧ (((a3 = 0) → (((a6 = 1) ∧ (a7 = 2) ∧ ((0 : Int) ≤ a4) ∧ (a4 < a8)) ∨ ((a6 = (-11)) ∧ (a7 = 0)) ∨ ((a6 = (-12)) ∧ (a7 = 1)) ∨ ((a6 = (-13)) ∧ (a7 = 2) ∧ ((a4 < 0) ∨ (a8 ≤ a4)))))) ∧ (((a3 = 1) → (((a6 = 1) ∧ (a9 = 2) ∧ ((0 : Int) ≤ a4) ∧ (a4 < a10)) ∨ ((a6 = (-11)) ∧ (a9 = 0)) ∨ ((a6 = (-12)) ∧ (a9 = 1)) ∨ ((a6 = (-13)) ∧ (a9 = 2) ∧ ((a4 < 0) ∨ (a10 ≤ a4)))))) ∧ (((a3 = 2) → (((a6 = 1) ∧ (a2 = 2) ∧ ((0 : Int) ≤ a4) ∧ (a4 < a5)) ∨ ((a6 = (-11)) ∧ (a2 = 0)) ∨ ((a6 = (-12)) ∧ (a2 = 1)) ∨ ((a6 = (-13)) ∧ (a2 = 2) ∧ ((a4 < 0) ∨ (a5 ≤ a4)))))) ∧ (((a3 = 3) → (((a6 = 1) ∧ (a11 = 2) ∧ ((0 : Int) ≤ a4) ∧ (a4 < a12)) ∨ ((a6 = (-11)) ∧ (a11 = 0)) ∨ ((a6 = (-12)) ∧ (a11 = 1)) ∨ ((a6 = (-13)) ∧ (a11 = 2) ∧ ((a4 < 0) ∨ (a12 ≤ a4)))))) ∧ (((a3 = 4) → (((a6 = 1) ∧ (a13 = 2) ∧ ((0 : Int) ≤ a4) ∧ (a4 < a14)) ∨ ((a6 = (-11)) ∧ (a13 = 0)) ∨ ((a6 = (-12)) ∧ (a13 = 1)) ∨ ((a6 = (-13)) ∧ (a13 = 2) ∧ ((a4 < 0) ∨ (a14 ≤ a4)))))) ∧ (((a3 = 5) → (((a6 = 1) ∧ (a15 = 2) ∧ ((0 : Int) ≤ a4) ∧ (a4 < a16)) ∨ ((a6 = (-11)) ∧ (a15 = 0)) ∨ ((a6 = (-12)) ∧ (a15 = 1)) ∨ ((a6 = (-13)) ∧ (a15 = 2) ∧ ((a4 < 0) ∨ (a16 ≤ a4)))))) := by omega
theorem oa126 {a0 : Int} (h0 : a0 = 2) (h1 : ¬ (a0 = 2)) : False := by omega
theorem oa128 {a0 a1 a2 a3 a4 a5 : Int} (h0 : a0 ≤ a1) (h1 : a2 = 3) (h2 : ((a2 = 3) → (((a1 = 0) ∧ (a3 = 2) ∧ ((0 : Int) ≤ a4) ∧ (a4 < a5)) ∨ ((a1 = (-11)) ∧ (a3 = 0)) ∨ ((a1 = (-12)) ∧ (a3 = 1)) ∨ ((a1 = (-13)) ∧ (a3 = 2) ∧ ((a4 < 0) ∨ (a5 ≤ a4)))))) (h3 : a0 = 0) : (0 : Int) ≤ a4 := by omega
theorem oa129 {a0 a1 a2 a3 a4 a5 : Int} (h0 : a0 ≤ a1) (h1 : a2 ≤ 60) (h2 : a3 = 3) (h3 : ((a3 = 3) → (((a1 = 0) ∧ (a4 = 2) ∧ ((0 : Int) ≤ a5) ∧ (a5 < a2)) ∨ ((a1 = (-11)) ∧ (a4 = 0)) ∨ ((a1 = (-12)) ∧ (a4 = 1)) ∨ ((a1 = (-13)) ∧ (a4 = 2) ∧ ((a5 < 0) ∨ (a2 ≤ a5)))))) (h4 : a0 = 0) : a5 < 60 := by omega
theorem oa130 {a0 a1 a2 a3 a4 a5 a6 a7 a8 a9 a10 a11 a12 a13 a14 a15 a16 : Int} (h0 : a0 ≤ a1) (h1 : a2 ≤ 2) (h2 : a3 = 3) (h3 : ((a3 = 3) → (((a1 = 0) ∧ (a2 = 2) ∧ ((0 : Int) ≤ a4) ∧ (a4 < a5)) ∨ ((a1 = (-11)) ∧ (a2 = 0)) ∨ ((a1 = (-12)) ∧ (a2 = 1)) ∨ ((a1 = (-13)) ∧ (a2 = 2) ∧ ((a4 < 0) ∨ (a5 ≤ a4)))))) (h4 : a0 = 0) (h5 : a6 = 1) : ((((a3 < 0) ∨ ((5 : Int) < a3)) → (a6 = (-1)))) ∧ (((a3 = 0) → (((a6 = 1) ∧ (a7 = 2) ∧ ((0 : Int) ≤ a4) ∧ (a4 < a8)) ∨ ((a6 = (-11)) ∧ (a7 = 0)) ∨ ((a6 = (-12)) ∧ (a7 = 1)) ∨ ((a6 = (-13)) ∧ (a7 = 2) ∧ ((a4 < 0) ∨ (a8 ≤ a4)))))) ∧ (((a3 = 1) → (((a6 = 1) ∧ (a9 = 2) ∧ ((0 : Int) ≤ a4) ∧ (a4 < a10)) ∨ ((a6 = (-11)) ∧ (a9 = 0)) ∨ ((a6 = (-12)) ∧ (a9 = 1)) ∨ ((a6 = (-13)) ∧ (a9 = 2) ∧ ((a4 < 0) ∨ (a10 ≤ a4)))))) ∧ (((a3 = 2) → (((a6 = 1) ∧ (a11 = 2) ∧ ((0 : Int) ≤ a4) ∧ (a4 < a12)) ∨ ((a6 = (-11)) ∧ (a11 = 0)) ∨ ((a6 = (-12)) ∧ (a11 = 1)) ∨ ((a6 = (-13)) ∧ (a11 = 2) ∧ ((a4 < 0) ∨ (a12 ≤ a4)))))) ∧ (((a3 = 3) → (((a6 = 1) ∧ (a2 = 2) ∧ ((0 : Int) ≤ a4) ∧ (a4 < a5)) ∨ ((a6 = (-11)) ∧ (a2 = 0)) ∨ ((a6 = (-12)) ∧ (a2 = 1)) ∨ ((a6 = (-13)) ∧ (a2 = 2) ∧ ((a4 < 0) ∨ (a5 ≤ a4)))))) ∧ (((a3 = 4) → (((a6 = 1) ∧ (a13 = 2) ∧ ((0 : Int) ≤ a4) ∧ (a4 < a14)) ∨ ((a6 = (-11)) ∧ (a13 = 0)) ∨ ((a6 = (-12)) ∧ (a13 = 1)) ∨ ((a6 = (-13)) ∧ (a13 = 2) ∧ ((a4 < 0) ∨ (a14 ≤ a4)))))) ∧ (((a3 = 5) → (((a6 = 1) ∧ (a15 = 2) ∧ ((0 : Int) ≤ a4) ∧ (a4 < a16)) ∨ ((a6 = (-11)) ∧ (a15 = 0)) ∨ ((a6 = (-12)) ∧ (a15 = 1)) ∨ ((a6 = (-13)) ∧ (a15 = 2) ∧ ((a4 < 0) ∨ (a16 ≤ a4)))))) := by omega
theorem oa131 {a0 : Int} (h0 : a0 = 3) (h1 : ¬ (a0 = 3)) : False := by omega
theorem oa133 {a0 a1 a2 a3 a4 a5 : Int} (h0 : a0 ≤ a1) (h1 : a2 = 4) (h2 : ((a2 = 4) → (((a1 = 0) ∧ (a3 = 2) ∧ ((0 : Int) ≤ a4) ∧ (a4 < a5)) ∨ ((a1 = (-11)) ∧ (a3 = 0)) ∨ ((a1 = (-12)) ∧ (a3 = 1)) ∨ ((a1 = (-13)) ∧ (a3 = 2) ∧ ((a4 < 0) ∨ (a5 ≤ a4)))))) (h3 : a0 = 0) : (0 : Int) ≤ a4 := by omega
theorem oa134 {a0 a1 a2 a3 a4 a5 : Int} (h0 : a0 ≤ a1) (h1 : a2 ≤ 60) (h2 : a3 = 4) (h3 : ((a3 = 4) → (((a1 = 0) ∧ (a4 = 2) ∧ ((0 : Int) ≤ a5) ∧ (a5 < a2)) ∨ ((a1 = (-11)) ∧ (a4 = 0)) ∨ ((a1 = (-12)) ∧ (a4 = 1)) ∨ ((a1 = (-13)) ∧ (a4 = 2) ∧ ((a5 < 0) ∨ (a2 ≤ a5)))))) (h4 : a0 = 0) : a5 < 60 := by omega
theorem oa135 {a0 a1 a2 a3 a4 a5 a6 a7 a8 a9 a10 a11 a12 a13 a14 a15 a16 : Int} (h0 : a0 ≤ a1) (h1 : a2 ≤ 2) (h2 : a3 = 4) (h3 : ((a3 = 4) → (((a1 = 0) ∧ (a2 = 2) ∧ ((0 : Int) ≤ a4) ∧ (a4 < a5)) ∨ ((a1 = (-11)) ∧ (a2 = 0)) ∨ ((a1 = (-12)) ∧ (a2 = 1)) ∨ ((a1 = (-13)) ∧ (a2 = 2) ∧ ((a4 < 0) ∨ (a5 ≤ a4)))))) (h4 : a0 = 0) (h5 : a6 = 1) : ((((a3 < 0) ∨ ((5 : Int) < a3)) → (a6 = (-1)))) ∧ (((a3 = 0) → (((a6 = 1) ∧ (a7 = 2) ∧ ((0 : Int) ≤ a4) ∧ (a4 < a8)) ∨ ((a6 = (-11)) ∧ (a7 = 0)) ∨ ((a6 = (-12)) ∧ (a7 = 1)) ∨ ((a6 = (-13)) ∧ (a7 = 2) ∧ ((a4 < 0) ∨ (a8 ≤ a4)))))) ∧ (((a3 = 1) → (((a6 = 1) ∧ (a9 = 2) ∧ ((0 : Int) ≤ a4) ∧ (a4 < a10)) ∨ ((a6 = (-11)) ∧ (a9 = 0)) ∨ ((a6 = (-12)) ∧ (a9 = 1)) ∨ ((a6 = (-13)) ∧ (a9 = 2) ∧ ((a4 < 0) ∨ (a10 ≤ a4)))))) ∧ (((a3 = 2) → (((a6 = 1) ∧ (a11 = 2) ∧ ((0 : Int) ≤ a4) ∧ (a4 < a12)) ∨ ((a6 = (-11)) ∧ (a11 = 0)) ∨ ((a6 = (-12)) ∧ (a11 = 1)) ∨ ((a6 = (-13)) ∧ (a11 = 2) ∧ ((a4 < 0) ∨ (a12 ≤ a4)))))) ∧ (((a3 = 3) → (((a6 = 1) ∧ (a13 = 2) ∧ ((0 : Int) ≤ a4) ∧ (a4 < a14)) ∨ ((a6 = (-11)) ∧ (a13 = 0)) ∨ ((a6 = (-12)) ∧ (a13 = 1)) ∨ ((a6 = (-13)) ∧ (a13 = 2) ∧ ((a4 < 0) ∨ (a14 ≤ a4)))))) ∧ (((a3 = 4) → (((a6 = 1) ∧ (a2 = 2) ∧ ((0 : Int) ≤ a4) ∧ (a4 < a5)) ∨ ((a6 = (-11)) ∧ (a2 = 0)) ∨ ((a6 = (-12)) ∧ (a2 = 1)) ∨ ((a6 = (-13)) ∧ (a2 = 2) ∧ ((a4 < 0) ∨ (a5 ≤ a4)))))) ∧ (((a3 = 5) → (((a6 = 1) ∧ (a15 = 2) ∧ ((0 : Int) ≤ a4) ∧ (a4 < a16)) ∨ ((a6 = (-11)) ∧ (a15 = 0)) ∨ ((a6 = (-12)) ∧ (a15 = 1)) ∨ ((a6 = (-13)) ∧ (a15 = 2) ∧ ((a4 < 0) ∨ (a16 ≤ a4)))))) := by omega
theorem oa136 {a0 : Int} (h0 : a0 = 4) : a0 = 4 := by omega
theorem oa137 {a0 : Int} (h0 : a0 = 4) (h1 : ¬ (a0 = 4)) : False := by omega
theorem oa139 {a0 a1 a2 a3 a4 a5 : Int} (h0 : a0 ≤ a1) (h1 : a2 = 5) (h2 : ((a2 = 5) → (((a1 = 0) ∧ (a3 = 2) ∧ ((0 : Int) ≤ a4) ∧ (a4 < a5)) ∨ ((a1 = (-11)) ∧ (a3 = 0)) ∨ ((a1 = (-12)) ∧ (a3 = 1)) ∨ ((a1 = (-13)) ∧ (a3 = 2) ∧ ((a4 < 0) ∨ (a5 ≤ a4)))))) (h3 : a0 = 0) : (0 : Int) ≤ a4 := by omega
theorem oa140 {a0 a1 a2 a3 a4 a5 : Int} (h0 : a0 ≤ a1) (h1 : a2 ≤ 60) (h2 : a3 = 5) (h3 : ((a3 = 5) → (((a1 = 0) ∧ (a4 = 2) ∧ ((0 : Int) ≤ a5) ∧ (a5 < a2)) ∨ ((a1 = (-11)) ∧ (a4 = 0)) ∨ ((a1 = (-12)) ∧ (a4 = 1)) ∨ ((a1 = (-13)) ∧ (a4 = 2) ∧ ((a5 < 0) ∨ (a2 ≤ a5)))))) (h4 : a0 = 0) : a5 < 60 := by omega
theorem oa141 {a0 a1 a2 a3 a4 a5 a6 a7 a8 a9 a10 a11 a12 a13 a14 a15 a16 : Int} (h0 : a0 ≤ a1) (h1 : a2 ≤ 2) (h2 : a3 = 5) (h3 : ((a3 = 5) → (((a1 = 0) ∧ (a2 = 2) ∧ ((0 : Int) ≤ a4) ∧ (a4 < a5)) ∨ ((a1 = (-11)) ∧ (a2 = 0)) ∨ ((a1 = (-12)) ∧ (a2 = 1)) ∨ ((a1 = (-13)) ∧ (a2 = 2) ∧ ((a4 < 0) ∨ (a5 ≤ a4)))))) (h4 : a0 = 0) (h5 : a6 = 1) : ((((a3 < 0) ∨ ((5 : Int) < a3)) → (a6 = (-1)))) ∧ (((a3 = 0) → (((a6 = 1) ∧ (a7 = 2) ∧ ((0 : Int) ≤ a4) ∧ (a4 < a8)) ∨ ((a6 = (-11)) ∧ (a7 = 0)) ∨ ((a6 = (-12)) ∧ (a7 = 1)) ∨ ((a6 = (-13)) ∧ (a7 = 2) ∧ ((a4 < 0) ∨ (a8 ≤ a4)))))) ∧ (((a3 = 1) → (((a6 = 1) ∧ (a9 = 2) ∧ ((0 : Int) ≤ a4) ∧ (a4 < a10)) ∨ ((a6 = (-11)) ∧ (a9 = 0)) ∨ ((a6 = (-12)) ∧ (a9 = 1)) ∨ ((a6 = (-13)) ∧ (a9 = 2) ∧ ((a4 < 0) ∨ (a10 ≤ a4)))))) ∧ (((a3 = 2) → (((a6 = 1) ∧ (a11 = 2) ∧ ((0 : Int) ≤ a4) ∧ (a4 < a12)) ∨ ((a6 = (-11)) ∧ (a11 = 0)) ∨ ((a6 = (-12)) ∧ (a11 = 1)) ∨ ((a6 = (-13)) ∧ (a11 = 2) ∧ ((a4 < 0) ∨ (a12 ≤ a4)))))) ∧ (((a3 = 3) → (((a6 = 1) ∧ (a13 = 2) ∧ ((0 : Int) ≤ a4) ∧ (a4 < a14)) ∨ ((a6 = (-11)) ∧ (a13 = 0)) ∨ ((a6 = (-12)) ∧ (a13 = 1)) ∨ ((a6 = (-13)) ∧ (a13 = 2) ∧ ((a4 < 0) ∨ (a14 ≤ a4)))))) ∧ (((a3 = 4) → (((a6 = 1) ∧ (a15 = 2) ∧ ((0 : Int) ≤ a4) ∧ (a4 < a16)) ∨ ((a6 = (-11)) ∧ (a15 = 0)) ∨ ((a6 = (-12)) ∧ (a15 = 1)) ∨ ((a6 = (-13)) ∧ (a15 = 2) ∧ ((a4 < 0) ∨ (a16 ≤ a4)))))) ∧ (((a3 = 5) → (((a6 = 1) ∧ (a2 = 2) ∧ ((0 : Int) ≤ a4) ∧ (a4 < a5)) ∨ ((a6 = (-11)) ∧ (a2 = 0)) ∨ ((a6 = (-12)) ∧ (a2 = 1)) ∨ ((a6 = (-13)) ∧ (a2 = 2) ∧ ((a4 < 0) ∨ (a5 ≤ a4)))))) := by omega
theorem oa142 {a0 : Int} (h0 : a0 = 5) : a0 = 5 := by omega
theorem oa143 {a0 : Int} (h0 : a0 = 5) (h1 : ¬ (a0 = 5)) : False := by omega
theorem oa144 {a0 a1 a2 : Int} (h0 : a0 ≤ a1) (h1 : ¬ (a2 = 1)) (h2 : ¬ (a2 = 2)) (h3 : ¬ (a2 = 3)) (h4 : ¬ (a2 = 0)) (h5 : ¬ (a2 = 4)) (h6 : ¬ (a2 = 5)) (h7 : (((a2 < 0) ∨ ((5 : Int) < a2)) → (a1 = (-1)))) (h8 : a0 = 0) : False := by omega
theorem oa145 {a0 a1 a2 a3 a4 a5 a6 a7 a8 a9 a10 a11 a12 a13 a14 a15 : Int} (h0 : a0 < a1) (h1 : (0 : Int) ≤ a2) (h2 : a2 ≤ 2) (h3 : (0 : Int) ≤ a3) (h4 : a3 ≤ 2) (h5 : (0 : Int) ≤ a4) (h6 : a4 ≤ 2) (h7 : (0 : Int) ≤ a5) (h8 : a5 ≤ 2) (h9 : (0 : Int) ≤ a6) (h10 : a6 ≤ 2) (h11 : (0 : Int) ≤ a7) (h12 : a7 ≤ 2) (h13 : (((a8 < 0) ∨ ((5 : Int) < a8)) → (a0 = (-1)))) (h14 : ((a8 = 0) → (((a0 = 0) ∧ (a2 = 2) ∧ ((0 : Int) ≤ a9) ∧ (a9 < a10)) ∨ ((a0 = (-11)) ∧ (a2 = 0)) ∨ ((a0 = (-12)) ∧ (a2 = 1)) ∨ ((a0 = (-13)) ∧ (a2 = 2) ∧ ((a9 < 0) ∨ (a10 ≤ a9)))))) (h15 : ((a8 = 1) → (((a0 = 0) ∧ (a3 = 2) ∧ ((0 : Int) ≤ a9) ∧ (a9 < a11)) ∨ ((a0 = (-11)) ∧ (a3 = 0)) ∨ ((a0 = (-12)) ∧ (a3 = 1)) ∨ ((a0 = (-13)) ∧ (a3 = 2) ∧ ((a9 < 0) ∨ (a11 ≤ a9)))))) (h16 : ((a8 = 2) → (((a0 = 0) ∧ (a4 = 2) ∧ ((0 : Int) ≤ a9) ∧ (a9 < a12)) ∨ ((a0 = (-11)) ∧ (a4 = 0)) ∨ ((a0 = (-12)) ∧ (a4 = 1)) ∨ ((a0 = (-13)) ∧ (a4 = 2) ∧ ((a9 < 0) ∨ (a12 ≤ a9)))))) (h17 : ((a8 = 3) → (((a0 = 0) ∧ (a5 = 2) ∧ ((0 : Int) ≤ a9) ∧ (a9 < a13)) ∨ ((a0 = (-11)) ∧ (a5 = 0)) ∨ ((a0 = (-12)) ∧ (a5 = 1)) ∨ ((a0 = (-13)) ∧ (a5 = 2) ∧ ((a9 < 0) ∨ (a13 ≤ a9)))))) (h18 : ((a8 = 4) → (((a0 = 0) ∧ (a6 = 2) ∧ ((0 : Int) ≤ a9) ∧ (a9 < a14)) ∨ ((a0 = (-11)) ∧ (a6 = 0)) ∨ ((a0 = (-12)) ∧ (a6 = 1)) ∨ ((a0 = (-13)) ∧ (a6 = 2) ∧ ((a9 < 0) ∨ (a14 ≤ a9)))))) (h19 : ((a8 = 5) → (((a0 = 0) ∧ (a7 = 2) ∧ ((0 : Int) ≤ a9) ∧ (a9 < a15)) ∨ ((a0 = (-11)) ∧ (a7 = 0)) ∨ ((a0 = (-12)) ∧ (a7 = 1)) ∨ ((a0 = (-13)) ∧ (a7 = 2) ∧ ((a9 < 0) ∨ (a15 ≤ a9)))))) (h20 : a1 = 0) : ((((a8 < 0) ∨ ((5 : Int) < a8)) → (a0 = (-1)))) ∧ (((a8 = 0) → (((a0 = 1) ∧ (a2 = 2) ∧ ((0 : Int) ≤ a9) ∧ (a9 < a10)) ∨ ((a0 = (-11)) ∧ (a2 = 0)) ∨ ((a0 = (-12)) ∧ (a2 = 1)) ∨ ((a0 = (-13)) ∧ (a2 = 2) ∧ ((a9 < 0) ∨ (a10 ≤ a9)))))) ∧ (((a8 = 1) → (((a0 = 1) ∧ (a3 = 2) ∧ ((0 : Int) ≤ a9) ∧ (a9 < a11)) ∨ ((a0 = (-11)) ∧ (a3 = 0)) ∨ ((a0 = (-12)) ∧ (a3 = 1)) ∨ ((a0 = (-13)) ∧ (a3 = 2) ∧ ((a9 < 0) ∨ (a11 ≤ a9)))))) ∧ (((a8 = 2) → (((a0 = 1) ∧ (a4 = 2) ∧ ((0 : Int) ≤ a9) ∧ (a9 < a12)) ∨ ((a0 = (-11)) ∧ (a4 = 0)) ∨ ((a0 = (-12)) ∧ (a4 = 1)) ∨ ((a0 = (-13)) ∧ (a4 = 2) ∧ ((a9 < 0) ∨ (a12 ≤ a9)))))) ∧ (((a8 = 3) → (((a0 = 1) ∧ (a5 = 2) ∧ ((0 : Int) ≤ a9) ∧ (a9 < a13)) ∨ ((a0 = (-11)) ∧ (a5 = 0)) ∨ ((a0 = (-12)) ∧ (a5 = 1)) ∨ ((a0 = (-13)) ∧ (a5 = 2) ∧ ((a9 < 0) ∨ (a13 ≤ a9)))))) ∧ (((a8 = 4) → (((a0 = 1) ∧ (a6 = 2) ∧ ((0 : Int) ≤ a9) ∧ (a9 < a14)) ∨ ((a0 = (-11)) ∧ (a6 = 0)) ∨ ((a0 = (-12)) ∧ (a6 = 1)) ∨ ((a0 = (-13)) ∧ (a6 = 2) ∧ ((a9 < 0) ∨ (a14 ≤ a9)))))) ∧ (((a8 = 5) → (((a0 = 1) ∧ (a7 = 2) ∧ ((0 : Int) ≤ a9) ∧ (a9 < a15)) ∨ ((a0 = (-11)) ∧ (a7 = 0)) ∨ ((a0 = (-12)) ∧ (a7 = 1)) ∨ ((a0 = (-13)) ∧ (a7 = 2) ∧ ((a9 < 0) ∨ (a15 ≤ a9)))))) := by omega
theorem oa146 {a0 a1 : Int} (h0 : a0 < a1) (h1 : a1 = 0) : a0 < 0 := by omega
theorem oa147 {a0 : Int} (h0 : a0 ≤ 5) : a0 < 6 := by omega
theorem oa150 {a0 : Int} (h0 : (0 : Int) ≤ a0) (h1 : a0 ≤ 5) : ((0 : Int) ≤ a0) ∧ (a0 ≤ 5) := by omega
theorem oa151 {a0 : Int} (h0 : (0 : Int) ≤ a0) : (-2147483648 : Int) ≤ 60 * a0 := by omega
theorem oa152 {a0 : Int} (h0 : a0 ≤ 5) : 60 * a0 ≤ 2147483647 := by omega
theorem oa153 {a0 a1 a2 a3 : Int} (h0 : a0 = 60 * a1) (h1 : a2 ≤ a3) (h2 : (0 : Int) ≤ a1) (h3 : a2 = 0) : (-2147483648 : Int) ≤ a0 + a3 := by omega
theorem oa154 {a0 a1 a2 a3 a4 a5 : Int} (h0 : a0 ≤ 60) (h1 : a1 = 60 * a2) (h2 : a3 = a0 - a4) (h3 : a5 ≤ a3) (h4 : a2 ≤ 5) (h5 : a4 = 1) : a1 + a5 ≤ 2147483647 := by omega
theorem oa159 {a0 a1 a2 a3 a4 : Int} (h0 : a0 = 60 * a1) (h1 : a2 = a0 + a3) (h2 : a4 ≤ a3) (h3 : (0 : Int) ≤ a1) (h4 : a4 = 0) : (0 : Int) ≤ a2 := by omega
theorem oa160 {a0 a1 a2 a3 a4 a5 a6 : Int} (h0 : a0 ≤ 60) (h1 : a1 = 60 * a2) (h2 : a3 = a1 + a4) (h3 : a5 = a0 - a6) (h4 : a4 ≤ a5) (h5 : a2 ≤ 5) (h6 : a6 = 1) : a3 < 360 := by omega
theorem oa161 {a0 a1 a2 a3 a4 a5 a6 : Int} (h0 : a0 = a1 - a2) (h1 : a3 ≤ a4) (h2 : a4 ≤ a0) (h3 : (0 : Int) ≤ a5) (h4 : a5 ≤ 5) (h5 : (0 : Int) ≤ a6) (h6 : a6 ≤ 4) (h7 : a2 = 1) (h8 : a3 = 0) : ((((a5 < 0) ∨ ((5 : Int) < a5)) → (a2 = (-1)))) ∧ (((((0 : Int) ≤ a5) ∧ (a5 ≤ 5)) → (((a2 = 1) ∧ ((0 : Int) ≤ a6) ∧ (a6 ≤ 4) ∧ ((0 : Int) ≤ a4) ∧ (a4 < a1)) ∨ ((a2 = (-11)) ∧ (a6 = (-1))) ∨ ((a2 = (-12)) ∧ (a6 ≠ (-1)) ∧ (¬ (((0 : Int) ≤ a6) ∧ (a6 ≤ 4)))) ∨ ((a2 = (-13)) ∧ ((0 : Int) ≤ a6) ∧ (a6 ≤ 4) ∧ (¬ (((0 : Int) ≤ a4) ∧ (a4 < a1))))))) := by omega
theorem oa162 {a0 a1 a2 a3 a4 a5 a6 a7 : Int} (h0 : a0 = a1 - a2) (h1 : ¬ ((a3 ≤ a4) ∧ (a4 ≤ a0))) (h2 : (0 : Int) ≤ a5) (h3 : a5 ≤ 5) (h4 : (0 : Int) ≤ a6) (h5 : a6 ≤ 4) (h6 : a2 = 1) (h7 : a3 = 0) (h8 : a7 = (-13)) : ((((a5 < 0) ∨ ((5 : Int) < a5)) → (a7 = (-1)))) ∧ (((((0 : Int) ≤ a5) ∧ (a5 ≤ 5)) → (((a7 = 1) ∧ ((0 : Int) ≤ a6) ∧ (a6 ≤ 4) ∧ ((0 : Int) ≤ a4) ∧ (a4 < a1)) ∨ ((a7 = (-11)) ∧ (a6 = (-1))) ∨ ((a7 = (-12)) ∧ (a6 ≠ (-1)) ∧ (¬ (((0 : Int) ≤ a6) ∧ (a6 ≤ 4)))) ∨ ((a7 = (-13)) ∧ ((0 : Int) ≤ a6) ∧ (a6 ≤ 4) ∧ (¬ (((0 : Int) ≤ a4) ∧ (a4 < a1))))))) := by omega
theorem oa163 {a0 a1 a2 a3 a4 a5 : Int} (h0 : a0 ≠ a1) (h1 : (-1 : Int) ≤ a0) (h2 : ¬ (((0 : Int) ≤ a0) ∧ (a0 ≤ 4))) (h3 : (0 : Int) ≤ a2) (h4 : a2 ≤ 5) (h5 : a1 = (-1)) (h6 : a3 = (-12)) : ((((a2 < 0) ∨ ((5 : Int) < a2)) → (a3 = (-1)))) ∧ (((((0 : Int) ≤ a2) ∧ (a2 ≤ 5)) → (((a3 = 1) ∧ ((0 : Int) ≤ a0) ∧ (a0 ≤ 4) ∧ ((0 : Int) ≤ a4) ∧ (a4 < a5)) ∨ ((a3 = (-11)) ∧ (a0 = (-1))) ∨ ((a3 = (-12)) ∧ (a0 ≠ (-1)) ∧ (¬ (((0 : Int) ≤ a0) ∧ (a0 ≤ 4)))) ∨ ((a3 = (-13)) ∧ ((0 : Int) ≤ a0) ∧ (a0 ≤ 4) ∧ (¬ (((0 : Int) ≤ a4) ∧ (a4 < a5))))))) := by omega
theorem oa164 {a0 a1 a2 a3 a4 a5 : Int} (h0 : a0 = a1) (h1 : (-1 : Int) ≤ a0) (h2 : (0 : Int) ≤ a2) (h3 : a2 ≤ 5) (h4 : a1 = (-1)) (h5 : a3 = (-11)) : ((((a2 < 0) ∨ ((5 : Int) < a2)) → (a3 = (-1)))) ∧ (((((0 : Int) ≤ a2) ∧ (a2 ≤ 5)) → (((a3 = 1) ∧ ((0 : Int) ≤ a0) ∧ (a0 ≤ 4) ∧ ((0 : Int) ≤ a4) ∧ (a4 < a5)) ∨ ((a3 = (-11)) ∧ (a0 = (-1))) ∨ ((a3 = (-12)) ∧ (a0 ≠ (-1)) ∧ (¬ (((0 : Int) ≤ a0) ∧ (a0 ≤ 4)))) ∨ ((a3 = (-13)) ∧ ((0 : Int) ≤ a0) ∧ (a0 ≤ 4) ∧ (¬ (((0 : Int) ≤ a4) ∧ (a4 < a5))))))) := by omega
theorem oa165 {a0 a1 a2 a3 a4 : Int} (h0 : ¬ (((0 : Int) ≤ a0) ∧ (a0 ≤ 5))) (h1 : a1 = (-1)) : ((((a0 < 0) ∨ ((5 : Int) < a0)) → (a1 = (-1)))) ∧ (((((0 : Int) ≤ a0) ∧ (a0 ≤ 5)) → (((a1 = 1) ∧ ((0 : Int) ≤ a2) ∧ (a2 ≤ 4) ∧ ((0 : Int) ≤ a3) ∧ (a3 < a4)) ∨ ((a1 = (-11)) ∧ (a2 = (-1))) ∨ ((a1 = (-12)) ∧ (a2 ≠ (-1)) ∧ (¬ (((0 : Int) ≤ a2) ∧ (a2 ≤ 4)))) ∨ ((a1 = (-13)) ∧ ((0 : Int) ≤ a2) ∧ (a2 ≤ 4) ∧ (¬ (((0 : Int) ≤ a3) ∧ (a3 < a4))))))) := by omega
def yw42_98 : kW := ([6273], [99], [], [])
set_option maxRecDepth 100000 in
theorem ke42_98 {i : Nat → Int32} {a : Nat → List Int32} {q : Nat → List Int64} {r : Nat → Nat} (hI : kI i a q) (hr : kr r) (x1 : Int32) : km 1 42 [.ref 98, .int x1] (ks i a q r) (kVI yw42_98 i a q r (fun v i1 a1 q1 r1 => ((((120 : Int) ≤ (i 6273).toInt) ∧ (v.toInt = (i 6273).toInt) ∧ ((i1 6273).toInt = (i 6273).toInt)) ∨ (((i 6273).toInt < 120) ∧ (v.toInt = ((i 6273).toInt + 1)) ∧ ((i1 6273).toInt = ((i 6273).toInt + 1)))) ∧ (((i 6273).toInt < 120 → a1 99 = (a 99).set (i 6273).toNatClampNeg x1) ∧ ((120 : Int) ≤ (i 6273).toInt → a1 99 = a 99)))) := by
  have hG := kG_self yw42_98 hI hr
  refine km_ofI (q := (mi_h42, mi_c42)) rfl (by decide) (Nat.le_of_ble_eq_true rfl) ?_
  intro P hP
  have fi_6273 : ((0 : Int) ≤ (i 6273).toInt) ∧ ((i 6273).toInt ≤ 120) := hG.I.1 6273
  refine ft_go mi_k42 3 6 [(0, .ref 98), (1, .int x1)] [.int 120, .int (i 6273)] i a q r (by rfl) ?_
  refine ft_if mi_k42 (decide (120 ≤ (i 6273))) 29 9 [(0, .ref 98), (1, .int x1)] [] (by rfl) (fun c => ?_) (fun c => ?_)
  ·
    have c1 : (120 : Int32).toInt ≤ (i 6273).toInt := kd_le c; clear c
    refine ft_go mi_k42 2 33 [(0, .ref 98), (1, .int x1)] [.int (i 6273)] i a q r (by rfl) ?_
    exact ft_ret mi_k42 (by rfl) (hP (i 6273) _ _ _ _ hG ⟨(oa3 c1 koa120), ⟨(fun h => absurd h (oa4 c1 koa120)), (fun _ => (show a 99 = a 99 from rfl))⟩⟩)
  ·
    have c2 : (i 6273).toInt < (120 : Int32).toInt := kd_leF c; clear c
    refine ft_go mi_k42 5 18 [(0, .ref 98), (1, .int x1)] [.int x1, .int (i 6273), .ref 99] i a q r (by rfl) ?_
    refine ko_iast3 mi_k42.1 (n := 120) (c := 120) (ax := (0, 0, 0, 0, 0)) (mi_k42.2 _ _ (by rfl)) (by rfl) (ksG99 _ _ _ _) (ksA99 _ _ _ _) (hG.I.2.1 99) rfl (oa5 fi_6273.1) (oa6 c2 koa120) ?_
    intro a3 ea3 fa3
    have hJ3 := kG_a3 hG 99 rfl ea3 fa3 (kd_bd _)
    have s4 : ((i 6273) + 1).toInt = (i 6273).toInt + (1 : Int32).toInt := kd_add (oa7 fi_6273.1 koa1) (oa8 fi_6273.2 koa1)
    have hJ5 := kG_i hJ3 6273 rfl (v := ((i 6273) + 1)) ⟨(oa9 fi_6273.1 s4 koa1), (oa10 c2 s4 koa120 koa1)⟩
    refine ft_go mi_k42 8 33 [(0, .ref 98), (1, .int x1)] [.int ((i 6273) + 1)] (ku i 6273 ((i 6273) + 1)) a3 q r (by rfl) ?_
    exact ft_ret mi_k42 (by rfl) (hP ((i 6273) + 1) _ _ _ _ hJ5 ⟨(oa11 c2 s4 koa120 koa1), ⟨(fun _ => (show a3 99 = (a 99).set (i 6273).toNatClampNeg x1 from (by first | rfl | (simp only [ea3, sMn, sMx]; done) | (simp only [ea3, sMn, sMx]; rfl)))), (fun h => absurd h (oa12 c2 koa120))⟩⟩)
def yw85_0 : kW := ([6273], [99], [], [])
set_option maxRecDepth 100000 in
theorem ke85_0 {i : Nat → Int32} {a : Nat → List Int32} {q : Nat → List Int64} {r : Nat → Nat} (hI : kI i a q) (hr : kr r) (x1 : Int32) : km 3 85 [.ref 0, .int x1] (ks i a q r) (kVI yw85_0 i a q r (fun v i1 a1 q1 r1 => (((v.toInt = (-1)) ∧ (¬ (((0 : Int) ≤ x1.toInt) ∧ (x1.toInt ≤ 255))) ∧ ((i1 6273).toInt = (i 6273).toInt)) ∨ (((0 : Int) ≤ x1.toInt) ∧ (x1.toInt ≤ 255) ∧ (((v.toInt = (-3)) ∧ ((120 : Int) ≤ (i 6273).toInt) ∧ ((i1 6273).toInt = (i 6273).toInt)) ∨ (((i 6273).toInt < 120) ∧ (v.toInt = ((i 6273).toInt + 1)) ∧ ((i1 6273).toInt = ((i 6273).toInt + 1)))))) ∧ ((((0 : Int) ≤ x1.toInt) ∧ (x1.toInt ≤ 255) ∧ ((i 6273).toInt < 120) → a1 99 = (a 99).set (i 6273).toNatClampNeg x1) ∧ (¬ (((0 : Int) ≤ x1.toInt) ∧ (x1.toInt ≤ 255) ∧ ((i 6273).toInt < 120)) → a1 99 = a 99)))) := by
  have hG := kG_self yw85_0 hI hr
  refine km_ofI (q := (mi_h85, mi_c85)) rfl (by decide) (Nat.le_of_ble_eq_true rfl) ?_
  intro P hP
  refine ft_go mi_k85 3 5 [(0, .ref 0), (1, .int x1)] [.int 255, .int 0, .int x1] i a q r (by rfl) ?_
  refine ko_callPI mi_k85.1 (pc := 5) (ls := [(0, .ref 0), (1, .int x1)]) (st := [.int 255, .int 0, .int x1]) (h := ks i a q r) (i := (.invokestatic 74, 3, 120, 0, 9, 0, 152)) (mi_k85.2 _ _ (by rfl)) (ft_invS mi_pq120 (by rfl)) (cy := mi_c120) mi_pq120 rfl (kc120 hG.I hG.R x1 0 255) (by decide) ?_
  intro vg1 hg1
  rcases hg1 with ⟨eg1, hg1⟩ | ⟨eg1, hg1⟩
  ·
    subst eg1
    have z2 : ((0 : Int32).toInt ≤ x1.toInt) ∧ (x1.toInt ≤ (255 : Int32).toInt) := hg1
    have fi_6273 : ((0 : Int) ≤ (i 6273).toInt) ∧ ((i 6273).toInt ≤ 120) := hG.I.1 6273
    refine ft_go mi_k85 5 22 [(0, .ref 0), (1, .int x1)] [.int 120, .int (i 6273)] i a q r (by rfl) ?_
    refine ft_if mi_k85 (decide ((i 6273) < 120)) 30 25 [(0, .ref 0), (1, .int x1)] [] (by rfl) (fun c => ?_) (fun c => ?_)
    ·
      have c3 : (i 6273).toInt < (120 : Int32).toInt := kd_lt c; clear c
      refine ft_go mi_k85 3 35 [(0, .ref 0), (1, .int x1)] [.int x1, .ref 98] i a q r (by rfl) ?_
      refine ko_callI mi_k85.1 (pc := 35) (ls := [(0, .ref 0), (1, .int x1)]) (st := [.int x1, .ref 98]) (h := ks i a q r) (i := (.invokevirtual 110, 3, 42, 0, 9, 0, 173)) (mi_k85.2 _ _ (by rfl)) (ft_invS mi_pq42 (by rfl)) (cy := mi_c42) mi_pq42 rfl (ke42_98 hG.I hG.R x1) (by decide) ?_
      intro vg4 ig4 ag4 qg4 rg4 kg4 hg4
      have hGg4 := kG_call hG kg4 (by decide +kernel)
      obtain ⟨hg4, og4⟩ := hg4
      have fig4_6273 : ((0 : Int) ≤ (ig4 6273).toInt) ∧ ((ig4 6273).toInt ≤ 120) := hGg4.I.1 6273
      have z5 : (((120 : Int) ≤ (i 6273).toInt) ∧ (vg4.toInt = (i 6273).toInt) ∧ ((ig4 6273).toInt = (i 6273).toInt)) ∨ (((i 6273).toInt < 120) ∧ (vg4.toInt = ((i 6273).toInt + 1)) ∧ ((ig4 6273).toInt = ((i 6273).toInt + 1))) := hg4
      have q6 : ag4 99 = (a 99).set (i 6273).toNatClampNeg x1 := og4.1 (oa6 c3 koa120)
      exact ft_ret mi_k85 (by rfl) (hP vg4 _ _ _ _ hGg4 ⟨(oa13 c3 z2.1 z2.2 z5 koa120 koa0 koa255), ⟨(fun _ => (show ag4 99 = (a 99).set (i 6273).toNatClampNeg x1 from (by first | rfl | (simp only [q6, sMn, sMx]; done) | (simp only [q6, sMn, sMx]; rfl)))), (fun h => absurd h (oa14 c3 z2.1 z2.2 koa120 koa0 koa255))⟩⟩)
    ·
      have c7 : (120 : Int32).toInt ≤ (i 6273).toInt := kd_ltF c; clear c
      refine ft_go mi_k85 2 38 [(0, .ref 0), (1, .int x1)] [.int (-3)] i a q r (by rfl) ?_
      exact ft_ret mi_k85 (by rfl) (hP (-3) _ _ _ _ hG ⟨(oa15 c7 z2.1 z2.2 koa120 koa0 koa255 koam3), ⟨(fun h => absurd h (oa16 c7 koa120)), (fun _ => (show a 99 = a 99 from rfl))⟩⟩)
  ·
    subst eg1
    have z8 : ¬ (((0 : Int32).toInt ≤ x1.toInt) ∧ (x1.toInt ≤ (255 : Int32).toInt)) := hg1
    refine ft_go mi_k85 2 12 [(0, .ref 0), (1, .int x1)] [.int (-1)] i a q r (by rfl) ?_
    have fi_6273 : ((0 : Int) ≤ (i 6273).toInt) ∧ ((i 6273).toInt ≤ 120) := hG.I.1 6273
    exact ft_ret mi_k85 (by rfl) (hP (-1) _ _ _ _ hG ⟨(oa17 z8 koa0 koa255 koam1), ⟨(fun h => absurd h (oa18 z8 koa0 koa255)), (fun _ => (show a 99 = a 99 from rfl))⟩⟩)
def yw146_116 : kW := ([7429], [119], [], [])
set_option maxRecDepth 100000 in
theorem ke146_116 {i : Nat → Int32} {a : Nat → List Int32} {q : Nat → List Int64} {r : Nat → Nat} (hI : kI i a q) (hr : kr r) (x1 : Int32) : km 3 146 [.ref 116, .int x1] (ks i a q r) (kVI yw146_116 i a q r (fun v i1 a1 q1 r1 => (((v.toInt = (-1)) ∧ (¬ (((0 : Int) ≤ x1.toInt) ∧ (x1.toInt ≤ 255))) ∧ ((i1 7429).toInt = (i 7429).toInt)) ∨ (((0 : Int) ≤ x1.toInt) ∧ (x1.toInt ≤ 255) ∧ (((v.toInt = (-3)) ∧ ((120 : Int) ≤ (i 7429).toInt) ∧ ((i1 7429).toInt = (i 7429).toInt)) ∨ (((i 7429).toInt < 120) ∧ (v.toInt = ((i 7429).toInt + 1)) ∧ ((i1 7429).toInt = ((i 7429).toInt + 1)))))) ∧ ((((0 : Int) ≤ x1.toInt) ∧ (x1.toInt ≤ 255) ∧ ((i 7429).toInt < 120) → a1 119 = (a 119).set (i 7429).toNatClampNeg x1) ∧ (¬ (((0 : Int) ≤ x1.toInt) ∧ (x1.toInt ≤ 255) ∧ ((i 7429).toInt < 120)) → a1 119 = a 119)))) := by
  have hG := kG_self yw146_116 hI hr
  refine km_ofI (q := (mi_h146, mi_c146)) rfl (by decide) (Nat.le_of_ble_eq_true rfl) ?_
  intro P hP
  refine ft_go mi_k146 3 5 [(0, .ref 116), (1, .int x1)] [.int 255, .int 0, .int x1] i a q r (by rfl) ?_
  refine ko_callPI mi_k146.1 (pc := 5) (ls := [(0, .ref 116), (1, .int x1)]) (st := [.int 255, .int 0, .int x1]) (h := ks i a q r) (i := (.invokestatic 119, 3, 131, 0, 9, 0, 379)) (mi_k146.2 _ _ (by rfl)) (ft_invS mi_pq131 (by rfl)) (cy := mi_c131) mi_pq131 rfl (kc131 hG.I hG.R x1 0 255) (by decide) ?_
  intro vg1 hg1
  rcases hg1 with ⟨eg1, hg1⟩ | ⟨eg1, hg1⟩
  ·
    subst eg1
    have z2 : ((0 : Int32).toInt ≤ x1.toInt) ∧ (x1.toInt ≤ (255 : Int32).toInt) := hg1
    have fi_7429 : ((0 : Int) ≤ (i 7429).toInt) ∧ ((i 7429).toInt ≤ 120) := hG.I.1 7429
    refine ft_go mi_k146 4 19 [(0, .ref 116), (1, .int x1)] [.int 120, .int (i 7429)] i a q r (by rfl) ?_
    refine ft_if mi_k146 ((i 7429) != 120) 25 22 [(0, .ref 116), (1, .int x1)] [] (by rfl) (fun c => ?_) (fun c => ?_)
    ·
      have c3 : (i 7429).toInt ≠ (120 : Int32).toInt := kd_ne c; clear c
      have s4 : ((i 7429) + 1).toInt = (i 7429).toInt + (1 : Int32).toInt := kd_add (oa7 fi_7429.1 koa1) (oa8 fi_7429.2 koa1)
      have hJ5 := kG_i hG 7429 rfl (v := ((i 7429) + 1)) ⟨(oa9 fi_7429.1 s4 koa1), (oa19 c3 fi_7429.2 s4 koa120 koa1)⟩
      refine ft_go mi_k146 10 41 [(0, .ref 116), (1, .int x1)] [.int x1, .int (i 7429), .ref 119] (ku i 7429 ((i 7429) + 1)) a q r (by rfl) ?_
      refine ko_iast3 mi_k146.1 (n := 120) (c := 120) (ax := (0, 0, 0, 0, 0)) (mi_k146.2 _ _ (by rfl)) (by rfl) (ksG119 _ _ _ _) (ksA119 _ _ _ _) (hJ5.I.2.1 119) rfl (oa5 fi_7429.1) (oa20 c3 fi_7429.2 koa120) ?_
      intro a6 ea6 fa6
      have hJ6 := kG_a3 hJ5 119 rfl ea6 fa6 (kd_bd _)
      refine ft_go mi_k146 2 46 [(0, .ref 116), (1, .int x1)] [.int ((i 7429) + 1)] (ku i 7429 ((i 7429) + 1)) a6 q r (by rfl) ?_
      exact ft_ret mi_k146 (by rfl) (hP ((i 7429) + 1) _ _ _ _ hJ6 ⟨(oa21 c3 fi_7429.2 s4 z2.1 z2.2 koa120 koa1 koa0 koa255), ⟨(fun _ => (show a6 119 = (a 119).set (i 7429).toNatClampNeg x1 from (by first | rfl | (simp only [ea6, sMn, sMx]; done) | (simp only [ea6, sMn, sMx]; rfl)))), (fun h => absurd h (oa22 c3 fi_7429.2 z2.1 z2.2 koa120 koa0 koa255))⟩⟩)
    ·
      have c7 : (i 7429).toInt = (120 : Int32).toInt := kd_neF c; clear c
      refine ft_go mi_k146 1 24 [(0, .ref 116), (1, .int x1)] [.int (-3)] i a q r (by rfl) ?_
      exact ft_ret mi_k146 (by rfl) (hP (-3) _ _ _ _ hG ⟨(oa23 c7 z2.1 z2.2 koa120 koa0 koa255 koam3), ⟨(fun h => absurd h (oa24 c7 koa120)), (fun _ => (show a 119 = a 119 from rfl))⟩⟩)
  ·
    subst eg1
    have z8 : ¬ (((0 : Int32).toInt ≤ x1.toInt) ∧ (x1.toInt ≤ (255 : Int32).toInt)) := hg1
    refine ft_go mi_k146 2 12 [(0, .ref 116), (1, .int x1)] [.int (-1)] i a q r (by rfl) ?_
    have fi_7429 : ((0 : Int) ≤ (i 7429).toInt) ∧ ((i 7429).toInt ≤ 120) := hG.I.1 7429
    exact ft_ret mi_k146 (by rfl) (hP (-1) _ _ _ _ hG ⟨(oa17 z8 koa0 koa255 koam1), ⟨(fun h => absurd h (oa18 z8 koa0 koa255)), (fun _ => (show a 119 = a 119 from rfl))⟩⟩)
set_option maxRecDepth 100000 in
theorem ke126_l01 {i : Nat → Int32} {a : Nat → List Int32} {q : Nat → List Int64} {r : Nat → Nat} (hI : kI i a q) (hr : kr r) (x2 : Int32) : km 3 126 [.int 1, .int x2] (ks i a q r) (kPI (ks i a q r) (fun v => (v = 1 ∧ (((0 : Int) ≤ x2.toInt) ∧ (x2.toInt ≤ 9))) ∨ (v = 0 ∧ (¬ (((0 : Int) ≤ x2.toInt) ∧ (x2.toInt ≤ 9)))))) := by
  have hG := kG_self kW0 hI hr
  refine km_ofPI (q := (mi_h126, mi_c126)) rfl (by decide) (Nat.le_of_ble_eq_true rfl) ?_
  intro P hP
  refine ft_go mi_k126 3 4 [(0, .int 1), (1, .int x2)] [.int 6, .int 0, .int 1] i a q r (by rfl) ?_
  refine ko_callPI mi_k126.1 (pc := 4) (ls := [(0, .int 1), (1, .int x2)]) (st := [.int 6, .int 0, .int 1]) (h := ks i a q r) (i := (.invokestatic 74, 3, 120, 0, 9, 0, 152)) (mi_k126.2 _ _ (by rfl)) (ft_invS mi_pq120 (by rfl)) (cy := mi_c120) mi_pq120 rfl (kc120 hG.I hG.R 1 0 6) (by decide) ?_
  intro vg1 hg1
  rcases hg1 with ⟨eg1, hg1⟩ | ⟨eg1, hg1⟩
  ·
    subst eg1
    have z2 : ((0 : Int32).toInt ≤ (1 : Int32).toInt) ∧ ((1 : Int32).toInt ≤ (6 : Int32).toInt) := hg1
    refine ft_go mi_k126 4 15 [(0, .int 1), (1, .int x2)] [.int 1, .ref (mi_RO + 1), .int x2] i a q r (by rfl) ?_
    refine ko_iaro2 mi_k126.1 (l := [0, 0, 0, 0, 1, 0, 0]) (n := 7) (c := 7) (ax := (0, 0, 0, 0, 0)) (mi_k126.2 _ _ (by rfl)) (by rfl) (by rfl) rfl rfl (oa25 koa1) (oa26 koa1) ?_
    have r3 : ((0 : Int) ≤ (([0, 0, 0, 0, 1, 0, 0] : List Int32).getD (1 : Int32).toNatClampNeg 0).toInt) ∧ ((([0, 0, 0, 0, 1, 0, 0] : List Int32).getD (1 : Int32).toNatClampNeg 0).toInt ≤ 1) := kro_rng (lo := 0) (hi := 1) (by decide) ((1 : Int32).toNatClampNeg)
    refine ko_eq (x1 := (16, [(0, .int 1), (1, .int x2)], [.int 0, .int x2], (0, 0), ks i a q r)) (by rw [(by decide : (([0, 0, 0, 0, 1, 0, 0] : List Int32).getD (1 : Int32).toNatClampNeg 0) = 0)]) ?_
    refine ft_go mi_k126 2 20 [(0, .int 1), (1, .int x2)] [.int 1, .ref (mi_RO + 2), .int 0, .int x2] i a q r (by rfl) ?_
    refine ko_iaro2 mi_k126.1 (l := [999, 9, 9, 1, 5, 1, 99]) (n := 7) (c := 7) (ax := (0, 0, 0, 0, 0)) (mi_k126.2 _ _ (by rfl)) (by rfl) (by rfl) rfl rfl (oa25 koa1) (oa26 koa1) ?_
    have r4 : ((0 : Int) ≤ (([999, 9, 9, 1, 5, 1, 99] : List Int32).getD (1 : Int32).toNatClampNeg 0).toInt) ∧ ((([999, 9, 9, 1, 5, 1, 99] : List Int32).getD (1 : Int32).toNatClampNeg 0).toInt ≤ 999) := kro_rng (lo := 0) (hi := 999) (by decide) ((1 : Int32).toNatClampNeg)
    refine ko_eq (x1 := (21, [(0, .int 1), (1, .int x2)], [.int 9, .int 0, .int x2], (0, 0), ks i a q r)) (by rw [(by decide : (([999, 9, 9, 1, 5, 1, 99] : List Int32).getD (1 : Int32).toNatClampNeg 0) = 9)]) ?_
    refine ko_callPI mi_k126.1 (pc := 21) (ls := [(0, .int 1), (1, .int x2)]) (st := [.int 9, .int 0, .int x2]) (h := ks i a q r) (i := (.invokestatic 74, 3, 120, 0, 9, 0, 152)) (mi_k126.2 _ _ (by rfl)) (ft_invS mi_pq120 (by rfl)) (cy := mi_c120) mi_pq120 rfl (kc120 hG.I hG.R x2 0 9) (by decide) ?_
    intro vg5 hg5
    rcases hg5 with ⟨eg5, hg5⟩ | ⟨eg5, hg5⟩
    ·
      subst eg5
      have z6 : ((0 : Int32).toInt ≤ x2.toInt) ∧ (x2.toInt ≤ (9 : Int32).toInt) := hg5
      refine ft_go mi_k126 3 32 [(0, .int 1), (1, .int x2)] [.int 1] i a q r (by rfl) ?_
      exact ft_ret mi_k126 (by rfl) (hP 1 (Or.inl ⟨rfl, (oa27 z6.1 z6.2 koa0 koa9)⟩))
    ·
      subst eg5
      have z7 : ¬ (((0 : Int32).toInt ≤ x2.toInt) ∧ (x2.toInt ≤ (9 : Int32).toInt)) := hg5
      refine ft_go mi_k126 2 32 [(0, .int 1), (1, .int x2)] [.int 0] i a q r (by rfl) ?_
      exact ft_ret mi_k126 (by rfl) (hP 0 (Or.inr ⟨rfl, (oa28 z7 koa0 koa9)⟩))
  ·
    subst eg1
    have z8 : ¬ (((0 : Int32).toInt ≤ (1 : Int32).toInt) ∧ ((1 : Int32).toInt ≤ (6 : Int32).toInt)) := hg1
    exact (oa29 z8 koa0 koa1 koa6).elim
set_option maxRecDepth 100000 in
theorem ke126_l02 {i : Nat → Int32} {a : Nat → List Int32} {q : Nat → List Int64} {r : Nat → Nat} (hI : kI i a q) (hr : kr r) (x2 : Int32) : km 3 126 [.int 2, .int x2] (ks i a q r) (kPI (ks i a q r) (fun v => (v = 1 ∧ (((0 : Int) ≤ x2.toInt) ∧ (x2.toInt ≤ 9))) ∨ (v = 0 ∧ (¬ (((0 : Int) ≤ x2.toInt) ∧ (x2.toInt ≤ 9)))))) := by
  have hG := kG_self kW0 hI hr
  refine km_ofPI (q := (mi_h126, mi_c126)) rfl (by decide) (Nat.le_of_ble_eq_true rfl) ?_
  intro P hP
  refine ft_go mi_k126 3 4 [(0, .int 2), (1, .int x2)] [.int 6, .int 0, .int 2] i a q r (by rfl) ?_
  refine ko_callPI mi_k126.1 (pc := 4) (ls := [(0, .int 2), (1, .int x2)]) (st := [.int 6, .int 0, .int 2]) (h := ks i a q r) (i := (.invokestatic 74, 3, 120, 0, 9, 0, 152)) (mi_k126.2 _ _ (by rfl)) (ft_invS mi_pq120 (by rfl)) (cy := mi_c120) mi_pq120 rfl (kc120 hG.I hG.R 2 0 6) (by decide) ?_
  intro vg1 hg1
  rcases hg1 with ⟨eg1, hg1⟩ | ⟨eg1, hg1⟩
  ·
    subst eg1
    have z2 : ((0 : Int32).toInt ≤ (2 : Int32).toInt) ∧ ((2 : Int32).toInt ≤ (6 : Int32).toInt) := hg1
    refine ft_go mi_k126 4 15 [(0, .int 2), (1, .int x2)] [.int 2, .ref (mi_RO + 1), .int x2] i a q r (by rfl) ?_
    refine ko_iaro2 mi_k126.1 (l := [0, 0, 0, 0, 1, 0, 0]) (n := 7) (c := 7) (ax := (0, 0, 0, 0, 0)) (mi_k126.2 _ _ (by rfl)) (by rfl) (by rfl) rfl rfl (oa30 koa2) (oa31 koa2) ?_
    have r3 : ((0 : Int) ≤ (([0, 0, 0, 0, 1, 0, 0] : List Int32).getD (2 : Int32).toNatClampNeg 0).toInt) ∧ ((([0, 0, 0, 0, 1, 0, 0] : List Int32).getD (2 : Int32).toNatClampNeg 0).toInt ≤ 1) := kro_rng (lo := 0) (hi := 1) (by decide) ((2 : Int32).toNatClampNeg)
    refine ko_eq (x1 := (16, [(0, .int 2), (1, .int x2)], [.int 0, .int x2], (0, 0), ks i a q r)) (by rw [(by decide : (([0, 0, 0, 0, 1, 0, 0] : List Int32).getD (2 : Int32).toNatClampNeg 0) = 0)]) ?_
    refine ft_go mi_k126 2 20 [(0, .int 2), (1, .int x2)] [.int 2, .ref (mi_RO + 2), .int 0, .int x2] i a q r (by rfl) ?_
    refine ko_iaro2 mi_k126.1 (l := [999, 9, 9, 1, 5, 1, 99]) (n := 7) (c := 7) (ax := (0, 0, 0, 0, 0)) (mi_k126.2 _ _ (by rfl)) (by rfl) (by rfl) rfl rfl (oa30 koa2) (oa31 koa2) ?_
    have r4 : ((0 : Int) ≤ (([999, 9, 9, 1, 5, 1, 99] : List Int32).getD (2 : Int32).toNatClampNeg 0).toInt) ∧ ((([999, 9, 9, 1, 5, 1, 99] : List Int32).getD (2 : Int32).toNatClampNeg 0).toInt ≤ 999) := kro_rng (lo := 0) (hi := 999) (by decide) ((2 : Int32).toNatClampNeg)
    refine ko_eq (x1 := (21, [(0, .int 2), (1, .int x2)], [.int 9, .int 0, .int x2], (0, 0), ks i a q r)) (by rw [(by decide : (([999, 9, 9, 1, 5, 1, 99] : List Int32).getD (2 : Int32).toNatClampNeg 0) = 9)]) ?_
    refine ko_callPI mi_k126.1 (pc := 21) (ls := [(0, .int 2), (1, .int x2)]) (st := [.int 9, .int 0, .int x2]) (h := ks i a q r) (i := (.invokestatic 74, 3, 120, 0, 9, 0, 152)) (mi_k126.2 _ _ (by rfl)) (ft_invS mi_pq120 (by rfl)) (cy := mi_c120) mi_pq120 rfl (kc120 hG.I hG.R x2 0 9) (by decide) ?_
    intro vg5 hg5
    rcases hg5 with ⟨eg5, hg5⟩ | ⟨eg5, hg5⟩
    ·
      subst eg5
      have z6 : ((0 : Int32).toInt ≤ x2.toInt) ∧ (x2.toInt ≤ (9 : Int32).toInt) := hg5
      refine ft_go mi_k126 3 32 [(0, .int 2), (1, .int x2)] [.int 1] i a q r (by rfl) ?_
      exact ft_ret mi_k126 (by rfl) (hP 1 (Or.inl ⟨rfl, (oa27 z6.1 z6.2 koa0 koa9)⟩))
    ·
      subst eg5
      have z7 : ¬ (((0 : Int32).toInt ≤ x2.toInt) ∧ (x2.toInt ≤ (9 : Int32).toInt)) := hg5
      refine ft_go mi_k126 2 32 [(0, .int 2), (1, .int x2)] [.int 0] i a q r (by rfl) ?_
      exact ft_ret mi_k126 (by rfl) (hP 0 (Or.inr ⟨rfl, (oa28 z7 koa0 koa9)⟩))
  ·
    subst eg1
    have z8 : ¬ (((0 : Int32).toInt ≤ (2 : Int32).toInt) ∧ ((2 : Int32).toInt ≤ (6 : Int32).toInt)) := hg1
    exact (oa32 z8 koa0 koa2 koa6).elim
def yw25_1 : kW := ([64], [2, 3, 4, 5, 6], [], [])
set_option maxRecDepth 100000 in
theorem ke25_1 {i : Nat → Int32} {a : Nat → List Int32} {q : Nat → List Int64} {r : Nat → Nat} (hI : kI i a q) (hr : kr r) (x1 : Int32) (x2 : Int32) (x3 : Int32) : km 1 25 [.ref 1, .int x1, .int x2, .int x3] (ks i a q r) (kVI yw25_1 i a q r (fun v i1 a1 q1 r1 => ((((8 : Int) ≤ (i 64).toInt) ∧ (v.toInt = (-3)) ∧ ((i1 64).toInt = (i 64).toInt)) ∨ (((i 64).toInt < 8) ∧ (v.toInt = (i 64).toInt) ∧ ((i1 64).toInt = ((i 64).toInt + 1)))) ∧ (((i 64).toInt < 8 → a1 2 = (a 2).set (i 64).toNatClampNeg x1) ∧ ((i 64).toInt < 8 → a1 3 = (a 3).set (i 64).toNatClampNeg x2) ∧ ((i 64).toInt < 8 → a1 4 = (a 4).set (i 64).toNatClampNeg x3) ∧ ((i 64).toInt < 8 → a1 5 = (a 5).set (i 64).toNatClampNeg 0) ∧ ((i 64).toInt < 8 → a1 6 = (a 6).set (i 64).toNatClampNeg 0)))) := by
  have hG := kG_self yw25_1 hI hr
  refine km_ofI (q := (mi_h25, mi_c25)) rfl (by decide) (Nat.le_of_ble_eq_true rfl) ?_
  intro P hP
  have fi_64 : ((0 : Int) ≤ (i 64).toInt) ∧ ((i 64).toInt ≤ 8) := hG.I.1 64
  refine ft_go mi_k25 3 6 [(0, .ref 1), (1, .int x1), (2, .int x2), (3, .int x3)] [.int 8, .int (i 64)] i a q r (by rfl) ?_
  refine ft_if mi_k25 (decide ((i 64) < 8)) 12 9 [(0, .ref 1), (1, .int x1), (2, .int x2), (3, .int x3)] [] (by rfl) (fun c => ?_) (fun c => ?_)
  ·
    have c1 : (i 64).toInt < (8 : Int32).toInt := kd_lt c; clear c
    refine ft_go mi_k25 5 21 [(0, .ref 1), (1, .int x1), (2, .int x2), (3, .int x3)] [.int x1, .int (i 64), .ref 2] i a q r (by rfl) ?_
    refine ko_iast3 mi_k25.1 (n := 8) (c := 8) (ax := (0, 0, 0, 0, 0)) (mi_k25.2 _ _ (by rfl)) (by rfl) (ksG2 _ _ _ _) (ksA2 _ _ _ _) (hG.I.2.1 2) rfl (oa5 fi_64.1) (oa33 c1 koa8) ?_
    intro a2 ea2 fa2
    have hJ2 := kG_a3 hG 2 rfl ea2 fa2 (kd_bd _)
    refine ft_go mi_k25 5 31 [(0, .ref 1), (1, .int x1), (2, .int x2), (3, .int x3)] [.int x2, .int (i 64), .ref 3] i a2 q r (by rfl) ?_
    refine ko_iast3 mi_k25.1 (n := 8) (c := 8) (ax := (0, 0, 0, 0, 0)) (mi_k25.2 _ _ (by rfl)) (by rfl) (ksG3 _ _ _ _) (ksA3 _ _ _ _) (hJ2.I.2.1 3) rfl (oa5 fi_64.1) (oa33 c1 koa8) ?_
    intro a3 ea3 fa3
    have hJ3 := kG_a3 hJ2 3 rfl ea3 fa3 (kd_bd _)
    refine ft_go mi_k25 5 41 [(0, .ref 1), (1, .int x1), (2, .int x2), (3, .int x3)] [.int x3, .int (i 64), .ref 4] i a3 q r (by rfl) ?_
    refine ko_iast3 mi_k25.1 (n := 8) (c := 8) (ax := (0, 0, 0, 0, 0)) (mi_k25.2 _ _ (by rfl)) (by rfl) (ksG4 _ _ _ _) (ksA4 _ _ _ _) (hJ3.I.2.1 4) rfl (oa5 fi_64.1) (oa33 c1 koa8) ?_
    intro a4 ea4 fa4
    have hJ4 := kG_a3 hJ3 4 rfl ea4 fa4 (kd_bd _)
    refine ft_go mi_k25 5 51 [(0, .ref 1), (1, .int x1), (2, .int x2), (3, .int x3)] [.int 0, .int (i 64), .ref 5] i a4 q r (by rfl) ?_
    refine ko_iast3 mi_k25.1 (n := 8) (c := 8) (ax := (0, 0, 0, 0, 0)) (mi_k25.2 _ _ (by rfl)) (by rfl) (ksG5 _ _ _ _) (ksA5 _ _ _ _) (hJ4.I.2.1 5) rfl (oa5 fi_64.1) (oa33 c1 koa8) ?_
    intro a5 ea5 fa5
    have hJ5 := kG_a3 hJ4 5 rfl ea5 fa5 (kd_bd _)
    refine ft_go mi_k25 5 61 [(0, .ref 1), (1, .int x1), (2, .int x2), (3, .int x3)] [.int 0, .int (i 64), .ref 6] i a5 q r (by rfl) ?_
    refine ko_iast3 mi_k25.1 (n := 8) (c := 8) (ax := (0, 0, 0, 0, 0)) (mi_k25.2 _ _ (by rfl)) (by rfl) (ksG6 _ _ _ _) (ksA6 _ _ _ _) (hJ5.I.2.1 6) rfl (oa5 fi_64.1) (oa33 c1 koa8) ?_
    intro a6 ea6 fa6
    have hJ6 := kG_a3 hJ5 6 rfl ea6 fa6 (kd_bd _)
    have s7 : ((i 64) + 1).toInt = (i 64).toInt + (1 : Int32).toInt := kd_add (oa7 fi_64.1 koa1) (oa34 fi_64.2 koa1)
    have hJ8 := kG_i hJ6 64 rfl (v := ((i 64) + 1)) ⟨(oa9 fi_64.1 s7 koa1), (oa35 c1 s7 koa8 koa1)⟩
    have s9 : (((i 64) + 1) - 1).toInt = ((i 64) + 1).toInt - (1 : Int32).toInt := kd_sub (oa36 fi_64.1 s7 koa1) (oa37 fi_64.2 s7 koa1)
    refine ft_go mi_k25 10 78 [(0, .ref 1), (1, .int x1), (2, .int x2), (3, .int x3)] [.int (((i 64) + 1) - 1)] (ku i 64 ((i 64) + 1)) a6 q r (by rfl) ?_
    exact ft_ret mi_k25 (by rfl) (hP (((i 64) + 1) - 1) _ _ _ _ hJ8 ⟨(oa38 c1 s7 s9 koa8 koa1), ⟨(fun _ => (show a6 2 = (a 2).set (i 64).toNatClampNeg x1 from (by first | rfl | (simp only [fa6 2 (by decide), fa5 2 (by decide), fa4 2 (by decide), fa3 2 (by decide), ea2, sMn, sMx]; done) | (simp only [fa6 2 (by decide), fa5 2 (by decide), fa4 2 (by decide), fa3 2 (by decide), ea2, sMn, sMx]; rfl)))), (fun _ => (show a6 3 = (a 3).set (i 64).toNatClampNeg x2 from (by first | rfl | (simp only [fa6 3 (by decide), fa5 3 (by decide), fa4 3 (by decide), ea3, fa2 3 (by decide), sMn, sMx]; done) | (simp only [fa6 3 (by decide), fa5 3 (by decide), fa4 3 (by decide), ea3, fa2 3 (by decide), sMn, sMx]; rfl)))), (fun _ => (show a6 4 = (a 4).set (i 64).toNatClampNeg x3 from (by first | rfl | (simp only [fa6 4 (by decide), fa5 4 (by decide), ea4, fa3 4 (by decide), fa2 4 (by decide), sMn, sMx]; done) | (simp only [fa6 4 (by decide), fa5 4 (by decide), ea4, fa3 4 (by decide), fa2 4 (by decide), sMn, sMx]; rfl)))), (fun _ => (show a6 5 = (a 5).set (i 64).toNatClampNeg 0 from (by first | rfl | (simp only [fa6 5 (by decide), ea5, fa4 5 (by decide), fa3 5 (by decide), fa2 5 (by decide), sMn, sMx]; done) | (simp only [fa6 5 (by decide), ea5, fa4 5 (by decide), fa3 5 (by decide), fa2 5 (by decide), sMn, sMx]; rfl)))), (fun _ => (show a6 6 = (a 6).set (i 64).toNatClampNeg 0 from (by first | rfl | (simp only [ea6, fa5 6 (by decide), fa4 6 (by decide), fa3 6 (by decide), fa2 6 (by decide), sMn, sMx]; done) | (simp only [ea6, fa5 6 (by decide), fa4 6 (by decide), fa3 6 (by decide), fa2 6 (by decide), sMn, sMx]; rfl))))⟩⟩)
  ·
    have c10 : (8 : Int32).toInt ≤ (i 64).toInt := kd_ltF c; clear c
    refine ft_go mi_k25 1 11 [(0, .ref 1), (1, .int x1), (2, .int x2), (3, .int x3)] [.int (-3)] i a q r (by rfl) ?_
    exact ft_ret mi_k25 (by rfl) (hP (-3) _ _ _ _ hG ⟨(oa39 c10 koa8 koam3), ⟨(fun h => absurd h (oa40 c10 koa8)), (fun h => absurd h (oa40 c10 koa8)), (fun h => absurd h (oa40 c10 koa8)), (fun h => absurd h (oa40 c10 koa8)), (fun h => absurd h (oa40 c10 koa8))⟩⟩)
def yw80_0 : kW := ([64], [2, 3, 4, 5, 6], [], [])
set_option maxRecDepth 100000 in
theorem ke80_0 {i : Nat → Int32} {a : Nat → List Int32} {q : Nat → List Int64} {r : Nat → Nat} (hI : kI i a q) (hr : kr r) (x1 : Int32) (x2 : Int32) : km 5 80 [.ref 0, .int x1, .int x2] (ks i a q r) (kVI yw80_0 i a q r (fun v i1 a1 q1 r1 => (((v.toInt = (-1)) ∧ (¬ (((0 : Int) ≤ x1.toInt) ∧ (x1.toInt ≤ 9) ∧ ((0 : Int) ≤ x2.toInt) ∧ (x2.toInt ≤ 9))) ∧ ((i1 64).toInt = (i 64).toInt)) ∨ (((0 : Int) ≤ x1.toInt) ∧ (x1.toInt ≤ 9) ∧ ((0 : Int) ≤ x2.toInt) ∧ (x2.toInt ≤ 9) ∧ (((v.toInt = (-3)) ∧ ((8 : Int) ≤ (i 64).toInt) ∧ ((i1 64).toInt = (i 64).toInt)) ∨ (((i 64).toInt < 8) ∧ (v.toInt = (i 64).toInt) ∧ ((i1 64).toInt = ((i 64).toInt + 1)))))) ∧ ((((0 : Int) ≤ x1.toInt) ∧ (x1.toInt ≤ 9) ∧ ((0 : Int) ≤ x2.toInt) ∧ (x2.toInt ≤ 9) ∧ ((i 64).toInt < 8) → a1 2 = (a 2).set (i 64).toNatClampNeg 100) ∧ (((0 : Int) ≤ x1.toInt) ∧ (x1.toInt ≤ 9) ∧ ((0 : Int) ≤ x2.toInt) ∧ (x2.toInt ≤ 9) ∧ ((i 64).toInt < 8) → a1 3 = (a 3).set (i 64).toNatClampNeg x1) ∧ (((0 : Int) ≤ x1.toInt) ∧ (x1.toInt ≤ 9) ∧ ((0 : Int) ≤ x2.toInt) ∧ (x2.toInt ≤ 9) ∧ ((i 64).toInt < 8) → a1 4 = (a 4).set (i 64).toNatClampNeg x2) ∧ (((0 : Int) ≤ x1.toInt) ∧ (x1.toInt ≤ 9) ∧ ((0 : Int) ≤ x2.toInt) ∧ (x2.toInt ≤ 9) ∧ ((i 64).toInt < 8) → a1 5 = (a 5).set (i 64).toNatClampNeg 0) ∧ (((0 : Int) ≤ x1.toInt) ∧ (x1.toInt ≤ 9) ∧ ((0 : Int) ≤ x2.toInt) ∧ (x2.toInt ≤ 9) ∧ ((i 64).toInt < 8) → a1 6 = (a 6).set (i 64).toNatClampNeg 0) ∧ (¬ (((0 : Int) ≤ x1.toInt) ∧ (x1.toInt ≤ 9) ∧ ((0 : Int) ≤ x2.toInt) ∧ (x2.toInt ≤ 9) ∧ ((i 64).toInt < 8)) → a1 2 = a 2) ∧ (¬ (((0 : Int) ≤ x1.toInt) ∧ (x1.toInt ≤ 9) ∧ ((0 : Int) ≤ x2.toInt) ∧ (x2.toInt ≤ 9) ∧ ((i 64).toInt < 8)) → a1 3 = a 3) ∧ (¬ (((0 : Int) ≤ x1.toInt) ∧ (x1.toInt ≤ 9) ∧ ((0 : Int) ≤ x2.toInt) ∧ (x2.toInt ≤ 9) ∧ ((i 64).toInt < 8)) → a1 4 = a 4) ∧ (¬ (((0 : Int) ≤ x1.toInt) ∧ (x1.toInt ≤ 9) ∧ ((0 : Int) ≤ x2.toInt) ∧ (x2.toInt ≤ 9) ∧ ((i 64).toInt < 8)) → a1 5 = a 5) ∧ (¬ (((0 : Int) ≤ x1.toInt) ∧ (x1.toInt ≤ 9) ∧ ((0 : Int) ≤ x2.toInt) ∧ (x2.toInt ≤ 9) ∧ ((i 64).toInt < 8)) → a1 6 = a 6)))) := by
  have hG := kG_self yw80_0 hI hr
  refine km_ofI (q := (mi_h80, mi_c80)) rfl (by decide) (Nat.le_of_ble_eq_true rfl) ?_
  intro P hP
  refine ft_go mi_k80 2 2 [(0, .ref 0), (1, .int x1), (2, .int x2)] [.int x1, .int 1] i a q r (by rfl) ?_
  refine ko_callPI mi_k80.1 (pc := 2) (ls := [(0, .ref 0), (1, .int x1), (2, .int x2)]) (st := [.int x1, .int 1]) (h := ks i a q r) (i := (.invokestatic 58, 3, 126, 0, 9, 0, 151)) (mi_k80.2 _ _ (by rfl)) (ft_invS mi_pq126 (by rfl)) (cy := mi_c126) mi_pq126 rfl (ke126_l01 hG.I hG.R x1) (by decide) ?_
  intro vg1 hg1
  rcases hg1 with ⟨eg1, hg1⟩ | ⟨eg1, hg1⟩
  ·
    subst eg1
    have z2 : ((0 : Int) ≤ x1.toInt) ∧ (x1.toInt ≤ 9) := hg1
    refine ft_go mi_k80 3 10 [(0, .ref 0), (1, .int x1), (2, .int x2)] [.int x2, .int 2] i a q r (by rfl) ?_
    refine ko_callPI mi_k80.1 (pc := 10) (ls := [(0, .ref 0), (1, .int x1), (2, .int x2)]) (st := [.int x2, .int 2]) (h := ks i a q r) (i := (.invokestatic 58, 3, 126, 0, 9, 0, 151)) (mi_k80.2 _ _ (by rfl)) (ft_invS mi_pq126 (by rfl)) (cy := mi_c126) mi_pq126 rfl (ke126_l02 hG.I hG.R x2) (by decide) ?_
    intro vg3 hg3
    rcases hg3 with ⟨eg3, hg3⟩ | ⟨eg3, hg3⟩
    ·
      subst eg3
      have z4 : ((0 : Int) ≤ x2.toInt) ∧ (x2.toInt ≤ 9) := hg3
      have fi_64 : ((0 : Int) ≤ (i 64).toInt) ∧ ((i 64).toInt ≤ 8) := hG.I.1 64
      refine ft_go mi_k80 5 27 [(0, .ref 0), (1, .int x1), (2, .int x2)] [.int 8, .int (i 64)] i a q r (by rfl) ?_
      refine ft_if mi_k80 (decide ((i 64) < 8)) 35 30 [(0, .ref 0), (1, .int x1), (2, .int x2)] [] (by rfl) (fun c => ?_) (fun c => ?_)
      ·
        have c5 : (i 64).toInt < (8 : Int32).toInt := kd_lt c; clear c
        refine ft_go mi_k80 5 43 [(0, .ref 0), (1, .int x1), (2, .int x2)] [.int x2, .int x1, .int 100, .ref 1] i a q r (by rfl) ?_
        refine ko_callI mi_k80.1 (pc := 43) (ls := [(0, .ref 0), (1, .int x1), (2, .int x2)]) (st := [.int x2, .int x1, .int 100, .ref 1]) (h := ks i a q r) (i := (.invokevirtual 66, 3, 25, 0, 9, 0, 155)) (mi_k80.2 _ _ (by rfl)) (ft_invS mi_pq25 (by rfl)) (cy := mi_c25) mi_pq25 rfl (ke25_1 hG.I hG.R 100 x1 x2) (by decide) ?_
        intro vg6 ig6 ag6 qg6 rg6 kg6 hg6
        have hGg6 := kG_call hG kg6 (by decide +kernel)
        obtain ⟨hg6, og6⟩ := hg6
        have fig6_64 : ((0 : Int) ≤ (ig6 64).toInt) ∧ ((ig6 64).toInt ≤ 8) := hGg6.I.1 64
        have z7 : (((8 : Int) ≤ (i 64).toInt) ∧ (vg6.toInt = (-3)) ∧ ((ig6 64).toInt = (i 64).toInt)) ∨ (((i 64).toInt < 8) ∧ (vg6.toInt = (i 64).toInt) ∧ ((ig6 64).toInt = ((i 64).toInt + 1))) := hg6
        have q8 : ag6 2 = (a 2).set (i 64).toNatClampNeg (100 : Int32) := og6.1 (oa33 c5 koa8)
        have q9 : ag6 3 = (a 3).set (i 64).toNatClampNeg x1 := og6.2.1 (oa33 c5 koa8)
        have q10 : ag6 4 = (a 4).set (i 64).toNatClampNeg x2 := og6.2.2.1 (oa33 c5 koa8)
        have q11 : ag6 5 = (a 5).set (i 64).toNatClampNeg 0 := og6.2.2.2.1 (oa33 c5 koa8)
        have q12 : ag6 6 = (a 6).set (i 64).toNatClampNeg 0 := og6.2.2.2.2 (oa33 c5 koa8)
        exact ft_ret mi_k80 (by rfl) (hP vg6 _ _ _ _ hGg6 ⟨(oa41 c5 z2.1 z2.2 z4.1 z4.2 z7 koa8), ⟨(fun _ => (show ag6 2 = (a 2).set (i 64).toNatClampNeg 100 from (by first | rfl | (simp only [q8, sMn, sMx]; done) | (simp only [q8, sMn, sMx]; rfl)))), (fun _ => (show ag6 3 = (a 3).set (i 64).toNatClampNeg x1 from (by first | rfl | (simp only [q9, sMn, sMx]; done) | (simp only [q9, sMn, sMx]; rfl)))), (fun _ => (show ag6 4 = (a 4).set (i 64).toNatClampNeg x2 from (by first | rfl | (simp only [q10, sMn, sMx]; done) | (simp only [q10, sMn, sMx]; rfl)))), (fun _ => (show ag6 5 = (a 5).set (i 64).toNatClampNeg 0 from (by first | rfl | (simp only [q11, sMn, sMx]; done) | (simp only [q11, sMn, sMx]; rfl)))), (fun _ => (show ag6 6 = (a 6).set (i 64).toNatClampNeg 0 from (by first | rfl | (simp only [q12, sMn, sMx]; done) | (simp only [q12, sMn, sMx]; rfl)))), (fun h => absurd h (oa42 c5 z2.1 z2.2 z4.1 z4.2 koa8)), (fun h => absurd h (oa42 c5 z2.1 z2.2 z4.1 z4.2 koa8)), (fun h => absurd h (oa42 c5 z2.1 z2.2 z4.1 z4.2 koa8)), (fun h => absurd h (oa42 c5 z2.1 z2.2 z4.1 z4.2 koa8)), (fun h => absurd h (oa42 c5 z2.1 z2.2 z4.1 z4.2 koa8))⟩⟩)
      ·
        have c13 : (8 : Int32).toInt ≤ (i 64).toInt := kd_ltF c; clear c
        refine ft_go mi_k80 2 46 [(0, .ref 0), (1, .int x1), (2, .int x2)] [.int (-3)] i a q r (by rfl) ?_
        exact ft_ret mi_k80 (by rfl) (hP (-3) _ _ _ _ hG ⟨(oa43 c13 z2.1 z2.2 z4.1 z4.2 koa8 koam3), ⟨(fun h => absurd h (oa44 c13 koa8)), (fun h => absurd h (oa44 c13 koa8)), (fun h => absurd h (oa44 c13 koa8)), (fun h => absurd h (oa44 c13 koa8)), (fun h => absurd h (oa44 c13 koa8)), (fun _ => (show a 2 = a 2 from rfl)), (fun _ => (show a 3 = a 3 from rfl)), (fun _ => (show a 4 = a 4 from rfl)), (fun _ => (show a 5 = a 5 from rfl)), (fun _ => (show a 6 = a 6 from rfl))⟩⟩)
    ·
      subst eg3
      have z14 : ¬ (((0 : Int) ≤ x2.toInt) ∧ (x2.toInt ≤ 9)) := hg3
      refine ft_go mi_k80 2 17 [(0, .ref 0), (1, .int x1), (2, .int x2)] [.int (-1)] i a q r (by rfl) ?_
      have fi_64 : ((0 : Int) ≤ (i 64).toInt) ∧ ((i 64).toInt ≤ 8) := hG.I.1 64
      exact ft_ret mi_k80 (by rfl) (hP (-1) _ _ _ _ hG ⟨(oa45 z14 koam1), ⟨(fun h => absurd h (oa46 z14)), (fun h => absurd h (oa46 z14)), (fun h => absurd h (oa46 z14)), (fun h => absurd h (oa46 z14)), (fun h => absurd h (oa46 z14)), (fun _ => (show a 2 = a 2 from rfl)), (fun _ => (show a 3 = a 3 from rfl)), (fun _ => (show a 4 = a 4 from rfl)), (fun _ => (show a 5 = a 5 from rfl)), (fun _ => (show a 6 = a 6 from rfl))⟩⟩)
  ·
    subst eg1
    have z15 : ¬ (((0 : Int) ≤ x1.toInt) ∧ (x1.toInt ≤ 9)) := hg1
    refine ft_go mi_k80 2 17 [(0, .ref 0), (1, .int x1), (2, .int x2)] [.int (-1)] i a q r (by rfl) ?_
    have fi_64 : ((0 : Int) ≤ (i 64).toInt) ∧ ((i 64).toInt ≤ 8) := hG.I.1 64
    exact ft_ret mi_k80 (by rfl) (hP (-1) _ _ _ _ hG ⟨(oa47 z15 koam1), ⟨(fun h => absurd h (oa48 z15)), (fun h => absurd h (oa48 z15)), (fun h => absurd h (oa48 z15)), (fun h => absurd h (oa48 z15)), (fun h => absurd h (oa48 z15)), (fun _ => (show a 2 = a 2 from rfl)), (fun _ => (show a 3 = a 3 from rfl)), (fun _ => (show a 4 = a 4 from rfl)), (fun _ => (show a 5 = a 5 from rfl)), (fun _ => (show a 6 = a 6 from rfl))⟩⟩)
def yw134_116 : kW := ([7424], [117, 118], [], [])
set_option maxRecDepth 100000 in
theorem ke134_116 {i : Nat → Int32} {a : Nat → List Int32} {q : Nat → List Int64} {r : Nat → Nat} (hI : kI i a q) (hr : kr r) (x1 : Int32) (x2 : Int32) (x3 : Int32) (hp0 : (i 7424).toInt ≤ 7) : km 1 134 [.ref 116, .int x1, .int x2, .int x3] (ks i a q r) (kVI yw134_116 i a q r (fun v i1 a1 q1 r1 => ((v.toInt = (i 7424).toInt) ∧ ((i1 7424).toInt = ((i 7424).toInt + 1))) ∧ (a1 118 = (a 118).set (i 7424).toNatClampNeg x1 ∧ a1 117 = ((a 117).set (i 7424).toNatClampNeg x2).set (8 + i 7424).toNatClampNeg x3))) := by
  have hG := kG_self yw134_116 hI hr
  refine km_ofI (q := (mi_h134, mi_c134)) rfl (by decide) (Nat.le_of_ble_eq_true rfl) ?_
  intro P hP
  have fi_7424 : ((0 : Int) ≤ (i 7424).toInt) ∧ ((i 7424).toInt ≤ 8) := hG.I.1 7424
  refine ft_go mi_k134 5 9 [(0, .ref 116), (1, .int x1), (2, .int x2), (3, .int x3)] [.int x1, .int (i 7424), .ref 118] i a q r (by rfl) ?_
  refine ko_iast3 mi_k134.1 (n := 31) (c := 31) (ax := (0, 0, 0, 0, 0)) (mi_k134.2 _ _ (by rfl)) (by rfl) (ksG118 _ _ _ _) (ksA118 _ _ _ _) (hG.I.2.1 118) rfl (oa5 fi_7424.1) (oa49 fi_7424.2) ?_
  intro a1 ea1 fa1
  have hJ1 := kG_a3 hG 118 rfl ea1 fa1 (kE_nset (p := 118) (by decide) (oa5 fi_7424.1) (oa50 fi_7424.2) (oa51 fi_7424.2))
  refine ft_go mi_k134 5 19 [(0, .ref 116), (1, .int x1), (2, .int x2), (3, .int x3)] [.int x2, .int (i 7424), .ref 117] i a1 q r (by rfl) ?_
  refine ko_iast3 mi_k134.1 (n := 24) (c := 24) (ax := (0, 0, 0, 0, 0)) (mi_k134.2 _ _ (by rfl)) (by rfl) (ksG117 _ _ _ _) (ksA117 _ _ _ _) (hJ1.I.2.1 117) rfl (oa5 fi_7424.1) (oa52 fi_7424.2) ?_
  intro a2 ea2 fa2
  have hJ2 := kG_a3 hJ1 117 rfl ea2 fa2 (kd_bd _)
  have s3 : (8 + (i 7424)).toInt = (8 : Int32).toInt + (i 7424).toInt := kd_add (oa53 fi_7424.1 koa8) (oa54 fi_7424.2 koa8)
  refine ft_go mi_k134 7 32 [(0, .ref 116), (1, .int x1), (2, .int x2), (3, .int x3)] [.int x3, .int (8 + (i 7424)), .ref 117] i a2 q r (by rfl) ?_
  refine ko_iast3 mi_k134.1 (n := 24) (c := 24) (ax := (0, 0, 0, 0, 0)) (mi_k134.2 _ _ (by rfl)) (by rfl) (ksG117 _ _ _ _) (ksA117 _ _ _ _) (hJ2.I.2.1 117) rfl (oa55 fi_7424.1 s3 koa8) (oa56 fi_7424.2 s3 koa8) ?_
  intro a4 ea4 fa4
  have hJ4 := kG_a3 hJ2 117 rfl ea4 fa4 (kd_bd _)
  have s5 : ((i 7424) + 1).toInt = (i 7424).toInt + (1 : Int32).toInt := kd_add (oa7 fi_7424.1 koa1) (oa34 fi_7424.2 koa1)
  have hJ6 := kG_i hJ4 7424 rfl (v := ((i 7424) + 1)) ⟨(oa9 fi_7424.1 s5 koa1), (oa57 hp0 s5 koa1)⟩
  refine ft_go mi_k134 7 44 [(0, .ref 116), (1, .int x1), (2, .int x2), (3, .int x3)] [.int (i 7424)] (ku i 7424 ((i 7424) + 1)) a4 q r (by rfl) ?_
  exact ft_ret mi_k134 (by rfl) (hP (i 7424) _ _ _ _ hJ6 ⟨(oa58 s5 koa1), ⟨(show a4 118 = (a 118).set (i 7424).toNatClampNeg x1 from (by first | rfl | (simp only [fa4 118 (by decide), fa2 118 (by decide), ea1, sMn, sMx]; done) | (simp only [fa4 118 (by decide), fa2 118 (by decide), ea1, sMn, sMx]; rfl))), (show a4 117 = ((a 117).set (i 7424).toNatClampNeg x2).set (8 + i 7424).toNatClampNeg x3 from (by first | rfl | (simp only [ea4, ea2, fa1 117 (by decide), sMn, sMx]; done) | (simp only [ea4, ea2, fa1 117 (by decide), sMn, sMx]; rfl)))⟩⟩)
def yw135_116 : kW := ([7424], [117, 118], [], [])
set_option maxRecDepth 100000 in
theorem ke135_116 {i : Nat → Int32} {a : Nat → List Int32} {q : Nat → List Int64} {r : Nat → Nat} (hI : kI i a q) (hr : kr r) (x1 : Int32) (x2 : Int32) : km 3 135 [.ref 116, .int x1, .int x2] (ks i a q r) (kVI yw135_116 i a q r (fun v i1 a1 q1 r1 => (((v.toInt = (-1)) ∧ (¬ (((0 : Int) ≤ x1.toInt) ∧ (x1.toInt ≤ 9) ∧ ((0 : Int) ≤ x2.toInt) ∧ (x2.toInt ≤ 9))) ∧ ((i1 7424).toInt = (i 7424).toInt)) ∨ (((0 : Int) ≤ x1.toInt) ∧ (x1.toInt ≤ 9) ∧ ((0 : Int) ≤ x2.toInt) ∧ (x2.toInt ≤ 9) ∧ (((v.toInt = (-3)) ∧ ((8 : Int) ≤ (i 7424).toInt) ∧ ((i1 7424).toInt = (i 7424).toInt)) ∨ (((i 7424).toInt < 8) ∧ (v.toInt = (i 7424).toInt) ∧ ((i1 7424).toInt = ((i 7424).toInt + 1)))))) ∧ ((((0 : Int) ≤ x1.toInt) ∧ (x1.toInt ≤ 9) ∧ ((0 : Int) ≤ x2.toInt) ∧ (x2.toInt ≤ 9) ∧ ((i 7424).toInt < 8) → a1 118 = (a 118).set (i 7424).toNatClampNeg 100) ∧ (((0 : Int) ≤ x1.toInt) ∧ (x1.toInt ≤ 9) ∧ ((0 : Int) ≤ x2.toInt) ∧ (x2.toInt ≤ 9) ∧ ((i 7424).toInt < 8) → a1 117 = ((a 117).set (i 7424).toNatClampNeg x1).set (8 + i 7424).toNatClampNeg x2) ∧ (¬ (((0 : Int) ≤ x1.toInt) ∧ (x1.toInt ≤ 9) ∧ ((0 : Int) ≤ x2.toInt) ∧ (x2.toInt ≤ 9) ∧ ((i 7424).toInt < 8)) → a1 118 = a 118) ∧ (¬ (((0 : Int) ≤ x1.toInt) ∧ (x1.toInt ≤ 9) ∧ ((0 : Int) ≤ x2.toInt) ∧ (x2.toInt ≤ 9) ∧ ((i 7424).toInt < 8)) → a1 117 = a 117)))) := by
  have hG := kG_self yw135_116 hI hr
  refine km_ofI (q := (mi_h135, mi_c135)) rfl (by decide) (Nat.le_of_ble_eq_true rfl) ?_
  intro P hP
  refine ft_go mi_k135 3 4 [(0, .ref 116), (1, .int x1), (2, .int x2)] [.int 9, .int 0, .int x1] i a q r (by rfl) ?_
  refine ko_callPI mi_k135.1 (pc := 4) (ls := [(0, .ref 116), (1, .int x1), (2, .int x2)]) (st := [.int 9, .int 0, .int x1]) (h := ks i a q r) (i := (.invokestatic 119, 3, 131, 0, 9, 0, 379)) (mi_k135.2 _ _ (by rfl)) (ft_invS mi_pq131 (by rfl)) (cy := mi_c131) mi_pq131 rfl (kc131 hG.I hG.R x1 0 9) (by decide) ?_
  intro vg1 hg1
  rcases hg1 with ⟨eg1, hg1⟩ | ⟨eg1, hg1⟩
  ·
    subst eg1
    have z2 : ((0 : Int32).toInt ≤ x1.toInt) ∧ (x1.toInt ≤ (9 : Int32).toInt) := hg1
    refine ft_go mi_k135 4 14 [(0, .ref 116), (1, .int x1), (2, .int x2)] [.int 9, .int 0, .int x2] i a q r (by rfl) ?_
    refine ko_callPI mi_k135.1 (pc := 14) (ls := [(0, .ref 116), (1, .int x1), (2, .int x2)]) (st := [.int 9, .int 0, .int x2]) (h := ks i a q r) (i := (.invokestatic 119, 3, 131, 0, 9, 0, 379)) (mi_k135.2 _ _ (by rfl)) (ft_invS mi_pq131 (by rfl)) (cy := mi_c131) mi_pq131 rfl (kc131 hG.I hG.R x2 0 9) (by decide) ?_
    intro vg3 hg3
    rcases hg3 with ⟨eg3, hg3⟩ | ⟨eg3, hg3⟩
    ·
      subst eg3
      have z4 : ((0 : Int32).toInt ≤ x2.toInt) ∧ (x2.toInt ≤ (9 : Int32).toInt) := hg3
      have fi_7424 : ((0 : Int) ≤ (i 7424).toInt) ∧ ((i 7424).toInt ≤ 8) := hG.I.1 7424
      refine ft_go mi_k135 4 28 [(0, .ref 116), (1, .int x1), (2, .int x2)] [.int 8, .int (i 7424)] i a q r (by rfl) ?_
      refine ft_if mi_k135 ((i 7424) != 8) 36 31 [(0, .ref 116), (1, .int x1), (2, .int x2)] [] (by rfl) (fun c => ?_) (fun c => ?_)
      ·
        have c5 : (i 7424).toInt ≠ (8 : Int32).toInt := kd_ne c; clear c
        refine ft_go mi_k135 4 41 [(0, .ref 116), (1, .int x1), (2, .int x2)] [.int x2, .int x1, .int 100, .ref 116] i a q r (by rfl) ?_
        refine ko_callI mi_k135.1 (pc := 41) (ls := [(0, .ref 116), (1, .int x1), (2, .int x2)]) (st := [.int x2, .int x1, .int 100, .ref 116]) (h := ks i a q r) (i := (.invokevirtual 123, 3, 134, 0, 9, 0, 380)) (mi_k135.2 _ _ (by rfl)) (ft_invS mi_pq134 (by rfl)) (cy := mi_c134) mi_pq134 rfl (ke134_116 hG.I hG.R 100 x1 x2 (oa59 c5 fi_7424.2 koa8)) (by decide) ?_
        intro vg6 ig6 ag6 qg6 rg6 kg6 hg6
        have hGg6 := kG_call hG kg6 (by decide +kernel)
        obtain ⟨hg6, og6⟩ := hg6
        have fig6_7424 : ((0 : Int) ≤ (ig6 7424).toInt) ∧ ((ig6 7424).toInt ≤ 8) := hGg6.I.1 7424
        have z7 : (vg6.toInt = (i 7424).toInt) ∧ ((ig6 7424).toInt = ((i 7424).toInt + 1)) := hg6
        have q8 : ag6 118 = (a 118).set (i 7424).toNatClampNeg (100 : Int32) := og6.1
        have q9 : ag6 117 = ((a 117).set (i 7424).toNatClampNeg x1).set (8 + i 7424).toNatClampNeg x2 := og6.2
        exact ft_ret mi_k135 (by rfl) (hP vg6 _ _ _ _ hGg6 ⟨(oa60 fig6_7424.2 z2.1 z2.2 z4.1 z4.2 z7.1 z7.2 koa0 koa9), ⟨(fun _ => (show ag6 118 = (a 118).set (i 7424).toNatClampNeg 100 from (by first | rfl | (simp only [q8, sMn, sMx]; done) | (simp only [q8, sMn, sMx]; rfl)))), (fun _ => (show ag6 117 = ((a 117).set (i 7424).toNatClampNeg x1).set (8 + i 7424).toNatClampNeg x2 from (by first | rfl | (simp only [q9, sMn, sMx]; done) | (simp only [q9, sMn, sMx]; rfl)))), (fun h => absurd h (oa61 fig6_7424.2 z2.1 z2.2 z4.1 z4.2 z7.2 koa0 koa9)), (fun h => absurd h (oa61 fig6_7424.2 z2.1 z2.2 z4.1 z4.2 z7.2 koa0 koa9))⟩⟩)
      ·
        have c10 : (i 7424).toInt = (8 : Int32).toInt := kd_neF c; clear c
        refine ft_go mi_k135 2 44 [(0, .ref 116), (1, .int x1), (2, .int x2)] [.int (-3)] i a q r (by rfl) ?_
        exact ft_ret mi_k135 (by rfl) (hP (-3) _ _ _ _ hG ⟨(oa62 c10 z2.1 z2.2 z4.1 z4.2 koa8 koa0 koa9 koam3), ⟨(fun h => absurd h (oa63 c10 koa8)), (fun h => absurd h (oa63 c10 koa8)), (fun _ => (show a 118 = a 118 from rfl)), (fun _ => (show a 117 = a 117 from rfl))⟩⟩)
    ·
      subst eg3
      have z11 : ¬ (((0 : Int32).toInt ≤ x2.toInt) ∧ (x2.toInt ≤ (9 : Int32).toInt)) := hg3
      refine ft_go mi_k135 2 21 [(0, .ref 116), (1, .int x1), (2, .int x2)] [.int (-1)] i a q r (by rfl) ?_
      have fi_7424 : ((0 : Int) ≤ (i 7424).toInt) ∧ ((i 7424).toInt ≤ 8) := hG.I.1 7424
      exact ft_ret mi_k135 (by rfl) (hP (-1) _ _ _ _ hG ⟨(oa64 z11 koa0 koa9 koam1), ⟨(fun h => absurd h (oa65 z11 koa0 koa9)), (fun h => absurd h (oa65 z11 koa0 koa9)), (fun _ => (show a 118 = a 118 from rfl)), (fun _ => (show a 117 = a 117 from rfl))⟩⟩)
  ·
    subst eg1
    have z12 : ¬ (((0 : Int32).toInt ≤ x1.toInt) ∧ (x1.toInt ≤ (9 : Int32).toInt)) := hg1
    refine ft_go mi_k135 2 21 [(0, .ref 116), (1, .int x1), (2, .int x2)] [.int (-1)] i a q r (by rfl) ?_
    have fi_7424 : ((0 : Int) ≤ (i 7424).toInt) ∧ ((i 7424).toInt ≤ 8) := hG.I.1 7424
    exact ft_ret mi_k135 (by rfl) (hP (-1) _ _ _ _ hG ⟨(oa66 z12 koa0 koa9 koam1), ⟨(fun h => absurd h (oa67 z12 koa0 koa9)), (fun h => absurd h (oa67 z12 koa0 koa9)), (fun _ => (show a 118 = a 118 from rfl)), (fun _ => (show a 117 = a 117 from rfl))⟩⟩)
def yw115_0 : kW := ([], [], [105, 107, 109, 111, 113, 115], [])
set_option maxRecDepth 100000 in
theorem ke115_0 {i : Nat → Int32} {a : Nat → List Int32} {q : Nat → List Int64} {r : Nat → Nat} (hI : kI i a q) (hr : kr r) (x1 : Int32) (x2 : Int32) (x3 : Int64) : km 7 115 [.ref 0, .int x1, .int x2, .long x3] (ks i a q r) (kVI yw115_0 i a q r (fun v i1 a1 q1 r1 => (((((x1.toInt < 0) ∨ ((5 : Int) < x1.toInt)) → (v.toInt = (-1)))) ∧ (((x1.toInt = 0) → (((v.toInt = 1) ∧ ((i 6656).toInt = 2) ∧ ((0 : Int) ≤ x2.toInt) ∧ (x2.toInt < (i 6659).toInt)) ∨ ((v.toInt = (-11)) ∧ ((i 6656).toInt = 0)) ∨ ((v.toInt = (-12)) ∧ ((i 6656).toInt = 1)) ∨ ((v.toInt = (-13)) ∧ ((i 6656).toInt = 2) ∧ ((x2.toInt < 0) ∨ ((i 6659).toInt ≤ x2.toInt)))))) ∧ (((x1.toInt = 1) → (((v.toInt = 1) ∧ ((i 6784).toInt = 2) ∧ ((0 : Int) ≤ x2.toInt) ∧ (x2.toInt < (i 6787).toInt)) ∨ ((v.toInt = (-11)) ∧ ((i 6784).toInt = 0)) ∨ ((v.toInt = (-12)) ∧ ((i 6784).toInt = 1)) ∨ ((v.toInt = (-13)) ∧ ((i 6784).toInt = 2) ∧ ((x2.toInt < 0) ∨ ((i 6787).toInt ≤ x2.toInt)))))) ∧ (((x1.toInt = 2) → (((v.toInt = 1) ∧ ((i 6912).toInt = 2) ∧ ((0 : Int) ≤ x2.toInt) ∧ (x2.toInt < (i 6915).toInt)) ∨ ((v.toInt = (-11)) ∧ ((i 6912).toInt = 0)) ∨ ((v.toInt = (-12)) ∧ ((i 6912).toInt = 1)) ∨ ((v.toInt = (-13)) ∧ ((i 6912).toInt = 2) ∧ ((x2.toInt < 0) ∨ ((i 6915).toInt ≤ x2.toInt)))))) ∧ (((x1.toInt = 3) → (((v.toInt = 1) ∧ ((i 7040).toInt = 2) ∧ ((0 : Int) ≤ x2.toInt) ∧ (x2.toInt < (i 7043).toInt)) ∨ ((v.toInt = (-11)) ∧ ((i 7040).toInt = 0)) ∨ ((v.toInt = (-12)) ∧ ((i 7040).toInt = 1)) ∨ ((v.toInt = (-13)) ∧ ((i 7040).toInt = 2) ∧ ((x2.toInt < 0) ∨ ((i 7043).toInt ≤ x2.toInt)))))) ∧ (((x1.toInt = 4) → (((v.toInt = 1) ∧ ((i 7168).toInt = 2) ∧ ((0 : Int) ≤ x2.toInt) ∧ (x2.toInt < (i 7171).toInt)) ∨ ((v.toInt = (-11)) ∧ ((i 7168).toInt = 0)) ∨ ((v.toInt = (-12)) ∧ ((i 7168).toInt = 1)) ∨ ((v.toInt = (-13)) ∧ ((i 7168).toInt = 2) ∧ ((x2.toInt < 0) ∨ ((i 7171).toInt ≤ x2.toInt)))))) ∧ (((x1.toInt = 5) → (((v.toInt = 1) ∧ ((i 7296).toInt = 2) ∧ ((0 : Int) ≤ x2.toInt) ∧ (x2.toInt < (i 7299).toInt)) ∨ ((v.toInt = (-11)) ∧ ((i 7296).toInt = 0)) ∨ ((v.toInt = (-12)) ∧ ((i 7296).toInt = 1)) ∨ ((v.toInt = (-13)) ∧ ((i 7296).toInt = 2) ∧ ((x2.toInt < 0) ∨ ((i 7299).toInt ≤ x2.toInt))))))) ∧ ((v = 1 → kOth i q i1 q1 x1.toInt ∧ ∀ t : Nat, (t : Int) = x1.toInt → i1 (6656 + 128 * t) = i (6656 + 128 * t) ∧ i1 (6657 + 128 * t) = i (6657 + 128 * t) ∧ i1 (6658 + 128 * t) = i (6658 + 128 * t) ∧ i1 (6659 + 128 * t) = i (6659 + 128 * t) ∧ q1 (105 + 2 * t) = (q (105 + 2 * t)).set x2.toNatClampNeg (kNar (i (6658 + 128 * t)) x3)) ∧ (v ≠ 1 → ∀ t : Nat, t < 6 → kVw i1 q1 t = kVw i q t)))) := by
  have hG := kG_self yw115_0 hI hr
  refine km_ofI (q := (mi_h115, mi_c115)) rfl (by decide) (Nat.le_of_ble_eq_true rfl) ?_
  intro P hP
  first | refine ft_go mi_k115 3 3 [(0, .ref 0), (1, .int x1), (2, .int x2), (3, .long x3)] [.int x2, .int x1, .ref 0] i a q r (by rfl) ?_ | refine ko_steps mi_in115 3 _ (3, [(0, .ref 0), (1, .int x1), (2, .int x2), (3, .long x3)], [.int x2, .int x1, .ref 0], (0, 0), ks i a q r) (by rfl) ?_
  refine ko_callPI mi_k115.1 (pc := 3) (ls := [(0, .ref 0), (1, .int x1), (2, .int x2), (3, .long x3)]) (st := [.int x2, .int x1, .ref 0]) (h := ks i a q r) (i := (.invokevirtual 312, 3, 128, 0, 9, 0, 311)) (mi_k115.2 _ _ (by rfl)) (ft_invS mi_pq128 (by rfl)) (cy := mi_c128) mi_pq128 rfl (kd128_0 hG.I hG.R x1 x2) (by decide) ?_
  intro vg1 hg1
  have fi_6656 : ((0 : Int) ≤ (i 6656).toInt) ∧ ((i 6656).toInt ≤ 2) := hG.I.1 6656
  have fi_6659 : ((0 : Int) ≤ (i 6659).toInt) ∧ ((i 6659).toInt ≤ 60) := hG.I.1 6659
  have fi_6784 : ((0 : Int) ≤ (i 6784).toInt) ∧ ((i 6784).toInt ≤ 2) := hG.I.1 6784
  have fi_6787 : ((0 : Int) ≤ (i 6787).toInt) ∧ ((i 6787).toInt ≤ 60) := hG.I.1 6787
  have fi_6912 : ((0 : Int) ≤ (i 6912).toInt) ∧ ((i 6912).toInt ≤ 2) := hG.I.1 6912
  have fi_6915 : ((0 : Int) ≤ (i 6915).toInt) ∧ ((i 6915).toInt ≤ 60) := hG.I.1 6915
  have fi_7040 : ((0 : Int) ≤ (i 7040).toInt) ∧ ((i 7040).toInt ≤ 2) := hG.I.1 7040
  have fi_7043 : ((0 : Int) ≤ (i 7043).toInt) ∧ ((i 7043).toInt ≤ 60) := hG.I.1 7043
  have fi_7168 : ((0 : Int) ≤ (i 7168).toInt) ∧ ((i 7168).toInt ≤ 2) := hG.I.1 7168
  have fi_7171 : ((0 : Int) ≤ (i 7171).toInt) ∧ ((i 7171).toInt ≤ 60) := hG.I.1 7171
  have fi_7296 : ((0 : Int) ≤ (i 7296).toInt) ∧ ((i 7296).toInt ≤ 2) := hG.I.1 7296
  have fi_7299 : ((0 : Int) ≤ (i 7299).toInt) ∧ ((i 7299).toInt ≤ 60) := hG.I.1 7299
  have z2 : ((((x1.toInt < 0) ∨ ((5 : Int) < x1.toInt)) → (vg1.toInt = (-1)))) ∧ (((x1.toInt = 0) → (((vg1.toInt = 0) ∧ ((i 6656).toInt = 2) ∧ ((0 : Int) ≤ x2.toInt) ∧ (x2.toInt < (i 6659).toInt)) ∨ ((vg1.toInt = (-11)) ∧ ((i 6656).toInt = 0)) ∨ ((vg1.toInt = (-12)) ∧ ((i 6656).toInt = 1)) ∨ ((vg1.toInt = (-13)) ∧ ((i 6656).toInt = 2) ∧ ((x2.toInt < 0) ∨ ((i 6659).toInt ≤ x2.toInt)))))) ∧ (((x1.toInt = 1) → (((vg1.toInt = 0) ∧ ((i 6784).toInt = 2) ∧ ((0 : Int) ≤ x2.toInt) ∧ (x2.toInt < (i 6787).toInt)) ∨ ((vg1.toInt = (-11)) ∧ ((i 6784).toInt = 0)) ∨ ((vg1.toInt = (-12)) ∧ ((i 6784).toInt = 1)) ∨ ((vg1.toInt = (-13)) ∧ ((i 6784).toInt = 2) ∧ ((x2.toInt < 0) ∨ ((i 6787).toInt ≤ x2.toInt)))))) ∧ (((x1.toInt = 2) → (((vg1.toInt = 0) ∧ ((i 6912).toInt = 2) ∧ ((0 : Int) ≤ x2.toInt) ∧ (x2.toInt < (i 6915).toInt)) ∨ ((vg1.toInt = (-11)) ∧ ((i 6912).toInt = 0)) ∨ ((vg1.toInt = (-12)) ∧ ((i 6912).toInt = 1)) ∨ ((vg1.toInt = (-13)) ∧ ((i 6912).toInt = 2) ∧ ((x2.toInt < 0) ∨ ((i 6915).toInt ≤ x2.toInt)))))) ∧ (((x1.toInt = 3) → (((vg1.toInt = 0) ∧ ((i 7040).toInt = 2) ∧ ((0 : Int) ≤ x2.toInt) ∧ (x2.toInt < (i 7043).toInt)) ∨ ((vg1.toInt = (-11)) ∧ ((i 7040).toInt = 0)) ∨ ((vg1.toInt = (-12)) ∧ ((i 7040).toInt = 1)) ∨ ((vg1.toInt = (-13)) ∧ ((i 7040).toInt = 2) ∧ ((x2.toInt < 0) ∨ ((i 7043).toInt ≤ x2.toInt)))))) ∧ (((x1.toInt = 4) → (((vg1.toInt = 0) ∧ ((i 7168).toInt = 2) ∧ ((0 : Int) ≤ x2.toInt) ∧ (x2.toInt < (i 7171).toInt)) ∨ ((vg1.toInt = (-11)) ∧ ((i 7168).toInt = 0)) ∨ ((vg1.toInt = (-12)) ∧ ((i 7168).toInt = 1)) ∨ ((vg1.toInt = (-13)) ∧ ((i 7168).toInt = 2) ∧ ((x2.toInt < 0) ∨ ((i 7171).toInt ≤ x2.toInt)))))) ∧ (((x1.toInt = 5) → (((vg1.toInt = 0) ∧ ((i 7296).toInt = 2) ∧ ((0 : Int) ≤ x2.toInt) ∧ (x2.toInt < (i 7299).toInt)) ∨ ((vg1.toInt = (-11)) ∧ ((i 7296).toInt = 0)) ∨ ((vg1.toInt = (-12)) ∧ ((i 7296).toInt = 1)) ∨ ((vg1.toInt = (-13)) ∧ ((i 7296).toInt = 2) ∧ ((x2.toInt < 0) ∨ ((i 7299).toInt ≤ x2.toInt)))))) := hg1
  first | refine ft_go mi_k115 2 10 [(5, .int vg1), (0, .ref 0), (1, .int x1), (2, .int x2), (3, .long x3)] [.int vg1] i a q r (by rfl) ?_ | refine ko_steps mi_in115 2 _ (10, [(5, .int vg1), (0, .ref 0), (1, .int x1), (2, .int x2), (3, .long x3)], [.int vg1], (0, 0), ks i a q r) (by rfl) ?_
  refine ft_if mi_k115 (decide (0 ≤ vg1)) 16 13 [(5, .int vg1), (0, .ref 0), (1, .int x1), (2, .int x2), (3, .long x3)] [] (by rfl) (fun c => ?_) (fun c => ?_)
  ·
    have c3 : (0 : Int32).toInt ≤ vg1.toInt := kd_le c; clear c
    first | refine ft_go mi_k115 3 21 [(5, .int vg1), (0, .ref 0), (1, .int x1), (2, .int x2), (3, .long x3)] [.int x1, .ref 97] i a q r (by rfl) ?_ | refine ko_steps mi_in115 3 _ (21, [(5, .int vg1), (0, .ref 0), (1, .int x1), (2, .int x2), (3, .long x3)], [.int x1, .ref 97], (0, 0), ks i a q r) (by rfl) ?_
    by_cases w4 : x1.toInt = 0
    ·
      refine ko_eq (x1 := (21, [(5, .int vg1), (0, .ref 0), (1, .int x1), (2, .int x2), (3, .long x3)], [.int 0, .ref 97], (0, 0), ks i a q r)) (by rw [(kj_eq w4 (by decide) : x1 = 0)]) ?_
      first | refine ft_go mi_k115 6 31 [(5, .int vg1), (0, .ref 0), (1, .int x1), (2, .int x2), (3, .long x3)] [.int x1, .ref 97, .int x2, .ref 105] i a q r (by rfl) ?_ | refine ko_steps mi_in115 6 _ (31, [(5, .int vg1), (0, .ref 0), (1, .int x1), (2, .int x2), (3, .long x3)], [.int x1, .ref 97, .int x2, .ref 105], (0, 0), ks i a q r) (by rfl) ?_
      by_cases w5 : x1.toInt = 0
      ·
        refine ko_eq (x1 := (31, [(5, .int vg1), (0, .ref 0), (1, .int x1), (2, .int x2), (3, .long x3)], [.int 0, .ref 97, .int x2, .ref 105], (0, 0), ks i a q r)) (by rw [(kj_eq w5 (by decide) : x1 = 0)]) ?_
        first | refine ft_go mi_k115 2 33 [(5, .int vg1), (0, .ref 0), (1, .int x1), (2, .int x2), (3, .long x3)] [.long x3, .ref 104, .int x2, .ref 105] i a q r (by rfl) ?_ | refine ko_steps mi_in115 2 _ (33, [(5, .int vg1), (0, .ref 0), (1, .int x1), (2, .int x2), (3, .long x3)], [.long x3, .ref 104, .int x2, .ref 105], (0, 0), ks i a q r) (by rfl) ?_
        refine ko_callPL mi_k115.1 (pc := 33) (ls := [(5, .int vg1), (0, .ref 0), (1, .int x1), (2, .int x2), (3, .long x3)]) (st := [.long x3, .ref 104, .int x2, .ref 105]) (h := ks i a q r) (i := (.invokevirtual 315, 3, 40, 0, 9, 0, 312)) (mi_k115.2 _ _ (by rfl)) (ft_invS mi_pq40 (by rfl)) (cy := mi_c40) mi_pq40 rfl (kd40_104 hG.I hG.R x3) (by decide) ?_
        intro vg6 hg6
        obtain ⟨hg6, og6⟩ := hg6
        have hJ7 := kG_q hG 105 rfl (z := (q 105).set x2.toNatClampNeg vg6) (List.length_set.trans (hG.I.2.2.2 105))
        refine ko_last2 mi_k115.1 (l := q 105) (n := 60) (c := 60) (ax := (0, 0, 0, 0, 0)) (mi_k115.2 _ _ (by rfl)) (by rfl) (by rfl) (hG.I.2.2.2 105) rfl (oa112 c3 w4 z2.2.1 koa0) (oa113 c3 fi_6659.2 w4 z2.2.1 koa0) (h2 := ks i a (ku q 105 ((q 105).set x2.toNatClampNeg vg6)) r) (by rfl) ?_
        first | refine ft_go mi_k115 1 38 [(5, .int vg1), (0, .ref 0), (1, .int x1), (2, .int x2), (3, .long x3)] [.int 1] i a (ku q 105 ((q 105).set x2.toNatClampNeg vg6)) r (by rfl) ?_ | refine ko_steps mi_in115 1 _ (38, [(5, .int vg1), (0, .ref 0), (1, .int x1), (2, .int x2), (3, .long x3)], [.int 1], (0, 0), ks i a (ku q 105 ((q 105).set x2.toNatClampNeg vg6)) r) (by rfl) ?_
        exact ft_ret mi_k115 (by rfl) (hP 1 _ _ _ _ hJ7 ⟨(oa114 c3 fi_6656.2 w4 z2.2.1 koa0 koa1), ⟨fun _ => ⟨(fun t ht ne => match t, ht, ne with | 0, _, ne => absurd (oa115 w4).symm ne | 1, _, _ => (kVw_eq (t := 1) rfl rfl rfl rfl rfl) | 2, _, _ => (kVw_eq (t := 2) rfl rfl rfl rfl rfl) | 3, _, _ => (kVw_eq (t := 3) rfl rfl rfl rfl rfl) | 4, _, _ => (kVw_eq (t := 4) rfl rfl rfl rfl rfl) | 5, _, _ => (kVw_eq (t := 5) rfl rfl rfl rfl rfl) | _ + 6, h, _ => absurd h (by omega)), (fun t ht => by
        have e : t = 0 := kj_at ht (oa115 w4)
        subst e
        exact ⟨rfl, rfl, rfl, rfl, congrArg (fun z => (q 105).set x2.toNatClampNeg z) og6⟩)⟩, fun h => absurd rfl h⟩⟩)
      exact (oa116 w4 w5).elim
    by_cases w13 : x1.toInt = 1
    ·
      refine ko_eq (x1 := (21, [(5, .int vg1), (0, .ref 0), (1, .int x1), (2, .int x2), (3, .long x3)], [.int 1, .ref 97], (0, 0), ks i a q r)) (by rw [(kj_eq w13 (by decide) : x1 = 1)]) ?_
      first | refine ft_go mi_k115 6 31 [(5, .int vg1), (0, .ref 0), (1, .int x1), (2, .int x2), (3, .long x3)] [.int x1, .ref 97, .int x2, .ref 107] i a q r (by rfl) ?_ | refine ko_steps mi_in115 6 _ (31, [(5, .int vg1), (0, .ref 0), (1, .int x1), (2, .int x2), (3, .long x3)], [.int x1, .ref 97, .int x2, .ref 107], (0, 0), ks i a q r) (by rfl) ?_
      by_cases w15 : x1.toInt = 1
      ·
        refine ko_eq (x1 := (31, [(5, .int vg1), (0, .ref 0), (1, .int x1), (2, .int x2), (3, .long x3)], [.int 1, .ref 97, .int x2, .ref 107], (0, 0), ks i a q r)) (by rw [(kj_eq w15 (by decide) : x1 = 1)]) ?_
        first | refine ft_go mi_k115 2 33 [(5, .int vg1), (0, .ref 0), (1, .int x1), (2, .int x2), (3, .long x3)] [.long x3, .ref 106, .int x2, .ref 107] i a q r (by rfl) ?_ | refine ko_steps mi_in115 2 _ (33, [(5, .int vg1), (0, .ref 0), (1, .int x1), (2, .int x2), (3, .long x3)], [.long x3, .ref 106, .int x2, .ref 107], (0, 0), ks i a q r) (by rfl) ?_
        refine ko_callPL mi_k115.1 (pc := 33) (ls := [(5, .int vg1), (0, .ref 0), (1, .int x1), (2, .int x2), (3, .long x3)]) (st := [.long x3, .ref 106, .int x2, .ref 107]) (h := ks i a q r) (i := (.invokevirtual 315, 3, 40, 0, 9, 0, 312)) (mi_k115.2 _ _ (by rfl)) (ft_invS mi_pq40 (by rfl)) (cy := mi_c40) mi_pq40 rfl (kd40_106 hG.I hG.R x3) (by decide) ?_
        intro vg16 hg16
        obtain ⟨hg16, og16⟩ := hg16
        have hJ17 := kG_q hG 107 rfl (z := (q 107).set x2.toNatClampNeg vg16) (List.length_set.trans (hG.I.2.2.2 107))
        refine ko_last2 mi_k115.1 (l := q 107) (n := 60) (c := 60) (ax := (0, 0, 0, 0, 0)) (mi_k115.2 _ _ (by rfl)) (by rfl) (by rfl) (hG.I.2.2.2 107) rfl (oa118 c3 w13 z2.2.2.1 koa0) (oa119 c3 fi_6787.2 w13 z2.2.2.1 koa0) (h2 := ks i a (ku q 107 ((q 107).set x2.toNatClampNeg vg16)) r) (by rfl) ?_
        first | refine ft_go mi_k115 1 38 [(5, .int vg1), (0, .ref 0), (1, .int x1), (2, .int x2), (3, .long x3)] [.int 1] i a (ku q 107 ((q 107).set x2.toNatClampNeg vg16)) r (by rfl) ?_ | refine ko_steps mi_in115 1 _ (38, [(5, .int vg1), (0, .ref 0), (1, .int x1), (2, .int x2), (3, .long x3)], [.int 1], (0, 0), ks i a (ku q 107 ((q 107).set x2.toNatClampNeg vg16)) r) (by rfl) ?_
        exact ft_ret mi_k115 (by rfl) (hP 1 _ _ _ _ hJ17 ⟨(oa120 c3 fi_6784.2 w13 z2.2.2.1 koa0 koa1), ⟨fun _ => ⟨(fun t ht ne => match t, ht, ne with | 0, _, _ => (kVw_eq (t := 0) rfl rfl rfl rfl rfl) | 1, _, ne => absurd (oa102 w13).symm ne | 2, _, _ => (kVw_eq (t := 2) rfl rfl rfl rfl rfl) | 3, _, _ => (kVw_eq (t := 3) rfl rfl rfl rfl rfl) | 4, _, _ => (kVw_eq (t := 4) rfl rfl rfl rfl rfl) | 5, _, _ => (kVw_eq (t := 5) rfl rfl rfl rfl rfl) | _ + 6, h, _ => absurd h (by omega)), (fun t ht => by
        have e : t = 1 := kj_at ht (oa102 w13)
        subst e
        exact ⟨rfl, rfl, rfl, rfl, congrArg (fun z => (q 107).set x2.toNatClampNeg z) og16⟩)⟩, fun h => absurd rfl h⟩⟩)
      exact (oa121 w13 w15).elim
    by_cases w22 : x1.toInt = 2
    ·
      refine ko_eq (x1 := (21, [(5, .int vg1), (0, .ref 0), (1, .int x1), (2, .int x2), (3, .long x3)], [.int 2, .ref 97], (0, 0), ks i a q r)) (by rw [(kj_eq w22 (by decide) : x1 = 2)]) ?_
      first | refine ft_go mi_k115 6 31 [(5, .int vg1), (0, .ref 0), (1, .int x1), (2, .int x2), (3, .long x3)] [.int x1, .ref 97, .int x2, .ref 109] i a q r (by rfl) ?_ | refine ko_steps mi_in115 6 _ (31, [(5, .int vg1), (0, .ref 0), (1, .int x1), (2, .int x2), (3, .long x3)], [.int x1, .ref 97, .int x2, .ref 109], (0, 0), ks i a q r) (by rfl) ?_
      by_cases w25 : x1.toInt = 2
      ·
        refine ko_eq (x1 := (31, [(5, .int vg1), (0, .ref 0), (1, .int x1), (2, .int x2), (3, .long x3)], [.int 2, .ref 97, .int x2, .ref 109], (0, 0), ks i a q r)) (by rw [(kj_eq w25 (by decide) : x1 = 2)]) ?_
        first | refine ft_go mi_k115 2 33 [(5, .int vg1), (0, .ref 0), (1, .int x1), (2, .int x2), (3, .long x3)] [.long x3, .ref 108, .int x2, .ref 109] i a q r (by rfl) ?_ | refine ko_steps mi_in115 2 _ (33, [(5, .int vg1), (0, .ref 0), (1, .int x1), (2, .int x2), (3, .long x3)], [.long x3, .ref 108, .int x2, .ref 109], (0, 0), ks i a q r) (by rfl) ?_
        refine ko_callPL mi_k115.1 (pc := 33) (ls := [(5, .int vg1), (0, .ref 0), (1, .int x1), (2, .int x2), (3, .long x3)]) (st := [.long x3, .ref 108, .int x2, .ref 109]) (h := ks i a q r) (i := (.invokevirtual 315, 3, 40, 0, 9, 0, 312)) (mi_k115.2 _ _ (by rfl)) (ft_invS mi_pq40 (by rfl)) (cy := mi_c40) mi_pq40 rfl (kd40_108 hG.I hG.R x3) (by decide) ?_
        intro vg26 hg26
        obtain ⟨hg26, og26⟩ := hg26
        have hJ27 := kG_q hG 109 rfl (z := (q 109).set x2.toNatClampNeg vg26) (List.length_set.trans (hG.I.2.2.2 109))
        refine ko_last2 mi_k115.1 (l := q 109) (n := 60) (c := 60) (ax := (0, 0, 0, 0, 0)) (mi_k115.2 _ _ (by rfl)) (by rfl) (by rfl) (hG.I.2.2.2 109) rfl (oa123 c3 w22 z2.2.2.2.1 koa0) (oa124 c3 fi_6915.2 w22 z2.2.2.2.1 koa0) (h2 := ks i a (ku q 109 ((q 109).set x2.toNatClampNeg vg26)) r) (by rfl) ?_
        first | refine ft_go mi_k115 1 38 [(5, .int vg1), (0, .ref 0), (1, .int x1), (2, .int x2), (3, .long x3)] [.int 1] i a (ku q 109 ((q 109).set x2.toNatClampNeg vg26)) r (by rfl) ?_ | refine ko_steps mi_in115 1 _ (38, [(5, .int vg1), (0, .ref 0), (1, .int x1), (2, .int x2), (3, .long x3)], [.int 1], (0, 0), ks i a (ku q 109 ((q 109).set x2.toNatClampNeg vg26)) r) (by rfl) ?_
        exact ft_ret mi_k115 (by rfl) (hP 1 _ _ _ _ hJ27 ⟨(oa125 c3 fi_6912.2 w22 z2.2.2.2.1 koa0 koa1), ⟨fun _ => ⟨(fun t ht ne => match t, ht, ne with | 0, _, _ => (kVw_eq (t := 0) rfl rfl rfl rfl rfl) | 1, _, _ => (kVw_eq (t := 1) rfl rfl rfl rfl rfl) | 2, _, ne => absurd (oa103 w22).symm ne | 3, _, _ => (kVw_eq (t := 3) rfl rfl rfl rfl rfl) | 4, _, _ => (kVw_eq (t := 4) rfl rfl rfl rfl rfl) | 5, _, _ => (kVw_eq (t := 5) rfl rfl rfl rfl rfl) | _ + 6, h, _ => absurd h (by omega)), (fun t ht => by
        have e : t = 2 := kj_at ht (oa103 w22)
        subst e
        exact ⟨rfl, rfl, rfl, rfl, congrArg (fun z => (q 109).set x2.toNatClampNeg z) og26⟩)⟩, fun h => absurd rfl h⟩⟩)
      exact (oa126 w22 w25).elim
    by_cases w31 : x1.toInt = 3
    ·
      refine ko_eq (x1 := (21, [(5, .int vg1), (0, .ref 0), (1, .int x1), (2, .int x2), (3, .long x3)], [.int 3, .ref 97], (0, 0), ks i a q r)) (by rw [(kj_eq w31 (by decide) : x1 = 3)]) ?_
      first | refine ft_go mi_k115 6 31 [(5, .int vg1), (0, .ref 0), (1, .int x1), (2, .int x2), (3, .long x3)] [.int x1, .ref 97, .int x2, .ref 111] i a q r (by rfl) ?_ | refine ko_steps mi_in115 6 _ (31, [(5, .int vg1), (0, .ref 0), (1, .int x1), (2, .int x2), (3, .long x3)], [.int x1, .ref 97, .int x2, .ref 111], (0, 0), ks i a q r) (by rfl) ?_
      by_cases w35 : x1.toInt = 3
      ·
        refine ko_eq (x1 := (31, [(5, .int vg1), (0, .ref 0), (1, .int x1), (2, .int x2), (3, .long x3)], [.int 3, .ref 97, .int x2, .ref 111], (0, 0), ks i a q r)) (by rw [(kj_eq w35 (by decide) : x1 = 3)]) ?_
        first | refine ft_go mi_k115 2 33 [(5, .int vg1), (0, .ref 0), (1, .int x1), (2, .int x2), (3, .long x3)] [.long x3, .ref 110, .int x2, .ref 111] i a q r (by rfl) ?_ | refine ko_steps mi_in115 2 _ (33, [(5, .int vg1), (0, .ref 0), (1, .int x1), (2, .int x2), (3, .long x3)], [.long x3, .ref 110, .int x2, .ref 111], (0, 0), ks i a q r) (by rfl) ?_
        refine ko_callPL mi_k115.1 (pc := 33) (ls := [(5, .int vg1), (0, .ref 0), (1, .int x1), (2, .int x2), (3, .long x3)]) (st := [.long x3, .ref 110, .int x2, .ref 111]) (h := ks i a q r) (i := (.invokevirtual 315, 3, 40, 0, 9, 0, 312)) (mi_k115.2 _ _ (by rfl)) (ft_invS mi_pq40 (by rfl)) (cy := mi_c40) mi_pq40 rfl (kd40_110 hG.I hG.R x3) (by decide) ?_
        intro vg36 hg36
        obtain ⟨hg36, og36⟩ := hg36
        have hJ37 := kG_q hG 111 rfl (z := (q 111).set x2.toNatClampNeg vg36) (List.length_set.trans (hG.I.2.2.2 111))
        refine ko_last2 mi_k115.1 (l := q 111) (n := 60) (c := 60) (ax := (0, 0, 0, 0, 0)) (mi_k115.2 _ _ (by rfl)) (by rfl) (by rfl) (hG.I.2.2.2 111) rfl (oa128 c3 w31 z2.2.2.2.2.1 koa0) (oa129 c3 fi_7043.2 w31 z2.2.2.2.2.1 koa0) (h2 := ks i a (ku q 111 ((q 111).set x2.toNatClampNeg vg36)) r) (by rfl) ?_
        first | refine ft_go mi_k115 1 38 [(5, .int vg1), (0, .ref 0), (1, .int x1), (2, .int x2), (3, .long x3)] [.int 1] i a (ku q 111 ((q 111).set x2.toNatClampNeg vg36)) r (by rfl) ?_ | refine ko_steps mi_in115 1 _ (38, [(5, .int vg1), (0, .ref 0), (1, .int x1), (2, .int x2), (3, .long x3)], [.int 1], (0, 0), ks i a (ku q 111 ((q 111).set x2.toNatClampNeg vg36)) r) (by rfl) ?_
        exact ft_ret mi_k115 (by rfl) (hP 1 _ _ _ _ hJ37 ⟨(oa130 c3 fi_7040.2 w31 z2.2.2.2.2.1 koa0 koa1), ⟨fun _ => ⟨(fun t ht ne => match t, ht, ne with | 0, _, _ => (kVw_eq (t := 0) rfl rfl rfl rfl rfl) | 1, _, _ => (kVw_eq (t := 1) rfl rfl rfl rfl rfl) | 2, _, _ => (kVw_eq (t := 2) rfl rfl rfl rfl rfl) | 3, _, ne => absurd (oa104 w31).symm ne | 4, _, _ => (kVw_eq (t := 4) rfl rfl rfl rfl rfl) | 5, _, _ => (kVw_eq (t := 5) rfl rfl rfl rfl rfl) | _ + 6, h, _ => absurd h (by omega)), (fun t ht => by
        have e : t = 3 := kj_at ht (oa104 w31)
        subst e
        exact ⟨rfl, rfl, rfl, rfl, congrArg (fun z => (q 111).set x2.toNatClampNeg z) og36⟩)⟩, fun h => absurd rfl h⟩⟩)
      exact (oa131 w31 w35).elim
    by_cases w40 : x1.toInt = 4
    ·
      refine ko_eq (x1 := (21, [(5, .int vg1), (0, .ref 0), (1, .int x1), (2, .int x2), (3, .long x3)], [.int 4, .ref 97], (0, 0), ks i a q r)) (by rw [(kj_eq w40 (by decide) : x1 = 4)]) ?_
      first | refine ft_go mi_k115 6 31 [(5, .int vg1), (0, .ref 0), (1, .int x1), (2, .int x2), (3, .long x3)] [.int x1, .ref 97, .int x2, .ref 113] i a q r (by rfl) ?_ | refine ko_steps mi_in115 6 _ (31, [(5, .int vg1), (0, .ref 0), (1, .int x1), (2, .int x2), (3, .long x3)], [.int x1, .ref 97, .int x2, .ref 113], (0, 0), ks i a q r) (by rfl) ?_
      by_cases w45 : x1.toInt = 4
      ·
        refine ko_eq (x1 := (31, [(5, .int vg1), (0, .ref 0), (1, .int x1), (2, .int x2), (3, .long x3)], [.int 4, .ref 97, .int x2, .ref 113], (0, 0), ks i a q r)) (by rw [(kj_eq w45 (by decide) : x1 = 4)]) ?_
        first | refine ft_go mi_k115 2 33 [(5, .int vg1), (0, .ref 0), (1, .int x1), (2, .int x2), (3, .long x3)] [.long x3, .ref 112, .int x2, .ref 113] i a q r (by rfl) ?_ | refine ko_steps mi_in115 2 _ (33, [(5, .int vg1), (0, .ref 0), (1, .int x1), (2, .int x2), (3, .long x3)], [.long x3, .ref 112, .int x2, .ref 113], (0, 0), ks i a q r) (by rfl) ?_
        refine ko_callPL mi_k115.1 (pc := 33) (ls := [(5, .int vg1), (0, .ref 0), (1, .int x1), (2, .int x2), (3, .long x3)]) (st := [.long x3, .ref 112, .int x2, .ref 113]) (h := ks i a q r) (i := (.invokevirtual 315, 3, 40, 0, 9, 0, 312)) (mi_k115.2 _ _ (by rfl)) (ft_invS mi_pq40 (by rfl)) (cy := mi_c40) mi_pq40 rfl (kd40_112 hG.I hG.R x3) (by decide) ?_
        intro vg46 hg46
        obtain ⟨hg46, og46⟩ := hg46
        have hJ47 := kG_q hG 113 rfl (z := (q 113).set x2.toNatClampNeg vg46) (List.length_set.trans (hG.I.2.2.2 113))
        refine ko_last2 mi_k115.1 (l := q 113) (n := 60) (c := 60) (ax := (0, 0, 0, 0, 0)) (mi_k115.2 _ _ (by rfl)) (by rfl) (by rfl) (hG.I.2.2.2 113) rfl (oa133 c3 w40 z2.2.2.2.2.2.1 koa0) (oa134 c3 fi_7171.2 w40 z2.2.2.2.2.2.1 koa0) (h2 := ks i a (ku q 113 ((q 113).set x2.toNatClampNeg vg46)) r) (by rfl) ?_
        first | refine ft_go mi_k115 1 38 [(5, .int vg1), (0, .ref 0), (1, .int x1), (2, .int x2), (3, .long x3)] [.int 1] i a (ku q 113 ((q 113).set x2.toNatClampNeg vg46)) r (by rfl) ?_ | refine ko_steps mi_in115 1 _ (38, [(5, .int vg1), (0, .ref 0), (1, .int x1), (2, .int x2), (3, .long x3)], [.int 1], (0, 0), ks i a (ku q 113 ((q 113).set x2.toNatClampNeg vg46)) r) (by rfl) ?_
        exact ft_ret mi_k115 (by rfl) (hP 1 _ _ _ _ hJ47 ⟨(oa135 c3 fi_7168.2 w40 z2.2.2.2.2.2.1 koa0 koa1), ⟨fun _ => ⟨(fun t ht ne => match t, ht, ne with | 0, _, _ => (kVw_eq (t := 0) rfl rfl rfl rfl rfl) | 1, _, _ => (kVw_eq (t := 1) rfl rfl rfl rfl rfl) | 2, _, _ => (kVw_eq (t := 2) rfl rfl rfl rfl rfl) | 3, _, _ => (kVw_eq (t := 3) rfl rfl rfl rfl rfl) | 4, _, ne => absurd (oa136 w40).symm ne | 5, _, _ => (kVw_eq (t := 5) rfl rfl rfl rfl rfl) | _ + 6, h, _ => absurd h (by omega)), (fun t ht => by
        have e : t = 4 := kj_at ht (oa136 w40)
        subst e
        exact ⟨rfl, rfl, rfl, rfl, congrArg (fun z => (q 113).set x2.toNatClampNeg z) og46⟩)⟩, fun h => absurd rfl h⟩⟩)
      exact (oa137 w40 w45).elim
    by_cases w49 : x1.toInt = 5
    ·
      refine ko_eq (x1 := (21, [(5, .int vg1), (0, .ref 0), (1, .int x1), (2, .int x2), (3, .long x3)], [.int 5, .ref 97], (0, 0), ks i a q r)) (by rw [(kj_eq w49 (by decide) : x1 = 5)]) ?_
      first | refine ft_go mi_k115 6 31 [(5, .int vg1), (0, .ref 0), (1, .int x1), (2, .int x2), (3, .long x3)] [.int x1, .ref 97, .int x2, .ref 115] i a q r (by rfl) ?_ | refine ko_steps mi_in115 6 _ (31, [(5, .int vg1), (0, .ref 0), (1, .int x1), (2, .int x2), (3, .long x3)], [.int x1, .ref 97, .int x2, .ref 115], (0, 0), ks i a q r) (by rfl) ?_
      by_cases w55 : x1.toInt = 5
      ·
        refine ko_eq (x1 := (31, [(5, .int vg1), (0, .ref 0), (1, .int x1), (2, .int x2), (3, .long x3)], [.int 5, .ref 97, .int x2, .ref 115], (0, 0), ks i a q r)) (by rw [(kj_eq w55 (by decide) : x1 = 5)]) ?_
        first | refine ft_go mi_k115 2 33 [(5, .int vg1), (0, .ref 0), (1, .int x1), (2, .int x2), (3, .long x3)] [.long x3, .ref 114, .int x2, .ref 115] i a q r (by rfl) ?_ | refine ko_steps mi_in115 2 _ (33, [(5, .int vg1), (0, .ref 0), (1, .int x1), (2, .int x2), (3, .long x3)], [.long x3, .ref 114, .int x2, .ref 115], (0, 0), ks i a q r) (by rfl) ?_
        refine ko_callPL mi_k115.1 (pc := 33) (ls := [(5, .int vg1), (0, .ref 0), (1, .int x1), (2, .int x2), (3, .long x3)]) (st := [.long x3, .ref 114, .int x2, .ref 115]) (h := ks i a q r) (i := (.invokevirtual 315, 3, 40, 0, 9, 0, 312)) (mi_k115.2 _ _ (by rfl)) (ft_invS mi_pq40 (by rfl)) (cy := mi_c40) mi_pq40 rfl (kd40_114 hG.I hG.R x3) (by decide) ?_
        intro vg56 hg56
        obtain ⟨hg56, og56⟩ := hg56
        have hJ57 := kG_q hG 115 rfl (z := (q 115).set x2.toNatClampNeg vg56) (List.length_set.trans (hG.I.2.2.2 115))
        refine ko_last2 mi_k115.1 (l := q 115) (n := 60) (c := 60) (ax := (0, 0, 0, 0, 0)) (mi_k115.2 _ _ (by rfl)) (by rfl) (by rfl) (hG.I.2.2.2 115) rfl (oa139 c3 w49 z2.2.2.2.2.2.2 koa0) (oa140 c3 fi_7299.2 w49 z2.2.2.2.2.2.2 koa0) (h2 := ks i a (ku q 115 ((q 115).set x2.toNatClampNeg vg56)) r) (by rfl) ?_
        first | refine ft_go mi_k115 1 38 [(5, .int vg1), (0, .ref 0), (1, .int x1), (2, .int x2), (3, .long x3)] [.int 1] i a (ku q 115 ((q 115).set x2.toNatClampNeg vg56)) r (by rfl) ?_ | refine ko_steps mi_in115 1 _ (38, [(5, .int vg1), (0, .ref 0), (1, .int x1), (2, .int x2), (3, .long x3)], [.int 1], (0, 0), ks i a (ku q 115 ((q 115).set x2.toNatClampNeg vg56)) r) (by rfl) ?_
        exact ft_ret mi_k115 (by rfl) (hP 1 _ _ _ _ hJ57 ⟨(oa141 c3 fi_7296.2 w49 z2.2.2.2.2.2.2 koa0 koa1), ⟨fun _ => ⟨(fun t ht ne => match t, ht, ne with | 0, _, _ => (kVw_eq (t := 0) rfl rfl rfl rfl rfl) | 1, _, _ => (kVw_eq (t := 1) rfl rfl rfl rfl rfl) | 2, _, _ => (kVw_eq (t := 2) rfl rfl rfl rfl rfl) | 3, _, _ => (kVw_eq (t := 3) rfl rfl rfl rfl rfl) | 4, _, _ => (kVw_eq (t := 4) rfl rfl rfl rfl rfl) | 5, _, ne => absurd (oa142 w49).symm ne | _ + 6, h, _ => absurd h (by omega)), (fun t ht => by
        have e : t = 5 := kj_at ht (oa142 w49)
        subst e
        exact ⟨rfl, rfl, rfl, rfl, congrArg (fun z => (q 115).set x2.toNatClampNeg z) og56⟩)⟩, fun h => absurd rfl h⟩⟩)
      exact (oa143 w49 w55).elim
    exact (oa144 c3 w13 w22 w31 w4 w40 w49 z2.1 koa0).elim
  ·
    have c58 : vg1.toInt < (0 : Int32).toInt := kd_leF c; clear c
    first | refine ft_go mi_k115 1 15 [(5, .int vg1), (0, .ref 0), (1, .int x1), (2, .int x2), (3, .long x3)] [.int vg1] i a q r (by rfl) ?_ | refine ko_steps mi_in115 1 _ (15, [(5, .int vg1), (0, .ref 0), (1, .int x1), (2, .int x2), (3, .long x3)], [.int vg1], (0, 0), ks i a q r) (by rfl) ?_
    exact ft_ret mi_k115 (by rfl) (hP vg1 _ _ _ _ hG ⟨(oa145 c58 fi_6656.1 fi_6656.2 fi_6784.1 fi_6784.2 fi_6912.1 fi_6912.2 fi_7040.1 fi_7040.2 fi_7168.1 fi_7168.2 fi_7296.1 fi_7296.2 z2.1 z2.2.1 z2.2.2.1 z2.2.2.2.1 z2.2.2.2.2.1 z2.2.2.2.2.2.1 z2.2.2.2.2.2.2 koa0), ⟨fun h => absurd h (fun h => by have := congrArg Int32.toInt h; rw [kn1] at this; have := (oa146 c58 koa0); omega), fun _ => (fun t ht => match t, ht with | 0, _ => (kVw_eq (t := 0) rfl rfl rfl rfl rfl) | 1, _ => (kVw_eq (t := 1) rfl rfl rfl rfl rfl) | 2, _ => (kVw_eq (t := 2) rfl rfl rfl rfl rfl) | 3, _ => (kVw_eq (t := 3) rfl rfl rfl rfl rfl) | 4, _ => (kVw_eq (t := 4) rfl rfl rfl rfl rfl) | 5, _ => (kVw_eq (t := 5) rfl rfl rfl rfl rfl) | _ + 6, h => absurd h (by omega))⟩⟩)
def yw221_116 : kW := ([], [], [138], [])
set_option maxRecDepth 100000 in
theorem ke221_116 {i : Nat → Int32} {a : Nat → List Int32} {q : Nat → List Int64} {r : Nat → Nat} (hI : kI i a q) (hr : kr r) (x1 : Int32) (x2 : Int32) (x3 : Int64) : km 5 221 [.ref 116, .int x1, .int x2, .long x3] (ks i a q r) (kVI yw221_116 i a q r (fun v i1 a1 q1 r1 => (((((x1.toInt < 0) ∨ ((5 : Int) < x1.toInt)) → (v.toInt = (-1)))) ∧ (((((0 : Int) ≤ x1.toInt) ∧ (x1.toInt ≤ 5)) → (((v.toInt = 1) ∧ ((0 : Int) ≤ ((a 136).getD x1.toNatClampNeg 0).toInt) ∧ (((a 136).getD x1.toNatClampNeg 0).toInt ≤ 4) ∧ ((0 : Int) ≤ x2.toInt) ∧ (x2.toInt < ((a 137).getD x1.toNatClampNeg 0).toInt)) ∨ ((v.toInt = (-11)) ∧ (((a 136).getD x1.toNatClampNeg 0).toInt = (-1))) ∨ ((v.toInt = (-12)) ∧ (((a 136).getD x1.toNatClampNeg 0).toInt ≠ (-1)) ∧ (¬ (((0 : Int) ≤ ((a 136).getD x1.toNatClampNeg 0).toInt) ∧ (((a 136).getD x1.toNatClampNeg 0).toInt ≤ 4)))) ∨ ((v.toInt = (-13)) ∧ ((0 : Int) ≤ ((a 136).getD x1.toNatClampNeg 0).toInt) ∧ (((a 136).getD x1.toNatClampNeg 0).toInt ≤ 4) ∧ (¬ (((0 : Int) ≤ x2.toInt) ∧ (x2.toInt < ((a 137).getD x1.toNatClampNeg 0).toInt)))))))) ∧ ((v = 1 → q1 138 = (q 138).set ((60 * x1) + x2).toNatClampNeg (kNar ((a 136).getD x1.toNatClampNeg 0) x3)) ∧ (v ≠ 1 → q1 138 = q 138)))) := by
  have hG := kG_self yw221_116 hI hr
  refine km_ofI (q := (mi_h221, mi_c221)) rfl (by decide) (Nat.le_of_ble_eq_true rfl) ?_
  intro P hP
  refine ft_go mi_k221 1 1 [(0, .ref 116), (1, .int x1), (2, .int x2), (3, .long x3)] [.int x1] i a q r (by rfl) ?_
  refine ko_callPI mi_k221.1 (pc := 1) (ls := [(0, .ref 116), (1, .int x1), (2, .int x2), (3, .long x3)]) (st := [.int x1]) (h := ks i a q r) (i := (.invokestatic 127, 3, 133, 0, 9, 0, 382)) (mi_k221.2 _ _ (by rfl)) (ft_invS mi_pq133 (by rfl)) (cy := mi_c133) mi_pq133 rfl (kc133 hG.I hG.R x1) (by decide) ?_
  intro vg1 hg1
  rcases hg1 with ⟨eg1, hg1⟩ | ⟨eg1, hg1⟩
  ·
    subst eg1
    have z2 : ((0 : Int) ≤ x1.toInt) ∧ (x1.toInt ≤ 5) := hg1
    refine ft_go mi_k221 4 14 [(0, .ref 116), (1, .int x1), (2, .int x2), (3, .long x3)] [.int x1, .ref 136] i a q r (by rfl) ?_
    refine ko_iald3 mi_k221.1 (n := 6) (c := 6) (ax := (0, 0, 0, 0, 0)) (mi_k221.2 _ _ (by rfl)) (by rfl) (ksG136 _ _ _ _) (hG.I.2.1 136) rfl (oa5 z2.1) (oa147 z2.2) ?_
    have r3 : ((-1 : Int) ≤ ((a 136).getD x1.toNatClampNeg 0).toInt) ∧ (((a 136).getD x1.toNatClampNeg 0).toInt ≤ 59) := hG.I.2.2.1 136 (x1.toNatClampNeg)
    refine ft_go mi_k221 1 16 [(0, .ref 116), (1, .int x1), (2, .int x2), (3, .long x3)] [.int (-1), .int ((a 136).getD x1.toNatClampNeg 0)] i a q r (by rfl) ?_
    refine ft_if mi_k221 (((a 136).getD x1.toNatClampNeg 0) != (-1)) 22 19 [(0, .ref 116), (1, .int x1), (2, .int x2), (3, .long x3)] [] (by rfl) (fun c => ?_) (fun c => ?_)
    ·
      have c4 : ((a 136).getD x1.toNatClampNeg 0).toInt ≠ ((-1) : Int32).toInt := kd_ne c; clear c
      refine ft_go mi_k221 2 24 [(0, .ref 116), (1, .int x1), (2, .int x2), (3, .long x3)] [.int x1, .ref 116] i a q r (by rfl) ?_
      refine ko_callPI mi_k221.1 (pc := 24) (ls := [(0, .ref 116), (1, .int x1), (2, .int x2), (3, .long x3)]) (st := [.int x1, .ref 116]) (h := ks i a q r) (i := (.invokevirtual 372, 3, 219, 0, 9, 0, 473)) (mi_k221.2 _ _ (by rfl)) (ft_invS mi_pq219 (by rfl)) (cy := mi_c219) mi_pq219 rfl (kc219_116 hG.I hG.R x1 (oa150 z2.1 z2.2)) (by decide) ?_
      intro vg5 hg5
      rcases hg5 with ⟨eg5, hg5⟩ | ⟨eg5, hg5⟩
      ·
        subst eg5
        have z6 : ((0 : Int) ≤ ((a 136).getD x1.toNatClampNeg 0).toInt) ∧ (((a 136).getD x1.toNatClampNeg 0).toInt ≤ 4) := hg5
        refine ft_go mi_k221 6 40 [(0, .ref 116), (1, .int x1), (2, .int x2), (3, .long x3)] [.int x1, .ref 137, .int 0, .int x2] i a q r (by rfl) ?_
        refine ko_iald3 mi_k221.1 (n := 6) (c := 6) (ax := (0, 0, 0, 0, 0)) (mi_k221.2 _ _ (by rfl)) (by rfl) (ksG137 _ _ _ _) (hG.I.2.1 137) rfl (oa5 z2.1) (oa147 z2.2) ?_
        have r7 : ((0 : Int) ≤ ((a 137).getD x1.toNatClampNeg 0).toInt) ∧ (((a 137).getD x1.toNatClampNeg 0).toInt ≤ 60) := hG.I.2.2.1 137 (x1.toNatClampNeg)
        have s8 : (((a 137).getD x1.toNatClampNeg 0) - 1).toInt = ((a 137).getD x1.toNatClampNeg 0).toInt - (1 : Int32).toInt := kd_sub (oa71 r7.1 koa1) (oa72 r7.2 koa1)
        refine ft_go mi_k221 2 43 [(0, .ref 116), (1, .int x1), (2, .int x2), (3, .long x3)] [.int (((a 137).getD x1.toNatClampNeg 0) - 1), .int 0, .int x2] i a q r (by rfl) ?_
        refine ko_callPI mi_k221.1 (pc := 43) (ls := [(0, .ref 116), (1, .int x1), (2, .int x2), (3, .long x3)]) (st := [.int (((a 137).getD x1.toNatClampNeg 0) - 1), .int 0, .int x2]) (h := ks i a q r) (i := (.invokestatic 119, 3, 131, 0, 9, 0, 379)) (mi_k221.2 _ _ (by rfl)) (ft_invS mi_pq131 (by rfl)) (cy := mi_c131) mi_pq131 rfl (kc131 hG.I hG.R x2 0 (((a 137).getD x1.toNatClampNeg 0) - 1)) (by decide) ?_
        intro vg9 hg9
        rcases hg9 with ⟨eg9, hg9⟩ | ⟨eg9, hg9⟩
        ·
          subst eg9
          have z10 : ((0 : Int32).toInt ≤ x2.toInt) ∧ (x2.toInt ≤ (((a 137).getD x1.toNatClampNeg 0) - 1).toInt) := hg9
          have s11 : (60 * x1).toInt = 60 * x1.toInt := kd_cmul 60 koa60 (oa151 z2.1) (oa152 z2.2)
          have s12 : ((60 * x1) + x2).toInt = (60 * x1).toInt + x2.toInt := kd_add (oa153 s11 z10.1 z2.1 koa0) (oa154 r7.2 s11 s8 z10.2 z2.2 koa1)
          refine ft_go mi_k221 11 67 [(0, .ref 116), (1, .int x1), (2, .int x2), (3, .long x3)] [.int x1, .ref 136, .int ((60 * x1) + x2), .ref 138] i a q r (by rfl) ?_
          refine ko_iald3 mi_k221.1 (n := 6) (c := 6) (ax := (0, 0, 0, 0, 0)) (mi_k221.2 _ _ (by rfl)) (by rfl) (ksG136 _ _ _ _) (hG.I.2.1 136) rfl (oa5 z2.1) (oa147 z2.2) ?_
          refine ft_go mi_k221 1 69 [(0, .ref 116), (1, .int x1), (2, .int x2), (3, .long x3)] [.long x3, .int ((a 136).getD x1.toNatClampNeg 0), .int ((60 * x1) + x2), .ref 138] i a q r (by rfl) ?_
          refine ko_callPL mi_k221.1 (pc := 69) (ls := [(0, .ref 116), (1, .int x1), (2, .int x2), (3, .long x3)]) (st := [.long x3, .int ((a 136).getD x1.toNatClampNeg 0), .int ((60 * x1) + x2), .ref 138]) (h := ks i a q r) (i := (.invokestatic 375, 3, 220, 0, 9, 0, 474)) (mi_k221.2 _ _ (by rfl)) (ft_invS mi_pq220 (by rfl)) (cy := mi_c220) mi_pq220 rfl (kd220 hG.I hG.R ((a 136).getD x1.toNatClampNeg 0) x3) (by decide) ?_
          intro vg13 hg13
          obtain ⟨hg13, og13⟩ := hg13
          have hJ14 := kG_q hG 138 rfl (z := (q 138).set ((60 * x1) + x2).toNatClampNeg vg13) (List.length_set.trans (hG.I.2.2.2 138))
          refine ko_last2 mi_k221.1 (l := q 138) (n := 360) (c := 360) (ax := (0, 0, 0, 0, 0)) (mi_k221.2 _ _ (by rfl)) (by rfl) (by rfl) (hG.I.2.2.2 138) rfl (oa159 s11 s12 z10.1 z2.1 koa0) (oa160 r7.2 s11 s12 s8 z10.2 z2.2 koa1) (h2 := ks i a (ku q 138 ((q 138).set ((60 * x1) + x2).toNatClampNeg vg13)) r) (by rfl) ?_
          refine ft_go mi_k221 1 74 [(0, .ref 116), (1, .int x1), (2, .int x2), (3, .long x3)] [.int 1] i a (ku q 138 ((q 138).set ((60 * x1) + x2).toNatClampNeg vg13)) r (by rfl) ?_
          exact ft_ret mi_k221 (by rfl) (hP 1 _ _ _ _ hJ14 ⟨(oa161 s8 z10.1 z10.2 z2.1 z2.2 z6.1 z6.2 koa1 koa0), ⟨fun _ => congrArg (fun z => (q 138).set ((60 * x1) + x2).toNatClampNeg z) og13, fun h => absurd rfl h⟩⟩)
        ·
          subst eg9
          have z15 : ¬ (((0 : Int32).toInt ≤ x2.toInt) ∧ (x2.toInt ≤ (((a 137).getD x1.toNatClampNeg 0) - 1).toInt)) := hg9
          refine ft_go mi_k221 2 51 [(0, .ref 116), (1, .int x1), (2, .int x2), (3, .long x3)] [.int (-13)] i a q r (by rfl) ?_
          exact ft_ret mi_k221 (by rfl) (hP (-13) _ _ _ _ hG ⟨(oa162 s8 z15 z2.1 z2.2 z6.1 z6.2 koa1 koa0 koam13), ⟨fun h => absurd h (by decide), fun _ => rfl⟩⟩)
      ·
        subst eg5
        have z16 : ¬ (((0 : Int) ≤ ((a 136).getD x1.toNatClampNeg 0).toInt) ∧ (((a 136).getD x1.toNatClampNeg 0).toInt ≤ 4)) := hg5
        refine ft_go mi_k221 2 32 [(0, .ref 116), (1, .int x1), (2, .int x2), (3, .long x3)] [.int (-12)] i a q r (by rfl) ?_
        have r17 : ((0 : Int) ≤ ((a 137).getD x1.toNatClampNeg 0).toInt) ∧ (((a 137).getD x1.toNatClampNeg 0).toInt ≤ 60) := hG.I.2.2.1 137 (x1.toNatClampNeg)
        exact ft_ret mi_k221 (by rfl) (hP (-12) _ _ _ _ hG ⟨(oa163 c4 r3.1 z16 z2.1 z2.2 koam1 koam12), ⟨fun h => absurd h (by decide), fun _ => rfl⟩⟩)
    ·
      have c18 : ((a 136).getD x1.toNatClampNeg 0).toInt = ((-1) : Int32).toInt := kd_neF c; clear c
      refine ft_go mi_k221 1 21 [(0, .ref 116), (1, .int x1), (2, .int x2), (3, .long x3)] [.int (-11)] i a q r (by rfl) ?_
      have r19 : ((0 : Int) ≤ ((a 137).getD x1.toNatClampNeg 0).toInt) ∧ (((a 137).getD x1.toNatClampNeg 0).toInt ≤ 60) := hG.I.2.2.1 137 (x1.toNatClampNeg)
      exact ft_ret mi_k221 (by rfl) (hP (-11) _ _ _ _ hG ⟨(oa164 c18 r3.1 z2.1 z2.2 koam1 koam11), ⟨fun h => absurd h (by decide), fun _ => rfl⟩⟩)
  ·
    subst eg1
    have z20 : ¬ (((0 : Int) ≤ x1.toInt) ∧ (x1.toInt ≤ 5)) := hg1
    refine ft_go mi_k221 2 8 [(0, .ref 116), (1, .int x1), (2, .int x2), (3, .long x3)] [.int (-1)] i a q r (by rfl) ?_
    have r21 : ((-1 : Int) ≤ ((a 136).getD x1.toNatClampNeg 0).toInt) ∧ (((a 136).getD x1.toNatClampNeg 0).toInt ≤ 59) := hG.I.2.2.1 136 (x1.toNatClampNeg)
    have r22 : ((0 : Int) ≤ ((a 137).getD x1.toNatClampNeg 0).toInt) ∧ (((a 137).getD x1.toNatClampNeg 0).toInt ≤ 60) := hG.I.2.2.1 137 (x1.toNatClampNeg)
    exact ft_ret mi_k221 (by rfl) (hP (-1) _ _ _ _ hG ⟨(oa165 z20 koam1), ⟨fun h => absurd h (by decide), fun _ => rfl⟩⟩)
