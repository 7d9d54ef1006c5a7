theorem korm0 : (0 : Int32).toInt = 0 := by decide
theorem korm1 : (1 : Int32).toInt = 1 := by decide
theorem korm8 : (8 : Int32).toInt = 8 := by decide
theorem korm2 : (2 : Int32).toInt = 2 := by decide
theorem korm3 : (3 : Int32).toInt = 3 := by decide
theorem korm4 : (4 : Int32).toInt = 4 := by decide
theorem korm5 : (5 : Int32).toInt = 5 := by decide
theorem korm6 : (6 : Int32).toInt = 6 := by decide
theorem korm999 : (999 : Int32).toInt = 999 := by decide
theorem korm40 : (40 : Int32).toInt = 40 := by decide
theorem korm156 : (156 : Int32).toInt = 156 := by decide
theorem korm9 : (9 : Int32).toInt = 9 := by decide
theorem korm99 : (99 : Int32).toInt = 99 := by decide
theorem korm31 : (31 : Int32).toInt = 31 := by decide
theorem korm10 : (10 : Int32).toInt = 10 := by decide
theorem korm18 : (18 : Int32).toInt = 18 := by decide
theorem korm19 : (19 : Int32).toInt = 19 := by decide
theorem orm0 {a0 : Int} (h0 : (0 : Int) ≤ a0) : (0 : Int) ≤ a0 := oz3 h0
theorem orm1 {a0 : Int} (h0 : a0 ≤ 7) : a0 < 31 := oz65 h0
theorem orm2 {a0 a1 : Int} (h0 : a0 = 0) : ((a0 = 4) → (((1 : Int) ≤ a1) ∧ (a1 ≤ 5))) := oz56 h0
theorem orm3 {a0 : Int} (h0 : (0 : Int) ≤ a0) (h1 : a0 = 0) : a0 = 0 := oz1348 h0 h1
theorem orm4 {a0 : Int} (h0 : a0 = 1) : (-2147483648 : Int) ≤ 8 * a0 := oz66 h0
theorem orm5 {a0 : Int} (h0 : a0 ≤ 6) : 8 * a0 ≤ 2147483647 := oz67 h0
theorem orm6 {a0 a1 a2 : Int} (h0 : a0 = 8 * a1) (h1 : a1 = 1) (h2 : a2 = 8) : (-2147483648 : Int) ≤ a0 - a2 := oz68 h0 h1 h2
theorem orm7 {a0 a1 a2 : Int} (h0 : a0 ≤ 6) (h1 : a1 = 8 * a0) (h2 : a2 = 8) : a1 - a2 ≤ 2147483647 := oz69 h0 h1 h2
theorem orm8 {a0 a1 a2 a3 a4 : Int} (h0 : (0 : Int) ≤ a0) (h1 : (0 : Int) ≤ a1) (h2 : a2 = 8 * a1) (h3 : a3 = a2 - a4) (h4 : a4 = 8) : (-2147483648 : Int) ≤ a3 + a0 := oz70 h0 h1 h2 h3 h4
theorem orm9 {a0 a1 a2 a3 a4 : Int} (h0 : a0 ≤ 7) (h1 : a1 ≤ 6) (h2 : a2 = 8 * a1) (h3 : a3 = a2 - a4) (h4 : a4 = 8) : a3 + a0 ≤ 2147483647 := oz71 h0 h1 h2 h3 h4
theorem orm10 {a0 a1 a2 a3 a4 a5 : Int} (h0 : (0 : Int) ≤ a0) (h1 : a1 = 8 * a2) (h2 : a3 = a1 - a4) (h3 : a5 = a3 + a0) (h4 : a2 = 1) (h5 : a4 = 8) : (0 : Int) ≤ a5 := oz72 h0 h1 h2 h3 h4 h5
theorem orm11 {a0 a1 a2 a3 a4 a5 : Int} (h0 : a0 ≤ 7) (h1 : a1 = 8 * a2) (h2 : a3 = a1 - a4) (h3 : a5 = a3 + a0) (h4 : a2 = 1) (h5 : a4 = 8) : a5 < 24 := oz73 h0 h1 h2 h3 h4 h5
theorem orm12 {a0 a1 : Int} (h0 : a0 = 1) : ((a0 = 4) → (((1 : Int) ≤ a1) ∧ (a1 ≤ 5))) := oz57 h0
theorem orm13 {a0 : Int} (h0 : a0 = 1) : ¬ (a0 = 0) := ou25 h0
theorem orm14 {a0 : Int} (h0 : a0 = 1) : ¬ (a0 = 4) := ou22 h0
theorem orm15 {a0 : Int} (h0 : a0 = 1) : ¬ (a0 = 5) := ou23 h0
theorem orm16 {a0 : Int} (h0 : a0 = 1) : ¬ (a0 = 6) := ou24 h0
theorem orm17 {a0 : Int} (h0 : a0 = 2) : (-2147483648 : Int) ≤ 8 * a0 := oz74 h0
theorem orm18 {a0 a1 a2 : Int} (h0 : a0 = 8 * a1) (h1 : a1 = 2) (h2 : a2 = 8) : (-2147483648 : Int) ≤ a0 - a2 := oz75 h0 h1 h2
theorem orm19 {a0 a1 a2 a3 a4 : Int} (h0 : (0 : Int) ≤ a0) (h1 : a1 = 8 * a2) (h2 : a3 = a1 - a4) (h3 : a2 = 2) (h4 : a4 = 8) : (-2147483648 : Int) ≤ a3 + a0 := oz76 h0 h1 h2 h3 h4
theorem orm20 {a0 a1 a2 a3 a4 a5 : Int} (h0 : (0 : Int) ≤ a0) (h1 : a1 = 8 * a2) (h2 : a3 = a1 - a4) (h3 : a5 = a3 + a0) (h4 : a2 = 2) (h5 : a4 = 8) : (0 : Int) ≤ a5 := by omega
theorem orm21 {a0 a1 a2 a3 a4 a5 : Int} (h0 : a0 ≤ 7) (h1 : a1 = 8 * a2) (h2 : a3 = a1 - a4) (h3 : a5 = a3 + a0) (h4 : a2 = 2) (h5 : a4 = 8) : a5 < 24 := by omega
theorem orm22 {a0 a1 : Int} (h0 : a0 = 2) : ((a0 = 4) → (((1 : Int) ≤ a1) ∧ (a1 ≤ 5))) := oz58 h0
theorem orm23 {a0 : Int} (h0 : a0 = 2) : ¬ (a0 = 0) := ou29 h0
theorem orm24 {a0 : Int} (h0 : a0 = 2) : ¬ (a0 = 4) := ou26 h0
theorem orm25 {a0 : Int} (h0 : a0 = 2) : ¬ (a0 = 5) := ou27 h0
theorem orm26 {a0 : Int} (h0 : a0 = 2) : ¬ (a0 = 6) := ou28 h0
theorem orm27 {a0 : Int} (h0 : a0 = 3) : (-2147483648 : Int) ≤ 8 * a0 := oz79 h0
theorem orm28 {a0 a1 a2 : Int} (h0 : a0 = 8 * a1) (h1 : a1 = 3) (h2 : a2 = 8) : (-2147483648 : Int) ≤ a0 - a2 := oz80 h0 h1 h2
theorem orm29 {a0 a1 a2 a3 a4 : Int} (h0 : (0 : Int) ≤ a0) (h1 : a1 = 8 * a2) (h2 : a3 = a1 - a4) (h3 : a2 = 3) (h4 : a4 = 8) : (-2147483648 : Int) ≤ a3 + a0 := oz81 h0 h1 h2 h3 h4
theorem orm30 {a0 a1 a2 a3 a4 a5 : Int} (h0 : (0 : Int) ≤ a0) (h1 : a1 = 8 * a2) (h2 : a3 = a1 - a4) (h3 : a5 = a3 + a0) (h4 : a2 = 3) (h5 : a4 = 8) : (0 : Int) ≤ a5 := oz82 h0 h1 h2 h3 h4 h5
theorem orm31 {a0 a1 a2 a3 a4 a5 : Int} (h0 : a0 ≤ 7) (h1 : a1 = 8 * a2) (h2 : a3 = a1 - a4) (h3 : a5 = a3 + a0) (h4 : a2 = 3) (h5 : a4 = 8) : a5 < 24 := oz83 h0 h1 h2 h3 h4 h5
theorem orm32 {a0 a1 : Int} (h0 : a0 = 3) : ((a0 = 4) → (((1 : Int) ≤ a1) ∧ (a1 ≤ 5))) := oz59 h0
theorem orm33 {a0 : Int} (h0 : a0 = 3) : ¬ (a0 = 0) := by omega
theorem orm34 {a0 : Int} (h0 : a0 = 3) : ¬ (a0 = 4) := by omega
theorem orm35 {a0 : Int} (h0 : a0 = 3) : ¬ (a0 = 5) := by omega
theorem orm36 {a0 : Int} (h0 : a0 = 3) : ¬ (a0 = 6) := by omega
theorem orm37 {a0 a1 : Int} (h0 : (1 : Int) ≤ a0) (h1 : a0 ≤ 5) : ((a1 = 4) → (((1 : Int) ≤ a0) ∧ (a0 ≤ 5))) := oz84 h0 h1
theorem orm38 {a0 : Int} (h0 : a0 = 4) : ¬ (a0 = 0) := by omega
theorem orm39 {a0 : Int} (h0 : a0 = 4) : a0 = 4 := oz1446 h0
theorem orm40 {a0 a1 : Int} (h0 : a0 = 5) : ((a0 = 4) → (((1 : Int) ≤ a1) ∧ (a1 ≤ 5))) := oz61 h0
theorem orm41 {a0 : Int} (h0 : a0 = 5) : ¬ (a0 = 0) := by omega
theorem orm42 {a0 : Int} (h0 : a0 = 5) : ¬ (a0 = 4) := ou1 h0
theorem orm43 {a0 : Int} (h0 : a0 = 5) : a0 = 5 := oz1470 h0
theorem orm44 {a0 : Int} (h0 : a0 = 8) : (0 : Int) ≤ a0 := oz85 h0
theorem orm45 {a0 : Int} (h0 : a0 = 8) : a0 < 31 := oz86 h0
theorem orm46 {a0 a1 : Int} (h0 : a0 = 6) : ((a0 = 4) → (((1 : Int) ≤ a1) ∧ (a1 ≤ 5))) := oz62 h0
theorem orm47 {a0 : Int} (h0 : a0 = 6) : ¬ (a0 = 0) := by omega
theorem orm48 {a0 : Int} (h0 : a0 = 6) : ¬ (a0 = 4) := ou3 h0
theorem orm49 {a0 : Int} (h0 : a0 = 6) : ¬ (a0 = 5) := ou4 h0
theorem orm50 {a0 : Int} (h0 : a0 ≤ 6) (h1 : a0 = 6) : a0 = 6 := by omega
theorem orm51 {a0 : Int} (h0 : (0 : Int) ≤ a0) (h1 : a0 ≤ 6) (h2 : ¬ (a0 = 0)) (h3 : ¬ (a0 = 2)) (h4 : ¬ (a0 = 3)) (h5 : ¬ (a0 = 4)) (h6 : ¬ (a0 = 5)) (h7 : ¬ (a0 = 6)) (h8 : ¬ (a0 = 1)) : False := by omega
theorem orm52 {a0 a1 : Int} (h0 : a0 ≤ 7) : a0 = 18 → (0 : Int) ≤ a1 ∧ a1 ≤ 5 := oz90 h0
theorem orm53 {a0 a1 : Int} (h0 : a0 ≤ 7) : 19 ≤ a0 → a0 ≤ 24 → (0 : Int) ≤ a1 ∧ a1 ≤ 7 := oz91 h0
theorem orm54 {a0 a1 : Int} (h0 : ((a0 = 4) → (((1 : Int) ≤ a1) ∧ (a1 ≤ 5)))) (h1 : a0 = 4) : (1 : Int) ≤ a1 := oz96 h0 h1
theorem orm55 {a0 a1 : Int} (h0 : ((a0 = 4) → (((1 : Int) ≤ a1) ∧ (a1 ≤ 5)))) (h1 : a0 = 4) : a1 ≤ 5 := oz97 h0 h1
theorem orm56 {a0 a1 : Int} (h0 : a0 = 8) : a0 = 18 → (0 : Int) ≤ a1 ∧ a1 ≤ 5 := oz98 h0
theorem orm57 {a0 a1 : Int} (h0 : a0 = 8) : 19 ≤ a0 → a0 ≤ 24 → (0 : Int) ≤ a1 ∧ a1 ≤ 7 := oz99 h0
theorem orm58 {a0 : Int} (h0 : (0 : Int) ≤ a0) (h1 : a0 ≤ 6) (h2 : ¬ (a0 = 0)) (h3 : ¬ (a0 = 2)) (h4 : ¬ (a0 = 3)) (h5 : ¬ (a0 = 4)) (h6 : ¬ (a0 = 5)) (h7 : ¬ (a0 = 1)) (h8 : ¬ (a0 = 6)) : False := by omega
theorem orm62 {a0 a1 : Int} (h0 : (0 : Int) ≤ a0) (h1 : a1 = 1) : (-2147483648 : Int) ≤ a0 - a1 := oz47 h0 h1
theorem orm71 {a0 a1 a2 : Int} (h0 : a0 ≤ 8) (h1 : (((0 : Int) ≤ a1) ∧ (a1 ≤ 3) ∧ ((0 : Int) ≤ a2) ∧ (a2 < a0)) ∨ (((4 : Int) ≤ a1) ∧ (a1 ≤ 6) ∧ (a2 = 0))) : ((0 : Int) ≤ a2) ∧ (a2 ≤ 7) := oz88 h0 h1
theorem orm72 {a0 a1 a2 : Int} (h0 : (((0 : Int) ≤ a0) ∧ (a0 ≤ 3) ∧ ((0 : Int) ≤ a1) ∧ (a1 < a2)) ∨ (((4 : Int) ≤ a0) ∧ (a0 ≤ 6) ∧ (a1 = 0))) : ((0 : Int) ≤ a0) ∧ (a0 ≤ 6) := oz89 h0
theorem orm73 {a0 a1 a2 : Int} (h0 : (((0 : Int) ≤ a0) ∧ (a0 ≤ 3) ∧ ((0 : Int) ≤ a1) ∧ (a1 < a2)) ∨ (((4 : Int) ≤ a0) ∧ (a0 ≤ 6) ∧ (a1 = 0))) : (((0 : Int) ≤ a0) ∧ (a0 ≤ 3) ∧ ((0 : Int) ≤ a1) ∧ (a1 < a2)) ∨ (((4 : Int) ≤ a0) ∧ (a0 ≤ 6) ∧ (a1 = 0)) := ou74 h0
theorem orm74 {a0 a1 a2 : Int} (h0 : (0 : Int) ≤ a0) (h1 : ¬ ((((0 : Int) ≤ a1) ∧ (a1 ≤ 3) ∧ ((0 : Int) ≤ a2) ∧ (a2 < a0)) ∨ (((4 : Int) ≤ a1) ∧ (a1 ≤ 6) ∧ (a2 = 0)))) : ¬ ((((0 : Int) ≤ a1) ∧ (a1 ≤ 3) ∧ ((0 : Int) ≤ a2) ∧ (a2 < a0)) ∨ (((4 : Int) ≤ a1) ∧ (a1 ≤ 6) ∧ (a2 = 0))) := ou75 h0 h1
theorem orm75 {a0 a1 a2 : Int} (h0 : a0 ≤ a1) (h1 : a1 ≤ a2) (h2 : a0 = 0) (h3 : a2 = 999) : ((0 : Int) ≤ a1) ∧ (a1 ≤ 999) := ou80 h0 h1 h2 h3
theorem orm76 {a0 a1 a2 : Int} (h0 : ¬ ((a0 ≤ a1) ∧ (a1 ≤ a2))) (h1 : a0 = 0) (h2 : a2 = 999) : ¬ (((0 : Int) ≤ a1) ∧ (a1 ≤ 999)) := ou81 h0 h1 h2
theorem orm77 {a0 a1 a2 : Int} (h0 : a0 ≤ 8) (h1 : a1 = 0) (h2 : (((0 : Int) ≤ a1) ∧ (a1 ≤ 3) ∧ ((0 : Int) ≤ a2) ∧ (a2 < a0)) ∨ (((4 : Int) ≤ a1) ∧ (a1 ≤ 6) ∧ (a2 = 0))) : ((0 : Int) ≤ a2) ∧ (a2 ≤ 7) := by omega
theorem orm78 {a0 : Int} (h0 : a0 = 0) : ((0 : Int) ≤ a0) ∧ (a0 ≤ 6) := by omega
theorem orm79 {a0 : Int} (h0 : (0 : Int) ≤ a0) : (-2147483648 : Int) ≤ 4 * a0 := oz101 h0
theorem orm80 {a0 : Int} (h0 : a0 ≤ 40) : 4 * a0 ≤ 2147483647 := oz102 h0
theorem orm81 {a0 a1 : Int} (h0 : (0 : Int) ≤ a0) (h1 : a1 = 4 * a0) : (0 : Int) ≤ a1 := oz103 h0 h1
theorem orm82 {a0 a1 a2 : Int} (h0 : a0 ≠ a1) (h1 : a0 ≤ 40) (h2 : a2 = 4 * a0) (h3 : a1 = 40) : a2 < 160 := oz104 h0 h1 h2 h3
theorem orm83 {a0 a1 a2 a3 : Int} (h0 : a0 ≤ 8) (h1 : a1 = 0) (h2 : (((0 : Int) ≤ a1) ∧ (a1 ≤ 3) ∧ ((0 : Int) ≤ a2) ∧ (a2 < a0)) ∨ (((4 : Int) ≤ a1) ∧ (a1 ≤ 6) ∧ (a2 = 0))) : (a3 % 4) = 0 → (0 : Int) ≤ a2 ∧ a2 ≤ 7 := by omega
theorem orm84 {a0 a1 a2 : Int} (h0 : (0 : Int) ≤ a0) (h1 : a1 = 4 * a0) (h2 : a2 = 1) : (-2147483648 : Int) ≤ a1 + a2 := oz106 h0 h1 h2
theorem orm85 {a0 a1 a2 : Int} (h0 : a0 ≤ 40) (h1 : a1 = 4 * a0) (h2 : a2 = 1) : a1 + a2 ≤ 2147483647 := oz107 h0 h1 h2
theorem orm86 {a0 a1 a2 a3 : Int} (h0 : (0 : Int) ≤ a0) (h1 : a1 = 4 * a0) (h2 : a2 = a1 + a3) (h3 : a3 = 1) : (0 : Int) ≤ a2 := oz108 h0 h1 h2 h3
theorem orm87 {a0 a1 a2 a3 a4 : Int} (h0 : a0 ≠ a1) (h1 : a0 ≤ 40) (h2 : a2 = 4 * a0) (h3 : a3 = a2 + a4) (h4 : a1 = 40) (h5 : a4 = 1) : a3 < 160 := oz109 h0 h1 h2 h3 h4 h5
theorem orm88 {a0 a1 : Int} (h0 : a0 = 0) : (a1 % 4) = 0 → (0 : Int) ≤ a0 ∧ a0 ≤ 7 := by omega
theorem orm89 {a0 a1 : Int} (h0 : a0 = 0) : (a1 % 4) = 1 → (0 : Int) ≤ a0 ∧ a0 ≤ 6 := by omega
theorem orm90 {a0 a1 a2 : Int} (h0 : (0 : Int) ≤ a0) (h1 : a1 = 4 * a0) (h2 : a2 = 2) : (-2147483648 : Int) ≤ a1 + a2 := oz112 h0 h1 h2
theorem orm91 {a0 a1 a2 : Int} (h0 : a0 ≤ 40) (h1 : a1 = 4 * a0) (h2 : a2 = 2) : a1 + a2 ≤ 2147483647 := oz113 h0 h1 h2
theorem orm92 {a0 a1 a2 a3 : Int} (h0 : (0 : Int) ≤ a0) (h1 : a1 = 4 * a0) (h2 : a2 = a1 + a3) (h3 : a3 = 2) : (0 : Int) ≤ a2 := oz114 h0 h1 h2 h3
theorem orm93 {a0 a1 a2 a3 a4 : Int} (h0 : a0 ≠ a1) (h1 : a0 ≤ 40) (h2 : a2 = 4 * a0) (h3 : a3 = a2 + a4) (h4 : a1 = 40) (h5 : a4 = 2) : a3 < 160 := oz115 h0 h1 h2 h3 h4 h5
theorem orm94 {a0 a1 a2 : Int} (h0 : (0 : Int) ≤ a0) (h1 : a1 = 4 * a0) (h2 : a2 = 3) : (-2147483648 : Int) ≤ a1 + a2 := oz116 h0 h1 h2
theorem orm95 {a0 a1 a2 : Int} (h0 : a0 ≤ 40) (h1 : a1 = 4 * a0) (h2 : a2 = 3) : a1 + a2 ≤ 2147483647 := oz117 h0 h1 h2
theorem orm96 {a0 a1 a2 a3 : Int} (h0 : (0 : Int) ≤ a0) (h1 : a1 = 4 * a0) (h2 : a2 = a1 + a3) (h3 : a3 = 3) : (0 : Int) ≤ a2 := oz118 h0 h1 h2 h3
theorem orm97 {a0 a1 a2 a3 a4 : Int} (h0 : a0 ≠ a1) (h1 : a0 ≤ 40) (h2 : a2 = 4 * a0) (h3 : a3 = a2 + a4) (h4 : a1 = 40) (h5 : a4 = 3) : a3 < 160 := oz119 h0 h1 h2 h3 h4 h5
theorem orm98 {a0 a1 : Int} (h0 : (0 : Int) ≤ a0) (h1 : a1 = 1) : (-2147483648 : Int) ≤ a0 + a1 := oz12 h0 h1
theorem orm99 {a0 a1 : Int} (h0 : a0 ≤ 40) (h1 : a1 = 1) : a0 + a1 ≤ 2147483647 := oz120 h0 h1
theorem orm100 {a0 a1 a2 : Int} (h0 : (0 : Int) ≤ a0) (h1 : a1 = a0 + a2) (h2 : a2 = 1) : (0 : Int) ≤ a1 := oz14 h0 h1 h2
theorem orm101 {a0 a1 a2 a3 a4 : Int} (h0 : a0 ≠ a1) (h1 : a0 ≤ 40) (h2 : a2 = 4 * a0) (h3 : a3 = a0 + a4) (h4 : a1 = 40) (h5 : a4 = 1) : a3 ≤ 40 := oz121 h0 h1 h2 h3 h4 h5
theorem orm102 {a0 : Int}  : a0 ≤ a0 := oz122
theorem orm103 {a0 a1 a2 : Int} (h0 : a0 = 0) (h1 : (((0 : Int) ≤ a0) ∧ (a0 ≤ 3) ∧ ((0 : Int) ≤ a1) ∧ (a1 < a2)) ∨ (((4 : Int) ≤ a0) ∧ (a0 ≤ 6) ∧ (a1 = 0))) : (((0 : Int) ≤ a0) ∧ (a0 ≤ 3) ∧ ((0 : Int) ≤ a1) ∧ (a1 < a2)) ∨ (((4 : Int) ≤ a0) ∧ (a0 ≤ 6) ∧ (a1 = 0)) := ou83 h0 h1
theorem orm104 {a0 : Int} (h0 : a0 = 0) : a0 = 0 := oz236 h0
theorem orm105 {a0 : Int} (h0 : (0 : Int) ≤ a0) (h1 : a0 ≤ 999) : (0 : Int) ≤ a0 ∧ a0 ≤ 999 := ou84 h0 h1
theorem orm106 {a0 a1 a2 : Int} (h0 : a0 ≠ a1) (h1 : a0 = a2) : ¬ (a2 = a1) := ou86 h0 h1
theorem orm107 {a0 a1 a2 a3 : Int} (h0 : a0 ≠ a1) (h1 : a0 = a2) (h2 : a0 ≤ 40) (h3 : a3 = 4 * a0) (h4 : a1 = 40) : ¬ (a2 = 40) := by omega
theorem orm108 {a0 a1 : Int} (h0 : a0 = 4 * a1) : a0 = 4 * a1 := oz123 h0
theorem orm109 {a0 a1 a2 a3 : Int} (h0 : a0 = 4 * a1) (h1 : a2 = a0 + a3) (h2 : a3 = 1) : a2 = 4 * a1 + 1 := oz124 h0 h1 h2
theorem orm110 {a0 a1 a2 a3 : Int} (h0 : a0 = 4 * a1) (h1 : a2 = a0 + a3) (h2 : a3 = 2) : a2 = 4 * a1 + 2 := oz125 h0 h1 h2
theorem orm111 {a0 a1 a2 a3 : Int} (h0 : a0 = 4 * a1) (h1 : a2 = a0 + a3) (h2 : a3 = 3) : a2 = 4 * a1 + 3 := oz126 h0 h1 h2
theorem orm112 {a0 a1 a2 : Int} (h0 : a0 = 0) : a0 = 4 → ((1 : Int) ≤ a1 ∧ a1 ≤ 5) ∧ ((1 : Int) ≤ a2 ∧ a2 ≤ 5) := by omega
theorem orm113 {a0 a1 a2 : Int} (h0 : a0 ≠ a1) (h1 : a0 ≤ 40) (h2 : a2 = 4 * a0) (h3 : a1 = 40) : a0 ≤ 39 := oz128 h0 h1 h2 h3
theorem orm114 {a0 a1 : Int} (h0 : a0 ≤ a1) (h1 : a1 ≤ 156) (h2 : a0 = 156) : a1 = 156 := oz158 h0 h1 h2
theorem orm115 {a0 a1 a2 a3 : Int} (h0 : a0 = a1) (h1 : a2 = a0) (h2 : a1 = 40) (h3 : a3 = 1) : (-2147483648 : Int) ≤ a2 - a3 := oz129 h0 h1 h2 h3
theorem orm116 {a0 a1 : Int} (h0 : a0 ≤ 40) (h1 : a1 = 1) : a0 - a1 ≤ 2147483647 := oz130 h0 h1
theorem orm117 {a0 a1 a2 a3 a4 : Int} (h0 : a0 = a1) (h1 : a2 = a0) (h2 : a3 = a2 - a4) (h3 : a1 = 40) (h4 : a4 = 1) : (0 : Int) ≤ a3 := oz131 h0 h1 h2 h3 h4
theorem orm118 {a0 a1 a2 : Int} (h0 : a0 ≤ 40) (h1 : a1 = a0 - a2) (h2 : a2 = 1) : a1 ≤ 40 := oz132 h0 h1 h2
theorem orm119 {a0 a1 a2 : Int} (h0 : (0 : Int) ≤ a0) (h1 : a1 = a0 - a2) (h2 : a2 = 1) : (-2147483648 : Int) ≤ 4 * a1 := oz133 h0 h1 h2
theorem orm120 {a0 a1 a2 : Int} (h0 : a0 ≤ 40) (h1 : a1 = a0 - a2) (h2 : a2 = 1) : 4 * a1 ≤ 2147483647 := oz134 h0 h1 h2
theorem orm121 {a0 a1 a2 a3 a4 a5 : Int} (h0 : a0 = a1) (h1 : a2 = a0) (h2 : a3 = a2 - a4) (h3 : a5 = 4 * a3) (h4 : a1 = 40) (h5 : a4 = 1) : (0 : Int) ≤ a5 := oz135 h0 h1 h2 h3 h4 h5
theorem orm122 {a0 a1 a2 a3 : Int} (h0 : a0 ≤ 40) (h1 : a1 = a0 - a2) (h2 : a3 = 4 * a1) (h3 : a2 = 1) : a3 < 160 := oz136 h0 h1 h2 h3
theorem orm123 {a0 a1 a2 a3 a4 a5 : Int} (h0 : a0 = a1) (h1 : a2 = a0) (h2 : a3 = a2 - a4) (h3 : a5 = 4 * a3) (h4 : a1 = 40) (h5 : a4 = 1) : (-2147483648 : Int) ≤ a5 + a4 := oz137 h0 h1 h2 h3 h4 h5
theorem orm124 {a0 a1 a2 a3 : Int} (h0 : a0 ≤ 40) (h1 : a1 = a0 - a2) (h2 : a3 = 4 * a1) (h3 : a2 = 1) : a3 + a2 ≤ 2147483647 := oz138 h0 h1 h2 h3
theorem orm125 {a0 a1 a2 a3 a4 a5 a6 : Int} (h0 : a0 = a1) (h1 : a2 = a0) (h2 : a3 = a2 - a4) (h3 : a5 = 4 * a3) (h4 : a6 = a5 + a4) (h5 : a1 = 40) (h6 : a4 = 1) : (0 : Int) ≤ a6 := oz139 h0 h1 h2 h3 h4 h5 h6
theorem orm126 {a0 a1 a2 a3 a4 : Int} (h0 : a0 ≤ 40) (h1 : a1 = a0 - a2) (h2 : a3 = 4 * a1) (h3 : a4 = a3 + a2) (h4 : a2 = 1) : a4 < 160 := oz140 h0 h1 h2 h3 h4
theorem orm127 {a0 a1 a2 a3 a4 a5 a6 a7 : Int} (h0 : a0 = a1) (h1 : a2 = a0) (h2 : a2 ≤ 40) (h3 : a3 = a2 - a4) (h4 : a5 = 4 * a3) (h5 : a6 = a5 + a4) (h6 : a1 = 40) (h7 : a4 = 1) : (a6 % 4) = 0 → (0 : Int) ≤ a7 ∧ a7 ≤ 7 := oz141 h0 h1 h2 h3 h4 h5 h6 h7
theorem orm128 {a0 a1 a2 a3 a4 a5 a6 : Int} (h0 : a0 = a1) (h1 : a2 = a0) (h2 : a3 = a2 - a4) (h3 : a5 = 4 * a3) (h4 : a1 = 40) (h5 : a4 = 1) (h6 : a6 = 2) : (-2147483648 : Int) ≤ a5 + a6 := oz142 h0 h1 h2 h3 h4 h5 h6
theorem orm129 {a0 a1 a2 a3 a4 : Int} (h0 : a0 ≤ 40) (h1 : a1 = a0 - a2) (h2 : a3 = 4 * a1) (h3 : a2 = 1) (h4 : a4 = 2) : a3 + a4 ≤ 2147483647 := oz143 h0 h1 h2 h3 h4
theorem orm130 {a0 a1 a2 a3 a4 a5 a6 a7 : Int} (h0 : a0 = a1) (h1 : a2 = a0) (h2 : a3 = a2 - a4) (h3 : a5 = 4 * a3) (h4 : a6 = a5 + a7) (h5 : a1 = 40) (h6 : a4 = 1) (h7 : a7 = 2) : (0 : Int) ≤ a6 := oz144 h0 h1 h2 h3 h4 h5 h6 h7
theorem orm131 {a0 a1 a2 a3 a4 a5 : Int} (h0 : a0 ≤ 40) (h1 : a1 = a0 - a2) (h2 : a3 = 4 * a1) (h3 : a4 = a3 + a5) (h4 : a2 = 1) (h5 : a5 = 2) : a4 < 160 := oz145 h0 h1 h2 h3 h4 h5
theorem orm132 {a0 a1 a2 a3 a4 a5 a6 a7 a8 : Int} (h0 : a0 = a1) (h1 : a2 = a0) (h2 : a2 ≤ 40) (h3 : a3 = a2 - a4) (h4 : a5 = 4 * a3) (h5 : a6 = a5 + a7) (h6 : a1 = 40) (h7 : a4 = 1) (h8 : a7 = 2) : (a6 % 4) = 0 → (0 : Int) ≤ a8 ∧ a8 ≤ 7 := oz146 h0 h1 h2 h3 h4 h5 h6 h7 h8
theorem orm133 {a0 a1 a2 a3 a4 a5 a6 a7 a8 : Int} (h0 : a0 = a1) (h1 : a2 = a0) (h2 : a2 ≤ 40) (h3 : a3 = a2 - a4) (h4 : a5 = 4 * a3) (h5 : a6 = a5 + a7) (h6 : a1 = 40) (h7 : a4 = 1) (h8 : a7 = 2) : (a6 % 4) = 1 → (0 : Int) ≤ a8 ∧ a8 ≤ 6 := oz147 h0 h1 h2 h3 h4 h5 h6 h7 h8
theorem orm134 {a0 a1 a2 a3 a4 a5 a6 : Int} (h0 : a0 = a1) (h1 : a2 = a0) (h2 : a3 = a2 - a4) (h3 : a5 = 4 * a3) (h4 : a1 = 40) (h5 : a4 = 1) (h6 : a6 = 3) : (-2147483648 : Int) ≤ a5 + a6 := oz148 h0 h1 h2 h3 h4 h5 h6
theorem orm135 {a0 a1 a2 a3 a4 : Int} (h0 : a0 ≤ 40) (h1 : a1 = a0 - a2) (h2 : a3 = 4 * a1) (h3 : a2 = 1) (h4 : a4 = 3) : a3 + a4 ≤ 2147483647 := oz149 h0 h1 h2 h3 h4
theorem orm136 {a0 a1 a2 a3 a4 a5 a6 a7 : Int} (h0 : a0 = a1) (h1 : a2 = a0) (h2 : a3 = a2 - a4) (h3 : a5 = 4 * a3) (h4 : a6 = a5 + a7) (h5 : a1 = 40) (h6 : a4 = 1) (h7 : a7 = 3) : (0 : Int) ≤ a6 := oz150 h0 h1 h2 h3 h4 h5 h6 h7
theorem orm137 {a0 a1 a2 a3 a4 a5 : Int} (h0 : a0 ≤ 40) (h1 : a1 = a0 - a2) (h2 : a3 = 4 * a1) (h3 : a4 = a3 + a5) (h4 : a2 = 1) (h5 : a5 = 3) : a4 < 160 := oz151 h0 h1 h2 h3 h4 h5
theorem orm138 {a0 a1 a2 a3 a4 a5 a6 a7 a8 : Int} (h0 : a0 = a1) (h1 : a2 = a0) (h2 : a2 ≤ 40) (h3 : a3 = a2 - a4) (h4 : a5 = 4 * a3) (h5 : a6 = a5 + a7) (h6 : a1 = 40) (h7 : a4 = 1) (h8 : a7 = 3) : (a6 % 4) = 0 → (0 : Int) ≤ a8 ∧ a8 ≤ 7 := oz152 h0 h1 h2 h3 h4 h5 h6 h7 h8
theorem orm139 {a0 a1 a2 a3 a4 a5 a6 a7 a8 : Int} (h0 : a0 = a1) (h1 : a2 = a0) (h2 : a2 ≤ 40) (h3 : a3 = a2 - a4) (h4 : a5 = 4 * a3) (h5 : a6 = a5 + a7) (h6 : a1 = 40) (h7 : a4 = 1) (h8 : a7 = 3) : (a6 % 4) = 1 → (0 : Int) ≤ a8 ∧ a8 ≤ 6 := oz153 h0 h1 h2 h3 h4 h5 h6 h7 h8
theorem orm140 {a0 a1 a2 : Int} (h0 : (0 : Int) ≤ a0) (h1 : a1 = a0 - a2) (h2 : a2 = 1) : (-2147483648 : Int) ≤ a1 + a2 := oz154 h0 h1 h2
theorem orm141 {a0 a1 a2 a3 : Int} (h0 : a0 ≤ 40) (h1 : a1 = a0 - a2) (h2 : a3 = 4 * a1) (h3 : a2 = 1) : a1 + a2 ≤ 2147483647 := oz155 h0 h1 h2 h3
theorem orm142 {a0 a1 a2 a3 : Int} (h0 : (0 : Int) ≤ a0) (h1 : a1 = a0 - a2) (h2 : a3 = a1 + a2) (h3 : a2 = 1) : (0 : Int) ≤ a3 := oz156 h0 h1 h2 h3
theorem orm143 {a0 a1 a2 a3 a4 : Int} (h0 : a0 ≤ 40) (h1 : a1 = a0 - a2) (h2 : a3 = 4 * a1) (h3 : a4 = a1 + a2) (h4 : a2 = 1) : a4 ≤ 40 := oz157 h0 h1 h2 h3 h4
theorem orm144 {a0 a1 a2 : Int} (h0 : a0 = a1) (h1 : a0 = a2) (h2 : a2 ≤ 40) (h3 : a1 = 40) : a2 = 40 := by omega
theorem orm145 {a0 a1 a2 a3 : Int} (h0 : a0 ≤ 40) (h1 : a1 = a0 - a2) (h2 : a3 = 4 * a1) (h3 : a2 = 1) : a1 ≤ 39 := oz159 h0 h1 h2 h3
theorem orm146 {a0 a1 : Int} (h0 : (0 : Int) ≤ a0) (h1 : a1 = 4) : (-2147483648 : Int) ≤ a0 + a1 := oz160 h0 h1
theorem orm147 {a0 a1 : Int} (h0 : a0 ≤ 156) (h1 : a1 = 4) : a0 + a1 ≤ 2147483647 := oz161 h0 h1
theorem orm148 {a0 a1 a2 : Int} (h0 : (0 : Int) ≤ a0) (h1 : a1 = a0 + a2) (h2 : a2 = 4) : (0 : Int) ≤ a1 := oz162 h0 h1 h2
theorem orm149 {a0 a1 a2 a3 : Int} (h0 : a0 < a1) (h1 : a2 = a0 + a3) (h2 : a1 = 156) (h3 : a3 = 4) : a2 < 160 := oz163 h0 h1 h2 h3
theorem orm150 {a0 : Int} (h0 : a0 ≤ 156) : a0 < 160 := oz164 h0
theorem orm151 {a0 a1 : Int} (h0 : a0 ≤ 156) (h1 : a1 = 1) : a0 + a1 ≤ 2147483647 := oz165 h0 h1
theorem orm152 {a0 a1 a2 a3 : Int} (h0 : a0 < a1) (h1 : (0 : Int) ≤ a0) (h2 : a2 = a0 + a3) (h3 : a1 = 156) (h4 : a3 = 1) : ((0 : Int) ≤ a2) ∧ (a2 ≤ 156) := oz166 h0 h1 h2 h3 h4
theorem orm153 {a0 a1 : Int} (h0 : a0 < a1) (h1 : a1 = 156) : a0 < 156 := oz167 h0 h1
theorem orm154 {a0 a1 a2 : Int} (h0 : a0 = a1 + a2) (h1 : a2 = 4) : a0 = a1 + 4 := oz168 h0 h1
theorem orm155 {a0 a1 a2 : Int} (h0 : a0 = a1 + a2) (h1 : a2 = 1) : a0 = a1 + 1 := oz169 h0 h1
theorem orm156 {a0 a1 a2 : Int} (h0 : a0 = a1 + a2) (h1 : a2 = 1) : (156 - a0) < (156 - a1) := oz170 h0 h1
theorem orm157 {a0 a1 : Int} (h0 : a0 < a1) (h1 : a1 = 156) : (1 : Int) ≤ (156 - a0) := oz171 h0 h1
theorem orm158 {a0 : Int} (h0 : a0 = 0) : ((0 : Int) ≤ a0) ∧ (a0 ≤ 156) := oz172 h0
theorem orm159 {a0 a1 : Int} (h0 : a0 ≤ a1) : a0 ≤ a1 := oz173 h0
theorem orm160 {a0 a1 a2 : Int} (h0 : a0 = a1) (h1 : a0 = a2) : a2 = a1 := ou85 h0 h1
theorem orm161 {a0 : Int} (h0 : ¬ (((0 : Int) ≤ a0) ∧ (a0 ≤ 999))) : ¬ ((0 : Int) ≤ a0 ∧ a0 ≤ 999) := ou87 h0
theorem orm162 {a0 a1 a2 : Int} (h0 : a0 ≤ a1) (h1 : a1 ≤ a2) (h2 : a0 = 0) (h3 : a2 = 9) : ((0 : Int) ≤ a1) ∧ (a1 ≤ 9) := oa27 h0 h1 h2 h3
theorem orm163 {a0 a1 a2 : Int} (h0 : ¬ ((a0 ≤ a1) ∧ (a1 ≤ a2))) (h1 : a0 = 0) (h2 : a2 = 9) : ¬ (((0 : Int) ≤ a1) ∧ (a1 ≤ 9)) := oa28 h0 h1 h2
theorem orm164 {a0 a1 a2 : Int} (h0 : a0 ≤ 8) (h1 : a1 = 1) (h2 : (((0 : Int) ≤ a1) ∧ (a1 ≤ 3) ∧ ((0 : Int) ≤ a2) ∧ (a2 < a0)) ∨ (((4 : Int) ≤ a1) ∧ (a1 ≤ 6) ∧ (a2 = 0))) : ((0 : Int) ≤ a2) ∧ (a2 ≤ 7) := by omega
theorem orm165 {a0 : Int} (h0 : a0 = 1) : ((0 : Int) ≤ a0) ∧ (a0 ≤ 6) := by omega
theorem orm166 {a0 a1 a2 a3 : Int} (h0 : a0 ≤ 8) (h1 : a1 = 1) (h2 : (((0 : Int) ≤ a1) ∧ (a1 ≤ 3) ∧ ((0 : Int) ≤ a2) ∧ (a2 < a0)) ∨ (((4 : Int) ≤ a1) ∧ (a1 ≤ 6) ∧ (a2 = 0))) : (a3 % 4) = 0 → (0 : Int) ≤ a2 ∧ a2 ≤ 7 := by omega
theorem orm167 {a0 a1 : Int} (h0 : a0 = 1) : (a1 % 4) = 0 → (0 : Int) ≤ a0 ∧ a0 ≤ 7 := by omega
theorem orm168 {a0 a1 : Int} (h0 : a0 = 1) : (a1 % 4) = 1 → (0 : Int) ≤ a0 ∧ a0 ≤ 6 := by omega
theorem orm169 {a0 a1 a2 : Int} (h0 : a0 = 1) (h1 : (((0 : Int) ≤ a0) ∧ (a0 ≤ 3) ∧ ((0 : Int) ≤ a1) ∧ (a1 < a2)) ∨ (((4 : Int) ≤ a0) ∧ (a0 ≤ 6) ∧ (a1 = 0))) : (((0 : Int) ≤ a0) ∧ (a0 ≤ 3) ∧ ((0 : Int) ≤ a1) ∧ (a1 < a2)) ∨ (((4 : Int) ≤ a0) ∧ (a0 ≤ 6) ∧ (a1 = 0)) := ou92 h0 h1
theorem orm170 {a0 : Int} (h0 : a0 = 1) : a0 = 1 := oz1381 h0
theorem orm171 {a0 : Int} (h0 : (0 : Int) ≤ a0) (h1 : a0 ≤ 9) : (0 : Int) ≤ a0 ∧ a0 ≤ 9 := ou93 h0 h1
theorem orm172 {a0 a1 a2 : Int} (h0 : a0 = 1) : a0 = 4 → ((1 : Int) ≤ a1 ∧ a1 ≤ 5) ∧ ((1 : Int) ≤ a2 ∧ a2 ≤ 5) := by omega
theorem orm173 {a0 a1 a2 a3 a4 a5 a6 a7 : Int} (h0 : a0 = a1) (h1 : a2 = a0) (h2 : a3 = a4 + a5) (h3 : a6 = a2 - a7) (h4 : a4 = 4 * a6) (h5 : a1 = 40) (h6 : a5 = 2) (h7 : a7 = 1) : (0 : Int) ≤ a3 := by omega
theorem orm174 {a0 a1 a2 a3 a4 a5 : Int} (h0 : a0 ≤ 40) (h1 : a1 = a2 + a3) (h2 : a4 = a0 - a5) (h3 : a2 = 4 * a4) (h4 : a3 = 2) (h5 : a5 = 1) : a1 < 160 := by omega
theorem orm175 {a0 a1 a2 a3 a4 a5 a6 a7 a8 : Int} (h0 : a0 = a1) (h1 : a2 = a0) (h2 : a2 ≤ 40) (h3 : a3 = a4 + a5) (h4 : a6 = a2 - a7) (h5 : a4 = 4 * a6) (h6 : a1 = 40) (h7 : a5 = 2) (h8 : a7 = 1) : (a3 % 4) = 0 → (0 : Int) ≤ a8 ∧ a8 ≤ 7 := by omega
theorem orm176 {a0 a1 a2 a3 a4 a5 a6 a7 a8 : Int} (h0 : a0 = a1) (h1 : a2 = a0) (h2 : a2 ≤ 40) (h3 : a3 = a4 + a5) (h4 : a6 = a2 - a7) (h5 : a4 = 4 * a6) (h6 : a1 = 40) (h7 : a5 = 2) (h8 : a7 = 1) : (a3 % 4) = 1 → (0 : Int) ≤ a8 ∧ a8 ≤ 6 := by omega
theorem orm177 {a0 a1 a2 a3 a4 a5 a6 a7 : Int} (h0 : a0 = a1) (h1 : a2 = a0) (h2 : a3 = a4 + a5) (h3 : a6 = a2 - a7) (h4 : a4 = 4 * a6) (h5 : a1 = 40) (h6 : a5 = 3) (h7 : a7 = 1) : (0 : Int) ≤ a3 := by omega
theorem orm178 {a0 a1 a2 a3 a4 a5 : Int} (h0 : a0 ≤ 40) (h1 : a1 = a2 + a3) (h2 : a4 = a0 - a5) (h3 : a2 = 4 * a4) (h4 : a3 = 3) (h5 : a5 = 1) : a1 < 160 := by omega
theorem orm179 {a0 a1 a2 a3 a4 a5 a6 a7 a8 : Int} (h0 : a0 = a1) (h1 : a2 = a0) (h2 : a2 ≤ 40) (h3 : a3 = a4 + a5) (h4 : a6 = a2 - a7) (h5 : a4 = 4 * a6) (h6 : a1 = 40) (h7 : a5 = 3) (h8 : a7 = 1) : (a3 % 4) = 0 → (0 : Int) ≤ a8 ∧ a8 ≤ 7 := by omega
theorem orm180 {a0 a1 a2 a3 a4 a5 a6 a7 a8 : Int} (h0 : a0 = a1) (h1 : a2 = a0) (h2 : a2 ≤ 40) (h3 : a3 = a4 + a5) (h4 : a6 = a2 - a7) (h5 : a4 = 4 * a6) (h6 : a1 = 40) (h7 : a5 = 3) (h8 : a7 = 1) : (a3 % 4) = 1 → (0 : Int) ≤ a8 ∧ a8 ≤ 6 := by omega
theorem orm181 {a0 a1 a2 a3 : Int} (h0 : (0 : Int) ≤ a0) (h1 : a1 = a2 + a3) (h2 : a2 = a0 - a3) (h3 : a3 = 1) : (0 : Int) ≤ a1 := by omega
theorem orm182 {a0 a1 a2 a3 a4 : Int} (h0 : a0 ≤ 40) (h1 : a1 = a2 + a3) (h2 : a2 = a0 - a3) (h3 : a4 = 4 * a2) (h4 : a3 = 1) : a1 ≤ 40 := by omega
theorem orm183 {a0 a1 a2 a3 : Int} (h0 : a0 = a1 + a2) (h1 : a1 = 4 * a3) (h2 : a2 = 2) : a0 = 4 * a3 + 2 := by omega
theorem orm184 {a0 a1 a2 a3 : Int} (h0 : a0 = a1 + a2) (h1 : a1 = 4 * a3) (h2 : a2 = 3) : a0 = 4 * a3 + 3 := by omega
theorem orm185 {a0 : Int} (h0 : ¬ (((0 : Int) ≤ a0) ∧ (a0 ≤ 9))) : ¬ ((0 : Int) ≤ a0 ∧ a0 ≤ 9) := ou94 h0
theorem orm186 {a0 a1 a2 : Int} (h0 : a0 ≤ 8) (h1 : a1 = 2) (h2 : (((0 : Int) ≤ a1) ∧ (a1 ≤ 3) ∧ ((0 : Int) ≤ a2) ∧ (a2 < a0)) ∨ (((4 : Int) ≤ a1) ∧ (a1 ≤ 6) ∧ (a2 = 0))) : ((0 : Int) ≤ a2) ∧ (a2 ≤ 7) := by omega
theorem orm187 {a0 : Int} (h0 : a0 = 2) : ((0 : Int) ≤ a0) ∧ (a0 ≤ 6) := by omega
theorem orm188 {a0 a1 a2 a3 : Int} (h0 : a0 ≤ 8) (h1 : a1 = 2) (h2 : (((0 : Int) ≤ a1) ∧ (a1 ≤ 3) ∧ ((0 : Int) ≤ a2) ∧ (a2 < a0)) ∨ (((4 : Int) ≤ a1) ∧ (a1 ≤ 6) ∧ (a2 = 0))) : (a3 % 4) = 0 → (0 : Int) ≤ a2 ∧ a2 ≤ 7 := by omega
theorem orm189 {a0 a1 : Int} (h0 : a0 = 2) : (a1 % 4) = 0 → (0 : Int) ≤ a0 ∧ a0 ≤ 7 := by omega
theorem orm190 {a0 a1 : Int} (h0 : a0 = 2) : (a1 % 4) = 1 → (0 : Int) ≤ a0 ∧ a0 ≤ 6 := by omega
theorem orm191 {a0 a1 a2 : Int} (h0 : a0 = 2) (h1 : (((0 : Int) ≤ a0) ∧ (a0 ≤ 3) ∧ ((0 : Int) ≤ a1) ∧ (a1 < a2)) ∨ (((4 : Int) ≤ a0) ∧ (a0 ≤ 6) ∧ (a1 = 0))) : (((0 : Int) ≤ a0) ∧ (a0 ≤ 3) ∧ ((0 : Int) ≤ a1) ∧ (a1 < a2)) ∨ (((4 : Int) ≤ a0) ∧ (a0 ≤ 6) ∧ (a1 = 0)) := ou98 h0 h1
theorem orm192 {a0 : Int} (h0 : a0 = 2) : a0 = 2 := oz1411 h0
theorem orm193 {a0 a1 a2 : Int} (h0 : a0 = 2) : a0 = 4 → ((1 : Int) ≤ a1 ∧ a1 ≤ 5) ∧ ((1 : Int) ≤ a2 ∧ a2 ≤ 5) := by omega
theorem orm194 {a0 a1 a2 : Int} (h0 : a0 ≤ a1) (h1 : a1 ≤ a2) (h2 : a0 = 0) (h3 : a2 = 1) : ((0 : Int) ≤ a1) ∧ (a1 ≤ 1) := ou101 h0 h1 h2 h3
theorem orm195 {a0 a1 a2 : Int} (h0 : ¬ ((a0 ≤ a1) ∧ (a1 ≤ a2))) (h1 : a0 = 0) (h2 : a2 = 1) : ¬ (((0 : Int) ≤ a1) ∧ (a1 ≤ 1)) := ou102 h0 h1 h2
theorem orm196 {a0 a1 a2 : Int} (h0 : a0 ≤ 8) (h1 : a1 = 3) (h2 : (((0 : Int) ≤ a1) ∧ (a1 ≤ 3) ∧ ((0 : Int) ≤ a2) ∧ (a2 < a0)) ∨ (((4 : Int) ≤ a1) ∧ (a1 ≤ 6) ∧ (a2 = 0))) : ((0 : Int) ≤ a2) ∧ (a2 ≤ 7) := by omega
theorem orm197 {a0 : Int} (h0 : a0 = 3) : ((0 : Int) ≤ a0) ∧ (a0 ≤ 6) := by omega
theorem orm198 {a0 a1 a2 a3 : Int} (h0 : a0 ≤ 8) (h1 : a1 = 3) (h2 : (((0 : Int) ≤ a1) ∧ (a1 ≤ 3) ∧ ((0 : Int) ≤ a2) ∧ (a2 < a0)) ∨ (((4 : Int) ≤ a1) ∧ (a1 ≤ 6) ∧ (a2 = 0))) : (a3 % 4) = 0 → (0 : Int) ≤ a2 ∧ a2 ≤ 7 := by omega
theorem orm199 {a0 a1 : Int} (h0 : a0 = 3) : (a1 % 4) = 0 → (0 : Int) ≤ a0 ∧ a0 ≤ 7 := by omega
theorem orm200 {a0 a1 : Int} (h0 : a0 = 3) : (a1 % 4) = 1 → (0 : Int) ≤ a0 ∧ a0 ≤ 6 := by omega
theorem orm201 {a0 a1 : Int} (h0 : (0 : Int) ≤ a0) (h1 : a0 ≤ 1) : (a1 % 4) = 0 → (0 : Int) ≤ a0 ∧ a0 ≤ 7 := by omega
theorem orm202 {a0 a1 : Int} (h0 : (0 : Int) ≤ a0) (h1 : a0 ≤ 1) : (a1 % 4) = 1 → (0 : Int) ≤ a0 ∧ a0 ≤ 6 := by omega
theorem orm203 {a0 a1 a2 : Int} (h0 : a0 = 3) (h1 : (((0 : Int) ≤ a0) ∧ (a0 ≤ 3) ∧ ((0 : Int) ≤ a1) ∧ (a1 < a2)) ∨ (((4 : Int) ≤ a0) ∧ (a0 ≤ 6) ∧ (a1 = 0))) : (((0 : Int) ≤ a0) ∧ (a0 ≤ 3) ∧ ((0 : Int) ≤ a1) ∧ (a1 < a2)) ∨ (((4 : Int) ≤ a0) ∧ (a0 ≤ 6) ∧ (a1 = 0)) := ou104 h0 h1
theorem orm204 {a0 : Int} (h0 : a0 = 3) : a0 = 3 := oz1421 h0
theorem orm205 {a0 : Int} (h0 : (0 : Int) ≤ a0) (h1 : a0 ≤ 1) : (0 : Int) ≤ a0 ∧ a0 ≤ 1 := ou106 h0 h1
theorem orm206 {a0 a1 a2 : Int} (h0 : a0 = 3) : a0 = 4 → ((1 : Int) ≤ a1 ∧ a1 ≤ 5) ∧ ((1 : Int) ≤ a2 ∧ a2 ≤ 5) := by omega
theorem orm207 {a0 : Int} (h0 : ¬ (((0 : Int) ≤ a0) ∧ (a0 ≤ 1))) : ¬ ((0 : Int) ≤ a0 ∧ a0 ≤ 1) := ou107 h0
theorem orm208 {a0 a1 a2 : Int} (h0 : a0 ≤ a1) (h1 : a1 ≤ a2) (h2 : a0 = 1) (h3 : a2 = 5) : ((1 : Int) ≤ a1) ∧ (a1 ≤ 5) := oz1227 h0 h1 h2 h3
theorem orm209 {a0 a1 a2 : Int} (h0 : ¬ ((a0 ≤ a1) ∧ (a1 ≤ a2))) (h1 : a0 = 1) (h2 : a2 = 5) : ¬ (((1 : Int) ≤ a1) ∧ (a1 ≤ 5)) := ou111 h0 h1 h2
theorem orm210 {a0 a1 a2 : Int} (h0 : a0 = 4) (h1 : (((0 : Int) ≤ a0) ∧ (a0 ≤ 3) ∧ ((0 : Int) ≤ a1) ∧ (a1 < a2)) ∨ (((4 : Int) ≤ a0) ∧ (a0 ≤ 6) ∧ (a1 = 0))) : ((0 : Int) ≤ a1) ∧ (a1 ≤ 7) := by omega
theorem orm211 {a0 : Int} (h0 : a0 = 4) : ((0 : Int) ≤ a0) ∧ (a0 ≤ 6) := by omega
theorem orm212 {a0 a1 a2 a3 : Int} (h0 : a0 = 4) (h1 : (((0 : Int) ≤ a0) ∧ (a0 ≤ 3) ∧ ((0 : Int) ≤ a1) ∧ (a1 < a2)) ∨ (((4 : Int) ≤ a0) ∧ (a0 ≤ 6) ∧ (a1 = 0))) : (a3 % 4) = 0 → (0 : Int) ≤ a1 ∧ a1 ≤ 7 := by omega
theorem orm213 {a0 a1 a2 a3 : Int} (h0 : a0 = 4) (h1 : (((0 : Int) ≤ a0) ∧ (a0 ≤ 3) ∧ ((0 : Int) ≤ a1) ∧ (a1 < a2)) ∨ (((4 : Int) ≤ a0) ∧ (a0 ≤ 6) ∧ (a1 = 0))) : (a3 % 4) = 1 → (0 : Int) ≤ a1 ∧ a1 ≤ 6 := by omega
theorem orm214 {a0 a1 : Int} (h0 : a0 = 4) : (a1 % 4) = 0 → (0 : Int) ≤ a0 ∧ a0 ≤ 7 := by omega
theorem orm215 {a0 a1 : Int} (h0 : a0 = 4) : (a1 % 4) = 1 → (0 : Int) ≤ a0 ∧ a0 ≤ 6 := by omega
theorem orm216 {a0 a1 a2 : Int} (h0 : a0 = 4) (h1 : ((a0 = 4) → (((1 : Int) ≤ a1) ∧ (a1 ≤ 5)))) : (a2 % 4) = 0 → (0 : Int) ≤ a1 ∧ a1 ≤ 7 := by omega
theorem orm217 {a0 a1 a2 : Int} (h0 : a0 = 4) (h1 : ((a0 = 4) → (((1 : Int) ≤ a1) ∧ (a1 ≤ 5)))) : (a2 % 4) = 1 → (0 : Int) ≤ a1 ∧ a1 ≤ 6 := by omega
theorem orm218 {a0 a1 : Int} (h0 : (1 : Int) ≤ a0) (h1 : a0 ≤ 5) : (a1 % 4) = 0 → (0 : Int) ≤ a0 ∧ a0 ≤ 7 := by omega
theorem orm219 {a0 a1 : Int} (h0 : (1 : Int) ≤ a0) (h1 : a0 ≤ 5) : (a1 % 4) = 1 → (0 : Int) ≤ a0 ∧ a0 ≤ 6 := by omega
theorem orm220 {a0 a1 a2 : Int} (h0 : a0 = 4) (h1 : (((0 : Int) ≤ a0) ∧ (a0 ≤ 3) ∧ ((0 : Int) ≤ a1) ∧ (a1 < a2)) ∨ (((4 : Int) ≤ a0) ∧ (a0 ≤ 6) ∧ (a1 = 0))) : (((0 : Int) ≤ a0) ∧ (a0 ≤ 3) ∧ ((0 : Int) ≤ a1) ∧ (a1 < a2)) ∨ (((4 : Int) ≤ a0) ∧ (a0 ≤ 6) ∧ (a1 = 0)) := ou113 h0 h1
theorem orm221 {a0 : Int} (h0 : (1 : Int) ≤ a0) (h1 : a0 ≤ 5) : (1 : Int) ≤ a0 ∧ a0 ≤ 5 := ou114 h0 h1
theorem orm222 {a0 a1 a2 : Int} (h0 : a0 = 4) (h1 : (1 : Int) ≤ a1) (h2 : a1 ≤ 5) (h3 : ((a0 = 4) → (((1 : Int) ≤ a2) ∧ (a2 ≤ 5)))) : a0 = 4 → ((1 : Int) ≤ a2 ∧ a2 ≤ 5) ∧ ((1 : Int) ≤ a1 ∧ a1 ≤ 5) := by omega
theorem orm223 {a0 : Int} (h0 : ¬ (((1 : Int) ≤ a0) ∧ (a0 ≤ 5))) : ¬ ((1 : Int) ≤ a0 ∧ a0 ≤ 5) := ou115 h0
theorem orm224 {a0 a1 a2 : Int} (h0 : a0 = 5) (h1 : (((0 : Int) ≤ a0) ∧ (a0 ≤ 3) ∧ ((0 : Int) ≤ a1) ∧ (a1 < a2)) ∨ (((4 : Int) ≤ a0) ∧ (a0 ≤ 6) ∧ (a1 = 0))) : ((0 : Int) ≤ a1) ∧ (a1 ≤ 7) := by omega
theorem orm225 {a0 : Int} (h0 : a0 = 5) : ((0 : Int) ≤ a0) ∧ (a0 ≤ 6) := by omega
theorem orm226 {a0 a1 a2 a3 : Int} (h0 : a0 = 5) (h1 : (((0 : Int) ≤ a0) ∧ (a0 ≤ 3) ∧ ((0 : Int) ≤ a1) ∧ (a1 < a2)) ∨ (((4 : Int) ≤ a0) ∧ (a0 ≤ 6) ∧ (a1 = 0))) : (a3 % 4) = 0 → (0 : Int) ≤ a1 ∧ a1 ≤ 7 := by omega
theorem orm227 {a0 a1 a2 a3 : Int} (h0 : a0 = 5) (h1 : (((0 : Int) ≤ a0) ∧ (a0 ≤ 3) ∧ ((0 : Int) ≤ a1) ∧ (a1 < a2)) ∨ (((4 : Int) ≤ a0) ∧ (a0 ≤ 6) ∧ (a1 = 0))) : (a3 % 4) = 1 → (0 : Int) ≤ a1 ∧ a1 ≤ 6 := by omega
theorem orm228 {a0 a1 : Int} (h0 : a0 = 5) : (a1 % 4) = 0 → (0 : Int) ≤ a0 ∧ a0 ≤ 7 := by omega
theorem orm229 {a0 a1 : Int} (h0 : a0 = 5) : (a1 % 4) = 1 → (0 : Int) ≤ a0 ∧ a0 ≤ 6 := by omega
theorem orm230 {a0 a1 a2 : Int} (h0 : a0 = 5) (h1 : (((0 : Int) ≤ a0) ∧ (a0 ≤ 3) ∧ ((0 : Int) ≤ a1) ∧ (a1 < a2)) ∨ (((4 : Int) ≤ a0) ∧ (a0 ≤ 6) ∧ (a1 = 0))) : (((0 : Int) ≤ a0) ∧ (a0 ≤ 3) ∧ ((0 : Int) ≤ a1) ∧ (a1 < a2)) ∨ (((4 : Int) ≤ a0) ∧ (a0 ≤ 6) ∧ (a1 = 0)) := ou119 h0 h1
theorem orm231 {a0 a1 a2 : Int} (h0 : a0 = 5) : a0 = 4 → ((1 : Int) ≤ a1 ∧ a1 ≤ 5) ∧ ((1 : Int) ≤ a2 ∧ a2 ≤ 5) := by omega
theorem orm232 {a0 a1 a2 : Int} (h0 : a0 ≤ a1) (h1 : a1 ≤ a2) (h2 : a0 = 0) (h3 : a2 = 99) : ((0 : Int) ≤ a1) ∧ (a1 ≤ 99) := ou122 h0 h1 h2 h3
theorem orm233 {a0 a1 a2 : Int} (h0 : ¬ ((a0 ≤ a1) ∧ (a1 ≤ a2))) (h1 : a0 = 0) (h2 : a2 = 99) : ¬ (((0 : Int) ≤ a1) ∧ (a1 ≤ 99)) := ou123 h0 h1 h2
theorem orm234 {a0 a1 a2 : Int} (h0 : a0 = 6) (h1 : (((0 : Int) ≤ a0) ∧ (a0 ≤ 3) ∧ ((0 : Int) ≤ a1) ∧ (a1 < a2)) ∨ (((4 : Int) ≤ a0) ∧ (a0 ≤ 6) ∧ (a1 = 0))) : ((0 : Int) ≤ a1) ∧ (a1 ≤ 7) := by omega
theorem orm235 {a0 : Int} (h0 : a0 = 6) : ((0 : Int) ≤ a0) ∧ (a0 ≤ 6) := by omega
theorem orm236 {a0 a1 a2 a3 : Int} (h0 : a0 = 6) (h1 : (((0 : Int) ≤ a0) ∧ (a0 ≤ 3) ∧ ((0 : Int) ≤ a1) ∧ (a1 < a2)) ∨ (((4 : Int) ≤ a0) ∧ (a0 ≤ 6) ∧ (a1 = 0))) : (a3 % 4) = 0 → (0 : Int) ≤ a1 ∧ a1 ≤ 7 := by omega
theorem orm237 {a0 a1 a2 a3 : Int} (h0 : a0 = 6) (h1 : (((0 : Int) ≤ a0) ∧ (a0 ≤ 3) ∧ ((0 : Int) ≤ a1) ∧ (a1 < a2)) ∨ (((4 : Int) ≤ a0) ∧ (a0 ≤ 6) ∧ (a1 = 0))) : (a3 % 4) = 1 → (0 : Int) ≤ a1 ∧ a1 ≤ 6 := by omega
theorem orm238 {a0 a1 : Int} (h0 : a0 = 6) : (a1 % 4) = 0 → (0 : Int) ≤ a0 ∧ a0 ≤ 7 := by omega
theorem orm239 {a0 a1 : Int} (h0 : a0 = 6) : (a1 % 4) = 1 → (0 : Int) ≤ a0 ∧ a0 ≤ 6 := by omega
theorem orm240 {a0 a1 a2 : Int} (h0 : a0 = 6) (h1 : (((0 : Int) ≤ a0) ∧ (a0 ≤ 3) ∧ ((0 : Int) ≤ a1) ∧ (a1 < a2)) ∨ (((4 : Int) ≤ a0) ∧ (a0 ≤ 6) ∧ (a1 = 0))) : (((0 : Int) ≤ a0) ∧ (a0 ≤ 3) ∧ ((0 : Int) ≤ a1) ∧ (a1 < a2)) ∨ (((4 : Int) ≤ a0) ∧ (a0 ≤ 6) ∧ (a1 = 0)) := ou125 h0 h1
theorem orm241 {a0 : Int} (h0 : a0 = 6) : a0 = 6 := oz1484 h0
theorem orm242 {a0 : Int} (h0 : (0 : Int) ≤ a0) (h1 : a0 ≤ 99) : (0 : Int) ≤ a0 ∧ a0 ≤ 99 := ou126 h0 h1
theorem orm243 {a0 a1 a2 : Int} (h0 : a0 = 6) : a0 = 4 → ((1 : Int) ≤ a1 ∧ a1 ≤ 5) ∧ ((1 : Int) ≤ a2 ∧ a2 ≤ 5) := by omega
theorem orm244 {a0 : Int} (h0 : ¬ (((0 : Int) ≤ a0) ∧ (a0 ≤ 99))) : ¬ ((0 : Int) ≤ a0 ∧ a0 ≤ 99) := ou127 h0
theorem orm245 {a0 a1 a2 : Int} (h0 : ¬ (a0 = 2)) (h1 : ¬ (a0 = 3)) (h2 : ¬ (a0 = 4)) (h3 : ¬ (a0 = 5)) (h4 : ¬ (a0 = 0)) (h5 : ¬ (a0 = 6)) (h6 : ¬ (a0 = 1)) (h7 : (((0 : Int) ≤ a0) ∧ (a0 ≤ 3) ∧ ((0 : Int) ≤ a1) ∧ (a1 < a2)) ∨ (((4 : Int) ≤ a0) ∧ (a0 ≤ 6) ∧ (a1 = 0))) : False := by omega
theorem orm246 {a0 a1 a2 a3 : Int} (h0 : a0 ≠ a1) (h1 : (0 : Int) ≤ a0) (h2 : a2 = a0 - a3) (h3 : a1 = 0) (h4 : a3 = 1) : (0 : Int) ≤ a2 := oz174 h0 h1 h2 h3 h4
theorem orm247 {a0 a1 a2 a3 a4 : Int} (h0 : a0 ≠ a1) (h1 : (0 : Int) ≤ a0) (h2 : a2 = a0 - a3) (h3 : a4 = 4 * a2) (h4 : a1 = 0) (h5 : a3 = 1) : (0 : Int) ≤ a4 := oz175 h0 h1 h2 h3 h4 h5
theorem orm248 {a0 a1 a2 a3 a4 : Int} (h0 : a0 ≠ a1) (h1 : (0 : Int) ≤ a0) (h2 : a2 = a0 - a3) (h3 : a4 = 4 * a2) (h4 : a1 = 0) (h5 : a3 = 1) : (-2147483648 : Int) ≤ a4 + a3 := oz176 h0 h1 h2 h3 h4 h5
theorem orm249 {a0 a1 a2 a3 a4 a5 : Int} (h0 : a0 ≠ a1) (h1 : (0 : Int) ≤ a0) (h2 : a2 = a0 - a3) (h3 : a4 = 4 * a2) (h4 : a5 = a4 + a3) (h5 : a1 = 0) (h6 : a3 = 1) : (0 : Int) ≤ a5 := oz177 h0 h1 h2 h3 h4 h5 h6
theorem orm250 {a0 a1 a2 a3 a4 a5 : Int} (h0 : a0 ≠ a1) (h1 : (0 : Int) ≤ a0) (h2 : a2 = a0 - a3) (h3 : a4 = 4 * a2) (h4 : a1 = 0) (h5 : a3 = 1) (h6 : a5 = 2) : (-2147483648 : Int) ≤ a4 + a5 := oz178 h0 h1 h2 h3 h4 h5 h6
theorem orm251 {a0 a1 a2 a3 a4 a5 a6 : Int} (h0 : a0 ≠ a1) (h1 : (0 : Int) ≤ a0) (h2 : a2 = a0 - a3) (h3 : a4 = 4 * a2) (h4 : a5 = a4 + a6) (h5 : a1 = 0) (h6 : a3 = 1) (h7 : a6 = 2) : (0 : Int) ≤ a5 := oz179 h0 h1 h2 h3 h4 h5 h6 h7
theorem orm252 {a0 a1 a2 a3 a4 : Int} (h0 : a0 ≠ a1) (h1 : (0 : Int) ≤ a0) (h2 : a2 = a0 - a3) (h3 : a4 = 4 * a2) (h4 : a1 = 0) (h5 : a3 = 1) : (0 : Int) ≤ a2 := oz180 h0 h1 h2 h3 h4 h5
theorem orm253 {a0 : Int} (h0 : (0 : Int) ≤ a0) (h1 : a0 ≤ 7) : ((0 : Int) ≤ a0) ∧ (a0 ≤ 7) := oz181 h0 h1
theorem orm254 {a0 : Int} (h0 : (0 : Int) ≤ a0) (h1 : a0 ≤ 6) : ((0 : Int) ≤ a0) ∧ (a0 ≤ 6) := oz182 h0 h1
theorem orm255 {a0 a1 : Int} (h0 : (a0 = 4 → (1 : Int) ≤ a1 ∧ a1 ≤ 5)) : ((a0 = 4) → (((1 : Int) ≤ a1) ∧ (a1 ≤ 5))) := oz183 h0
theorem orm256 {a0 a1 a2 a3 a4 a5 : Int} (h0 : a0 = a1) (h1 : a2 = a3) (h2 : a4 ≤ a1) (h3 : a3 = a4 - a5) (h4 : a5 = 1) : a2 ≤ a0 := oz184 h0 h1 h2 h3 h4
theorem orm257 {a0 a1 a2 a3 a4 : Int} (h0 : a0 ≠ a1) (h1 : (0 : Int) ≤ a0) (h2 : a2 = a0 - a3) (h3 : a4 = 4 * a2) (h4 : a1 = 0) (h5 : a3 = 1) : ¬ (a0 = 0) := by omega
theorem orm258 {a0 a1 : Int} (h0 : a0 = a1) (h1 : (0 : Int) ≤ a0) (h2 : a1 = 0) : a0 = 0 := od48 h0 h1 h2
theorem orm259 {a0 a1 a2 : Int} (h0 : a0 ≠ a1) (h1 : a1 ≤ 40) (h2 : a0 ≤ a1) (h3 : a2 = 4 * a0) : a2 < 160 := oz185 h0 h1 h2 h3
theorem orm260 {a0 a1 a2 a3 a4 : Int} (h0 : a0 ≠ a1) (h1 : a1 ≤ 40) (h2 : a0 ≤ a1) (h3 : a2 = 4 * a0) (h4 : a3 = a2 + a4) (h5 : a4 = 1) : a3 < 160 := oz186 h0 h1 h2 h3 h4 h5
theorem orm261 {a0 a1 a2 a3 a4 : Int} (h0 : a0 ≠ a1) (h1 : a1 ≤ 40) (h2 : a0 ≤ a1) (h3 : a2 = 4 * a0) (h4 : a3 = a2 + a4) (h5 : a4 = 3) : a3 < 160 := oz187 h0 h1 h2 h3 h4 h5
theorem orm262 {a0 a1 a2 a3 a4 a5 : Int} (h0 : a0 ≠ a1) (h1 : a2 = a0) (h2 : a1 ≤ 40) (h3 : a0 ≤ a1) (h4 : a3 = a2 + a4) (h5 : a5 = 4 * a0) (h6 : a4 = 1) : a3 ≤ 40 := oz188 h0 h1 h2 h3 h4 h5 h6
theorem orm263 {a0 a1 a2 a3 : Int} (h0 : (0 : Int) ≤ a0) (h1 : a1 ≤ 40) (h2 : a2 = a1 + a3) (h3 : a3 = 1) : (-2147483648 : Int) ≤ a0 - a2 := oz189 h0 h1 h2 h3
theorem orm264 {a0 a1 a2 a3 : Int} (h0 : a0 ≤ 40) (h1 : (0 : Int) ≤ a1) (h2 : a2 = a1 + a3) (h3 : a3 = 1) : a0 - a2 ≤ 2147483647 := oz190 h0 h1 h2 h3
theorem orm265 {a0 a1 a2 a3 a4 a5 : Int} (h0 : a0 ≠ a1) (h1 : a2 = a1) (h2 : a3 = a0) (h3 : a0 ≤ a1) (h4 : a4 = a3 + a5) (h5 : a5 = 1) : a4 ≤ a2 := oz191 h0 h1 h2 h3 h4 h5
theorem orm266 {a0 a1 : Int} (h0 : a0 ≠ a1) (h1 : a0 ≤ a1) : ¬ (a0 = a1) := by omega
theorem orm267 {a0 a1 : Int} (h0 : a0 = a1) (h1 : a0 ≤ a1) : a0 = a1 := by omega
theorem orm268 {a0 : Int} (h0 : a0 = 1) : (0 : Int) ≤ a0 := oz246 h0
theorem orm269 {a0 : Int} (h0 : a0 = 1) : a0 ≤ 1 := oz558 h0
theorem orm270 {a0 : Int} (h0 : a0 ≤ 8) : a0 ≤ 8 := oz559 h0
theorem orm271 {a0 a1 : Int} (h0 : a0 ≤ a1) (h1 : a0 = 31) : 31 ≤ a1 := of0 h0 h1
theorem orm272 {a0 a1 : Int} (h0 : a0 = 0) (h1 : (0 : Int) ≤ a1) : (-2147483648 : Int) ≤ a0 + a1 := oz226 h0 h1
theorem orm273 {a0 a1 a2 : Int} (h0 : a0 < a1) (h1 : a2 = 0) (h2 : a1 = 31) : a2 + a0 ≤ 2147483647 := oz227 h0 h1 h2
theorem orm274 {a0 a1 : Int} (h0 : a0 < a1) (h1 : a1 = 31) : a0 < 31 := oz228 h0 h1
theorem orm275 {a0 a1 a2 : Int} (h0 : a0 = 0) (h1 : (0 : Int) ≤ a1) (h2 : a2 = a0 + a1) : (0 : Int) ≤ a2 := oz229 h0 h1 h2
theorem orm276 {a0 a1 a2 a3 : Int} (h0 : a0 < a1) (h1 : a2 = 0) (h2 : a3 = a2 + a0) (h3 : a1 = 31) : a3 < 31 := oz230 h0 h1 h2 h3
theorem orm277 {a0 a1 a2 a3 : Int} (h0 : a0 = 0) (h1 : (a1 = 18 → (0 : Int) ≤ a2 ∧ a2 ≤ 5)) (h2 : a3 = a0 + a1) : a3 = 18 → (0 : Int) ≤ a2 ∧ a2 ≤ 5 := oz231 h0 h1 h2
theorem orm278 {a0 a1 a2 a3 : Int} (h0 : a0 = 0) (h1 : (19 ≤ a1 → a1 ≤ 24 → (0 : Int) ≤ a2 ∧ a2 ≤ 7)) (h2 : a3 = a0 + a1) : 19 ≤ a3 → a3 ≤ 24 → (0 : Int) ≤ a2 ∧ a2 ≤ 7 := oz232 h0 h1 h2
theorem orm279 {a0 a1 a2 : Int} (h0 : a0 < a1) (h1 : a1 = 31) (h2 : a2 = 1) : a0 + a2 ≤ 2147483647 := oz233 h0 h1 h2
theorem orm280 {a0 a1 a2 : Int} (h0 : a0 = 0) (h1 : a1 = a0 + a2) : a1 = ((0 : Nat) : Int) + a2 := of12 h0 h1
theorem orm281 {a0 : Int}  : a0 = a0 := oz34
theorem orm282 {a0 a1 a2 : Int} (h0 : a0 = a1 + a2) (h1 : a2 = 1) : (31 - a0) < (31 - a1) := oz234 h0 h1
theorem orm283 {a0 a1 : Int} (h0 : a0 < a1) (h1 : a1 = 31) : (1 : Int) ≤ (31 - a0) := oz235 h0 h1
theorem orm284 {a0 : Int} (h0 : a0 = 0) : (0 : Int) ≤ a0 := oz46 h0
theorem orm285 {a0 a1 : Int} (h0 : a0 ≤ a1) (h1 : a0 = 5) : ((5 : Nat) : Int) ≤ a1 := by omega
theorem orm286 {a0 : Int} (h0 : a0 = 0) : a0 < 5 := oz547 h0
theorem orm287 {a0 a1 : Int} (h0 : a0 < a1) (h1 : a1 = 5) : a0 < 5 := oz560 h0 h1
theorem orm288 {a0 a1 a2 : Int} (h0 : a0 < a1) (h1 : a1 = 5) (h2 : a2 = 1) : a0 + a2 ≤ 2147483647 := oz561 h0 h1 h2
theorem orm289 {a0 a1 : Int} (h0 : a0 < a1) (h1 : a1 = 5) : a0 < ((5 : Nat) : Int) := by omega
theorem orm290 {a0 a1 a2 : Int} (h0 : a0 = a1 + a2) (h1 : a2 = 1) : (5 - a0) < (5 - a1) := oz372 h0 h1
theorem orm291 {a0 a1 : Int} (h0 : a0 < a1) (h1 : a1 = 5) : (1 : Int) ≤ (5 - a0) := oz562 h0 h1
theorem orm292 {a0 a1 : Int} (h0 : a0 ≠ a1) (h1 : (0 : Int) ≤ a0) (h2 : a1 = 0) : ¬ (a0 = 0) := od60 h0 h1 h2
theorem orm293 {a0 a1 : Int} (h0 : (0 : Int) ≤ a0) (h1 : a1 = 10) : (-2147483648 : Int) ≤ a1 + a0 := oz251 h0 h1
theorem orm294 {a0 a1 : Int} (h0 : a0 ≤ 8) (h1 : a1 = 10) : a1 + a0 ≤ 2147483647 := oz563 h0 h1
theorem orm295 {a0 a1 a2 a3 a4 : Int} (h0 : a0 < a1) (h1 : a2 ≤ 8) (h2 : a1 = a3 + a2) (h3 : a3 = 10) : a0 = 18 → (0 : Int) ≤ a4 ∧ a4 ≤ 5 := oz564 h0 h1 h2 h3
theorem orm296 {a0 a1 a2 a3 a4 : Int} (h0 : a0 < a1) (h1 : a2 ≤ 8) (h2 : a1 = a3 + a2) (h3 : a3 = 10) : 19 ≤ a0 → a0 ≤ 24 → (0 : Int) ≤ a4 ∧ a4 ≤ 7 := oz565 h0 h1 h2 h3
theorem orm297 {a0 a1 a2 a3 a4 a5 : Int} (h0 : a0 ≤ a1) (h1 : a1 < a2) (h2 : a3 = a4) (h3 : a2 = a5 + a3) (h4 : a0 = 8) (h5 : a5 = 10) : ¬ ((a1 < 8 ∧ a4 ≤ a1) ∨ (10 + a4 ≤ a1 ∧ a1 < 18)) := by omega
theorem orm298 {a0 a1 : Int} (h0 : a0 ≤ a1) (h1 : a0 = 18) : (0 : Int) ≤ a1 := oz566 h0 h1
theorem orm299 {a0 a1 a2 : Int} (h0 : a0 ≤ a1) (h1 : (a1 = 18 → (0 : Int) ≤ a2 ∧ a2 ≤ 5)) (h2 : a0 = 18) : a1 = 18 → (0 : Int) ≤ a2 ∧ a2 ≤ 5 := oz567 h0 h1 h2
theorem orm300 {a0 a1 : Int} (h0 : (19 ≤ a0 → a0 ≤ 24 → (0 : Int) ≤ a1 ∧ a1 ≤ 7)) : 19 ≤ a0 → a0 ≤ 24 → (0 : Int) ≤ a1 ∧ a1 ≤ 7 := oz568 h0
theorem orm301 {a0 a1 a2 : Int} (h0 : a0 ≤ a1) (h1 : a0 = 18) (h2 : a2 = 1) : (-2147483648 : Int) ≤ a1 + a2 := oz569 h0 h1 h2
theorem orm302 {a0 a1 a2 a3 : Int} (h0 : a0 ≤ a1) (h1 : a2 = a1 + a3) (h2 : a0 = 18) (h3 : a3 = 1) : (0 : Int) ≤ a2 := oz570 h0 h1 h2 h3
theorem orm303 {a0 a1 a2 : Int} (h0 : a0 ≤ a1) (h1 : a0 = 18) : ¬ ((a1 < 8 ∧ a2 ≤ a1) ∨ (10 + a2 ≤ a1 ∧ a1 < 18)) := by omega
theorem orm304 {a0 a1 a2 a3 a4 : Int} (h0 : a0 ≤ a1) (h1 : (0 : Int) ≤ a2) (h2 : a0 = a3 + a2) (h3 : a3 = 10) (h4 : a4 = 1) : (-2147483648 : Int) ≤ a1 + a4 := oz571 h0 h1 h2 h3 h4
theorem orm305 {a0 a1 a2 a3 a4 a5 : Int} (h0 : a0 ≤ a1) (h1 : (0 : Int) ≤ a2) (h2 : a0 = a3 + a2) (h3 : a4 = a1 + a5) (h4 : a3 = 10) (h5 : a5 = 1) : (0 : Int) ≤ a4 := oz572 h0 h1 h2 h3 h4 h5
theorem orm306 {a0 a1 a2 a3 : Int} (h0 : a0 ≤ a1) (h1 : (0 : Int) ≤ a2) (h2 : a0 = a3 + a2) (h3 : a3 = 10) : (0 : Int) ≤ a1 := by omega
theorem orm307 {a0 a1 a2 a3 a4 a5 : Int} (h0 : a0 ≤ a1) (h1 : a1 < a2) (h2 : a3 = a4) (h3 : a0 = a5 + a3) (h4 : a2 = 18) (h5 : a5 = 10) : (a1 < 8 ∧ a4 ≤ a1) ∨ (10 + a4 ≤ a1 ∧ a1 < 18) := by omega
theorem orm308 {a0 a1 a2 a3 : Int} (h0 : a0 < a1) (h1 : a2 ≤ a0) (h2 : a2 = a3) (h3 : a1 = 8) : (a0 < 8 ∧ a3 ≤ a0) ∨ (10 + a3 ≤ a0 ∧ a0 < 18) := by omega
theorem orm309 {a0 a1 a2 : Int} (h0 : a0 < a1) (h1 : a1 = 8) : a0 = 18 → (0 : Int) ≤ a2 ∧ a2 ≤ 5 := oz573 h0 h1
theorem orm310 {a0 a1 a2 : Int} (h0 : a0 < a1) (h1 : a1 = 8) : 19 ≤ a0 → a0 ≤ 24 → (0 : Int) ≤ a2 ∧ a2 ≤ 7 := oz574 h0 h1
theorem orm311 {a0 a1 a2 : Int} (h0 : a0 < a1) (h1 : a1 = a2) : ¬ ((a0 < 8 ∧ a2 ≤ a0) ∨ (10 + a2 ≤ a0 ∧ a0 < 18)) := by omega
theorem orm312 {a0 a1 a2 a3 : Int} (h0 : a0 < a1) (h1 : a2 ≤ a0) (h2 : a2 = a3 + a1) (h3 : a3 = 10) : False := oz575 h0 h1 h2 h3
theorem orm313 {a0 a1 : Int} (h0 : a0 = a1) (h1 : (0 : Int) ≤ a0) (h2 : a1 = 0) : ¬ (a0 ≠ 0) := by omega
theorem orm314 {a0 a1 a2 a3 : Int} (h0 : a0 < a1) (h1 : a1 = 0) : ¬ (((0 : Int) ≤ a0) ∧ ((0 : Int) ≤ a2) ∧ (a2 ≤ 1) ∧ (a3 ≤ a0)) := by omega
theorem orm315 {a0 a1 a2 a3 : Int} (h0 : a0 < a1) (h1 : a1 = 0) : ¬ (((0 : Int) ≤ a0) ∧ ((0 : Int) ≤ a2) ∧ (a2 ≤ 1) ∧ (a2 = 0) ∧ (a0 < a3)) := by omega
theorem orm316 {a0 a1 a2 a3 : Int} (h0 : a0 < a1) (h1 : a1 = 0) : ¬ (((0 : Int) ≤ a0) ∧ ((0 : Int) ≤ a2) ∧ (a2 ≤ 1) ∧ (a2 = 1) ∧ (a0 < a3)) := by omega
theorem orm317 {a0 a1 : Int} (h0 : a0 ≤ a1) (h1 : a0 = 0) : (0 : Int) ≤ a1 := oz389 h0 h1
theorem orm318 {a0 a1 : Int} (h0 : a0 < a1) (h1 : a1 ≤ 5) : a0 < 5 := oz988 h0 h1
theorem orm319 {a0 a1 a2 a3 : Int} (h0 : a0 ≤ a1) (h1 : a0 ≤ a2) (h2 : a2 ≤ a3) (h3 : a0 = 0) (h4 : a3 = 1) : ((0 : Int) ≤ a1) ∧ ((0 : Int) ≤ a2) ∧ (a2 ≤ 1) := by omega
theorem orm320 {a0 a1 a2 : Int} (h0 : a0 < a1) : ¬ (((0 : Int) ≤ a0) ∧ ((0 : Int) ≤ a2) ∧ (a2 ≤ 1) ∧ (a1 ≤ a0)) := by omega
theorem orm321 {a0 a1 a2 a3 : Int} (h0 : a0 ≠ a1) (h1 : a1 ≤ a0) (h2 : a1 = 0) : ¬ (((0 : Int) ≤ a2) ∧ ((0 : Int) ≤ a0) ∧ (a0 ≤ 1) ∧ (a0 = 0) ∧ (a2 < a3)) := by omega
theorem orm322 {a0 a1 a2 a3 : Int} (h0 : a0 = a1) (h1 : a1 = 0) : ¬ (((0 : Int) ≤ a2) ∧ ((0 : Int) ≤ a0) ∧ (a0 ≤ 1) ∧ (a0 = 1) ∧ (a2 < a3)) := by omega
theorem orm323 {a0 a1 a2 : Int} (h0 : a0 ≤ a1) : ¬ (((0 : Int) ≤ a1) ∧ ((0 : Int) ≤ a2) ∧ (a2 ≤ 1) ∧ (a2 = 0) ∧ (a1 < a0)) := by omega
theorem orm324 {a0 a1 a2 : Int} (h0 : a0 ≤ a1) : ¬ (((0 : Int) ≤ a1) ∧ ((0 : Int) ≤ a2) ∧ (a2 ≤ 1) ∧ (a2 = 1) ∧ (a1 < a0)) := by omega
theorem orm325 {a0 a1 a2 a3 a4 : Int} (h0 : ¬ ((a0 ≤ a1) ∧ (a1 ≤ a2))) (h1 : a0 = 0) (h2 : a2 = 1) : ¬ (((0 : Int) ≤ a3) ∧ ((0 : Int) ≤ a1) ∧ (a1 ≤ 1) ∧ (a4 ≤ a3)) := by omega
theorem orm326 {a0 a1 a2 a3 a4 : Int} (h0 : ¬ ((a0 ≤ a1) ∧ (a1 ≤ a2))) (h1 : a0 = 0) (h2 : a2 = 1) : ¬ (((0 : Int) ≤ a3) ∧ ((0 : Int) ≤ a1) ∧ (a1 ≤ 1) ∧ (a1 = 0) ∧ (a3 < a4)) := by omega
theorem orm327 {a0 a1 a2 a3 a4 : Int} (h0 : ¬ ((a0 ≤ a1) ∧ (a1 ≤ a2))) (h1 : a0 = 0) (h2 : a2 = 1) : ¬ (((0 : Int) ≤ a3) ∧ ((0 : Int) ≤ a1) ∧ (a1 ≤ 1) ∧ (a1 = 1) ∧ (a3 < a4)) := by omega
theorem orm328 {a0 : Int} (h0 : a0 = 18) : (0 : Int) ≤ a0 := oz195 h0
theorem orm329 {a0 : Int} (h0 : a0 = 18) : a0 < 31 := oz196 h0
theorem orm330 {a0 a1 : Int} (h0 : a0 ≤ a1) (h1 : a0 = 0) : (-2147483648 : Int) ≤ 6 * a1 := oz197 h0 h1
theorem orm331 {a0 a1 : Int} (h0 : a0 ≤ a1) (h1 : a1 = 1) : 6 * a0 ≤ 2147483647 := oz198 h0 h1
theorem orm332 {a0 a1 a2 a3 : Int} (h0 : a0 = 6 * a1) (h1 : a2 ≤ a1) (h2 : a2 = 0) (h3 : a3 = 19) : (-2147483648 : Int) ≤ a3 + a0 := oz199 h0 h1 h2 h3
theorem orm333 {a0 a1 a2 a3 : Int} (h0 : a0 = 6 * a1) (h1 : a1 ≤ a2) (h2 : a2 = 1) (h3 : a3 = 19) : a3 + a0 ≤ 2147483647 := oz200 h0 h1 h2 h3
theorem orm334 {a0 a1 a2 a3 a4 a5 : Int} (h0 : a0 ≤ a1) (h1 : a2 = 6 * a3) (h2 : a4 = a5 + a2) (h3 : a0 ≤ a3) (h4 : a0 = 0) (h5 : a5 = 19) : (-2147483648 : Int) ≤ a4 + a1 := oz201 h0 h1 h2 h3 h4 h5
theorem orm335 {a0 a1 a2 a3 a4 a5 a6 : Int} (h0 : a0 < a1) (h1 : a1 ≤ 5) (h2 : a2 = 6 * a3) (h3 : a4 = a5 + a2) (h4 : a3 ≤ a6) (h5 : a5 = 19) (h6 : a6 = 1) : a4 + a0 ≤ 2147483647 := oz202 h0 h1 h2 h3 h4 h5 h6
theorem orm336 {a0 a1 a2 a3 a4 a5 a6 : Int} (h0 : a0 ≤ a1) (h1 : a2 = a3 + a1) (h2 : a4 = 6 * a5) (h3 : a3 = a6 + a4) (h4 : a0 ≤ a5) (h5 : a0 = 0) (h6 : a6 = 19) : (0 : Int) ≤ a2 := by omega
theorem orm337 {a0 a1 a2 a3 a4 a5 a6 a7 : Int} (h0 : a0 < a1) (h1 : a1 ≤ 5) (h2 : a2 = a3 + a0) (h3 : a4 = 6 * a5) (h4 : a3 = a6 + a4) (h5 : a5 ≤ a7) (h6 : a6 = 19) (h7 : a7 = 1) : a2 < 31 := by omega
theorem orm338 {a0 a1 : Int} (h0 : a0 ≤ a1) (h1 : a1 = 4) : a0 < 5 := oz557 h0 h1
theorem orm339 {a0 a1 a2 : Int} (h0 : a0 ≤ a1) (h1 : a1 ≤ a2) (h2 : a0 = 0) (h3 : a2 = 4) : ((0 : Int) ≤ a1) ∧ (a1 ≤ 4) := oz600 h0 h1 h2 h3
theorem orm340 {a0 a1 a2 : Int} (h0 : ¬ ((a0 ≤ a1) ∧ (a1 ≤ a2))) (h1 : a0 = 0) (h2 : a2 = 4) : ¬ (((0 : Int) ≤ a1) ∧ (a1 ≤ 4)) := oz601 h0 h1 h2
theorem orm341 {a0 : Int} (h0 : a0 = 0) : ¬ (a0 = 1) := by omega
theorem orm342 {a0 : Int} (h0 : a0 = 0) : ¬ (a0 = 2) := by omega
theorem orm343 {a0 : Int} (h0 : a0 = 0) : ¬ (a0 = 3) := by omega
theorem orm344 {a0 : Int} (h0 : a0 = 0) : ¬ (a0 = 4) := ou18 h0
theorem orm345 {a0 : Int} (h0 : a0 = 0) : ¬ (a0 = 5) := ou19 h0
theorem orm346 {a0 : Int} (h0 : a0 = 0) : ¬ ((a0 < 0) ∨ ((5 : Int) < a0)) := by omega
theorem orm347 {a0 : Int} (h0 : a0 = 1) : ¬ (a0 = 2) := by omega
theorem orm348 {a0 : Int} (h0 : a0 = 1) : ¬ (a0 = 3) := by omega
theorem orm349 {a0 : Int} (h0 : a0 = 1) : ¬ ((a0 < 0) ∨ ((5 : Int) < a0)) := by omega
theorem orm350 {a0 : Int} (h0 : a0 = 2) : ¬ (a0 = 1) := ou30 h0
theorem orm351 {a0 : Int} (h0 : a0 = 2) : ¬ (a0 = 3) := by omega
theorem orm352 {a0 : Int} (h0 : a0 = 2) : ¬ ((a0 < 0) ∨ ((5 : Int) < a0)) := by omega
theorem orm353 {a0 : Int} (h0 : a0 = 3) : ¬ (a0 = 1) := by omega
theorem orm354 {a0 : Int} (h0 : a0 = 3) : ¬ (a0 = 2) := by omega
theorem orm355 {a0 : Int} (h0 : a0 = 3) : ¬ ((a0 < 0) ∨ ((5 : Int) < a0)) := by omega
theorem orm356 {a0 : Int} (h0 : a0 = 4) : ¬ (a0 = 1) := by omega
theorem orm357 {a0 : Int} (h0 : a0 = 4) : ¬ (a0 = 2) := by omega
theorem orm358 {a0 : Int} (h0 : a0 = 4) : ¬ (a0 = 3) := by omega
theorem orm359 {a0 : Int} (h0 : a0 = 4) : ¬ (a0 = 5) := by omega
theorem orm360 {a0 : Int} (h0 : a0 = 4) : ¬ ((a0 < 0) ∨ ((5 : Int) < a0)) := by omega
theorem orm361 {a0 : Int} (h0 : a0 = 5) : ¬ (a0 = 1) := by omega
theorem orm362 {a0 : Int} (h0 : a0 = 5) : ¬ (a0 = 2) := by omega
theorem orm363 {a0 : Int} (h0 : a0 = 5) : ¬ (a0 = 3) := by omega
theorem orm364 {a0 : Int} (h0 : a0 = 5) : ¬ ((a0 < 0) ∨ ((5 : Int) < a0)) := by omega
theorem orm365 {a0 : Int} (h0 : ¬ (a0 = 0)) (h1 : ¬ (a0 = 1)) (h2 : ¬ (a0 = 2)) (h3 : ¬ (a0 = 3)) (h4 : ¬ (a0 = 4)) (h5 : ¬ (a0 = 5)) : a0 < 0 ∨ 5 < a0 := oz660 h0 h1 h2 h3 h4 h5
theorem orm366 {a0 : Int} (h0 : ¬ (a0 = 0)) : ¬ (a0 = 0) := by omega
theorem orm367 {a0 : Int} (h0 : ¬ (a0 = 0)) (h1 : ¬ (a0 = 1)) : ¬ (a0 = 1) := by omega
theorem orm368 {a0 : Int} (h0 : ¬ (a0 = 0)) (h1 : ¬ (a0 = 1)) (h2 : ¬ (a0 = 2)) : ¬ (a0 = 2) := by omega
theorem orm369 {a0 : Int} (h0 : ¬ (a0 = 0)) (h1 : ¬ (a0 = 1)) (h2 : ¬ (a0 = 2)) (h3 : ¬ (a0 = 3)) : ¬ (a0 = 3) := by omega
theorem orm370 {a0 : Int} (h0 : ¬ (a0 = 0)) (h1 : ¬ (a0 = 1)) (h2 : ¬ (a0 = 2)) (h3 : ¬ (a0 = 3)) (h4 : ¬ (a0 = 4)) : ¬ (a0 = 4) := by omega
theorem orm371 {a0 : Int} (h0 : ¬ (a0 = 0)) (h1 : ¬ (a0 = 1)) (h2 : ¬ (a0 = 2)) (h3 : ¬ (a0 = 3)) (h4 : ¬ (a0 = 4)) (h5 : ¬ (a0 = 5)) : ¬ (a0 = 5) := by omega
theorem orm372 {a0 a1 a2 a3 : Int} (h0 : a0 ≤ a1) (h1 : a2 = a3 ∨ a2 = a0) (h2 : a1 = 8) (h3 : a3 = 0) : a3 + a2 ≤ 8 := oz1017 h0 h1 h2 h3
theorem orm373 {a0 : Int} (h0 : a0 = 5) : (0 : Int) ≤ a0 := oz264 h0
theorem orm374 {a0 a1 : Int} (h0 : a0 = 0) (h1 : a1 = 5) : a0 + a1 ≤ 5 := oz1018 h0 h1
theorem orm375 {a0 : Int} (h0 : a0 ≤ 5) : a0 ≤ 5 := oz527 h0
theorem orm391 {a0 : Int} (h0 : a0 = 2) : (0 : Int) ≤ a0 := oz256 h0
theorem orm558 {a0 a1 : Int} (h0 : a0 ≤ 8) (h1 : (0 : Int) ≤ a1) (h2 : a1 < a0) : ((0 : Int) ≤ a1) ∧ (a1 ≤ 7) := oz423 h0 h1 h2
theorem orm559 {a0 : Int} (h0 : a0 = 1) : a0 < 5 := oz548 h0
theorem orm560 {a0 : Int} (h0 : a0 = 2) : a0 < 5 := oz549 h0
theorem orm561 {a0 a1 a2 a3 : Int} (h0 : a0 = a1) (h1 : ((a0 = 1) ∧ (¬ ((a2 = 1) ∧ (a3 = 0)))) ∨ ((a0 = 0) ∧ (a2 = 1) ∧ (a3 = 0))) (h2 : a1 = 0) : (a2 = 1) ∧ (a3 = 0) := by omega
theorem orm562 {a0 a1 a2 a3 a4 a5 : Int} (h0 : a0 = a1) (h1 : ((a0 = 1) ∧ (¬ ((a2 = 1) ∧ (a3 = 0)))) ∨ ((a0 = 0) ∧ (a2 = 1) ∧ (a3 = 0))) (h2 : a1 = 0) : ¬ (((0 : Int) ≤ a4) ∧ (a4 < a5) ∧ (¬ ((a2 = 1) ∧ (a3 = 0)))) := by omega
theorem orm563 {a0 a1 : Int} (h0 : (0 : Int) ≤ a0) (h1 : a0 < a1) : ((0 : Int) ≤ a0) ∧ (a0 < a1) := oz967 h0 h1
theorem orm564 {a0 a1 a2 a3 : Int} (h0 : a0 ≠ a1) (h1 : ((a0 = 1) ∧ (¬ ((a2 = 1) ∧ (a3 = 0)))) ∨ ((a0 = 0) ∧ (a2 = 1) ∧ (a3 = 0))) (h2 : a1 = 0) : ¬ ((a2 = 1) ∧ (a3 = 0)) := by omega
theorem orm565 {a0 a1 a2 a3 a4 a5 : Int} (h0 : a0 ≠ a1) (h1 : ((a0 = 1) ∧ (¬ ((a2 = 1) ∧ (a3 = 0)))) ∨ ((a0 = 0) ∧ (a2 = 1) ∧ (a3 = 0))) (h2 : a1 = 0) : ¬ (((0 : Int) ≤ a4) ∧ (a4 < a5) ∧ (a2 = 1) ∧ (a3 = 0)) := by omega
theorem orm566 {a0 a1 a2 a3 : Int} (h0 : ¬ (((0 : Int) ≤ a0) ∧ (a0 < a1))) : ¬ (((0 : Int) ≤ a0) ∧ (a0 < a1) ∧ (¬ ((a2 = 1) ∧ (a3 = 0)))) := by omega
theorem orm567 {a0 a1 a2 a3 : Int} (h0 : ¬ (((0 : Int) ≤ a0) ∧ (a0 < a1))) : ¬ (((0 : Int) ≤ a0) ∧ (a0 < a1) ∧ (a2 = 1) ∧ (a3 = 0)) := by omega
theorem orm717 {a0 a1 a2 a3 : Int} (h0 : ¬ (((0 : Int) ≤ a0) ∧ (a0 < a1))) : ¬ (((0 : Int) ≤ a0) ∧ (a0 < a1) ∧ (¬ ((a2 = 0) ∧ (a3 = 1)))) := oi189 h0
theorem orm718 {a0 : Int} (h0 : (1 : Int) ≤ a0) (h1 : a0 ≤ 5) : ((1 : Int) ≤ a0) ∧ (a0 ≤ 5) := by omega
theorem orm719 {a0 a1 a2 a3 : Int} (h0 : ¬ ((a0 = 0) ∧ (a1 = 1))) (h1 : (0 : Int) ≤ a2) (h2 : a2 < a3) : ((0 : Int) ≤ a2) ∧ (a2 < a3) ∧ (¬ ((a0 = 0) ∧ (a1 = 1))) := by omega
theorem orm720 {a0 a1 a2 a3 : Int} (h0 : ¬ (((0 : Int) ≤ a0) ∧ (a0 < a1) ∧ (¬ ((a2 = 0) ∧ (a3 = 1))))) (h1 : (0 : Int) ≤ a0) (h2 : a0 < a1) : ¬ (((0 : Int) ≤ a0) ∧ (a0 < a1) ∧ (¬ ((a2 = 0) ∧ (a3 = 1)))) := by omega
theorem orm721 {a0 a1 a2 a3 : Int} (h0 : a0 = 0) (h1 : a1 = 1) : ¬ (((0 : Int) ≤ a2) ∧ (a2 < a3) ∧ (¬ ((a0 = 0) ∧ (a1 = 1)))) := by omega
theorem orm722 {a0 a1 a2 a3 : Int} (h0 : ¬ (((0 : Int) ≤ a0) ∧ (a0 < a1))) : ¬ (((0 : Int) ≤ a0) ∧ (a0 < a1) ∧ (a2 = 0) ∧ (a3 = 1)) := by omega
