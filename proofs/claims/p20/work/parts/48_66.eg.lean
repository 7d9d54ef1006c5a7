theorem kog0 : (0 : Int32).toInt = 0 := by decide
theorem kog1 : (1 : Int32).toInt = 1 := by decide
theorem kog8 : (8 : Int32).toInt = 8 := by decide
theorem kog9 : (9 : Int32).toInt = 9 := by decide
theorem kog10 : (10 : Int32).toInt = 10 := by decide
theorem kog18 : (18 : Int32).toInt = 18 := by decide
theorem kog5 : (5 : Int32).toInt = 5 := by decide
theorem kog16 : (16 : Int32).toInt = 16 := by decide
theorem kog17 : (17 : Int32).toInt = 17 := by decide
theorem kogm1 : ((-1) : Int32).toInt = (-1) := by decide
theorem kog2 : (2 : Int32).toInt = 2 := by decide
theorem kog3 : (3 : Int32).toInt = 3 := by decide
theorem kog4 : (4 : Int32).toInt = 4 := by decide
theorem og0 {a0 a1 : Int} (h0 : a0 ≠ a1) (h1 : a1 = 0) : a0 ≠ 0 := oz295 h0 h1
theorem og1 {a0 : Int} (h0 : ¬ (a0 = 6)) (h1 : ¬ (a0 = 7)) (h2 : ¬ (a0 = 8)) (h3 : ¬ (a0 = 9)) (h4 : ¬ (a0 = 10)) (h5 : ¬ (a0 = 11)) (h6 : ¬ (a0 = 12)) (h7 : ¬ (a0 = 13)) (h8 : ¬ (a0 = 14)) : a0 < 6 ∨ 14 < a0 := oz296 h0 h1 h2 h3 h4 h5 h6 h7 h8
theorem og2 {a0 : Int} (h0 : a0 = 0) : (0 : Int) ≤ a0 := oz46 h0
theorem og3 {a0 : Int} (h0 : a0 = 0) : a0 < 200 := oz267 h0
theorem og4 {a0 a1 : Int} (h0 : a0 ≤ a1) (h1 : a1 ≤ a0) : a1 = a0 := oy46 h0 h1
theorem og5 {a0 a1 : Int} (h0 : a0 ≤ a1) (h1 : a1 ≤ a0) : a0 = a1 := by omega
theorem og6 {a0 a1 : Int} (h0 : (0 : Int) ≤ a0) (h1 : a0 ≤ a1) : (0 : Int) ≤ a1 := oz268 h0 h1
theorem og7 {a0 a1 : Int} (h0 : a0 < a1) (h1 : a1 ≤ 200) : a0 < 200 := oz269 h0 h1
theorem og8 {a0 a1 : Int} (h0 : a0 < a1) : a0 < a1 := oz270 h0
theorem og9 {a0 a1 : Int} (h0 : (0 : Int) ≤ a0) (h1 : a1 = 1) : (-2147483648 : Int) ≤ a0 + a1 := oz12 h0 h1
theorem og10 {a0 a1 : Int} (h0 : a0 ≤ 200) (h1 : a1 = 1) : a0 + a1 ≤ 2147483647 := oz271 h0 h1
theorem og11 {a0 a1 : Int} (h0 : a0 ≤ a1) (h1 : a1 < a0) (h2 : a0 = 18) : False := oz272 h0 h1 h2
theorem og12 {a0 a1 : Int} (h0 : a0 ≤ a1) (h1 : a0 = 18) : (-2147483648 : Int) ≤ a1 - a0 := oz273 h0 h1
theorem og13 {a0 a1 : Int} (h0 : a0 ≤ 2147483647) (h1 : a1 = 18) : a0 - a1 ≤ 2147483647 := oz274 h0 h1
theorem og14 {a0 : Int} (h0 : (0 : Int) ≤ a0) : (0 : Int) ≤ a0 := oz3 h0
theorem og15 {a0 a1 a2 : Int} (h0 : a0 < a1) (h1 : a1 ≤ 200) (h2 : a2 ≤ a0) : a2 < 200 := oz275 h0 h1 h2
theorem og16 {a0 a1 a2 : Int} (h0 : (0 : Int) ≤ a0) (h1 : a0 ≤ a1) (h2 : a2 = 1) : (-2147483648 : Int) ≤ a1 + a2 := oz276 h0 h1 h2
theorem og17 {a0 a1 a2 : Int} (h0 : a0 < a1) (h1 : a1 ≤ 200) (h2 : a2 = 1) : a0 + a2 ≤ 2147483647 := oz277 h0 h1 h2
theorem og18 {a0 a1 a2 a3 : Int} (h0 : a0 ≤ a1) (h1 : a2 = a1 + a3) (h2 : a3 = 1) : a0 ≤ a2 := oz278 h0 h1 h2
theorem og19 {a0 a1 a2 a3 a4 : Int} (h0 : a0 < a1) (h1 : a1 ≤ 200) (h2 : (0 : Int) ≤ a2) (h3 : a3 = a2 + a4) (h4 : a2 ≤ a0) (h5 : a4 = 1) : ((0 : Int) ≤ a3) ∧ (a3 ≤ 200) := oz279 h0 h1 h2 h3 h4 h5
theorem og20 {a0 a1 a2 a3 : Int} (h0 : a0 < a1) (h1 : a2 = a0 + a3) (h2 : a3 = 1) : a2 ≤ a1 := by omega
theorem og21 {a0 a1 a2 a3 a4 : Int} (h0 : a0 ≤ a1) (h1 : a2 = a3 + a4) (h2 : a0 = 18) (h3 : a4 = 1) : ((18 ≤ a1 ∨ a1 ≤ 5) → a2 = a3 + 1) ∧ ((a1 = 16 ∨ a1 = 17) → a2 = a3) ∧ ((6 ≤ a1 ∧ a1 ≤ 15) → a2 = a3 - 1) := oz280 h0 h1 h2 h3
theorem og22 {a0 a1 a2 : Int} (h0 : a0 = a1 + a2) (h1 : a2 = 1) : a0 = a1 + 1 := oz169 h0 h1
theorem og23 {a0 a1 : Int} (h0 : a0 ≤ a1) : a0 ≤ a1 := oz173 h0
theorem og24 {a0 : Int} (h0 : a0 ≤ 200) : a0 ≤ 200 := oz1293 h0
theorem og25 {a0 a1 : Int} (h0 : a0 ≤ a1) (h1 : a0 = 18) : 18 ≤ a1 ∨ a1 ≤ 5 := by omega
theorem og26 {a0 a1 : Int} (h0 : a0 ≤ a1) (h1 : a0 = 18) : 18 ≤ a1 := by omega
theorem og27 {a0 a1 a2 a3 : Int} (h0 : a0 = a1 + a2) (h1 : a2 = 1) : (a3 - a0) < (a3 - a1) := oz44 h0 h1
theorem og28 {a0 a1 : Int} (h0 : a0 < a1) : (1 : Int) ≤ (a1 - a0) := oz45 h0
theorem og29 {a0 a1 : Int} (h0 : (0 : Int) ≤ a0) (h1 : a1 = 1) : (-2147483648 : Int) ≤ a0 - a1 := oz47 h0 h1
theorem og30 {a0 a1 : Int} (h0 : a0 ≤ 200) (h1 : a1 = 1) : a0 - a1 ≤ 2147483647 := oz281 h0 h1
theorem og31 {a0 a1 a2 a3 a4 a5 : Int} (h0 : a0 < a1) (h1 : a0 = a2) (h2 : a3 = a4 - a5) (h3 : ((a0 = 16 ∨ a0 = 17) → (1 : Int) ≤ a4)) (h4 : a1 = 18) (h5 : a2 = 16) (h6 : a5 = 1) : (0 : Int) ≤ a3 := oz282 h0 h1 h2 h3 h4 h5 h6
theorem og32 {a0 a1 a2 : Int} (h0 : a0 ≤ 200) (h1 : a1 = a0 - a2) (h2 : a2 = 1) : a1 < 200 := oz283 h0 h1 h2
theorem og33 {a0 : Int} (h0 : (0 : Int) ≤ a0) (h1 : a0 ≤ 200) : ((0 : Int) ≤ a0) ∧ (a0 ≤ 200) := oz284 h0 h1
theorem og34 {a0 a1 a2 a3 : Int} (h0 : a0 < a1) (h1 : a0 = a2) (h2 : a1 = 18) (h3 : a2 = 16) : ((18 ≤ a0 ∨ a0 ≤ 5) → a3 = a3 + 1) ∧ ((a0 = 16 ∨ a0 = 17) → a3 = a3) ∧ ((6 ≤ a0 ∧ a0 ≤ 15) → a3 = a3 - 1) := oz285 h0 h1 h2 h3
theorem og35 {a0 a1 : Int} (h0 : a0 = a1) (h1 : a1 = 16) : a0 = 16 ∨ a0 = 17 := by omega
theorem og36 {a0 a1 : Int} (h0 : a0 = a1) (h1 : a1 = 16) : ¬ (a0 = 17) := by omega
theorem og37 {a0 a1 : Int} (h0 : a0 ≠ a1) (h1 : a1 = 0) : ¬ (a0 = 0) := by omega
theorem og38 {a0 a1 a2 a3 : Int} (h0 : a0 < a1) (h1 : a0 = a2) (h2 : ((a0 = 16 ∨ a0 = 17) → (1 : Int) ≤ a3)) (h3 : a1 = 18) (h4 : a2 = 16) : (1 : Int) ≤ a3 := by omega
theorem og39 {a0 a1 a2 : Int} (h0 : a0 = a1 - a2) (h1 : a2 = 1) : a0 = a1 - 1 := by omega
theorem og40 {a0 : Int}  : a0 = a0 := oz34
theorem og41 {a0 a1 : Int} (h0 : a0 = a1) (h1 : a1 = 0) : a0 = 0 := by omega
theorem og42 {a0 a1 a2 : Int} (h0 : a0 = a1) (h1 : a0 = a2) (h2 : a1 = 16) (h3 : a2 = 17) : False := oz286 h0 h1 h2 h3
theorem og43 {a0 a1 : Int} (h0 : (0 : Int) ≤ a0) (h1 : a1 = (-1)) : (-2147483648 : Int) ≤ a0 + a1 := oz287 h0 h1
theorem og44 {a0 a1 : Int} (h0 : a0 ≤ 200) (h1 : a1 = (-1)) : a0 + a1 ≤ 2147483647 := oz288 h0 h1
theorem og45 {a0 a1 a2 a3 : Int} (h0 : (0 : Int) ≤ a0) (h1 : a1 = a0 + a2) (h2 : a2 = (-1)) (h3 : a3 = 1) : (-2147483648 : Int) ≤ a1 - a3 := oz289 h0 h1 h2 h3
theorem og46 {a0 a1 a2 a3 : Int} (h0 : a0 ≤ 200) (h1 : a1 = a0 + a2) (h2 : a2 = (-1)) (h3 : a3 = 1) : a1 - a3 ≤ 2147483647 := oz290 h0 h1 h2 h3
theorem og47 {a0 a1 a2 a3 a4 a5 a6 a7 a8 a9 : Int} (h0 : a0 < a1) (h1 : a2 < a0) (h2 : a0 ≠ a3) (h3 : a0 ≠ a4) (h4 : a5 = a6 + a7) (h5 : a8 = a5 - a9) (h6 : ((6 ≤ a0 ∧ a0 ≤ 15) → (2 : Int) ≤ a6)) (h7 : a1 = 18) (h8 : a2 = 5) (h9 : a3 = 16) (h10 : a4 = 17) (h11 : a7 = (-1)) (h12 : a9 = 1) : (0 : Int) ≤ a8 := oz291 h0 h1 h2 h3 h4 h5 h6 h7 h8 h9 h10 h11 h12
theorem og48 {a0 a1 a2 a3 a4 : Int} (h0 : a0 ≤ 200) (h1 : a1 = a0 + a2) (h2 : a3 = a1 - a4) (h3 : a2 = (-1)) (h4 : a4 = 1) : a3 < 200 := oz292 h0 h1 h2 h3 h4
theorem og49 {a0 a1 a2 a3 a4 a5 : Int} (h0 : a0 < a1) (h1 : a2 < a0) (h2 : a3 = a4 + a5) (h3 : ((a0 = 16 ∨ a0 = 17) → (1 : Int) ≤ a4)) (h4 : ((6 ≤ a0 ∧ a0 ≤ 15) → (2 : Int) ≤ a4)) (h5 : a1 = 18) (h6 : a2 = 5) (h7 : a5 = (-1)) : (0 : Int) ≤ a3 := oz293 h0 h1 h2 h3 h4 h5 h6 h7
theorem og50 {a0 a1 a2 : Int} (h0 : a0 ≤ 200) (h1 : a1 = a0 + a2) (h2 : a2 = (-1)) : a1 < 200 := oz294 h0 h1 h2
theorem og51 {a0 a1 a2 a3 a4 a5 : Int} (h0 : a0 < a1) (h1 : a2 < a0) (h2 : a3 ≤ 200) (h3 : a4 = a3 + a5) (h4 : ((a0 = 16 ∨ a0 = 17) → (1 : Int) ≤ a3)) (h5 : ((6 ≤ a0 ∧ a0 ≤ 15) → (2 : Int) ≤ a3)) (h6 : a1 = 18) (h7 : a2 = 5) (h8 : a5 = (-1)) : ((0 : Int) ≤ a4) ∧ (a4 ≤ 200) := oz297 h0 h1 h2 h3 h4 h5 h6 h7 h8
theorem og52 {a0 a1 a2 a3 a4 a5 a6 a7 : Int} (h0 : a0 < a1) (h1 : a2 < a0) (h2 : a0 ≠ a3) (h3 : a0 ≠ a4) (h4 : a5 = a6 + a7) (h5 : a1 = 18) (h6 : a2 = 5) (h7 : a3 = 16) (h8 : a4 = 17) (h9 : a7 = (-1)) : ((18 ≤ a0 ∨ a0 ≤ 5) → a5 = a6 + 1) ∧ ((a0 = 16 ∨ a0 = 17) → a5 = a6) ∧ ((6 ≤ a0 ∧ a0 ≤ 15) → a5 = a6 - 1) := oz298 h0 h1 h2 h3 h4 h5 h6 h7 h8 h9
theorem og53 {a0 a1 a2 a3 a4 a5 : Int} (h0 : a0 < a1) (h1 : a2 < a0) (h2 : a0 ≠ a3) (h3 : a0 ≠ a4) (h4 : ((6 ≤ a0 ∧ a0 ≤ 15) → (2 : Int) ≤ a5)) (h5 : a1 = 18) (h6 : a2 = 5) (h7 : a3 = 16) (h8 : a4 = 17) : (2 : Int) ≤ a5 := by omega
theorem og54 {a0 a1 : Int} (h0 : a0 < a1) (h1 : a0 = 5) : (6 : Int) ≤ a1 := by omega
theorem og55 {a0 a1 a2 a3 : Int} (h0 : a0 < a1) (h1 : a0 ≠ a2) (h2 : a0 ≠ a3) (h3 : a1 = 18) (h4 : a2 = 16) (h5 : a3 = 17) : a0 ≤ 15 := by omega
theorem og56 {a0 a1 a2 a3 a4 : Int} (h0 : a0 = a1 + a2) (h1 : a3 = a0 - a4) (h2 : a2 = (-1)) (h3 : a4 = 1) : a3 = a1 - 2 := by omega
theorem og57 {a0 a1 a2 : Int} (h0 : a0 = a1 + a2) (h1 : a2 = (-1)) : a0 = a1 - 1 := oy90 h0 h1
theorem og58 {a0 a1 a2 : Int} (h0 : a0 < a1) (h1 : a0 = a2) (h2 : a0 ≠ a2) (h3 : a1 = 18) (h4 : a2 = 17) : False := oz299 h0 h1 h2 h3 h4
theorem og59 {a0 a1 a2 a3 a4 a5 : Int} (h0 : a0 < a1) (h1 : a0 = a2) (h2 : a3 = a4 - a5) (h3 : ((a0 = 16 ∨ a0 = 17) → (1 : Int) ≤ a4)) (h4 : a1 = 18) (h5 : a2 = 17) (h6 : a5 = 1) : (0 : Int) ≤ a3 := oz300 h0 h1 h2 h3 h4 h5 h6
theorem og60 {a0 a1 a2 a3 : Int} (h0 : a0 < a1) (h1 : a0 = a2) (h2 : a1 = 18) (h3 : a2 = 17) : ((18 ≤ a0 ∨ a0 ≤ 5) → a3 = a3 + 1) ∧ ((a0 = 16 ∨ a0 = 17) → a3 = a3) ∧ ((6 ≤ a0 ∧ a0 ≤ 15) → a3 = a3 - 1) := oz301 h0 h1 h2 h3
theorem og61 {a0 a1 a2 : Int} (h0 : a0 < a1) (h1 : a0 = a2) (h2 : a1 = 18) (h3 : a2 = 17) : a0 = 16 ∨ a0 = 17 := by omega
theorem og62 {a0 a1 a2 : Int} (h0 : a0 < a1) (h1 : a0 = a2) (h2 : a1 = 18) (h3 : a2 = 17) : a0 = 17 := by omega
theorem og63 {a0 a1 a2 a3 : Int} (h0 : a0 < a1) (h1 : a0 = a2) (h2 : ((a0 = 16 ∨ a0 = 17) → (1 : Int) ≤ a3)) (h3 : a1 = 18) (h4 : a2 = 17) : (1 : Int) ≤ a3 := by omega
theorem og64 {a0 a1 : Int} (h0 : a0 ≤ a1) (h1 : a1 = 5) : a0 < 6 := oz302 h0 h1
theorem og65 {a0 a1 a2 a3 a4 : Int} (h0 : a0 ≤ a1) (h1 : a2 = a3 + a4) (h2 : a1 = 5) (h3 : a4 = 1) : ((18 ≤ a0 ∨ a0 ≤ 5) → a2 = a3 + 1) ∧ ((a0 = 16 ∨ a0 = 17) → a2 = a3) ∧ ((6 ≤ a0 ∧ a0 ≤ 15) → a2 = a3 - 1) := oz303 h0 h1 h2 h3
theorem og66 {a0 a1 : Int} (h0 : a0 ≤ a1) (h1 : a1 = 5) : 18 ≤ a0 ∨ a0 ≤ 5 := by omega
theorem og67 {a0 a1 : Int} (h0 : a0 < a1) (h1 : a1 = 18) : ¬ (18 ≤ a0) := by omega
theorem og68 {a0 a1 : Int} (h0 : a0 < a1) (h1 : a1 ≤ a0) (h2 : a1 = 18) : False := oz304 h0 h1 h2
theorem og69 {a0 : Int}  : a0 ≤ a0 := oz122
theorem og70 {a0 : Int} (h0 : a0 = 0) : ((0 : Int) ≤ a0) ∧ (a0 ≤ 200) := oz305 h0
theorem og71 {a0 : Int} (h0 : a0 ≤ 7) : a0 < 24 := oz248 h0
theorem og72 {a0 : Int} (h0 : a0 = 0) : a0 < 6 := oz255 h0
theorem og73 {a0 a1 : Int} (h0 : (0 : Int) ≤ a0) (h1 : a1 = 8) : (-2147483648 : Int) ≤ a1 + a0 := oz8 h0 h1
theorem og74 {a0 a1 : Int} (h0 : a0 ≤ 7) (h1 : a1 = 8) : a1 + a0 ≤ 2147483647 := oz249 h0 h1
theorem og75 {a0 a1 a2 : Int} (h0 : (0 : Int) ≤ a0) (h1 : a1 = a2 + a0) (h2 : a2 = 8) : (0 : Int) ≤ a1 := oz10 h0 h1 h2
theorem og76 {a0 a1 a2 : Int} (h0 : a0 ≤ 7) (h1 : a1 = a2 + a0) (h2 : a2 = 8) : a1 < 24 := oz250 h0 h1 h2
theorem og77 {a0 : Int} (h0 : a0 = 2) : (0 : Int) ≤ a0 := oz256 h0
theorem og78 {a0 : Int} (h0 : a0 = 2) : a0 < 6 := oz257 h0
theorem og79 {a0 : Int} (h0 : a0 = 9) : (0 : Int) ≤ a0 := oz258 h0
theorem og80 {a0 : Int} (h0 : a0 = 9) : a0 < 31 := oz259 h0
theorem og81 {a0 : Int} (h0 : a0 = 3) : (0 : Int) ≤ a0 := oz260 h0
theorem og82 {a0 : Int} (h0 : a0 = 3) : a0 < 6 := oz261 h0
theorem og83 {a0 a1 : Int} (h0 : (0 : Int) ≤ a0) (h1 : a1 = 10) : (-2147483648 : Int) ≤ a1 + a0 := oz251 h0 h1
theorem og84 {a0 a1 : Int} (h0 : a0 ≤ 7) (h1 : a1 = 10) : a1 + a0 ≤ 2147483647 := oz252 h0 h1
theorem og85 {a0 a1 a2 : Int} (h0 : (0 : Int) ≤ a0) (h1 : a1 = a2 + a0) (h2 : a2 = 10) : (0 : Int) ≤ a1 := oz253 h0 h1 h2
theorem og86 {a0 a1 a2 : Int} (h0 : a0 ≤ 7) (h1 : a1 = a2 + a0) (h2 : a2 = 10) : a1 < 31 := oz254 h0 h1 h2
theorem og87 {a0 : Int} (h0 : a0 = 4) : (0 : Int) ≤ a0 := oz262 h0
theorem og88 {a0 : Int} (h0 : a0 = 4) : a0 < 6 := oz263 h0
theorem og89 {a0 : Int} (h0 : a0 = 8) : (0 : Int) ≤ a0 := oz85 h0
theorem og90 {a0 : Int} (h0 : a0 = 8) : a0 < 31 := oz86 h0
theorem og91 {a0 : Int} (h0 : a0 = 5) : (0 : Int) ≤ a0 := oz264 h0
theorem og92 {a0 : Int} (h0 : a0 = 5) : a0 < 6 := oz265 h0
theorem og93 {a0 a1 a2 : Int} (h0 : a0 ≤ a1) (h1 : a0 = a2) : a2 ≤ a1 := oz1318 h0 h1
theorem og94 {a0 a1 : Int} (h0 : a0 < a1) (h1 : a1 ≤ 60) : a0 < 60 := oz266 h0 h1
theorem og95 {a0 a1 a2 : Int} (h0 : a0 < a1) (h1 : a1 = a2) : a0 < a2 := od20 h0 h1
theorem og96 {a0 a1 a2 : Int} (h0 : a0 < a1) (h1 : a2 = a1) : a0 < a2 := oz306 h0 h1
theorem og97 {a0 a1 a2 : Int} (h0 : a0 < a1) (h1 : a1 ≤ 60) (h2 : a2 = 1) : a0 + a2 ≤ 2147483647 := oz307 h0 h1 h2
theorem og98 {a0 a1 a2 : Int} (h0 : (0 : Int) ≤ a0) (h1 : a1 = a0 + a2) (h2 : a2 = 1) : (0 : Int) ≤ a1 := oz14 h0 h1 h2
theorem og99 {a0 a1 a2 a3 a4 : Int} (h0 : a0 = a1) (h1 : a2 = a3 + a4) (h2 : a4 = 1) : (a0 - a2) < (a1 - a3) := oz308 h0 h1 h2
theorem og100 {a0 : Int} (h0 : a0 = 1) : (0 : Int) ≤ a0 := oz246 h0
theorem og101 {a0 : Int} (h0 : a0 = 1) : a0 < 6 := oz247 h0
theorem og102 {a0 a1 : Int} (h0 : a0 = a1) (h1 : (0 : Int) ≤ a0) (h2 : a1 = 0) : a0 = 0 := od48 h0 h1 h2
theorem og103 {a0 : Int} (h0 : (0 : Int) ≤ a0) (h1 : a0 ≤ 7) : ((0 : Int) ≤ a0) ∧ (a0 ≤ 7) := oz181 h0 h1
theorem og104 {a0 a1 : Int} (h0 : a0 ≠ a1) (h1 : (0 : Int) ≤ a0) (h2 : a1 = 0) : ¬ (a0 = 0) := od60 h0 h1 h2
set_option maxRecDepth 100000 in
theorem ke160 {i : Nat → Int32} {a : Nat → List Int32} {q : Nat → List Int64} {r : Nat → Nat} (hI : kI i a q) (hr : kr r) (x1 : Int32) (x2 : Int32) (x3 : Int32) : km 1 160 [.int x1, .int x2, .int x3] (ks i a q r) (kPI (ks i a q r) (fun v => (True) ∧ v = rBoth x1 x2 x3)) := by
  have hG := kG_self kW0 hI hr
  refine km_ofPI (q := (mi_h160, mi_c160)) rfl (by decide) (Nat.le_of_ble_eq_true rfl) ?_
  intro P hP
  refine ft_go mi_k160 1 1 [(0, .int x1), (1, .int x2), (2, .int x3)] [.int x1] i a q r (by rfl) ?_
  by_cases w1 : x1.toInt = 6
  ·
    refine ft_swx mi_k160 (pc := 1) (v := 6) (t := 52) (kj_eq w1 (by decide) : x1 = 6) (by decide +kernel) ?_
    refine ft_go mi_k160 1 53 [(0, .int x1), (1, .int x2), (2, .int x3)] [.int x2] i a q r (by rfl) ?_
    refine ft_if mi_k160 (x2 != 0) 60 56 [(0, .int x1), (1, .int x2), (2, .int x3)] [] (by rfl) (fun c => ?_) (fun c => ?_)
    ·
      have c2 : x2.toInt ≠ (0 : Int32).toInt := kd_ne c; clear c
      refine ft_go mi_k160 2 65 [(0, .int x1), (1, .int x2), (2, .int x3)] [.int 1] i a q r (by rfl) ?_
      exact ft_ret mi_k160 (by rfl) (hP 1 ⟨trivial, (show (1 : Int32) = rBoth x1 x2 x3 from (by have k0_ : (0 : Int32).toInt = 0 := (by decide); have k6_ : (6 : Int32).toInt = 6 := (by decide); first | (unfold rBoth; rw [if_pos w1]; all_goals first | (split <;> first | rfl | (exfalso; omega)) | rfl) | (unfold rBoth; (repeat' split) <;> first | rfl | (exfalso; omega))))⟩)
    ·
      have c3 : x2.toInt = (0 : Int32).toInt := kd_neF c; clear c
      refine ft_go mi_k160 1 57 [(0, .int x1), (1, .int x2), (2, .int x3)] [.int x3] i a q r (by rfl) ?_
      refine ft_if mi_k160 (x3 == 0) 64 60 [(0, .int x1), (1, .int x2), (2, .int x3)] [] (by rfl) (fun c => ?_) (fun c => ?_)
      ·
        have c4 : x3.toInt = (0 : Int32).toInt := kd_eq c; clear c
        refine ft_go mi_k160 1 65 [(0, .int x1), (1, .int x2), (2, .int x3)] [.int 0] i a q r (by rfl) ?_
        exact ft_ret mi_k160 (by rfl) (hP 0 ⟨trivial, (show (0 : Int32) = rBoth x1 x2 x3 from (by have k0_ : (0 : Int32).toInt = 0 := (by decide); have k6_ : (6 : Int32).toInt = 6 := (by decide); first | (unfold rBoth; rw [if_pos w1]; all_goals first | (split <;> first | rfl | (exfalso; omega)) | rfl) | (unfold rBoth; (repeat' split) <;> first | rfl | (exfalso; omega))))⟩)
      ·
        have c5 : x3.toInt ≠ (0 : Int32).toInt := kd_eqF c; clear c
        refine ft_go mi_k160 2 65 [(0, .int x1), (1, .int x2), (2, .int x3)] [.int 1] i a q r (by rfl) ?_
        exact ft_ret mi_k160 (by rfl) (hP 1 ⟨trivial, (show (1 : Int32) = rBoth x1 x2 x3 from (by have k0_ : (0 : Int32).toInt = 0 := (by decide); have k6_ : (6 : Int32).toInt = 6 := (by decide); first | (unfold rBoth; rw [if_pos w1]; all_goals first | (split <;> first | rfl | (exfalso; omega)) | rfl) | (unfold rBoth; (repeat' split) <;> first | rfl | (exfalso; omega))))⟩)
  by_cases w6 : x1.toInt = 7
  ·
    refine ft_swx mi_k160 (pc := 1) (v := 7) (t := 66) (kj_eq w6 (by decide) : x1 = 7) (by decide +kernel) ?_
    refine ft_go mi_k160 1 67 [(0, .int x1), (1, .int x2), (2, .int x3)] [.int x2] i a q r (by rfl) ?_
    refine ft_if mi_k160 (x2 == 0) 78 70 [(0, .int x1), (1, .int x2), (2, .int x3)] [] (by rfl) (fun c => ?_) (fun c => ?_)
    ·
      have c7 : x2.toInt = (0 : Int32).toInt := kd_eq c; clear c
      refine ft_go mi_k160 1 79 [(0, .int x1), (1, .int x2), (2, .int x3)] [.int 0] i a q r (by rfl) ?_
      exact ft_ret mi_k160 (by rfl) (hP 0 ⟨trivial, (show (0 : Int32) = rBoth x1 x2 x3 from (by have k0_ : (0 : Int32).toInt = 0 := (by decide); have k6_ : (6 : Int32).toInt = 6 := (by decide); first | (unfold rBoth; rw [if_neg w1, if_pos w6]; all_goals first | (split <;> first | rfl | (exfalso; omega)) | rfl) | (unfold rBoth; (repeat' split) <;> first | rfl | (exfalso; omega))))⟩)
    ·
      have c8 : x2.toInt ≠ (0 : Int32).toInt := kd_eqF c; clear c
      refine ft_go mi_k160 1 71 [(0, .int x1), (1, .int x2), (2, .int x3)] [.int x3] i a q r (by rfl) ?_
      refine ft_if mi_k160 (x3 == 0) 78 74 [(0, .int x1), (1, .int x2), (2, .int x3)] [] (by rfl) (fun c => ?_) (fun c => ?_)
      ·
        have c9 : x3.toInt = (0 : Int32).toInt := kd_eq c; clear c
        refine ft_go mi_k160 1 79 [(0, .int x1), (1, .int x2), (2, .int x3)] [.int 0] i a q r (by rfl) ?_
        exact ft_ret mi_k160 (by rfl) (hP 0 ⟨trivial, (show (0 : Int32) = rBoth x1 x2 x3 from (by have k0_ : (0 : Int32).toInt = 0 := (by decide); have k6_ : (6 : Int32).toInt = 6 := (by decide); first | (unfold rBoth; rw [if_neg w1, if_pos w6]; all_goals first | (split <;> first | rfl | (exfalso; omega)) | rfl) | (unfold rBoth; (repeat' split) <;> first | rfl | (exfalso; omega))))⟩)
      ·
        have c10 : x3.toInt ≠ (0 : Int32).toInt := kd_eqF c; clear c
        refine ft_go mi_k160 2 79 [(0, .int x1), (1, .int x2), (2, .int x3)] [.int 1] i a q r (by rfl) ?_
        exact ft_ret mi_k160 (by rfl) (hP 1 ⟨trivial, (show (1 : Int32) = rBoth x1 x2 x3 from (by have k0_ : (0 : Int32).toInt = 0 := (by decide); have k6_ : (6 : Int32).toInt = 6 := (by decide); first | (unfold rBoth; rw [if_neg w1, if_pos w6]; all_goals first | (split <;> first | rfl | (exfalso; omega)) | rfl) | (unfold rBoth; (repeat' split) <;> first | rfl | (exfalso; omega))))⟩)
  by_cases w11 : x1.toInt = 8
  ·
    refine ft_swx mi_k160 (pc := 1) (v := 8) (t := 80) (kj_eq w11 (by decide) : x1 = 8) (by decide +kernel) ?_
    refine ft_go mi_k160 2 82 [(0, .int x1), (1, .int x2), (2, .int x3)] [.int x3, .int x2] i a q r (by rfl) ?_
    refine ft_if mi_k160 (decide (x3 ≤ x2)) 89 85 [(0, .int x1), (1, .int x2), (2, .int x3)] [] (by rfl) (fun c => ?_) (fun c => ?_)
    ·
      have c12 : x3.toInt ≤ x2.toInt := kd_le c; clear c
      refine ft_go mi_k160 1 90 [(0, .int x1), (1, .int x2), (2, .int x3)] [.int 0] i a q r (by rfl) ?_
      exact ft_ret mi_k160 (by rfl) (hP 0 ⟨trivial, (show (0 : Int32) = rBoth x1 x2 x3 from (by have k0_ : (0 : Int32).toInt = 0 := (by decide); have k6_ : (6 : Int32).toInt = 6 := (by decide); first | (unfold rBoth; rw [if_neg w1, if_neg w6, if_pos w11]; all_goals first | (split <;> first | rfl | (exfalso; omega)) | rfl) | (unfold rBoth; (repeat' split) <;> first | rfl | (exfalso; omega))))⟩)
    ·
      have c13 : x2.toInt < x3.toInt := kd_leF c; clear c
      refine ft_go mi_k160 2 90 [(0, .int x1), (1, .int x2), (2, .int x3)] [.int 1] i a q r (by rfl) ?_
      exact ft_ret mi_k160 (by rfl) (hP 1 ⟨trivial, (show (1 : Int32) = rBoth x1 x2 x3 from (by have k0_ : (0 : Int32).toInt = 0 := (by decide); have k6_ : (6 : Int32).toInt = 6 := (by decide); first | (unfold rBoth; rw [if_neg w1, if_neg w6, if_pos w11]; all_goals first | (split <;> first | rfl | (exfalso; omega)) | rfl) | (unfold rBoth; (repeat' split) <;> first | rfl | (exfalso; omega))))⟩)
  by_cases w14 : x1.toInt = 9
  ·
    refine ft_swx mi_k160 (pc := 1) (v := 9) (t := 91) (kj_eq w14 (by decide) : x1 = 9) (by decide +kernel) ?_
    refine ft_go mi_k160 2 93 [(0, .int x1), (1, .int x2), (2, .int x3)] [.int x3, .int x2] i a q r (by rfl) ?_
    refine ft_if mi_k160 (x2 != x3) 100 96 [(0, .int x1), (1, .int x2), (2, .int x3)] [] (by rfl) (fun c => ?_) (fun c => ?_)
    ·
      have c15 : x2.toInt ≠ x3.toInt := kd_ne c; clear c
      refine ft_go mi_k160 1 101 [(0, .int x1), (1, .int x2), (2, .int x3)] [.int 0] i a q r (by rfl) ?_
      exact ft_ret mi_k160 (by rfl) (hP 0 ⟨trivial, (show (0 : Int32) = rBoth x1 x2 x3 from (by have k0_ : (0 : Int32).toInt = 0 := (by decide); have k6_ : (6 : Int32).toInt = 6 := (by decide); first | (unfold rBoth; rw [if_neg w1, if_neg w6, if_neg w11, if_pos w14]; all_goals first | (split <;> first | rfl | (exfalso; omega)) | rfl) | (unfold rBoth; (repeat' split) <;> first | rfl | (exfalso; omega))))⟩)
    ·
      have c16 : x2.toInt = x3.toInt := kd_neF c; clear c
      refine ft_go mi_k160 2 101 [(0, .int x1), (1, .int x2), (2, .int x3)] [.int 1] i a q r (by rfl) ?_
      exact ft_ret mi_k160 (by rfl) (hP 1 ⟨trivial, (show (1 : Int32) = rBoth x1 x2 x3 from (by have k0_ : (0 : Int32).toInt = 0 := (by decide); have k6_ : (6 : Int32).toInt = 6 := (by decide); first | (unfold rBoth; rw [if_neg w1, if_neg w6, if_neg w11, if_pos w14]; all_goals first | (split <;> first | rfl | (exfalso; omega)) | rfl) | (unfold rBoth; (repeat' split) <;> first | rfl | (exfalso; omega))))⟩)
  by_cases w17 : x1.toInt = 10
  ·
    refine ft_swx mi_k160 (pc := 1) (v := 10) (t := 102) (kj_eq w17 (by decide) : x1 = 10) (by decide +kernel) ?_
    refine ft_go mi_k160 2 104 [(0, .int x1), (1, .int x2), (2, .int x3)] [.int x3, .int x2] i a q r (by rfl) ?_
    refine ft_if mi_k160 (decide (x2 ≤ x3)) 111 107 [(0, .int x1), (1, .int x2), (2, .int x3)] [] (by rfl) (fun c => ?_) (fun c => ?_)
    ·
      have c18 : x2.toInt ≤ x3.toInt := kd_le c; clear c
      refine ft_go mi_k160 1 112 [(0, .int x1), (1, .int x2), (2, .int x3)] [.int 0] i a q r (by rfl) ?_
      exact ft_ret mi_k160 (by rfl) (hP 0 ⟨trivial, (show (0 : Int32) = rBoth x1 x2 x3 from (by have k0_ : (0 : Int32).toInt = 0 := (by decide); have k6_ : (6 : Int32).toInt = 6 := (by decide); first | (unfold rBoth; rw [if_neg w1, if_neg w6, if_neg w11, if_neg w14, if_pos w17]; all_goals first | (split <;> first | rfl | (exfalso; omega)) | rfl) | (unfold rBoth; (repeat' split) <;> first | rfl | (exfalso; omega))))⟩)
    ·
      have c19 : x3.toInt < x2.toInt := kd_leF c; clear c
      refine ft_go mi_k160 2 112 [(0, .int x1), (1, .int x2), (2, .int x3)] [.int 1] i a q r (by rfl) ?_
      exact ft_ret mi_k160 (by rfl) (hP 1 ⟨trivial, (show (1 : Int32) = rBoth x1 x2 x3 from (by have k0_ : (0 : Int32).toInt = 0 := (by decide); have k6_ : (6 : Int32).toInt = 6 := (by decide); first | (unfold rBoth; rw [if_neg w1, if_neg w6, if_neg w11, if_neg w14, if_pos w17]; all_goals first | (split <;> first | rfl | (exfalso; omega)) | rfl) | (unfold rBoth; (repeat' split) <;> first | rfl | (exfalso; omega))))⟩)
  by_cases w20 : x1.toInt = 11
  ·
    refine ko_eq (x1 := (1, [(0, .int x1), (1, .int x2), (2, .int x3)], [.int 11], (0, 0), ks i a q r)) (by rw [(kj_eq w20 (by decide) : x1 = 11)]) ?_
    have b21 : ((-2147483648 : Int) ≤ x2.toInt) ∧ (x2.toInt ≤ 2147483647) := kd_bd x2
    have b22 : ((-2147483648 : Int) ≤ x3.toInt) ∧ (x3.toInt ≤ 2147483647) := kd_bd x3
    refine ft_go mi_k160 4 116 [(0, .int x1), (1, .int x2), (2, .int x3)] [.int (x2 + x3)] i a q r (by rfl) ?_
    exact ft_ret mi_k160 (by rfl) (hP (x2 + x3) ⟨trivial, (show (x2 + x3) = rBoth x1 x2 x3 from (by have k0_ : (0 : Int32).toInt = 0 := (by decide); have k6_ : (6 : Int32).toInt = 6 := (by decide); first | (unfold rBoth; rw [if_neg w1, if_neg w6, if_neg w11, if_neg w14, if_neg w17, if_pos w20]; all_goals first | (split <;> first | rfl | (exfalso; omega)) | rfl) | (unfold rBoth; (repeat' split) <;> first | rfl | (exfalso; omega))))⟩)
  by_cases w23 : x1.toInt = 12
  ·
    refine ko_eq (x1 := (1, [(0, .int x1), (1, .int x2), (2, .int x3)], [.int 12], (0, 0), ks i a q r)) (by rw [(kj_eq w23 (by decide) : x1 = 12)]) ?_
    have b24 : ((-2147483648 : Int) ≤ x2.toInt) ∧ (x2.toInt ≤ 2147483647) := kd_bd x2
    have b25 : ((-2147483648 : Int) ≤ x3.toInt) ∧ (x3.toInt ≤ 2147483647) := kd_bd x3
    refine ft_go mi_k160 4 120 [(0, .int x1), (1, .int x2), (2, .int x3)] [.int (x2 - x3)] i a q r (by rfl) ?_
    exact ft_ret mi_k160 (by rfl) (hP (x2 - x3) ⟨trivial, (show (x2 - x3) = rBoth x1 x2 x3 from (by have k0_ : (0 : Int32).toInt = 0 := (by decide); have k6_ : (6 : Int32).toInt = 6 := (by decide); first | (unfold rBoth; rw [if_neg w1, if_neg w6, if_neg w11, if_neg w14, if_neg w17, if_neg w20, if_pos w23]; all_goals first | (split <;> first | rfl | (exfalso; omega)) | rfl) | (unfold rBoth; (repeat' split) <;> first | rfl | (exfalso; omega))))⟩)
  by_cases w26 : x1.toInt = 13
  ·
    refine ft_swx mi_k160 (pc := 1) (v := 13) (t := 121) (kj_eq w26 (by decide) : x1 = 13) (by decide +kernel) ?_
    refine ft_go mi_k160 3 124 [(0, .int x1), (1, .int x2), (2, .int x3)] [.int (x2 * x3)] i a q r (by rfl) ?_
    exact ft_ret mi_k160 (by rfl) (hP (x2 * x3) ⟨trivial, (show (x2 * x3) = rBoth x1 x2 x3 from (by have k0_ : (0 : Int32).toInt = 0 := (by decide); have k6_ : (6 : Int32).toInt = 6 := (by decide); first | (unfold rBoth; rw [if_neg w1, if_neg w6, if_neg w11, if_neg w14, if_neg w17, if_neg w20, if_neg w23, if_pos w26]; all_goals first | (split <;> first | rfl | (exfalso; omega)) | rfl) | (unfold rBoth; (repeat' split) <;> first | rfl | (exfalso; omega))))⟩)
  by_cases w27 : x1.toInt = 14
  ·
    refine ft_swx mi_k160 (pc := 1) (v := 14) (t := 125) (kj_eq w27 (by decide) : x1 = 14) (by decide +kernel) ?_
    refine ft_go mi_k160 1 126 [(0, .int x1), (1, .int x2), (2, .int x3)] [.int x3] i a q r (by rfl) ?_
    refine ft_if mi_k160 (x3 != 0) 133 129 [(0, .int x1), (1, .int x2), (2, .int x3)] [] (by rfl) (fun c => ?_) (fun c => ?_)
    ·
      have c28 : x3.toInt ≠ (0 : Int32).toInt := kd_ne c; clear c
      refine ft_go mi_k160 2 135 [(0, .int x1), (1, .int x2), (2, .int x3)] [.int x3, .int x2] i a q r (by rfl) ?_
      refine ko_idiv mi_k160.1 (ax := (0, 0, 0, 0, 0)) (mi_k160.2 _ _ (by rfl)) (og0 c28 kog0) ?_
      exact ft_ret mi_k160 (by rfl) (hP (x2 / x3) ⟨trivial, (show (x2 / x3) = rBoth x1 x2 x3 from (by have k0_ : (0 : Int32).toInt = 0 := (by decide); have k6_ : (6 : Int32).toInt = 6 := (by decide); first | (unfold rBoth; rw [if_neg w1, if_neg w6, if_neg w11, if_neg w14, if_neg w17, if_neg w20, if_neg w23, if_neg w26, if_pos w27]; all_goals first | (split <;> first | rfl | (exfalso; omega)) | rfl) | (unfold rBoth; (repeat' split) <;> first | rfl | (exfalso; omega))))⟩)
    ·
      have c29 : x3.toInt = (0 : Int32).toInt := kd_neF c; clear c
      refine ft_go mi_k160 2 136 [(0, .int x1), (1, .int x2), (2, .int x3)] [.int 0] i a q r (by rfl) ?_
      exact ft_ret mi_k160 (by rfl) (hP 0 ⟨trivial, (show (0 : Int32) = rBoth x1 x2 x3 from (by have k0_ : (0 : Int32).toInt = 0 := (by decide); have k6_ : (6 : Int32).toInt = 6 := (by decide); first | (unfold rBoth; rw [if_neg w1, if_neg w6, if_neg w11, if_neg w14, if_neg w17, if_neg w20, if_neg w23, if_neg w26, if_pos w27]; all_goals first | (split <;> first | rfl | (exfalso; omega)) | rfl) | (unfold rBoth; (repeat' split) <;> first | rfl | (exfalso; omega))))⟩)
  refine ko_sw (ls := [(0, .int x1), (1, .int x2), (2, .int x3)]) (r := []) (h := ks i a q r) mi_in160 (v := x1) (i := (.tableswitch 136 6 14 #[51, 65, 79, 90, 101, 112, 116, 120, 124], 51, 0, 0, 0, 0, 0)) (by rfl) rfl (og1 w1 w6 w11 w14 w17 w20 w23 w26 w27) 137 (by rfl) ?_
  refine ft_go mi_k160 1 138 [(0, .int x1), (1, .int x2), (2, .int x3)] [.int x3] i a q r (by rfl) ?_
  refine ft_if mi_k160 (x3 != 0) 145 141 [(0, .int x1), (1, .int x2), (2, .int x3)] [] (by rfl) (fun c => ?_) (fun c => ?_)
  ·
    have c30 : x3.toInt ≠ (0 : Int32).toInt := kd_ne c; clear c
    refine ft_go mi_k160 2 147 [(0, .int x1), (1, .int x2), (2, .int x3)] [.int x3, .int x2] i a q r (by rfl) ?_
    refine ko_irem mi_k160.1 (ax := (0, 0, 0, 0, 0)) (mi_k160.2 _ _ (by rfl)) (og0 c30 kog0) ?_
    exact ft_ret mi_k160 (by rfl) (hP (x2 - x2 / x3 * x3) ⟨trivial, (show (x2 - x2 / x3 * x3) = rBoth x1 x2 x3 from (by have k0_ : (0 : Int32).toInt = 0 := (by decide); have k6_ : (6 : Int32).toInt = 6 := (by decide); first | (unfold rBoth; rw [if_neg w1, if_neg w6, if_neg w11, if_neg w14, if_neg w17, if_neg w20, if_neg w23, if_neg w26, if_neg w27]; all_goals first | (split <;> first | rfl | (exfalso; omega)) | rfl) | (unfold rBoth; (repeat' split) <;> first | rfl | (exfalso; omega))))⟩)
  ·
    have c31 : x3.toInt = (0 : Int32).toInt := kd_neF c; clear c
    refine ft_go mi_k160 2 148 [(0, .int x1), (1, .int x2), (2, .int x3)] [.int 0] i a q r (by rfl) ?_
    exact ft_ret mi_k160 (by rfl) (hP 0 ⟨trivial, (show (0 : Int32) = rBoth x1 x2 x3 from (by have k0_ : (0 : Int32).toInt = 0 := (by decide); have k6_ : (6 : Int32).toInt = 6 := (by decide); first | (unfold rBoth; rw [if_neg w1, if_neg w6, if_neg w11, if_neg w14, if_neg w17, if_neg w20, if_neg w23, if_neg w26, if_neg w27]; all_goals first | (split <;> first | rfl | (exfalso; omega)) | rfl) | (unfold rBoth; (repeat' split) <;> first | rfl | (exfalso; omega))))⟩)
def yw161_116 : kW := ([], [128], [], [])
def yw161_116_L5 : kW := ([], [128], [], [])
set_option maxRecDepth 100000 in
theorem ke161_116 {i : Nat → Int32} {a : Nat → List Int32} {q : Nat → List Int64} {r : Nat → Nat} (hI : kI i a q) (hr : kr r) (x1 : Int32) (x2 : Int32) (hS : kSeg (a 123) x1.toInt x2.toInt) : km 3 161 [.ref 116, .int x1, .int x2] (ks i a q r) (kVI yw161_116 i a q r (fun v i1 a1 q1 r1 => (True) ∧ v = wVal (a 123) (a 129) x1 x2)) := by
  have hG := kG_self yw161_116 hI hr
  refine km_ofI (q := (mi_h161, mi_c161)) rfl (by decide) (Nat.le_of_ble_eq_true rfl) ?_
  intro P hP
  have hs1 : (0 : Int) ≤ x1.toInt := hS.1
  have hs2 : x1.toInt ≤ x2.toInt := hS.2.1
  have hs3 : x2.toInt ≤ 200 := hS.2.2.1
  refine ft_go mi_k161 4 5 [(4, .int x1), (3, .int 0), (0, .ref 116), (1, .int x1), (2, .int x2)] [] i a q r (by rfl) ?_
  have lp4 : ∀ (nz : Nat) (i4 : Nat → Int32) (a4 : Nat → List Int32) (q4 : Nat → List Int64) (r4 : Nat → Nat) (l4_4 : Int32) (l3_4 : Int32), kG yw161_116_L5 i a q r i4 a4 q4 r4 → x1.toInt ≤ l4_4.toInt → ((0 : Int) ≤ l3_4.toInt) ∧ (l3_4.toInt ≤ 200) → l4_4.toInt ≤ x2.toInt → kWk (a4 123) x1.toInt l4_4.toInt l3_4.toInt → (a4 128).take l3_4.toInt.toNat = wRun (a 123) (a 129) x1.toInt.toNat (l4_4.toInt - x1.toInt).toNat → ((x2.toInt - l4_4.toInt)).toNat < nz → ko 3 (mi_h161, mi_c161) P (5, [(4, .int l4_4), (3, .int l3_4), (0, .ref 116), (1, .int x1), (2, .int x2)], [], (0, 0), ks i4 a4 q4 r4) := by
    intro nz
    induction nz with
    | zero =>
      intro _ _ _ _ _ _ _ _ _ _ _ _ hm
      exact absurd hm (Nat.not_lt_zero _)
    | succ nz ih4 =>
      intro i4 a4 q4 r4 l4_4 l3_4 hL4 p4_0 p4_1 p4_2 O4_0 O4_1 hm4
      have hS5 : kSeg (a4 123) x1.toInt x2.toInt := kSeg_cast hS (hL4.fa 123 rfl)
      refine ft_go mi_k161 2 8 [(4, .int l4_4), (3, .int l3_4), (0, .ref 116), (1, .int x1), (2, .int x2)] [.int x2, .int l4_4] i4 a4 q4 r4 (by rfl) ?_
      refine ft_if mi_k161 (decide (x2 ≤ l4_4)) 163 11 [(4, .int l4_4), (3, .int l3_4), (0, .ref 116), (1, .int x1), (2, .int x2)] [] (by rfl) (fun c => ?_) (fun c => ?_)
      ·
        have c6 : x2.toInt ≤ l4_4.toInt := kd_le c; clear c
        have hG7 := kG_call hG hL4 (by decide +kernel)
        refine ft_go mi_k161 3 168 [(4, .int l4_4), (3, .int l3_4), (0, .ref 116), (1, .int x1), (2, .int x2)] [.int 0, .ref 128] i4 a4 q4 r4 (by rfl) ?_
        refine ko_iald3 mi_k161.1 (n := 200) (c := 200) (ax := (0, 0, 0, 0, 0)) (mi_k161.2 _ _ (by rfl)) (by rfl) (ksG128 _ _ _ _) (hG7.I.2.1 128) rfl (og2 kog0) (og3 kog0) ?_
        exact ft_ret mi_k161 (by rfl) (hP ((a4 128).getD (0 : Int32).toNatClampNeg 0) _ _ _ _ hG7 ⟨trivial, (show ((a4 128).getD (0 : Int32).toNatClampNeg 0) = wVal (a 123) (a 129) x1 x2 from (wS_end O4_1 (Int.le_of_eq (kWk_end hS5 O4_0 (og4 c6 p4_2)).symm) (og5 c6 p4_2)))⟩)
      ·
        have c8 : l4_4.toInt < x2.toInt := kd_leF c; clear c
        refine ft_go mi_k161 3 17 [(4, .int l4_4), (3, .int l3_4), (0, .ref 116), (1, .int x1), (2, .int x2)] [.int l4_4, .ref 123] i4 a4 q4 r4 (by rfl) ?_
        refine ko_iald3 mi_k161.1 (n := 200) (c := 200) (ax := (0, 0, 0, 0, 0)) (mi_k161.2 _ _ (by rfl)) (by rfl) (ksG123 _ _ _ _) (hL4.I.2.1 123) rfl (og6 hs1 p4_0) (og7 c8 hs3) ?_
        have wf9 : ((0 : Int) ≤ ((a4 123).getD l4_4.toNatClampNeg 0).toInt) ∧ (((((a4 123).getD l4_4.toNatClampNeg 0).toInt = 16 ∨ ((a4 123).getD l4_4.toNatClampNeg 0).toInt = 17) → (1 : Int) ≤ l3_4.toInt)) ∧ (((6 ≤ ((a4 123).getD l4_4.toNatClampNeg 0).toInt ∧ ((a4 123).getD l4_4.toNatClampNeg 0).toInt ≤ 15) → (2 : Int) ≤ l3_4.toInt)) ∧ (l3_4.toInt ≤ l4_4.toInt) := kWk_facts hS5 O4_0 rfl (og8 c8)
        refine ft_go mi_k161 3 24 [(5, .int ((a4 123).getD l4_4.toNatClampNeg 0)), (4, .int l4_4), (3, .int l3_4), (0, .ref 116), (1, .int x1), (2, .int x2)] [.int 18, .int ((a4 123).getD l4_4.toNatClampNeg 0)] i4 a4 q4 r4 (by rfl) ?_
        refine ft_if mi_k161 (decide (18 ≤ ((a4 123).getD l4_4.toNatClampNeg 0))) 33 27 [(5, .int ((a4 123).getD l4_4.toNatClampNeg 0)), (4, .int l4_4), (3, .int l3_4), (0, .ref 116), (1, .int x1), (2, .int x2)] [] (by rfl) (fun c => ?_) (fun c => ?_)
        ·
          have c10 : (18 : Int32).toInt ≤ ((a4 123).getD l4_4.toNatClampNeg 0).toInt := kd_le c; clear c
          have s11 : (l3_4 + 1).toInt = l3_4.toInt + (1 : Int32).toInt := kd_add (og9 p4_1.1 kog1) (og10 p4_1.2 kog1)
          refine ft_go mi_k161 6 45 [(3, .int (l3_4 + 1)), (5, .int ((a4 123).getD l4_4.toNatClampNeg 0)), (4, .int l4_4), (0, .ref 116), (1, .int x1), (2, .int x2)] [.int 18, .int ((a4 123).getD l4_4.toNatClampNeg 0), .int l3_4, .ref 128] i4 a4 q4 r4 (by rfl) ?_
          refine ft_if mi_k161 (decide (((a4 123).getD l4_4.toNatClampNeg 0) < 18)) 56 48 [(3, .int (l3_4 + 1)), (5, .int ((a4 123).getD l4_4.toNatClampNeg 0)), (4, .int l4_4), (0, .ref 116), (1, .int x1), (2, .int x2)] [.int l3_4, .ref 128] (by rfl) (fun c => ?_) (fun c => ?_)
          ·
            have c12 : ((a4 123).getD l4_4.toNatClampNeg 0).toInt < (18 : Int32).toInt := kd_lt c; clear c
            exact (og11 c10 c12 kog18).elim
          ·
            have c13 : (18 : Int32).toInt ≤ ((a4 123).getD l4_4.toNatClampNeg 0).toInt := kd_ltF c; clear c
            have b14 : ((-2147483648 : Int) ≤ ((a4 123).getD l4_4.toNatClampNeg 0).toInt) ∧ (((a4 123).getD l4_4.toNatClampNeg 0).toInt ≤ 2147483647) := kd_bd ((a4 123).getD l4_4.toNatClampNeg 0)
            have s15 : (((a4 123).getD l4_4.toNatClampNeg 0) - 18).toInt = ((a4 123).getD l4_4.toNatClampNeg 0).toInt - (18 : Int32).toInt := kd_sub (og12 c10 kog18) (og13 b14.2 kog18)
            refine ft_go mi_k161 4 63 [(3, .int (l3_4 + 1)), (5, .int ((a4 123).getD l4_4.toNatClampNeg 0)), (4, .int l4_4), (0, .ref 116), (1, .int x1), (2, .int x2)] [.int (((a4 123).getD l4_4.toNatClampNeg 0) - 18), .int l3_4, .ref 128] i4 a4 q4 r4 (by rfl) ?_
            refine ko_iast3 mi_k161.1 (n := 200) (c := 200) (ax := (0, 0, 0, 0, 0)) (mi_k161.2 _ _ (by rfl)) (by rfl) (ksG128 _ _ _ _) (ksA128 _ _ _ _) (hL4.I.2.1 128) rfl (og14 p4_1.1) (og15 c8 hs3 wf9.2.2.2) ?_
            intro a16 ea16 fa16
            have hJ16 := kG_a3 hL4 128 rfl ea16 fa16 (kd_bd _)
            have s17 : (l4_4 + 1).toInt = l4_4.toInt + (1 : Int32).toInt := kd_add (og16 hs1 p4_0 kog1) (og17 c8 hs3 kog1)
            refine ft_go mi_k161 3 5 [(4, .int (l4_4 + 1)), (3, .int (l3_4 + 1)), (5, .int ((a4 123).getD l4_4.toNatClampNeg 0)), (0, .ref 116), (1, .int x1), (2, .int x2)] [] i4 a16 q4 r4 (by rfl) ?_
            refine ko_perm [(4, .int (l4_4 + 1)), (3, .int (l3_4 + 1)), (0, .ref 116), (1, .int x1), (2, .int x2)] (List.forall_mem_cons.mpr ⟨(List.Mem.head _), (List.forall_mem_cons.mpr ⟨(List.Mem.tail _ (List.Mem.head _)), (List.forall_mem_cons.mpr ⟨(List.Mem.tail _ (List.Mem.tail _ (List.Mem.tail _ (List.Mem.head _)))), (List.forall_mem_cons.mpr ⟨(List.Mem.tail _ (List.Mem.tail _ (List.Mem.tail _ (List.Mem.tail _ (List.Mem.head _))))), (List.forall_mem_cons.mpr ⟨(List.Mem.tail _ (List.Mem.tail _ (List.Mem.tail _ (List.Mem.tail _ (List.Mem.tail _ (List.Mem.head _)))))), (fun _ h => absurd h List.not_mem_nil)⟩)⟩)⟩)⟩)⟩) ?_
            exact ih4 _ _ _ _ _ _ hJ16 (og18 p4_0 s17 kog1) (og19 c8 hs3 p4_1.1 s11 wf9.2.2.2 kog1) (og20 c8 s17 kog1) (kWk_cast (kWk_next hS5 O4_0 rfl (og8 c8) (og22 s17 kog1) (og21 c10 s11 kog18 kog1)) (fa16 123 (by decide))) (wS_push (c := ((a4 123).getD l4_4.toNatClampNeg 0)) O4_1 (hL4.I.2.1 128) (og14 p4_1.1) (og15 c8 hs3 wf9.2.2.2) (og14 hs1) (og23 p4_0) (congrArg (fun z : List Int32 => z.getD l4_4.toNatClampNeg 0) (hL4.fa 123 rfl)) (og25 c10 kog18) (if_pos (og26 c10 kog18)).symm (ea16) (og22 s11 kog1) (og22 s17 kog1)) (kj_meas (og27 s17 kog1) (og28 c8) hm4)
        ·
          have c18 : ((a4 123).getD l4_4.toNatClampNeg 0).toInt < (18 : Int32).toInt := kd_leF c; clear c
          refine ft_go mi_k161 2 30 [(5, .int ((a4 123).getD l4_4.toNatClampNeg 0)), (4, .int l4_4), (3, .int l3_4), (0, .ref 116), (1, .int x1), (2, .int x2)] [.int 5, .int ((a4 123).getD l4_4.toNatClampNeg 0)] i4 a4 q4 r4 (by rfl) ?_
          refine ft_if mi_k161 (decide (5 < ((a4 123).getD l4_4.toNatClampNeg 0))) 67 33 [(5, .int ((a4 123).getD l4_4.toNatClampNeg 0)), (4, .int l4_4), (3, .int l3_4), (0, .ref 116), (1, .int x1), (2, .int x2)] [] (by rfl) (fun c => ?_) (fun c => ?_)
          ·
            have c19 : (5 : Int32).toInt < ((a4 123).getD l4_4.toNatClampNeg 0).toInt := kd_lt c; clear c
            refine ft_go mi_k161 2 71 [(5, .int ((a4 123).getD l4_4.toNatClampNeg 0)), (4, .int l4_4), (3, .int l3_4), (0, .ref 116), (1, .int x1), (2, .int x2)] [.int 16, .int ((a4 123).getD l4_4.toNatClampNeg 0)] i4 a4 q4 r4 (by rfl) ?_
            refine ft_if mi_k161 (((a4 123).getD l4_4.toNatClampNeg 0) == 16) 81 74 [(5, .int ((a4 123).getD l4_4.toNatClampNeg 0)), (4, .int l4_4), (3, .int l3_4), (0, .ref 116), (1, .int x1), (2, .int x2)] [] (by rfl) (fun c => ?_) (fun c => ?_)
            ·
              have c20 : ((a4 123).getD l4_4.toNatClampNeg 0).toInt = (16 : Int32).toInt := kd_eq c; clear c
              have s21 : (l3_4 - 1).toInt = l3_4.toInt - (1 : Int32).toInt := kd_sub (og29 p4_1.1 kog1) (og30 p4_1.2 kog1)
              refine ft_go mi_k161 7 92 [(5, .int ((a4 123).getD l4_4.toNatClampNeg 0)), (4, .int l4_4), (3, .int l3_4), (0, .ref 116), (1, .int x1), (2, .int x2)] [.int 17, .int ((a4 123).getD l4_4.toNatClampNeg 0), .int (l3_4 - 1), .ref 128] i4 a4 q4 r4 (by rfl) ?_
              refine ft_if mi_k161 (((a4 123).getD l4_4.toNatClampNeg 0) != 17) 107 95 [(5, .int ((a4 123).getD l4_4.toNatClampNeg 0)), (4, .int l4_4), (3, .int l3_4), (0, .ref 116), (1, .int x1), (2, .int x2)] [.int (l3_4 - 1), .ref 128] (by rfl) (fun c => ?_) (fun c => ?_)
              ·
                have c22 : ((a4 123).getD l4_4.toNatClampNeg 0).toInt ≠ (17 : Int32).toInt := kd_ne c; clear c
                refine ft_go mi_k161 5 114 [(5, .int ((a4 123).getD l4_4.toNatClampNeg 0)), (4, .int l4_4), (3, .int l3_4), (0, .ref 116), (1, .int x1), (2, .int x2)] [.int (l3_4 - 1), .ref 128, .int (l3_4 - 1), .ref 128] i4 a4 q4 r4 (by rfl) ?_
                refine ko_iald3 mi_k161.1 (n := 200) (c := 200) (ax := (0, 0, 0, 0, 0)) (mi_k161.2 _ _ (by rfl)) (by rfl) (ksG128 _ _ _ _) (hL4.I.2.1 128) rfl (og31 c18 c20 s21 wf9.2.1 kog18 kog16 kog1) (og32 p4_1.2 s21 kog1) ?_
                refine ft_if mi_k161 (((a4 128).getD (l3_4 - 1).toNatClampNeg 0) != 0) 122 118 [(5, .int ((a4 123).getD l4_4.toNatClampNeg 0)), (4, .int l4_4), (3, .int l3_4), (0, .ref 116), (1, .int x1), (2, .int x2)] [.int (l3_4 - 1), .ref 128] (by rfl) (fun c => ?_) (fun c => ?_)
                ·
                  have c23 : ((a4 128).getD (l3_4 - 1).toNatClampNeg 0).toInt ≠ (0 : Int32).toInt := kd_ne c; clear c
                  refine ft_go mi_k161 1 123 [(5, .int ((a4 123).getD l4_4.toNatClampNeg 0)), (4, .int l4_4), (3, .int l3_4), (0, .ref 116), (1, .int x1), (2, .int x2)] [.int 0, .int (l3_4 - 1), .ref 128] i4 a4 q4 r4 (by rfl) ?_
                  refine ko_iast3 mi_k161.1 (n := 200) (c := 200) (ax := (0, 0, 0, 0, 0)) (mi_k161.2 _ _ (by rfl)) (by rfl) (ksG128 _ _ _ _) (ksA128 _ _ _ _) (hL4.I.2.1 128) rfl (og31 c18 c20 s21 wf9.2.1 kog18 kog16 kog1) (og32 p4_1.2 s21 kog1) ?_
                  intro a24 ea24 fa24
                  have hJ24 := kG_a3 hL4 128 rfl ea24 fa24 (kd_bd _)
                  have s25 : (l4_4 + 1).toInt = l4_4.toInt + (1 : Int32).toInt := kd_add (og16 hs1 p4_0 kog1) (og17 c8 hs3 kog1)
                  refine ft_go mi_k161 3 5 [(4, .int (l4_4 + 1)), (5, .int ((a4 123).getD l4_4.toNatClampNeg 0)), (3, .int l3_4), (0, .ref 116), (1, .int x1), (2, .int x2)] [] i4 a24 q4 r4 (by rfl) ?_
                  refine ko_perm [(4, .int (l4_4 + 1)), (3, .int l3_4), (0, .ref 116), (1, .int x1), (2, .int x2)] (List.forall_mem_cons.mpr ⟨(List.Mem.head _), (List.forall_mem_cons.mpr ⟨(List.Mem.tail _ (List.Mem.tail _ (List.Mem.head _))), (List.forall_mem_cons.mpr ⟨(List.Mem.tail _ (List.Mem.tail _ (List.Mem.tail _ (List.Mem.head _)))), (List.forall_mem_cons.mpr ⟨(List.Mem.tail _ (List.Mem.tail _ (List.Mem.tail _ (List.Mem.tail _ (List.Mem.head _))))), (List.forall_mem_cons.mpr ⟨(List.Mem.tail _ (List.Mem.tail _ (List.Mem.tail _ (List.Mem.tail _ (List.Mem.tail _ (List.Mem.head _)))))), (fun _ h => absurd h List.not_mem_nil)⟩)⟩)⟩)⟩)⟩) ?_
                  exact ih4 _ _ _ _ _ _ hJ24 (og18 p4_0 s25 kog1) (og33 p4_1.1 p4_1.2) (og20 c8 s25 kog1) (kWk_cast (kWk_next hS5 O4_0 rfl (og8 c8) (og22 s25 kog1) (og34 c18 c20 kog18 kog16)) (fa24 123 (by decide))) (wS_un (c := ((a4 123).getD l4_4.toNatClampNeg 0)) (y := (l3_4 - 1)) O4_1 (hL4.I.2.1 128) (og38 c18 c20 wf9.2.1 kog18 kog16) (og24 p4_1.2) (og14 hs1) (og23 p4_0) (congrArg (fun z : List Int32 => z.getD l4_4.toNatClampNeg 0) (hL4.fa 123 rfl)) (og35 c20 kog16) (og39 s21 kog1) ((if_neg (og36 c20 kog16)).trans (if_neg (og37 c23 kog0))).symm (ea24) og40 (og22 s25 kog1)) (kj_meas (og27 s25 kog1) (og28 c8) hm4)
                ·
                  have c26 : ((a4 128).getD (l3_4 - 1).toNatClampNeg 0).toInt = (0 : Int32).toInt := kd_neF c; clear c
                  refine ft_go mi_k161 2 123 [(5, .int ((a4 123).getD l4_4.toNatClampNeg 0)), (4, .int l4_4), (3, .int l3_4), (0, .ref 116), (1, .int x1), (2, .int x2)] [.int 1, .int (l3_4 - 1), .ref 128] i4 a4 q4 r4 (by rfl) ?_
                  refine ko_iast3 mi_k161.1 (n := 200) (c := 200) (ax := (0, 0, 0, 0, 0)) (mi_k161.2 _ _ (by rfl)) (by rfl) (ksG128 _ _ _ _) (ksA128 _ _ _ _) (hL4.I.2.1 128) rfl (og31 c18 c20 s21 wf9.2.1 kog18 kog16 kog1) (og32 p4_1.2 s21 kog1) ?_
                  intro a27 ea27 fa27
                  have hJ27 := kG_a3 hL4 128 rfl ea27 fa27 (kd_bd _)
                  have s28 : (l4_4 + 1).toInt = l4_4.toInt + (1 : Int32).toInt := kd_add (og16 hs1 p4_0 kog1) (og17 c8 hs3 kog1)
                  refine ft_go mi_k161 3 5 [(4, .int (l4_4 + 1)), (5, .int ((a4 123).getD l4_4.toNatClampNeg 0)), (3, .int l3_4), (0, .ref 116), (1, .int x1), (2, .int x2)] [] i4 a27 q4 r4 (by rfl) ?_
                  refine ko_perm [(4, .int (l4_4 + 1)), (3, .int l3_4), (0, .ref 116), (1, .int x1), (2, .int x2)] (List.forall_mem_cons.mpr ⟨(List.Mem.head _), (List.forall_mem_cons.mpr ⟨(List.Mem.tail _ (List.Mem.tail _ (List.Mem.head _))), (List.forall_mem_cons.mpr ⟨(List.Mem.tail _ (List.Mem.tail _ (List.Mem.tail _ (List.Mem.head _)))), (List.forall_mem_cons.mpr ⟨(List.Mem.tail _ (List.Mem.tail _ (List.Mem.tail _ (List.Mem.tail _ (List.Mem.head _))))), (List.forall_mem_cons.mpr ⟨(List.Mem.tail _ (List.Mem.tail _ (List.Mem.tail _ (List.Mem.tail _ (List.Mem.tail _ (List.Mem.head _)))))), (fun _ h => absurd h List.not_mem_nil)⟩)⟩)⟩)⟩)⟩) ?_
                  exact ih4 _ _ _ _ _ _ hJ27 (og18 p4_0 s28 kog1) (og33 p4_1.1 p4_1.2) (og20 c8 s28 kog1) (kWk_cast (kWk_next hS5 O4_0 rfl (og8 c8) (og22 s28 kog1) (og34 c18 c20 kog18 kog16)) (fa27 123 (by decide))) (wS_un (c := ((a4 123).getD l4_4.toNatClampNeg 0)) (y := (l3_4 - 1)) O4_1 (hL4.I.2.1 128) (og38 c18 c20 wf9.2.1 kog18 kog16) (og24 p4_1.2) (og14 hs1) (og23 p4_0) (congrArg (fun z : List Int32 => z.getD l4_4.toNatClampNeg 0) (hL4.fa 123 rfl)) (og35 c20 kog16) (og39 s21 kog1) ((if_neg (og36 c20 kog16)).trans (if_pos (og41 c26 kog0))).symm (ea27) og40 (og22 s28 kog1)) (kj_meas (og27 s28 kog1) (og28 c8) hm4)
              ·
                have c29 : ((a4 123).getD l4_4.toNatClampNeg 0).toInt = (17 : Int32).toInt := kd_neF c; clear c
                exact (og42 c20 c29 kog16 kog17).elim
            ·
              have c30 : ((a4 123).getD l4_4.toNatClampNeg 0).toInt ≠ (16 : Int32).toInt := kd_eqF c; clear c
              refine ft_go mi_k161 2 78 [(5, .int ((a4 123).getD l4_4.toNatClampNeg 0)), (4, .int l4_4), (3, .int l3_4), (0, .ref 116), (1, .int x1), (2, .int x2)] [.int 17, .int ((a4 123).getD l4_4.toNatClampNeg 0)] i4 a4 q4 r4 (by rfl) ?_
              refine ft_if mi_k161 (((a4 123).getD l4_4.toNatClampNeg 0) != 17) 127 81 [(5, .int ((a4 123).getD l4_4.toNatClampNeg 0)), (4, .int l4_4), (3, .int l3_4), (0, .ref 116), (1, .int x1), (2, .int x2)] [] (by rfl) (fun c => ?_) (fun c => ?_)
              ·
                have c31 : ((a4 123).getD l4_4.toNatClampNeg 0).toInt ≠ (17 : Int32).toInt := kd_ne c; clear c
                have s32 : (l3_4 + (-1)).toInt = l3_4.toInt + ((-1) : Int32).toInt := kd_add (og43 p4_1.1 kogm1) (og44 p4_1.2 kogm1)
                have s33 : ((l3_4 + (-1)) - 1).toInt = (l3_4 + (-1)).toInt - (1 : Int32).toInt := kd_sub (og45 p4_1.1 s32 kogm1 kog1) (og46 p4_1.2 s32 kogm1 kog1)
                refine ft_go mi_k161 12 146 [(3, .int (l3_4 + (-1))), (5, .int ((a4 123).getD l4_4.toNatClampNeg 0)), (4, .int l4_4), (0, .ref 116), (1, .int x1), (2, .int x2)] [.int ((l3_4 + (-1)) - 1), .ref 128, .int ((a4 123).getD l4_4.toNatClampNeg 0), .int ((l3_4 + (-1)) - 1), .ref 128] i4 a4 q4 r4 (by rfl) ?_
                refine ko_iald3 mi_k161.1 (n := 200) (c := 200) (ax := (0, 0, 0, 0, 0)) (mi_k161.2 _ _ (by rfl)) (by rfl) (ksG128 _ _ _ _) (hL4.I.2.1 128) rfl (og47 c18 c19 c30 c31 s32 s33 wf9.2.2.1 kog18 kog5 kog16 kog17 kogm1 kog1) (og48 p4_1.2 s32 s33 kogm1 kog1) ?_
                refine ft_go mi_k161 3 152 [(3, .int (l3_4 + (-1))), (5, .int ((a4 123).getD l4_4.toNatClampNeg 0)), (4, .int l4_4), (0, .ref 116), (1, .int x1), (2, .int x2)] [.int (l3_4 + (-1)), .ref 128, .int ((a4 128).getD ((l3_4 + (-1)) - 1).toNatClampNeg 0), .int ((a4 123).getD l4_4.toNatClampNeg 0), .int ((l3_4 + (-1)) - 1), .ref 128] i4 a4 q4 r4 (by rfl) ?_
                refine ko_iald3 mi_k161.1 (n := 200) (c := 200) (ax := (0, 0, 0, 0, 0)) (mi_k161.2 _ _ (by rfl)) (by rfl) (ksG128 _ _ _ _) (hL4.I.2.1 128) rfl (og49 c18 c19 s32 wf9.2.1 wf9.2.2.1 kog18 kog5 kogm1) (og50 p4_1.2 s32 kogm1) ?_
                refine ko_callPI mi_k161.1 (pc := 153) (ls := [(3, .int (l3_4 + (-1))), (5, .int ((a4 123).getD l4_4.toNatClampNeg 0)), (4, .int l4_4), (0, .ref 116), (1, .int x1), (2, .int x2)]) (st := [.int ((a4 128).getD (l3_4 + (-1)).toNatClampNeg 0), .int ((a4 128).getD ((l3_4 + (-1)) - 1).toNatClampNeg 0), .int ((a4 123).getD l4_4.toNatClampNeg 0), .int ((l3_4 + (-1)) - 1), .ref 128]) (h := ks i4 a4 q4 r4) (i := (.invokestatic 221, 3, 160, 0, 9, 0, 421)) (mi_k161.2 _ _ (by rfl)) (ft_invS mi_pq160 (by rfl)) (cy := mi_c160) mi_pq160 rfl (ke160 hL4.I hL4.R ((a4 123).getD l4_4.toNatClampNeg 0) ((a4 128).getD ((l3_4 + (-1)) - 1).toNatClampNeg 0) ((a4 128).getD (l3_4 + (-1)).toNatClampNeg 0)) (by decide) ?_
                intro vg34 hg34
                obtain ⟨hg34, og34⟩ := hg34
                have q35 : vg34 = rBoth ((a4 123).getD l4_4.toNatClampNeg 0) ((a4 128).getD ((l3_4 + (-1)) - 1).toNatClampNeg 0) ((a4 128).getD (l3_4 + (-1)).toNatClampNeg 0) := og34
                refine ko_iast3 mi_k161.1 (n := 200) (c := 200) (ax := (0, 0, 0, 0, 0)) (mi_k161.2 _ _ (by rfl)) (by rfl) (ksG128 _ _ _ _) (ksA128 _ _ _ _) (hL4.I.2.1 128) rfl (og47 c18 c19 c30 c31 s32 s33 wf9.2.2.1 kog18 kog5 kog16 kog17 kogm1 kog1) (og48 p4_1.2 s32 s33 kogm1 kog1) ?_
                intro a36 ea36 fa36
                have hJ36 := kG_a3 hL4 128 rfl ea36 fa36 (kd_bd _)
                have s37 : (l4_4 + 1).toInt = l4_4.toInt + (1 : Int32).toInt := kd_add (og16 hs1 p4_0 kog1) (og17 c8 hs3 kog1)
                refine ft_go mi_k161 2 5 [(4, .int (l4_4 + 1)), (3, .int (l3_4 + (-1))), (5, .int ((a4 123).getD l4_4.toNatClampNeg 0)), (0, .ref 116), (1, .int x1), (2, .int x2)] [] i4 a36 q4 r4 (by rfl) ?_
                refine ko_perm [(4, .int (l4_4 + 1)), (3, .int (l3_4 + (-1))), (0, .ref 116), (1, .int x1), (2, .int x2)] (List.forall_mem_cons.mpr ⟨(List.Mem.head _), (List.forall_mem_cons.mpr ⟨(List.Mem.tail _ (List.Mem.head _)), (List.forall_mem_cons.mpr ⟨(List.Mem.tail _ (List.Mem.tail _ (List.Mem.tail _ (List.Mem.head _)))), (List.forall_mem_cons.mpr ⟨(List.Mem.tail _ (List.Mem.tail _ (List.Mem.tail _ (List.Mem.tail _ (List.Mem.head _))))), (List.forall_mem_cons.mpr ⟨(List.Mem.tail _ (List.Mem.tail _ (List.Mem.tail _ (List.Mem.tail _ (List.Mem.tail _ (List.Mem.head _)))))), (fun _ h => absurd h List.not_mem_nil)⟩)⟩)⟩)⟩)⟩) ?_
                exact ih4 _ _ _ _ _ _ hJ36 (og18 p4_0 s37 kog1) (og51 c18 c19 p4_1.2 s32 wf9.2.1 wf9.2.2.1 kog18 kog5 kogm1) (og20 c8 s37 kog1) (kWk_cast (kWk_next hS5 O4_0 rfl (og8 c8) (og22 s37 kog1) (og52 c18 c19 c30 c31 s32 kog18 kog5 kog16 kog17 kogm1)) (fa36 123 (by decide))) (wS_bin (c := ((a4 123).getD l4_4.toNatClampNeg 0)) (y := ((l3_4 + (-1)) - 1)) (z := (l3_4 + (-1))) O4_1 (hL4.I.2.1 128) (og53 c18 c19 c30 c31 wf9.2.2.1 kog18 kog5 kog16 kog17) (og24 p4_1.2) (og14 hs1) (og23 p4_0) (congrArg (fun z : List Int32 => z.getD l4_4.toNatClampNeg 0) (hL4.fa 123 rfl)) (og54 c19 kog5) (og55 c18 c30 c31 kog18 kog16 kog17) (og56 s32 s33 kogm1 kog1) (og57 s32 kogm1) og34 (ea36) (og57 s32 kogm1) (og22 s37 kog1)) (kj_meas (og27 s37 kog1) (og28 c8) hm4)
              ·
                have c38 : ((a4 123).getD l4_4.toNatClampNeg 0).toInt = (17 : Int32).toInt := kd_neF c; clear c
                have s39 : (l3_4 - 1).toInt = l3_4.toInt - (1 : Int32).toInt := kd_sub (og29 p4_1.1 kog1) (og30 p4_1.2 kog1)
                refine ft_go mi_k161 7 92 [(5, .int ((a4 123).getD l4_4.toNatClampNeg 0)), (4, .int l4_4), (3, .int l3_4), (0, .ref 116), (1, .int x1), (2, .int x2)] [.int 17, .int ((a4 123).getD l4_4.toNatClampNeg 0), .int (l3_4 - 1), .ref 128] i4 a4 q4 r4 (by rfl) ?_
                refine ft_if mi_k161 (((a4 123).getD l4_4.toNatClampNeg 0) != 17) 107 95 [(5, .int ((a4 123).getD l4_4.toNatClampNeg 0)), (4, .int l4_4), (3, .int l3_4), (0, .ref 116), (1, .int x1), (2, .int x2)] [.int (l3_4 - 1), .ref 128] (by rfl) (fun c => ?_) (fun c => ?_)
                ·
                  have c40 : ((a4 123).getD l4_4.toNatClampNeg 0).toInt ≠ (17 : Int32).toInt := kd_ne c; clear c
                  exact (og58 c18 c38 c40 kog18 kog17).elim
                ·
                  have c41 : ((a4 123).getD l4_4.toNatClampNeg 0).toInt = (17 : Int32).toInt := kd_neF c; clear c
                  refine ft_go mi_k161 5 102 [(5, .int ((a4 123).getD l4_4.toNatClampNeg 0)), (4, .int l4_4), (3, .int l3_4), (0, .ref 116), (1, .int x1), (2, .int x2)] [.int (l3_4 - 1), .ref 128, .int (l3_4 - 1), .ref 128] i4 a4 q4 r4 (by rfl) ?_
                  refine ko_iald3 mi_k161.1 (n := 200) (c := 200) (ax := (0, 0, 0, 0, 0)) (mi_k161.2 _ _ (by rfl)) (by rfl) (ksG128 _ _ _ _) (hL4.I.2.1 128) rfl (og59 c18 c38 s39 wf9.2.1 kog18 kog17 kog1) (og32 p4_1.2 s39 kog1) ?_
                  refine ft_go mi_k161 2 123 [(5, .int ((a4 123).getD l4_4.toNatClampNeg 0)), (4, .int l4_4), (3, .int l3_4), (0, .ref 116), (1, .int x1), (2, .int x2)] [.int (-((a4 128).getD (l3_4 - 1).toNatClampNeg 0)), .int (l3_4 - 1), .ref 128] i4 a4 q4 r4 (by rfl) ?_
                  refine ko_iast3 mi_k161.1 (n := 200) (c := 200) (ax := (0, 0, 0, 0, 0)) (mi_k161.2 _ _ (by rfl)) (by rfl) (ksG128 _ _ _ _) (ksA128 _ _ _ _) (hL4.I.2.1 128) rfl (og59 c18 c38 s39 wf9.2.1 kog18 kog17 kog1) (og32 p4_1.2 s39 kog1) ?_
                  intro a42 ea42 fa42
                  have hJ42 := kG_a3 hL4 128 rfl ea42 fa42 (kd_bd _)
                  have s43 : (l4_4 + 1).toInt = l4_4.toInt + (1 : Int32).toInt := kd_add (og16 hs1 p4_0 kog1) (og17 c8 hs3 kog1)
                  refine ft_go mi_k161 3 5 [(4, .int (l4_4 + 1)), (5, .int ((a4 123).getD l4_4.toNatClampNeg 0)), (3, .int l3_4), (0, .ref 116), (1, .int x1), (2, .int x2)] [] i4 a42 q4 r4 (by rfl) ?_
                  refine ko_perm [(4, .int (l4_4 + 1)), (3, .int l3_4), (0, .ref 116), (1, .int x1), (2, .int x2)] (List.forall_mem_cons.mpr ⟨(List.Mem.head _), (List.forall_mem_cons.mpr ⟨(List.Mem.tail _ (List.Mem.tail _ (List.Mem.head _))), (List.forall_mem_cons.mpr ⟨(List.Mem.tail _ (List.Mem.tail _ (List.Mem.tail _ (List.Mem.head _)))), (List.forall_mem_cons.mpr ⟨(List.Mem.tail _ (List.Mem.tail _ (List.Mem.tail _ (List.Mem.tail _ (List.Mem.head _))))), (List.forall_mem_cons.mpr ⟨(List.Mem.tail _ (List.Mem.tail _ (List.Mem.tail _ (List.Mem.tail _ (List.Mem.tail _ (List.Mem.head _)))))), (fun _ h => absurd h List.not_mem_nil)⟩)⟩)⟩)⟩)⟩) ?_
                  exact ih4 _ _ _ _ _ _ hJ42 (og18 p4_0 s43 kog1) (og33 p4_1.1 p4_1.2) (og20 c8 s43 kog1) (kWk_cast (kWk_next hS5 O4_0 rfl (og8 c8) (og22 s43 kog1) (og60 c18 c38 kog18 kog17)) (fa42 123 (by decide))) (wS_un (c := ((a4 123).getD l4_4.toNatClampNeg 0)) (y := (l3_4 - 1)) O4_1 (hL4.I.2.1 128) (og63 c18 c38 wf9.2.1 kog18 kog17) (og24 p4_1.2) (og14 hs1) (og23 p4_0) (congrArg (fun z : List Int32 => z.getD l4_4.toNatClampNeg 0) (hL4.fa 123 rfl)) (og61 c18 c38 kog18 kog17) (og39 s39 kog1) (if_pos (og62 c18 c38 kog18 kog17)).symm (ea42) og40 (og22 s43 kog1)) (kj_meas (og27 s43 kog1) (og28 c8) hm4)
          ·
            have c44 : ((a4 123).getD l4_4.toNatClampNeg 0).toInt ≤ (5 : Int32).toInt := kd_ltF c; clear c
            have s45 : (l3_4 + 1).toInt = l3_4.toInt + (1 : Int32).toInt := kd_add (og9 p4_1.1 kog1) (og10 p4_1.2 kog1)
            refine ft_go mi_k161 6 45 [(3, .int (l3_4 + 1)), (5, .int ((a4 123).getD l4_4.toNatClampNeg 0)), (4, .int l4_4), (0, .ref 116), (1, .int x1), (2, .int x2)] [.int 18, .int ((a4 123).getD l4_4.toNatClampNeg 0), .int l3_4, .ref 128] i4 a4 q4 r4 (by rfl) ?_
            refine ft_if mi_k161 (decide (((a4 123).getD l4_4.toNatClampNeg 0) < 18)) 56 48 [(3, .int (l3_4 + 1)), (5, .int ((a4 123).getD l4_4.toNatClampNeg 0)), (4, .int l4_4), (0, .ref 116), (1, .int x1), (2, .int x2)] [.int l3_4, .ref 128] (by rfl) (fun c => ?_) (fun c => ?_)
            ·
              have c46 : ((a4 123).getD l4_4.toNatClampNeg 0).toInt < (18 : Int32).toInt := kd_lt c; clear c
              refine ft_go mi_k161 3 62 [(3, .int (l3_4 + 1)), (5, .int ((a4 123).getD l4_4.toNatClampNeg 0)), (4, .int l4_4), (0, .ref 116), (1, .int x1), (2, .int x2)] [.int ((a4 123).getD l4_4.toNatClampNeg 0), .ref 129, .int l3_4, .ref 128] i4 a4 q4 r4 (by rfl) ?_
              refine ko_iald3 mi_k161.1 (n := 6) (c := 6) (ax := (0, 0, 0, 0, 0)) (mi_k161.2 _ _ (by rfl)) (by rfl) (ksG129 _ _ _ _) (hL4.I.2.1 129) rfl (og14 wf9.1) (og64 c44 kog5) ?_
              refine ko_iast3 mi_k161.1 (n := 200) (c := 200) (ax := (0, 0, 0, 0, 0)) (mi_k161.2 _ _ (by rfl)) (by rfl) (ksG128 _ _ _ _) (ksA128 _ _ _ _) (hL4.I.2.1 128) rfl (og14 p4_1.1) (og15 c8 hs3 wf9.2.2.2) ?_
              intro a47 ea47 fa47
              have hJ47 := kG_a3 hL4 128 rfl ea47 fa47 (kd_bd _)
              have s48 : (l4_4 + 1).toInt = l4_4.toInt + (1 : Int32).toInt := kd_add (og16 hs1 p4_0 kog1) (og17 c8 hs3 kog1)
              refine ft_go mi_k161 3 5 [(4, .int (l4_4 + 1)), (3, .int (l3_4 + 1)), (5, .int ((a4 123).getD l4_4.toNatClampNeg 0)), (0, .ref 116), (1, .int x1), (2, .int x2)] [] i4 a47 q4 r4 (by rfl) ?_
              refine ko_perm [(4, .int (l4_4 + 1)), (3, .int (l3_4 + 1)), (0, .ref 116), (1, .int x1), (2, .int x2)] (List.forall_mem_cons.mpr ⟨(List.Mem.head _), (List.forall_mem_cons.mpr ⟨(List.Mem.tail _ (List.Mem.head _)), (List.forall_mem_cons.mpr ⟨(List.Mem.tail _ (List.Mem.tail _ (List.Mem.tail _ (List.Mem.head _)))), (List.forall_mem_cons.mpr ⟨(List.Mem.tail _ (List.Mem.tail _ (List.Mem.tail _ (List.Mem.tail _ (List.Mem.head _))))), (List.forall_mem_cons.mpr ⟨(List.Mem.tail _ (List.Mem.tail _ (List.Mem.tail _ (List.Mem.tail _ (List.Mem.tail _ (List.Mem.head _)))))), (fun _ h => absurd h List.not_mem_nil)⟩)⟩)⟩)⟩)⟩) ?_
              exact ih4 _ _ _ _ _ _ hJ47 (og18 p4_0 s48 kog1) (og19 c8 hs3 p4_1.1 s45 wf9.2.2.2 kog1) (og20 c8 s48 kog1) (kWk_cast (kWk_next hS5 O4_0 rfl (og8 c8) (og22 s48 kog1) (og65 c44 s45 kog5 kog1)) (fa47 123 (by decide))) (wS_push (c := ((a4 123).getD l4_4.toNatClampNeg 0)) O4_1 (hL4.I.2.1 128) (og14 p4_1.1) (og15 c8 hs3 wf9.2.2.2) (og14 hs1) (og23 p4_0) (congrArg (fun z : List Int32 => z.getD l4_4.toNatClampNeg 0) (hL4.fa 123 rfl)) (og66 c44 kog5) ((congrArg (fun z : List Int32 => z.getD ((a4 123).getD l4_4.toNatClampNeg 0).toNatClampNeg 0) (hL4.fa 129 rfl)).trans (if_neg (og67 c18 kog18)).symm) (ea47) (og22 s45 kog1) (og22 s48 kog1)) (kj_meas (og27 s48 kog1) (og28 c8) hm4)
            ·
              have c49 : (18 : Int32).toInt ≤ ((a4 123).getD l4_4.toNatClampNeg 0).toInt := kd_ltF c; clear c
              exact (og68 c18 c49 kog18).elim
  exact lp4 _ _ _ _ _ _ _ (kG_self _ hG.I hG.R) og69 (og70 kog0) (og23 hs2) (kWk_begin hS rfl rfl kn0) (wS_start (x := x1) kog0) (Nat.lt_succ_self _)
def yw162_116 : kW := ([], [128, 129], [], [])
def yw162_116_L70 : kW := ([], [128], [], [])
set_option maxRecDepth 100000 in
theorem ke162_116 {i : Nat → Int32} {a : Nat → List Int32} {q : Nat → List Int64} {r : Nat → Nat} (hI : kI i a q) (hr : kr r) (x1 : Int32) (hp0 : ((0 : Int) ≤ x1.toInt) ∧ (x1.toInt ≤ 7)) (hE_code : kCode i a) : km 5 162 [.ref 116, .int x1] (ks i a q r) (kVI yw162_116 i a q r (fun v i1 a1 q1 r1 => (True) ∧ v = wLaw (a 120) (a 121) (a 122) (a 123) [(a 117).getD x1.toNatClampNeg 0, (a 129).getD 1 0, (a 117).getD (8 + x1).toNatClampNeg 0, (a 118).getD (9 : Int32).toNatClampNeg 0, (a 118).getD (10 + x1).toNatClampNeg 0, (a 118).getD (8 : Int32).toNatClampNeg 0] (i 7432).toInt.toNat 0)) := by
  have hG := kG_self yw162_116 hI hr
  refine km_ofI (q := (mi_h162, mi_c162)) rfl (by decide) (Nat.le_of_ble_eq_true rfl) ?_
  intro P hP
  refine ft_go mi_k162 6 10 [(0, .ref 116), (1, .int x1)] [.int x1, .ref 117, .int 0, .ref 129] i a q r (by rfl) ?_
  refine ko_iald3 mi_k162.1 (n := 24) (c := 24) (ax := (0, 0, 0, 0, 0)) (mi_k162.2 _ _ (by rfl)) (by rfl) (ksG117 _ _ _ _) (hG.I.2.1 117) rfl (og14 hp0.1) (og71 hp0.2) ?_
  refine ko_iast3 mi_k162.1 (n := 6) (c := 6) (ax := (0, 0, 0, 0, 0)) (mi_k162.2 _ _ (by rfl)) (by rfl) (ksG129 _ _ _ _) (ksA129 _ _ _ _) (hG.I.2.1 129) rfl (og2 kog0) (og72 kog0) ?_
  intro a1 ea1 fa1
  have hJ1 := kG_a3 hG 129 rfl ea1 fa1 (kd_bd _)
  have s2 : (8 + x1).toInt = (8 : Int32).toInt + x1.toInt := kd_add (og73 hp0.1 kog8) (og74 hp0.2 kog8)
  refine ft_go mi_k162 8 25 [(0, .ref 116), (1, .int x1)] [.int (8 + x1), .ref 117, .int 2, .ref 129] i a1 q r (by rfl) ?_
  refine ko_iald3 mi_k162.1 (n := 24) (c := 24) (ax := (0, 0, 0, 0, 0)) (mi_k162.2 _ _ (by rfl)) (by rfl) (ksG117 _ _ _ _) (hJ1.I.2.1 117) rfl (og75 hp0.1 s2 kog8) (og76 hp0.2 s2 kog8) ?_
  refine ko_iast3 mi_k162.1 (n := 6) (c := 6) (ax := (0, 0, 0, 0, 0)) (mi_k162.2 _ _ (by rfl)) (by rfl) (ksG129 _ _ _ _) (ksA129 _ _ _ _) (hJ1.I.2.1 129) rfl (og77 kog2) (og78 kog2) ?_
  intro a3 ea3 fa3
  have hJ3 := kG_a3 hJ1 129 rfl ea3 fa3 (kd_bd _)
  refine ft_go mi_k162 6 38 [(0, .ref 116), (1, .int x1)] [.int 9, .ref 118, .int 3, .ref 129] i a3 q r (by rfl) ?_
  refine ko_iald3 mi_k162.1 (n := 31) (c := 31) (ax := (0, 0, 0, 0, 0)) (mi_k162.2 _ _ (by rfl)) (by rfl) (ksG118 _ _ _ _) (hJ3.I.2.1 118) rfl (og79 kog9) (og80 kog9) ?_
  have u4 : ((a1 118).getD (9 : Int32).toNatClampNeg 0).toInt = ((a 118).getD (9 : Int32).toNatClampNeg 0).toInt := congrArg (fun z : List Int32 => (z.getD (9 : Int32).toNatClampNeg 0).toInt) (fa1 118 (by decide))
  have u5 : ((a3 118).getD (9 : Int32).toNatClampNeg 0).toInt = ((a1 118).getD (9 : Int32).toNatClampNeg 0).toInt := congrArg (fun z : List Int32 => (z.getD (9 : Int32).toNatClampNeg 0).toInt) (fa3 118 (by decide))
  refine ko_iast3 mi_k162.1 (n := 6) (c := 6) (ax := (0, 0, 0, 0, 0)) (mi_k162.2 _ _ (by rfl)) (by rfl) (ksG129 _ _ _ _) (ksA129 _ _ _ _) (hJ3.I.2.1 129) rfl (og81 kog3) (og82 kog3) ?_
  intro a6 ea6 fa6
  have hJ6 := kG_a3 hJ3 129 rfl ea6 fa6 (kd_bd _)
  have s7 : (10 + x1).toInt = (10 : Int32).toInt + x1.toInt := kd_add (og83 hp0.1 kog10) (og84 hp0.2 kog10)
  refine ft_go mi_k162 8 53 [(0, .ref 116), (1, .int x1)] [.int (10 + x1), .ref 118, .int 4, .ref 129] i a6 q r (by rfl) ?_
  refine ko_iald3 mi_k162.1 (n := 31) (c := 31) (ax := (0, 0, 0, 0, 0)) (mi_k162.2 _ _ (by rfl)) (by rfl) (ksG118 _ _ _ _) (hJ6.I.2.1 118) rfl (og85 hp0.1 s7 kog10) (og86 hp0.2 s7 kog10) ?_
  have r8 : (((10 + x1).toInt = 18 → (0 : Int) ≤ ((a6 118).getD (10 + x1).toNatClampNeg 0).toInt ∧ ((a6 118).getD (10 + x1).toNatClampNeg 0).toInt ≤ 5)) ∧ ((19 ≤ (10 + x1).toInt → (10 + x1).toInt ≤ 24 → (0 : Int) ≤ ((a6 118).getD (10 + x1).toNatClampNeg 0).toInt ∧ ((a6 118).getD (10 + x1).toNatClampNeg 0).toInt ≤ 7)) := kE_ncond (p := 118) hJ6.I (by decide) (j := (10 + x1)) (og85 hp0.1 s7 kog10)
  have u9 : ((a1 118).getD (10 + x1).toNatClampNeg 0).toInt = ((a 118).getD (10 + x1).toNatClampNeg 0).toInt := congrArg (fun z : List Int32 => (z.getD (10 + x1).toNatClampNeg 0).toInt) (fa1 118 (by decide))
  have u10 : ((a3 118).getD (10 + x1).toNatClampNeg 0).toInt = ((a1 118).getD (10 + x1).toNatClampNeg 0).toInt := congrArg (fun z : List Int32 => (z.getD (10 + x1).toNatClampNeg 0).toInt) (fa3 118 (by decide))
  have u11 : ((a6 118).getD (10 + x1).toNatClampNeg 0).toInt = ((a3 118).getD (10 + x1).toNatClampNeg 0).toInt := congrArg (fun z : List Int32 => (z.getD (10 + x1).toNatClampNeg 0).toInt) (fa6 118 (by decide))
  refine ko_iast3 mi_k162.1 (n := 6) (c := 6) (ax := (0, 0, 0, 0, 0)) (mi_k162.2 _ _ (by rfl)) (by rfl) (ksG129 _ _ _ _) (ksA129 _ _ _ _) (hJ6.I.2.1 129) rfl (og87 kog4) (og88 kog4) ?_
  intro a12 ea12 fa12
  have hJ12 := kG_a3 hJ6 129 rfl ea12 fa12 (kd_bd _)
  refine ft_go mi_k162 6 66 [(0, .ref 116), (1, .int x1)] [.int 8, .ref 118, .int 5, .ref 129] i a12 q r (by rfl) ?_
  refine ko_iald3 mi_k162.1 (n := 31) (c := 31) (ax := (0, 0, 0, 0, 0)) (mi_k162.2 _ _ (by rfl)) (by rfl) (ksG118 _ _ _ _) (hJ12.I.2.1 118) rfl (og89 kog8) (og90 kog8) ?_
  have u13 : ((a1 118).getD (8 : Int32).toNatClampNeg 0).toInt = ((a 118).getD (8 : Int32).toNatClampNeg 0).toInt := congrArg (fun z : List Int32 => (z.getD (8 : Int32).toNatClampNeg 0).toInt) (fa1 118 (by decide))
  have u14 : ((a3 118).getD (8 : Int32).toNatClampNeg 0).toInt = ((a1 118).getD (8 : Int32).toNatClampNeg 0).toInt := congrArg (fun z : List Int32 => (z.getD (8 : Int32).toNatClampNeg 0).toInt) (fa3 118 (by decide))
  have u15 : ((a6 118).getD (8 : Int32).toNatClampNeg 0).toInt = ((a3 118).getD (8 : Int32).toNatClampNeg 0).toInt := congrArg (fun z : List Int32 => (z.getD (8 : Int32).toNatClampNeg 0).toInt) (fa6 118 (by decide))
  have u16 : ((a12 118).getD (8 : Int32).toNatClampNeg 0).toInt = ((a6 118).getD (8 : Int32).toNatClampNeg 0).toInt := congrArg (fun z : List Int32 => (z.getD (8 : Int32).toNatClampNeg 0).toInt) (fa12 118 (by decide))
  refine ko_iast3 mi_k162.1 (n := 6) (c := 6) (ax := (0, 0, 0, 0, 0)) (mi_k162.2 _ _ (by rfl)) (by rfl) (ksG129 _ _ _ _) (ksA129 _ _ _ _) (hJ12.I.2.1 129) rfl (og91 kog5) (og92 kog5) ?_
  intro a17 ea17 fa17
  have hJ17 := kG_a3 hJ12 129 rfl ea17 fa17 (kd_bd _)
  have qn18 : a17 129 = [((a 117).getD x1.toNatClampNeg 0), (a 129).getD 1 0, ((a1 117).getD (8 + x1).toNatClampNeg 0), ((a3 118).getD (9 : Int32).toNatClampNeg 0), ((a6 118).getD (10 + x1).toNatClampNeg 0), ((a12 118).getD (8 : Int32).toNatClampNeg 0)] := by rw [ea17, ea12, ea6, ea3, ea1]; exact kNam5 (hG.I.2.1 129)
  have qn19 : a17 129 = [(a 117).getD x1.toNatClampNeg 0, (a 129).getD 1 0, (a 117).getD (8 + x1).toNatClampNeg 0, (a 118).getD (9 : Int32).toNatClampNeg 0, (a 118).getD (10 + x1).toNatClampNeg 0, (a 118).getD (8 : Int32).toNatClampNeg 0] := qn18.trans (by first | rfl | (simp only [fa1 117 (by decide), fa3 118 (by decide), fa6 118 (by decide), fa12 118 (by decide), fa1 118 (by decide)]; done) | (simp only [fa1 117 (by decide), fa3 118 (by decide), fa6 118 (by decide), fa12 118 (by decide), fa1 118 (by decide)]; rfl))
  refine ft_go mi_k162 2 70 [(2, .int 0), (0, .ref 116), (1, .int x1)] [] i a17 q r (by rfl) ?_
  have lp20 : ∀ (nz : Nat) (i20 : Nat → Int32) (a20 : Nat → List Int32) (q20 : Nat → List Int64) (r20 : Nat → Nat) (l2_20 : Int32), kG yw162_116_L70 i a17 q r i20 a20 q20 r20 → (0 : Int) ≤ l2_20.toInt → wLaw (a 120) (a 121) (a 122) (a 123) [(a 117).getD x1.toNatClampNeg 0, (a 129).getD 1 0, (a 117).getD (8 + x1).toNatClampNeg 0, (a 118).getD (9 : Int32).toNatClampNeg 0, (a 118).getD (10 + x1).toNatClampNeg 0, (a 118).getD (8 : Int32).toNatClampNeg 0] ((i 7432).toInt - l2_20.toInt).toNat l2_20.toInt.toNat = wLaw (a 120) (a 121) (a 122) (a 123) [(a 117).getD x1.toNatClampNeg 0, (a 129).getD 1 0, (a 117).getD (8 + x1).toNatClampNeg 0, (a 118).getD (9 : Int32).toNatClampNeg 0, (a 118).getD (10 + x1).toNatClampNeg 0, (a 118).getD (8 : Int32).toNatClampNeg 0] (i 7432).toInt.toNat 0 → a20 129 = [(a 117).getD x1.toNatClampNeg 0, (a 129).getD 1 0, (a 117).getD (8 + x1).toNatClampNeg 0, (a 118).getD (9 : Int32).toNatClampNeg 0, (a 118).getD (10 + x1).toNatClampNeg 0, (a 118).getD (8 : Int32).toNatClampNeg 0] → (((i20 7432).toInt - l2_20.toInt)).toNat < nz → ko 5 (mi_h162, mi_c162) P (70, [(2, .int l2_20), (0, .ref 116), (1, .int x1)], [], (0, 0), ks i20 a20 q20 r20) := by
    intro nz
    induction nz with
    | zero =>
      intro _ _ _ _ _ _ _ _ _ hm
      exact absurd hm (Nat.not_lt_zero _)
    | succ nz ih20 =>
      intro i20 a20 q20 r20 l2_20 hL20 p20_0 O20_0 O20_1 hm20
      have fi20_7432 : ((0 : Int) ≤ (i20 7432).toInt) ∧ ((i20 7432).toInt ≤ 60) := hL20.I.1 7432
      have efi20_7432 : (i20 7432).toInt = (i 7432).toInt := hL20.ti 7432 rfl
      refine ft_go mi_k162 3 75 [(2, .int l2_20), (0, .ref 116), (1, .int x1)] [.int (i20 7432), .int l2_20] i20 a20 q20 r20 (by rfl) ?_
      refine ft_if mi_k162 (decide ((i20 7432) ≤ l2_20)) 138 78 [(2, .int l2_20), (0, .ref 116), (1, .int x1)] [] (by rfl) (fun c => ?_) (fun c => ?_)
      ·
        have c21 : (i20 7432).toInt ≤ l2_20.toInt := kd_le c; clear c
        have hG22 := kG_call hJ17 hL20 (by decide +kernel)
        refine ft_go mi_k162 1 139 [(2, .int l2_20), (0, .ref 116), (1, .int x1)] [.int 0] i20 a20 q20 r20 (by rfl) ?_
        exact ft_ret mi_k162 (by rfl) (hP 0 _ _ _ _ hG22 ⟨trivial, (show (0 : Int32) = wLaw (a 120) (a 121) (a 122) (a 123) [(a 117).getD x1.toNatClampNeg 0, (a 129).getD 1 0, (a 117).getD (8 + x1).toNatClampNeg 0, (a 118).getD (9 : Int32).toNatClampNeg 0, (a 118).getD (10 + x1).toNatClampNeg 0, (a 118).getD (8 : Int32).toNatClampNeg 0] (i 7432).toInt.toNat 0 from (bl_none O20_0 (og93 c21 efi20_7432)).symm)⟩)
      ·
        have c23 : l2_20.toInt < (i20 7432).toInt := kd_leF c; clear c
        refine ft_go mi_k162 3 83 [(2, .int l2_20), (0, .ref 116), (1, .int x1)] [.int l2_20, .ref 121] i20 a20 q20 r20 (by rfl) ?_
        refine ko_iald3 mi_k162.1 (n := 60) (c := 60) (ax := (0, 0, 0, 0, 0)) (mi_k162.2 _ _ (by rfl)) (by rfl) (ksG121 _ _ _ _) (hL20.I.2.1 121) rfl (og14 p20_0) (og94 c23 fi20_7432.2) ?_
        refine ft_go mi_k162 3 89 [(2, .int l2_20), (0, .ref 116), (1, .int x1)] [.int l2_20, .ref 120, .int ((a20 121).getD l2_20.toNatClampNeg 0)] i20 a20 q20 r20 (by rfl) ?_
        refine ko_iald3 mi_k162.1 (n := 60) (c := 60) (ax := (0, 0, 0, 0, 0)) (mi_k162.2 _ _ (by rfl)) (by rfl) (ksG120 _ _ _ _) (hL20.I.2.1 120) rfl (og14 p20_0) (og94 c23 fi20_7432.2) ?_
        refine ft_if mi_k162 (decide (((a20 121).getD l2_20.toNatClampNeg 0) ≤ ((a20 120).getD l2_20.toNatClampNeg 0))) 115 93 [(2, .int l2_20), (0, .ref 116), (1, .int x1)] [] (by rfl) (fun c => ?_) (fun c => ?_)
        ·
          have c24 : ((a20 121).getD l2_20.toNatClampNeg 0).toInt ≤ ((a20 120).getD l2_20.toNatClampNeg 0).toInt := kd_le c; clear c
          have hG25 := kG_call hJ17 hL20 (by decide +kernel)
          refine ft_go mi_k162 4 121 [(2, .int l2_20), (0, .ref 116), (1, .int x1)] [.int l2_20, .ref 121, .ref 116] i20 a20 q20 r20 (by rfl) ?_
          refine ko_iald3 mi_k162.1 (n := 60) (c := 60) (ax := (0, 0, 0, 0, 0)) (mi_k162.2 _ _ (by rfl)) (by rfl) (ksG121 _ _ _ _) (hG25.I.2.1 121) rfl (og14 p20_0) (og94 c23 fi20_7432.2) ?_
          refine ft_go mi_k162 3 127 [(2, .int l2_20), (0, .ref 116), (1, .int x1)] [.int l2_20, .ref 122, .int ((a20 121).getD l2_20.toNatClampNeg 0), .ref 116] i20 a20 q20 r20 (by rfl) ?_
          refine ko_iald3 mi_k162.1 (n := 60) (c := 60) (ax := (0, 0, 0, 0, 0)) (mi_k162.2 _ _ (by rfl)) (by rfl) (ksG122 _ _ _ _) (hG25.I.2.1 122) rfl (og14 p20_0) (og94 c23 fi20_7432.2) ?_
          refine ko_callI mi_k162.1 (pc := 128) (ls := [(2, .int l2_20), (0, .ref 116), (1, .int x1)]) (st := [.int ((a20 122).getD l2_20.toNatClampNeg 0), .int ((a20 121).getD l2_20.toNatClampNeg 0), .ref 116]) (h := ks i20 a20 q20 r20) (i := (.invokevirtual 224, 3, 161, 0, 9, 0, 420)) (mi_k162.2 _ _ (by rfl)) (ft_invS mi_pq161 (by rfl)) (cy := mi_c161) mi_pq161 rfl (ke161_116 hG25.I hG25.R ((a20 121).getD l2_20.toNatClampNeg 0) ((a20 122).getD l2_20.toNatClampNeg 0) (kCode_l2 (kCode_of (i1 := i20) hE_code (hG25.fi 7432 rfl) (hG25.fa 120 rfl) (hG25.fa 121 rfl) (hG25.fa 122 rfl) (hG25.fa 123 rfl)) (og14 p20_0) (og8 c23))) (by decide) ?_
          intro vg26 ig26 ag26 qg26 rg26 kg26 hg26
          have hGg26 := kG_call hG25 kg26 (by decide +kernel)
          obtain ⟨hg26, og26⟩ := hg26
          have q27 : vg26 = wVal (a20 123) (a20 129) ((a20 121).getD l2_20.toNatClampNeg 0) ((a20 122).getD l2_20.toNatClampNeg 0) := og26
          exact ft_ret mi_k162 (by rfl) (hP vg26 _ _ _ _ hGg26 ⟨trivial, (show vg26 = wLaw (a 120) (a 121) (a 122) (a 123) [(a 117).getD x1.toNatClampNeg 0, (a 129).getD 1 0, (a 117).getD (8 + x1).toNatClampNeg 0, (a 118).getD (9 : Int32).toNatClampNeg 0, (a 118).getD (10 + x1).toNatClampNeg 0, (a 118).getD (8 : Int32).toNatClampNeg 0] (i 7432).toInt.toNat 0 from (bl_say0 O20_0 (kj_lines (og95 c23 efi20_7432) (og14 p20_0)) (og14 p20_0) ((((((hL20.fa 120 rfl).trans (fa17 120 (by decide))).trans (fa12 120 (by decide))).trans (fa6 120 (by decide))).trans (fa3 120 (by decide))).trans (fa1 120 (by decide))) ((((((hL20.fa 121 rfl).trans (fa17 121 (by decide))).trans (fa12 121 (by decide))).trans (fa6 121 (by decide))).trans (fa3 121 (by decide))).trans (fa1 121 (by decide))) (og23 c24) ((((((hL20.fa 121 rfl).trans (fa17 121 (by decide))).trans (fa12 121 (by decide))).trans (fa6 121 (by decide))).trans (fa3 121 (by decide))).trans (fa1 121 (by decide))) ((((((hL20.fa 122 rfl).trans (fa17 122 (by decide))).trans (fa12 122 (by decide))).trans (fa6 122 (by decide))).trans (fa3 122 (by decide))).trans (fa1 122 (by decide))) (by have hq := og26; rw [(((((((hL20.fa 123 rfl).trans (fa17 123 (by decide))).trans (fa12 123 (by decide))).trans (fa6 123 (by decide))).trans (fa3 123 (by decide))).trans (fa1 123 (by decide))) : a20 123 = a 123), (O20_1 : a20 129 = [(a 117).getD x1.toNatClampNeg 0, (a 129).getD 1 0, (a 117).getD (8 + x1).toNatClampNeg 0, (a 118).getD (9 : Int32).toNatClampNeg 0, (a 118).getD (10 + x1).toNatClampNeg 0, (a 118).getD (8 : Int32).toNatClampNeg 0])] at hq; exact hq)).symm)⟩)
        ·
          have c28 : ((a20 120).getD l2_20.toNatClampNeg 0).toInt < ((a20 121).getD l2_20.toNatClampNeg 0).toInt := kd_leF c; clear c
          refine ft_go mi_k162 4 99 [(2, .int l2_20), (0, .ref 116), (1, .int x1)] [.int l2_20, .ref 120, .ref 116] i20 a20 q20 r20 (by rfl) ?_
          refine ko_iald3 mi_k162.1 (n := 60) (c := 60) (ax := (0, 0, 0, 0, 0)) (mi_k162.2 _ _ (by rfl)) (by rfl) (ksG120 _ _ _ _) (hL20.I.2.1 120) rfl (og14 p20_0) (og94 c23 fi20_7432.2) ?_
          refine ft_go mi_k162 3 105 [(2, .int l2_20), (0, .ref 116), (1, .int x1)] [.int l2_20, .ref 121, .int ((a20 120).getD l2_20.toNatClampNeg 0), .ref 116] i20 a20 q20 r20 (by rfl) ?_
          refine ko_iald3 mi_k162.1 (n := 60) (c := 60) (ax := (0, 0, 0, 0, 0)) (mi_k162.2 _ _ (by rfl)) (by rfl) (ksG121 _ _ _ _) (hL20.I.2.1 121) rfl (og14 p20_0) (og94 c23 fi20_7432.2) ?_
          have hG29 := kG_call hJ17 hL20 (by decide +kernel)
          refine ko_callI mi_k162.1 (pc := 106) (ls := [(2, .int l2_20), (0, .ref 116), (1, .int x1)]) (st := [.int ((a20 121).getD l2_20.toNatClampNeg 0), .int ((a20 120).getD l2_20.toNatClampNeg 0), .ref 116]) (h := ks i20 a20 q20 r20) (i := (.invokevirtual 224, 3, 161, 0, 9, 0, 420)) (mi_k162.2 _ _ (by rfl)) (ft_invS mi_pq161 (by rfl)) (cy := mi_c161) mi_pq161 rfl (ke161_116 hL20.I hL20.R ((a20 120).getD l2_20.toNatClampNeg 0) ((a20 121).getD l2_20.toNatClampNeg 0) (kCode_l1 (kCode_of (i1 := i20) hE_code (hG29.fi 7432 rfl) (hG29.fa 120 rfl) (hG29.fa 121 rfl) (hG29.fa 122 rfl) (hG29.fa 123 rfl)) (og14 p20_0) (og8 c23) (og8 c28))) (by decide) ?_
          intro vg30 ig30 ag30 qg30 rg30 kg30 hg30
          have hGg30 := kG_call hL20 kg30 (by decide +kernel)
          obtain ⟨hg30, og30⟩ := hg30
          have q31 : vg30 = wVal (a20 123) (a20 129) ((a20 120).getD l2_20.toNatClampNeg 0) ((a20 121).getD l2_20.toNatClampNeg 0) := og30
          refine ft_if mi_k162 (vg30 != 0) 115 112 [(2, .int l2_20), (0, .ref 116), (1, .int x1)] [] (by rfl) (fun c => ?_) (fun c => ?_)
          ·
            have c32 : vg30.toInt ≠ (0 : Int32).toInt := kd_ne c; clear c
            have hG33 := kG_call hJ17 hGg30 (by decide +kernel)
            refine ft_go mi_k162 4 121 [(2, .int l2_20), (0, .ref 116), (1, .int x1)] [.int l2_20, .ref 121, .ref 116] ig30 ag30 qg30 rg30 (by rfl) ?_
            refine ko_iald3 mi_k162.1 (n := 60) (c := 60) (ax := (0, 0, 0, 0, 0)) (mi_k162.2 _ _ (by rfl)) (by rfl) (ksG121 _ _ _ _) (hG33.I.2.1 121) rfl (og14 p20_0) (og94 c23 fi20_7432.2) ?_
            refine ft_go mi_k162 3 127 [(2, .int l2_20), (0, .ref 116), (1, .int x1)] [.int l2_20, .ref 122, .int ((ag30 121).getD l2_20.toNatClampNeg 0), .ref 116] ig30 ag30 qg30 rg30 (by rfl) ?_
            refine ko_iald3 mi_k162.1 (n := 60) (c := 60) (ax := (0, 0, 0, 0, 0)) (mi_k162.2 _ _ (by rfl)) (by rfl) (ksG122 _ _ _ _) (hG33.I.2.1 122) rfl (og14 p20_0) (og94 c23 fi20_7432.2) ?_
            have efig30_7432 : (ig30 7432).toInt = (i20 7432).toInt := kg30.ti 7432 rfl
            refine ko_callI mi_k162.1 (pc := 128) (ls := [(2, .int l2_20), (0, .ref 116), (1, .int x1)]) (st := [.int ((ag30 122).getD l2_20.toNatClampNeg 0), .int ((ag30 121).getD l2_20.toNatClampNeg 0), .ref 116]) (h := ks ig30 ag30 qg30 rg30) (i := (.invokevirtual 224, 3, 161, 0, 9, 0, 420)) (mi_k162.2 _ _ (by rfl)) (ft_invS mi_pq161 (by rfl)) (cy := mi_c161) mi_pq161 rfl (ke161_116 hG33.I hG33.R ((ag30 121).getD l2_20.toNatClampNeg 0) ((ag30 122).getD l2_20.toNatClampNeg 0) (kCode_l2 (kCode_of (i1 := ig30) hE_code (hG33.fi 7432 rfl) (hG33.fa 120 rfl) (hG33.fa 121 rfl) (hG33.fa 122 rfl) (hG33.fa 123 rfl)) (og14 p20_0) (og96 c23 efig30_7432))) (by decide) ?_
            intro vg34 ig34 ag34 qg34 rg34 kg34 hg34
            have hGg34 := kG_call hG33 kg34 (by decide +kernel)
            obtain ⟨hg34, og34⟩ := hg34
            have q35 : vg34 = wVal (ag30 123) (ag30 129) ((ag30 121).getD l2_20.toNatClampNeg 0) ((ag30 122).getD l2_20.toNatClampNeg 0) := og34
            exact ft_ret mi_k162 (by rfl) (hP vg34 _ _ _ _ hGg34 ⟨trivial, (show vg34 = wLaw (a 120) (a 121) (a 122) (a 123) [(a 117).getD x1.toNatClampNeg 0, (a 129).getD 1 0, (a 117).getD (8 + x1).toNatClampNeg 0, (a 118).getD (9 : Int32).toNatClampNeg 0, (a 118).getD (10 + x1).toNatClampNeg 0, (a 118).getD (8 : Int32).toNatClampNeg 0] (i 7432).toInt.toNat 0 from (bl_say1 O20_0 (kj_lines (og95 c23 efi20_7432) (og14 p20_0)) (og14 p20_0) ((((((hL20.fa 120 rfl).trans (fa17 120 (by decide))).trans (fa12 120 (by decide))).trans (fa6 120 (by decide))).trans (fa3 120 (by decide))).trans (fa1 120 (by decide))) ((((((hL20.fa 121 rfl).trans (fa17 121 (by decide))).trans (fa12 121 (by decide))).trans (fa6 121 (by decide))).trans (fa3 121 (by decide))).trans (fa1 121 (by decide))) (by have hq := og30; rw [(((((((hL20.fa 123 rfl).trans (fa17 123 (by decide))).trans (fa12 123 (by decide))).trans (fa6 123 (by decide))).trans (fa3 123 (by decide))).trans (fa1 123 (by decide))) : a20 123 = a 123), (O20_1 : a20 129 = [(a 117).getD x1.toNatClampNeg 0, (a 129).getD 1 0, (a 117).getD (8 + x1).toNatClampNeg 0, (a 118).getD (9 : Int32).toNatClampNeg 0, (a 118).getD (10 + x1).toNatClampNeg 0, (a 118).getD (8 : Int32).toNatClampNeg 0])] at hq; exact hq) (og0 c32 kog0) (((((((kg30.fa 121 rfl).trans (hL20.fa 121 rfl)).trans (fa17 121 (by decide))).trans (fa12 121 (by decide))).trans (fa6 121 (by decide))).trans (fa3 121 (by decide))).trans (fa1 121 (by decide))) (((((((kg30.fa 122 rfl).trans (hL20.fa 122 rfl)).trans (fa17 122 (by decide))).trans (fa12 122 (by decide))).trans (fa6 122 (by decide))).trans (fa3 122 (by decide))).trans (fa1 122 (by decide))) (by have hq := og34; rw [((((((((kg30.fa 123 rfl).trans (hL20.fa 123 rfl)).trans (fa17 123 (by decide))).trans (fa12 123 (by decide))).trans (fa6 123 (by decide))).trans (fa3 123 (by decide))).trans (fa1 123 (by decide))) : ag30 123 = a 123), ((by simp only [kg30.fa 129 rfl, O20_1]) : ag30 129 = [(a 117).getD x1.toNatClampNeg 0, (a 129).getD 1 0, (a 117).getD (8 + x1).toNatClampNeg 0, (a 118).getD (9 : Int32).toNatClampNeg 0, (a 118).getD (10 + x1).toNatClampNeg 0, (a 118).getD (8 : Int32).toNatClampNeg 0])] at hq; exact hq)).symm)⟩)
          ·
            have c36 : vg30.toInt = (0 : Int32).toInt := kd_neF c; clear c
            have s37 : (l2_20 + 1).toInt = l2_20.toInt + (1 : Int32).toInt := kd_add (og9 p20_0 kog1) (og97 c23 fi20_7432.2 kog1)
            refine ft_go mi_k162 3 70 [(2, .int (l2_20 + 1)), (0, .ref 116), (1, .int x1)] [] ig30 ag30 qg30 rg30 (by rfl) ?_
            have efig30_7432 : (ig30 7432).toInt = (i20 7432).toInt := kg30.ti 7432 rfl
            exact ih20 _ _ _ _ _ hGg30 (og98 p20_0 s37 kog1) (bl_next O20_0 (kj_lines (og95 c23 efi20_7432) (og14 p20_0)) (og14 p20_0) (og22 s37 kog1) ((((((hL20.fa 120 rfl).trans (fa17 120 (by decide))).trans (fa12 120 (by decide))).trans (fa6 120 (by decide))).trans (fa3 120 (by decide))).trans (fa1 120 (by decide))) ((((((hL20.fa 121 rfl).trans (fa17 121 (by decide))).trans (fa12 121 (by decide))).trans (fa6 121 (by decide))).trans (fa3 121 (by decide))).trans (fa1 121 (by decide))) (og8 c28) (by have hq := og30; rw [(((((((hL20.fa 123 rfl).trans (fa17 123 (by decide))).trans (fa12 123 (by decide))).trans (fa6 123 (by decide))).trans (fa3 123 (by decide))).trans (fa1 123 (by decide))) : a20 123 = a 123), (O20_1 : a20 129 = [(a 117).getD x1.toNatClampNeg 0, (a 129).getD 1 0, (a 117).getD (8 + x1).toNatClampNeg 0, (a 118).getD (9 : Int32).toNatClampNeg 0, (a 118).getD (10 + x1).toNatClampNeg 0, (a 118).getD (8 : Int32).toNatClampNeg 0])] at hq; exact hq) (og41 c36 kog0) rfl) (by first | rfl | (simp only [kg30.fa 129 rfl, O20_1, sMn, sMx]; done) | (simp only [kg30.fa 129 rfl, O20_1, sMn, sMx]; rfl)) (kj_meas (og99 efig30_7432 s37 kog1) (og28 c23) hm20)
  exact lp20 _ _ _ _ _ _ (kG_self _ hJ17.I hJ17.R) (og2 kog0) (by rw [kog0, Int.sub_zero]; rfl) (by first | rfl | (simp only [qn19, sMn, sMx]; done) | (simp only [qn19, sMn, sMx]; rfl)) (Nat.lt_succ_self _)
def yw163_116 : kW := ([], [128, 129], [], [])
set_option maxRecDepth 100000 in
theorem ke163_116 {i : Nat → Int32} {a : Nat → List Int32} {q : Nat → List Int64} {r : Nat → Nat} (hI : kI i a q) (hr : kr r) (x1 : Int32) (x2 : Int32) (hp0 : ((0 : Int) ≤ x1.toInt) ∧ (x1.toInt ≤ 7)) (hE_code : kCode i a) : km 7 163 [.ref 116, .int x1, .int x2] (ks i a q r) (kVI yw163_116 i a q r (fun v i1 a1 q1 r1 => (True) ∧ v = rBuyV (i 7431) (wLaw (a 120) (a 121) (a 122) (a 123) [(a 117).getD x1.toNatClampNeg 0, x2, (a 117).getD (8 + x1).toNatClampNeg 0, (a 118).getD (9 : Int32).toNatClampNeg 0, (a 118).getD (10 + x1).toNatClampNeg 0, (a 118).getD (8 : Int32).toNatClampNeg 0] (i 7432).toInt.toNat 0) ((a 117).getD x1.toNatClampNeg 0) ((a 117).getD (8 + x1).toNatClampNeg 0) ((a 118).getD (10 + x1).toNatClampNeg 0))) := by
  have hG := kG_self yw163_116 hI hr
  refine km_ofI (q := (mi_h163, mi_c163)) rfl (by decide) (Nat.le_of_ble_eq_true rfl) ?_
  intro P hP
  refine ft_go mi_k163 4 6 [(0, .ref 116), (1, .int x1), (2, .int x2)] [.int x2, .int 1, .ref 129] i a q r (by rfl) ?_
  refine ko_iast3 mi_k163.1 (n := 6) (c := 6) (ax := (0, 0, 0, 0, 0)) (mi_k163.2 _ _ (by rfl)) (by rfl) (ksG129 _ _ _ _) (ksA129 _ _ _ _) (hG.I.2.1 129) rfl (og100 kog1) (og101 kog1) ?_
  intro a1 ea1 fa1
  have hJ1 := kG_a3 hG 129 rfl ea1 fa1 (kd_bd _)
  have fi_7431 : ((0 : Int) ≤ (i 7431).toInt) ∧ ((i 7431).toInt ≤ 1) := hJ1.I.1 7431
  refine ft_go mi_k163 2 11 [(0, .ref 116), (1, .int x1), (2, .int x2)] [.int (i 7431)] i a1 q r (by rfl) ?_
  refine ft_if mi_k163 ((i 7431) == 0) 22 14 [(0, .ref 116), (1, .int x1), (2, .int x2)] [] (by rfl) (fun c => ?_) (fun c => ?_)
  ·
    have c2 : (i 7431).toInt = (0 : Int32).toInt := kd_eq c; clear c
    refine ft_go mi_k163 4 28 [(0, .ref 116), (1, .int x1), (2, .int x2)] [.int x1, .ref 117, .int 5] i a1 q r (by rfl) ?_
    refine ko_iald3 mi_k163.1 (n := 24) (c := 24) (ax := (0, 0, 0, 0, 0)) (mi_k163.2 _ _ (by rfl)) (by rfl) (ksG117 _ _ _ _) (hJ1.I.2.1 117) rfl (og14 hp0.1) (og71 hp0.2) ?_
    have b3 : ((-2147483648 : Int) ≤ ((a1 117).getD x1.toNatClampNeg 0).toInt) ∧ (((a1 117).getD x1.toNatClampNeg 0).toInt ≤ 2147483647) := kd_bd ((a1 117).getD x1.toNatClampNeg 0)
    have s4 : (8 + x1).toInt = (8 : Int32).toInt + x1.toInt := kd_add (og73 hp0.1 kog8) (og74 hp0.2 kog8)
    refine ft_go mi_k163 6 38 [(0, .ref 116), (1, .int x1), (2, .int x2)] [.int (8 + x1), .ref 117, .int (5 * ((a1 117).getD x1.toNatClampNeg 0))] i a1 q r (by rfl) ?_
    refine ko_iald3 mi_k163.1 (n := 24) (c := 24) (ax := (0, 0, 0, 0, 0)) (mi_k163.2 _ _ (by rfl)) (by rfl) (ksG117 _ _ _ _) (hJ1.I.2.1 117) rfl (og75 hp0.1 s4 kog8) (og76 hp0.2 s4 kog8) ?_
    have b5 : ((-2147483648 : Int) ≤ (5 * ((a1 117).getD x1.toNatClampNeg 0)).toInt) ∧ ((5 * ((a1 117).getD x1.toNatClampNeg 0)).toInt ≤ 2147483647) := kd_bd (5 * ((a1 117).getD x1.toNatClampNeg 0))
    have b6 : ((-2147483648 : Int) ≤ ((a1 117).getD (8 + x1).toNatClampNeg 0).toInt) ∧ (((a1 117).getD (8 + x1).toNatClampNeg 0).toInt ≤ 2147483647) := kd_bd ((a1 117).getD (8 + x1).toNatClampNeg 0)
    have s7 : (10 + x1).toInt = (10 : Int32).toInt + x1.toInt := kd_add (og83 hp0.1 kog10) (og84 hp0.2 kog10)
    refine ft_go mi_k163 7 49 [(0, .ref 116), (1, .int x1), (2, .int x2)] [.int (10 + x1), .ref 118, .int 2, .int ((5 * ((a1 117).getD x1.toNatClampNeg 0)) + ((a1 117).getD (8 + x1).toNatClampNeg 0))] i a1 q r (by rfl) ?_
    refine ko_iald3 mi_k163.1 (n := 31) (c := 31) (ax := (0, 0, 0, 0, 0)) (mi_k163.2 _ _ (by rfl)) (by rfl) (ksG118 _ _ _ _) (hJ1.I.2.1 118) rfl (og85 hp0.1 s7 kog10) (og86 hp0.2 s7 kog10) ?_
    have r8 : (((10 + x1).toInt = 18 → (0 : Int) ≤ ((a1 118).getD (10 + x1).toNatClampNeg 0).toInt ∧ ((a1 118).getD (10 + x1).toNatClampNeg 0).toInt ≤ 5)) ∧ ((19 ≤ (10 + x1).toInt → (10 + x1).toInt ≤ 24 → (0 : Int) ≤ ((a1 118).getD (10 + x1).toNatClampNeg 0).toInt ∧ ((a1 118).getD (10 + x1).toNatClampNeg 0).toInt ≤ 7)) := kE_ncond (p := 118) hJ1.I (by decide) (j := (10 + x1)) (og85 hp0.1 s7 kog10)
    have u9 : ((a1 118).getD (10 + x1).toNatClampNeg 0).toInt = ((a 118).getD (10 + x1).toNatClampNeg 0).toInt := congrArg (fun z : List Int32 => (z.getD (10 + x1).toNatClampNeg 0).toInt) (fa1 118 (by decide))
    have b10 : ((-2147483648 : Int) ≤ ((a1 118).getD (10 + x1).toNatClampNeg 0).toInt) ∧ (((a1 118).getD (10 + x1).toNatClampNeg 0).toInt ≤ 2147483647) := kd_bd ((a1 118).getD (10 + x1).toNatClampNeg 0)
    have b11 : ((-2147483648 : Int) ≤ ((5 * ((a1 117).getD x1.toNatClampNeg 0)) + ((a1 117).getD (8 + x1).toNatClampNeg 0)).toInt) ∧ (((5 * ((a1 117).getD x1.toNatClampNeg 0)) + ((a1 117).getD (8 + x1).toNatClampNeg 0)).toInt ≤ 2147483647) := kd_bd ((5 * ((a1 117).getD x1.toNatClampNeg 0)) + ((a1 117).getD (8 + x1).toNatClampNeg 0))
    have b12 : ((-2147483648 : Int) ≤ (2 * ((a1 118).getD (10 + x1).toNatClampNeg 0)).toInt) ∧ ((2 * ((a1 118).getD (10 + x1).toNatClampNeg 0)).toInt ≤ 2147483647) := kd_bd (2 * ((a1 118).getD (10 + x1).toNatClampNeg 0))
    refine ft_go mi_k163 6 57 [(3, .int (((5 * ((a1 117).getD x1.toNatClampNeg 0)) + ((a1 117).getD (8 + x1).toNatClampNeg 0)) - (2 * ((a1 118).getD (10 + x1).toNatClampNeg 0)))), (0, .ref 116), (1, .int x1), (2, .int x2)] [.int (((5 * ((a1 117).getD x1.toNatClampNeg 0)) + ((a1 117).getD (8 + x1).toNatClampNeg 0)) - (2 * ((a1 118).getD (10 + x1).toNatClampNeg 0))), .int 99, .int 0] i a1 q r (by rfl) ?_
    have m14 : (((bif decide ((((5 * ((a1 117).getD x1.toNatClampNeg 0)) + ((a1 117).getD (8 + x1).toNatClampNeg 0)) - (2 * ((a1 118).getD (10 + x1).toNatClampNeg 0))) < 99) then (((5 * ((a1 117).getD x1.toNatClampNeg 0)) + ((a1 117).getD (8 + x1).toNatClampNeg 0)) - (2 * ((a1 118).getD (10 + x1).toNatClampNeg 0))) else 99).toInt ≤ (99 : Int32).toInt) ∧ ((bif decide ((((5 * ((a1 117).getD x1.toNatClampNeg 0)) + ((a1 117).getD (8 + x1).toNatClampNeg 0)) - (2 * ((a1 118).getD (10 + x1).toNatClampNeg 0))) < 99) then (((5 * ((a1 117).getD x1.toNatClampNeg 0)) + ((a1 117).getD (8 + x1).toNatClampNeg 0)) - (2 * ((a1 118).getD (10 + x1).toNatClampNeg 0))) else 99).toInt ≤ (((5 * ((a1 117).getD x1.toNatClampNeg 0)) + ((a1 117).getD (8 + x1).toNatClampNeg 0)) - (2 * ((a1 118).getD (10 + x1).toNatClampNeg 0))).toInt)) ∧ ((bif decide ((((5 * ((a1 117).getD x1.toNatClampNeg 0)) + ((a1 117).getD (8 + x1).toNatClampNeg 0)) - (2 * ((a1 118).getD (10 + x1).toNatClampNeg 0))) < 99) then (((5 * ((a1 117).getD x1.toNatClampNeg 0)) + ((a1 117).getD (8 + x1).toNatClampNeg 0)) - (2 * ((a1 118).getD (10 + x1).toNatClampNeg 0))) else 99).toInt = (99 : Int32).toInt ∨ (bif decide ((((5 * ((a1 117).getD x1.toNatClampNeg 0)) + ((a1 117).getD (8 + x1).toNatClampNeg 0)) - (2 * ((a1 118).getD (10 + x1).toNatClampNeg 0))) < 99) then (((5 * ((a1 117).getD x1.toNatClampNeg 0)) + ((a1 117).getD (8 + x1).toNatClampNeg 0)) - (2 * ((a1 118).getD (10 + x1).toNatClampNeg 0))) else 99).toInt = (((5 * ((a1 117).getD x1.toNatClampNeg 0)) + ((a1 117).getD (8 + x1).toNatClampNeg 0)) - (2 * ((a1 118).getD (10 + x1).toNatClampNeg 0))).toInt) := kd_min
    refine ft_go mi_k163 1 60 [(3, .int (((5 * ((a1 117).getD x1.toNatClampNeg 0)) + ((a1 117).getD (8 + x1).toNatClampNeg 0)) - (2 * ((a1 118).getD (10 + x1).toNatClampNeg 0)))), (0, .ref 116), (1, .int x1), (2, .int x2)] [.int (bif decide ((((5 * ((a1 117).getD x1.toNatClampNeg 0)) + ((a1 117).getD (8 + x1).toNatClampNeg 0)) - (2 * ((a1 118).getD (10 + x1).toNatClampNeg 0))) < 99) then (((5 * ((a1 117).getD x1.toNatClampNeg 0)) + ((a1 117).getD (8 + x1).toNatClampNeg 0)) - (2 * ((a1 118).getD (10 + x1).toNatClampNeg 0))) else 99), .int 0] i a1 q r (by rfl) ?_
    generalize hm13 : (bif decide ((((5 * ((a1 117).getD x1.toNatClampNeg 0)) + ((a1 117).getD (8 + x1).toNatClampNeg 0)) - (2 * ((a1 118).getD (10 + x1).toNatClampNeg 0))) < 99) then (((5 * ((a1 117).getD x1.toNatClampNeg 0)) + ((a1 117).getD (8 + x1).toNatClampNeg 0)) - (2 * ((a1 118).getD (10 + x1).toNatClampNeg 0))) else 99) = m13 at m14 ⊢
    have qm13 := hm13.symm
    have m16 : (((0 : Int32).toInt ≤ (bif decide (0 < m13) then m13 else 0).toInt) ∧ (m13.toInt ≤ (bif decide (0 < m13) then m13 else 0).toInt)) ∧ ((bif decide (0 < m13) then m13 else 0).toInt = (0 : Int32).toInt ∨ (bif decide (0 < m13) then m13 else 0).toInt = m13.toInt) := kd_max
    refine ft_go mi_k163 1 63 [(3, .int (((5 * ((a1 117).getD x1.toNatClampNeg 0)) + ((a1 117).getD (8 + x1).toNatClampNeg 0)) - (2 * ((a1 118).getD (10 + x1).toNatClampNeg 0)))), (0, .ref 116), (1, .int x1), (2, .int x2)] [.int (bif decide (0 < m13) then m13 else 0)] i a1 q r (by rfl) ?_
    generalize hm15 : (bif decide (0 < m13) then m13 else 0) = m15 at m16 ⊢
    have qm15 := hm15.symm
    exact ft_ret mi_k163 (by rfl) (hP m15 _ _ _ _ hJ1 ⟨trivial, (show m15 = rBuyV (i 7431) (wLaw (a 120) (a 121) (a 122) (a 123) [(a 117).getD x1.toNatClampNeg 0, x2, (a 117).getD (8 + x1).toNatClampNeg 0, (a 118).getD (9 : Int32).toNatClampNeg 0, (a 118).getD (10 + x1).toNatClampNeg 0, (a 118).getD (8 : Int32).toNatClampNeg 0] (i 7432).toInt.toNat 0) ((a 117).getD x1.toNatClampNeg 0) ((a 117).getD (8 + x1).toNatClampNeg 0) ((a 118).getD (10 + x1).toNatClampNeg 0) from (by unfold rBuyV; rw [if_pos (og102 c2 fi_7431.1 kog0)]; first | rfl | (simp only [kSet1 (l := a 129) (x := x2) (hG.I.2.1 129), qm15, qm13, fa1 117 (by decide), fa1 118 (by decide), sMn, sMx]; done) | (simp only [kSet1 (l := a 129) (x := x2) (hG.I.2.1 129), qm15, qm13, fa1 117 (by decide), fa1 118 (by decide), sMn, sMx]; rfl)))⟩)
  ·
    have c17 : (i 7431).toInt ≠ (0 : Int32).toInt := kd_eqF c; clear c
    refine ft_go mi_k163 2 16 [(0, .ref 116), (1, .int x1), (2, .int x2)] [.int x1, .ref 116] i a1 q r (by rfl) ?_
    refine ko_callI mi_k163.1 (pc := 16) (ls := [(0, .ref 116), (1, .int x1), (2, .int x2)]) (st := [.int x1, .ref 116]) (h := ks i a1 q r) (i := (.invokevirtual 227, 3, 162, 0, 9, 0, 419)) (mi_k163.2 _ _ (by rfl)) (ft_invS mi_pq162 (by rfl)) (cy := mi_c162) mi_pq162 rfl (ke162_116 hJ1.I hJ1.R x1 (og103 hp0.1 hp0.2) (kCode_of (i1 := i) hE_code (hJ1.fi 7432 rfl) (hJ1.fa 120 rfl) (hJ1.fa 121 rfl) (hJ1.fa 122 rfl) (hJ1.fa 123 rfl))) (by decide) ?_
    intro vg18 ig18 ag18 qg18 rg18 kg18 hg18
    have hGg18 := kG_call hJ1 kg18 (by decide +kernel)
    obtain ⟨hg18, og18⟩ := hg18
    have q19 : vg18 = wLaw (a1 120) (a1 121) (a1 122) (a1 123) [(a1 117).getD x1.toNatClampNeg 0, (a1 129).getD 1 0, (a1 117).getD (8 + x1).toNatClampNeg 0, (a1 118).getD (9 : Int32).toNatClampNeg 0, (a1 118).getD (10 + x1).toNatClampNeg 0, (a1 118).getD (8 : Int32).toNatClampNeg 0] (i 7432).toInt.toNat 0 := og18
    refine ft_go mi_k163 5 57 [(3, .int vg18), (0, .ref 116), (1, .int x1), (2, .int x2)] [.int vg18, .int 99, .int 0] ig18 ag18 qg18 rg18 (by rfl) ?_
    have m21 : (((bif decide (vg18 < 99) then vg18 else 99).toInt ≤ (99 : Int32).toInt) ∧ ((bif decide (vg18 < 99) then vg18 else 99).toInt ≤ vg18.toInt)) ∧ ((bif decide (vg18 < 99) then vg18 else 99).toInt = (99 : Int32).toInt ∨ (bif decide (vg18 < 99) then vg18 else 99).toInt = vg18.toInt) := kd_min
    refine ft_go mi_k163 1 60 [(3, .int vg18), (0, .ref 116), (1, .int x1), (2, .int x2)] [.int (bif decide (vg18 < 99) then vg18 else 99), .int 0] ig18 ag18 qg18 rg18 (by rfl) ?_
    generalize hm20 : (bif decide (vg18 < 99) then vg18 else 99) = m20 at m21 ⊢
    have qm20 := hm20.symm
    have m23 : (((0 : Int32).toInt ≤ (bif decide (0 < m20) then m20 else 0).toInt) ∧ (m20.toInt ≤ (bif decide (0 < m20) then m20 else 0).toInt)) ∧ ((bif decide (0 < m20) then m20 else 0).toInt = (0 : Int32).toInt ∨ (bif decide (0 < m20) then m20 else 0).toInt = m20.toInt) := kd_max
    refine ft_go mi_k163 1 63 [(3, .int vg18), (0, .ref 116), (1, .int x1), (2, .int x2)] [.int (bif decide (0 < m20) then m20 else 0)] ig18 ag18 qg18 rg18 (by rfl) ?_
    generalize hm22 : (bif decide (0 < m20) then m20 else 0) = m22 at m23 ⊢
    have qm22 := hm22.symm
    exact ft_ret mi_k163 (by rfl) (hP m22 _ _ _ _ hGg18 ⟨trivial, (show m22 = rBuyV (i 7431) (wLaw (a 120) (a 121) (a 122) (a 123) [(a 117).getD x1.toNatClampNeg 0, x2, (a 117).getD (8 + x1).toNatClampNeg 0, (a 118).getD (9 : Int32).toNatClampNeg 0, (a 118).getD (10 + x1).toNatClampNeg 0, (a 118).getD (8 : Int32).toNatClampNeg 0] (i 7432).toInt.toNat 0) ((a 117).getD x1.toNatClampNeg 0) ((a 117).getD (8 + x1).toNatClampNeg 0) ((a 118).getD (10 + x1).toNatClampNeg 0) from (by unfold rBuyV; rw [if_neg (og104 c17 fi_7431.1 kog0)]; first | rfl | (simp only [kSet1 (l := a 129) (x := x2) (hG.I.2.1 129), qm22, qm20, q19, fa1 120 (by decide), fa1 121 (by decide), fa1 122 (by decide), fa1 123 (by decide), fa1 117 (by decide), ea1, fa1 118 (by decide), sMn, sMx]; done) | (simp only [kSet1 (l := a 129) (x := x2) (hG.I.2.1 129), qm22, qm20, q19, fa1 120 (by decide), fa1 121 (by decide), fa1 122 (by decide), fa1 123 (by decide), fa1 117 (by decide), ea1, fa1 118 (by decide), sMn, sMx]; rfl)))⟩)
