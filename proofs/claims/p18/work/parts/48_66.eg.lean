theorem kog0 : (0 : Int32).toInt = 0 := by decide
theorem kog1 : (1 : Int32).toInt = 1 := by decide
theorem kog8 : (8 : Int32).toInt = 8 := by decide
theorem kog9 : (9 : Int32).toInt = 9 := by decide
theorem kog10 : (10 : Int32).toInt = 10 := by decide
theorem kog18 : (18 : Int32).toInt = 18 := by decide
theorem kog5 : (5 : Int32).toInt = 5 := by decide
theorem kog16 : (16 : Int32).toInt = 16 := by decide
theorem kog17 : (17 : Int32).toInt = 17 := by decide
theorem kogm1 : ((-1) : Int32).toInt = (-1) := by decide
theorem kog2 : (2 : Int32).toInt = 2 := by decide
theorem kog3 : (3 : Int32).toInt = 3 := by decide
theorem kog4 : (4 : Int32).toInt = 4 := by decide
theorem og0 {a0 a1 : Int} (h0 : a0 ≠ a1) (h1 : a1 = 0) : a0 ≠ 0 := by omega
theorem og1 {a0 : Int} (h0 : ¬ (a0 = 6)) (h1 : ¬ (a0 = 7)) (h2 : ¬ (a0 = 8)) (h3 : ¬ (a0 = 9)) (h4 : ¬ (a0 = 10)) (h5 : ¬ (a0 = 11)) (h6 : ¬ (a0 = 12)) (h7 : ¬ (a0 = 13)) (h8 : ¬ (a0 = 14)) : a0 < 6 ∨ 14 < a0 := by omega
theorem og2 {a0 : Int} (h0 : a0 = 0) : (0 : Int) ≤ a0 := by omega
theorem og3 {a0 : Int} (h0 : a0 = 0) : a0 < 200 := by omega
theorem og4 {a0 a1 : Int} (h0 : a0 ≤ a1) (h1 : a1 ≤ a0) : a1 = a0 := by omega
theorem og5 {a0 a1 : Int} (h0 : a0 ≤ a1) (h1 : a1 ≤ a0) : a0 = a1 := by omega
theorem og6 {a0 a1 : Int} (h0 : (0 : Int) ≤ a0) (h1 : a0 ≤ a1) : (0 : Int) ≤ a1 := by omega
theorem og7 {a0 a1 : Int} (h0 : a0 < a1) (h1 : a1 ≤ 200) : a0 < 200 := by omega
theorem og8 {a0 a1 : Int} (h0 : a0 < a1) : a0 < a1 := by omega
theorem og9 {a0 a1 : Int} (h0 : (0 : Int) ≤ a0) (h1 : a1 = 1) : (-2147483648 : Int) ≤ a0 + a1 := by omega
theorem og10 {a0 a1 : Int} (h0 : a0 ≤ 200) (h1 : a1 = 1) : a0 + a1 ≤ 2147483647 := by omega
theorem og11 {a0 a1 : Int} (h0 : a0 ≤ a1) (h1 : a1 < a0) (h2 : a0 = 18) : False := by omega
theorem og12 {a0 a1 : Int} (h0 : a0 ≤ a1) (h1 : a0 = 18) : (-2147483648 : Int) ≤ a1 - a0 := by omega
theorem og13 {a0 a1 : Int} (h0 : a0 ≤ 2147483647) (h1 : a1 = 18) : a0 - a1 ≤ 2147483647 := by omega
theorem og14 {a0 : Int} (h0 : (0 : Int) ≤ a0) : (0 : Int) ≤ a0 := by omega
theorem og15 {a0 a1 a2 : Int} (h0 : a0 < a1) (h1 : a1 ≤ 200) (h2 : a2 ≤ a0) : a2 < 200 := by omega
theorem og16 {a0 a1 a2 : Int} (h0 : (0 : Int) ≤ a0) (h1 : a0 ≤ a1) (h2 : a2 = 1) : (-2147483648 : Int) ≤ a1 + a2 := by omega
theorem og17 {a0 a1 a2 : Int} (h0 : a0 < a1) (h1 : a1 ≤ 200) (h2 : a2 = 1) : a0 + a2 ≤ 2147483647 := by omega
theorem og18 {a0 a1 a2 a3 : Int} (h0 : a0 ≤ a1) (h1 : a2 = a1 + a3) (h2 : a3 = 1) : a0 ≤ a2 := by omega
theorem og19 {a0 a1 a2 a3 a4 : Int} (h0 : a0 < a1) (h1 : a1 ≤ 200) (h2 : (0 : Int) ≤ a2) (h3 : a3 = a2 + a4) (h4 : a2 ≤ a0) (h5 : a4 = 1) : ((0 : Int) ≤ a3) ∧ (a3 ≤ 200) := by omega
theorem og20 {a0 a1 a2 a3 : Int} (h0 : a0 < a1) (h1 : a2 = a0 + a3) (h2 : a3 = 1) : a2 ≤ a1 := by omega
theorem og21 {a0 a1 a2 a3 a4 : Int} (h0 : a0 ≤ a1) (h1 : a2 = a3 + a4) (h2 : a0 = 18) (h3 : a4 = 1) : ((18 ≤ a1 ∨ a1 ≤ 5) → a2 = a3 + 1) ∧ ((a1 = 16 ∨ a1 = 17) → a2 = a3) ∧ ((6 ≤ a1 ∧ a1 ≤ 15) → a2 = a3 - 1) := by omega
theorem og22 {a0 a1 a2 : Int} (h0 : a0 = a1 + a2) (h1 : a2 = 1) : a0 = a1 + 1 := by omega
theorem og23 {a0 a1 : Int} (h0 : a0 ≤ a1) : a0 ≤ a1 := by omega
theorem og24 {a0 : Int} (h0 : a0 ≤ 200) : a0 ≤ 200 := by omega
theorem og25 {a0 a1 : Int} (h0 : a0 ≤ a1) (h1 : a0 = 18) : 18 ≤ a1 ∨ a1 ≤ 5 := by omega
theorem og26 {a0 a1 : Int} (h0 : a0 ≤ a1) (h1 : a0 = 18) : 18 ≤ a1 := by omega
theorem og27 {a0 a1 a2 a3 : Int} (h0 : a0 = a1 + a2) (h1 : a2 = 1) : (a3 - a0) < (a3 - a1) := by omega
theorem og28 {a0 a1 : Int} (h0 : a0 < a1) : (1 : Int) ≤ (a1 - a0) := by omega
theorem og29 {a0 a1 : Int} (h0 : (0 : Int) ≤ a0) (h1 : a1 = 1) : (-2147483648 : Int) ≤ a0 - a1 := by omega
theorem og30 {a0 a1 : Int} (h0 : a0 ≤ 200) (h1 : a1 = 1) : a0 - a1 ≤ 2147483647 := by omega
theorem og31 {a0 a1 a2 a3 a4 a5 : Int} (h0 : a0 < a1) (h1 : a0 = a2) (h2 : a3 = a4 - a5) (h3 : ((a0 = 16 ∨ a0 = 17) → (1 : Int) ≤ a4)) (h4 : a1 = 18) (h5 : a2 = 16) (h6 : a5 = 1) : (0 : Int) ≤ a3 := by omega
theorem og32 {a0 a1 a2 : Int} (h0 : a0 ≤ 200) (h1 : a1 = a0 - a2) (h2 : a2 = 1) : a1 < 200 := by omega
theorem og33 {a0 : Int} (h0 : (0 : Int) ≤ a0) (h1 : a0 ≤ 200) : ((0 : Int) ≤ a0) ∧ (a0 ≤ 200) := by omega
theorem og34 {a0 a1 a2 a3 : Int} (h0 : a0 < a1) (h1 : a0 = a2) (h2 : a1 = 18) (h3 : a2 = 16) : ((18 ≤ a0 ∨ a0 ≤ 5) → a3 = a3 + 1) ∧ ((a0 = 16 ∨ a0 = 17) → a3 = a3) ∧ ((6 ≤ a0 ∧ a0 ≤ 15) → a3 = a3 - 1) := by omega
theorem og35 {a0 a1 : Int} (h0 : a0 = a1) (h1 : a1 = 16) : a0 = 16 ∨ a0 = 17 := by omega
theorem og36 {a0 a1 : Int} (h0 : a0 = a1) (h1 : a1 = 16) : ¬ (a0 = 17) := by omega
theorem og37 {a0 a1 : Int} (h0 : a0 ≠ a1) (h1 : a1 = 0) : ¬ (a0 = 0) := by omega
theorem og38 {a0 a1 a2 a3 : Int} (h0 : a0 < a1) (h1 : a0 = a2) (h2 : ((a0 = 16 ∨ a0 = 17) → (1 : Int) ≤ a3)) (h3 : a1 = 18) (h4 : a2 = 16) : (1 : Int) ≤ a3 := by omega
theorem og39 {a0 a1 a2 : Int} (h0 : a0 = a1 - a2) (h1 : a2 = 1) : a0 = a1 - 1 := by omega
theorem og40 {a0 : Int}  : a0 = a0 := by omega
theorem og41 {a0 a1 : Int} (h0 : a0 = a1) (h1 : a1 = 0) : a0 = 0 := by omega
theorem og42 {a0 a1 a2 : Int} (h0 : a0 = a1) (h1 : a0 = a2) (h2 : a1 = 16) (h3 : a2 = 17) : False := by omega
theorem og43 {a0 a1 : Int} (h0 : (0 : Int) ≤ a0) (h1 : a1 = (-1)) : (-2147483648 : Int) ≤ a0 + a1 := by omega
theorem og44 {a0 a1 : Int} (h0 : a0 ≤ 200) (h1 : a1 = (-1)) : a0 + a1 ≤ 2147483647 := by omega
theorem og45 {a0 a1 a2 a3 : Int} (h0 : (0 : Int) ≤ a0) (h1 : a1 = a0 + a2) (h2 : a2 = (-1)) (h3 : a3 = 1) : (-2147483648 : Int) ≤ a1 - a3 := by omega
theorem og46 {a0 a1 a2 a3 : Int} (h0 : a0 ≤ 200) (h1 : a1 = a0 + a2) (h2 : a2 = (-1)) (h3 : a3 = 1) : a1 - a3 ≤ 2147483647 := by omega
theorem og47 {a0 a1 a2 a3 a4 a5 a6 a7 a8 a9 : Int} (h0 : a0 < a1) (h1 : a2 < a0) (h2 : a0 ≠ a3) (h3 : a0 ≠ a4) (h4 : a5 = a6 + a7) (h5 : a8 = a5 - a9) (h6 : ((6 ≤ a0 ∧ a0 ≤ 15) → (2 : Int) ≤ a6)) (h7 : a1 = 18) (h8 : a2 = 5) (h9 : a3 = 16) (h10 : a4 = 17) (h11 : a7 = (-1)) (h12 : a9 = 1) : (0 : Int) ≤ a8 := by omega
theorem og48 {a0 a1 a2 a3 a4 : Int} (h0 : a0 ≤ 200) (h1 : a1 = a0 + a2) (h2 : a3 = a1 - a4) (h3 : a2 = (-1)) (h4 : a4 = 1) : a3 < 200 := by omega
theorem og49 {a0 a1 a2 a3 a4 a5 : Int} (h0 : a0 < a1) (h1 : a2 < a0) (h2 : a3 = a4 + a5) (h3 : ((a0 = 16 ∨ a0 = 17) → (1 : Int) ≤ a4)) (h4 : ((6 ≤ a0 ∧ a0 ≤ 15) → (2 : Int) ≤ a4)) (h5 : a1 = 18) (h6 : a2 = 5) (h7 : a5 = (-1)) : (0 : Int) ≤ a3 := by omega
theorem og50 {a0 a1 a2 : Int} (h0 : a0 ≤ 200) (h1 : a1 = a0 + a2) (h2 : a2 = (-1)) : a1 < 200 := by omega
theorem og51 {a0 a1 a2 a3 a4 a5 : Int} (h0 : a0 < a1) (h1 : a2 < a0) (h2 : a3 ≤ 200) (h3 : a4 = a3 + a5) (h4 : ((a0 = 16 ∨ a0 = 17) → (1 : Int) ≤ a3)) (h5 : ((6 ≤ a0 ∧ a0 ≤ 15) → (2 : Int) ≤ a3)) (h6 : a1 = 18) (h7 : a2 = 5) (h8 : a5 = (-1)) : ((0 : Int) ≤ a4) ∧ (a4 ≤ 200) := by omega
theorem og52 {a0 a1 a2 a3 a4 a5 a6 a7 : Int} (h0 : a0 < a1) (h1 : a2 < a0) (h2 : a0 ≠ a3) (h3 : a0 ≠ a4) (h4 : a5 = a6 + a7) (h5 : a1 = 18) (h6 : a2 = 5) (h7 : a3 = 16) (h8 : a4 = 17) (h9 : a7 = (-1)) : ((18 ≤ a0 ∨ a0 ≤ 5) → a5 = a6 + 1) ∧ ((a0 = 16 ∨ a0 = 17) → a5 = a6) ∧ ((6 ≤ a0 ∧ a0 ≤ 15) → a5 = a6 - 1) := by omega
theorem og53 {a0 a1 a2 a3 a4 a5 : Int} (h0 : a0 < a1) (h1 : a2 < a0) (h2 : a0 ≠ a3) (h3 : a0 ≠ a4) (h4 : ((6 ≤ a0 ∧ a0 ≤ 15) → (2 : Int) ≤ a5)) (h5 : a1 = 18) (h6 : a2 = 5) (h7 : a3 = 16) (h8 : a4 = 17) : (2 : Int) ≤ a5 := by omega
theorem og54 {a0 a1 : Int} (h0 : a0 < a1) (h1 : a0 = 5) : (6 : Int) ≤ a1 := by omega
theorem og55 {a0 a1 a2 a3 : Int} (h0 : a0 < a1) (h1 : a0 ≠ a2) (h2 : a0 ≠ a3) (h3 : a1 = 18) (h4 : a2 = 16) (h5 : a3 = 17) : a0 ≤ 15 := by omega
theorem og56 {a0 a1 a2 a3 a4 : Int} (h0 : a0 = a1 + a2) (h1 : a3 = a0 - a4) (h2 : a2 = (-1)) (h3 : a4 = 1) : a3 = a1 - 2 := by omega
theorem og57 {a0 a1 a2 : Int} (h0 : a0 = a1 + a2) (h1 : a2 = (-1)) : a0 = a1 - 1 := by omega
theorem og58 {a0 a1 a2 : Int} (h0 : a0 < a1) (h1 : a0 = a2) (h2 : a0 ≠ a2) (h3 : a1 = 18) (h4 : a2 = 17) : False := by omega
theorem og59 {a0 a1 a2 a3 a4 a5 : Int} (h0 : a0 < a1) (h1 : a0 = a2) (h2 : a3 = a4 - a5) (h3 : ((a0 = 16 ∨ a0 = 17) → (1 : Int) ≤ a4)) (h4 : a1 = 18) (h5 : a2 = 17) (h6 : a5 = 1) : (0 : Int) ≤ a3 := by omega
theorem og60 {a0 a1 a2 a3 : Int} (h0 : a0 < a1) (h1 : a0 = a2) (h2 : a1 = 18) (h3 : a2 = 17) : ((18 ≤ a0 ∨ a0 ≤ 5) → a3 = a3 + 1) ∧ ((a0 = 16 ∨ a0 = 17) → a3 = a3) ∧ ((6 ≤ a0 ∧ a0 ≤ 15) → a3 = a3 - 1) := by omega
theorem og61 {a0 a1 a2 : Int} (h0 : a0 < a1) (h1 : a0 = a2) (h2 : a1 = 18) (h3 : a2 = 17) : a0 = 16 ∨ a0 = 17 := by omega
theorem og62 {a0 a1 a2 : Int} (h0 : a0 < a1) (h1 : a0 = a2) (h2 : a1 = 18) (h3 : a2 = 17) : a0 = 17 := by omega
theorem og63 {a0 a1 a2 a3 : Int} (h0 : a0 < a1) (h1 : a0 = a2) (h2 : ((a0 = 16 ∨ a0 = 17) → (1 : Int) ≤ a3)) (h3 : a1 = 18) (h4 : a2 = 17) : (1 : Int) ≤ a3 := by omega
theorem og64 {a0 a1 : Int} (h0 : a0 ≤ a1) (h1 : a1 = 5) : a0 < 6 := by omega
theorem og65 {a0 a1 a2 a3 a4 : Int} (h0 : a0 ≤ a1) (h1 : a2 = a3 + a4) (h2 : a1 = 5) (h3 : a4 = 1) : ((18 ≤ a0 ∨ a0 ≤ 5) → a2 = a3 + 1) ∧ ((a0 = 16 ∨ a0 = 17) → a2 = a3) ∧ ((6 ≤ a0 ∧ a0 ≤ 15) → a2 = a3 - 1) := by omega
theorem og66 {a0 a1 : Int} (h0 : a0 ≤ a1) (h1 : a1 = 5) : 18 ≤ a0 ∨ a0 ≤ 5 := by omega
theorem og67 {a0 a1 : Int} (h0 : a0 < a1) (h1 : a1 = 18) : ¬ (18 ≤ a0) := by omega
theorem og68 {a0 a1 : Int} (h0 : a0 < a1) (h1 : a1 ≤ a0) (h2 : a1 = 18) : False := by omega
theorem og69 {a0 : Int}  : a0 ≤ a0 := by omega
theorem og70 {a0 : Int} (h0 : a0 = 0) : ((0 : Int) ≤ a0) ∧ (a0 ≤ 200) := by omega
theorem og71 {a0 : Int} (h0 : a0 ≤ 7) : a0 < 24 := by omega
theorem og72 {a0 : Int} (h0 : a0 = 0) : a0 < 6 := by omega
theorem og73 {a0 a1 : Int} (h0 : (0 : Int) ≤ a0) (h1 : a1 = 8) : (-2147483648 : Int) ≤ a1 + a0 := by omega
theorem og74 {a0 a1 : Int} (h0 : a0 ≤ 7) (h1 : a1 = 8) : a1 + a0 ≤ 2147483647 := by omega
theorem og75 {a0 a1 a2 : Int} (h0 : (0 : Int) ≤ a0) (h1 : a1 = a2 + a0) (h2 : a2 = 8) : (0 : Int) ≤ a1 := by omega
theorem og76 {a0 a1 a2 : Int} (h0 : a0 ≤ 7) (h1 : a1 = a2 + a0) (h2 : a2 = 8) : a1 < 24 := by omega
theorem og77 {a0 : Int} (h0 : a0 = 2) : (0 : Int) ≤ a0 := by omega
theorem og78 {a0 : Int} (h0 : a0 = 2) : a0 < 6 := by omega
theorem og79 {a0 : Int} (h0 : a0 = 9) : (0 : Int) ≤ a0 := by omega
theorem og80 {a0 : Int} (h0 : a0 = 9) : a0 < 31 := by omega
theorem og81 {a0 : Int} (h0 : a0 = 3) : (0 : Int) ≤ a0 := by omega
theorem og82 {a0 : Int} (h0 : a0 = 3) : a0 < 6 := by omega
theorem og83 {a0 a1 : Int} (h0 : (0 : Int) ≤ a0) (h1 : a1 = 10) : (-2147483648 : Int) ≤ a1 + a0 := by omega
theorem og84 {a0 a1 : Int} (h0 : a0 ≤ 7) (h1 : a1 = 10) : a1 + a0 ≤ 2147483647 := by omega
theorem og85 {a0 a1 a2 : Int} (h0 : (0 : Int) ≤ a0) (h1 : a1 = a2 + a0) (h2 : a2 = 10) : (0 : Int) ≤ a1 := by omega
theorem og86 {a0 a1 a2 : Int} (h0 : a0 ≤ 7) (h1 : a1 = a2 + a0) (h2 : a2 = 10) : a1 < 31 := by omega
theorem og87 {a0 : Int} (h0 : a0 = 4) : (0 : Int) ≤ a0 := by omega
theorem og88 {a0 : Int} (h0 : a0 = 4) : a0 < 6 := by omega
theorem og89 {a0 : Int} (h0 : a0 = 8) : (0 : Int) ≤ a0 := by omega
theorem og90 {a0 : Int} (h0 : a0 = 8) : a0 < 31 := by omega
theorem og91 {a0 : Int} (h0 : a0 = 5) : (0 : Int) ≤ a0 := by omega
theorem og92 {a0 : Int} (h0 : a0 = 5) : a0 < 6 := by omega
theorem og93 {a0 a1 a2 : Int} (h0 : a0 ≤ a1) (h1 : a0 = a2) : a2 ≤ a1 := by omega
theorem og94 {a0 a1 : Int} (h0 : a0 < a1) (h1 : a1 ≤ 60) : a0 < 60 := by omega
theorem og95 {a0 a1 a2 : Int} (h0 : a0 < a1) (h1 : a1 = a2) : a0 < a2 := by omega
theorem og96 {a0 a1 a2 : Int} (h0 : a0 < a1) (h1 : a2 = a1) : a0 < a2 := by omega
theorem og97 {a0 a1 a2 : Int} (h0 : a0 < a1) (h1 : a1 ≤ 60) (h2 : a2 = 1) : a0 + a2 ≤ 2147483647 := by omega
theorem og98 {a0 a1 a2 : Int} (h0 : (0 : Int) ≤ a0) (h1 : a1 = a0 + a2) (h2 : a2 = 1) : (0 : Int) ≤ a1 := by omega
theorem og99 {a0 a1 a2 a3 a4 : Int} (h0 : a0 = a1) (h1 : a2 = a3 + a4) (h2 : a4 = 1) : (a0 - a2) < (a1 - a3) := by omega
theorem og100 {a0 : Int} (h0 : a0 = 1) : (0 : Int) ≤ a0 := by omega
theorem og101 {a0 : Int} (h0 : a0 = 1) : a0 < 6 := by omega
theorem og102 {a0 a1 : Int} (h0 : a0 = a1) (h1 : (0 : Int) ≤ a0) (h2 : a1 = 0) : a0 = 0 := by omega
theorem og103 {a0 : Int} (h0 : (0 : Int) ≤ a0) (h1 : a0 ≤ 7) : ((0 : Int) ≤ a0) ∧ (a0 ≤ 7) := by omega
theorem og104 {a0 a1 : Int} (h0 : a0 ≠ a1) (h1 : (0 : Int) ≤ a0) (h2 : a1 = 0) : ¬ (a0 = 0) := by omega
