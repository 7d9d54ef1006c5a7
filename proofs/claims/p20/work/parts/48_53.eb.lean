theorem ob25 {a0 a1 : Int} (h0 : a0 ≠ a1) : ¬ (a0 = a1) := by omega
theorem ob26 {a0 a1 a2 : Int} (h0 : a0 ≠ a1) (h1 : a0 = a2) (h2 : a1 = 8) : ¬ (a2 = 8) := by omega
theorem ob31 {a0 a1 a2 a3 : Int} (h0 : a0 < a1) (h1 : a1 = (a2 - 1)) (h2 : a2 ≤ 5) (h3 : a3 = 19) : a3 + a0 ≤ 2147483647 := by omega
theorem ob33 {a0 a1 a2 a3 : Int} (h0 : a0 < a1) (h1 : a1 = (a2 - 1)) (h2 : a2 ≤ 5) (h3 : a3 = 20) : a3 + a0 ≤ 2147483647 := by omega
theorem ob35 {a0 a1 a2 a3 a4 : Int} (h0 : a0 < a1) (h1 : a1 = (a2 - 1)) (h2 : a2 ≤ 5) (h3 : a3 = a4 + a0) (h4 : a4 = 20) : a3 < 31 := by omega
theorem ob38 {a0 a1 a2 a3 a4 : Int} (h0 : a0 < a1) (h1 : a1 = (a2 - 1)) (h2 : a2 ≤ 5) (h3 : a3 = a4 + a0) (h4 : a4 = 19) : a3 < 31 := by omega
theorem ob40 {a0 a1 a2 a3 a4 a5 a6 : Int} (h0 : a0 < a1) (h1 : (0 : Int) ≤ a0) (h2 : a1 = (a2 - 1)) (h3 : a2 ≤ 5) (h4 : (19 ≤ a3 → a3 ≤ 24 → (0 : Int) ≤ a4 ∧ a4 ≤ 7)) (h5 : a3 = a5 + a0) (h6 : a5 = 20) : 19 ≤ a6 → a6 ≤ 24 → (0 : Int) ≤ a4 ∧ a4 ≤ 7 := by omega
theorem ob42 {a0 a1 a2 a3 : Int} (h0 : a0 < a1) (h1 : a1 = (a2 - 1)) (h2 : a2 ≤ 5) (h3 : a3 = 25) : a3 + a0 ≤ 2147483647 := by omega
theorem ob44 {a0 a1 a2 a3 : Int} (h0 : a0 < a1) (h1 : a1 = (a2 - 1)) (h2 : a2 ≤ 5) (h3 : a3 = 26) : a3 + a0 ≤ 2147483647 := by omega
theorem ob46 {a0 a1 a2 a3 a4 : Int} (h0 : a0 < a1) (h1 : a1 = (a2 - 1)) (h2 : a2 ≤ 5) (h3 : a3 = a4 + a0) (h4 : a4 = 26) : a3 < 31 := by omega
theorem ob49 {a0 a1 a2 a3 a4 : Int} (h0 : a0 < a1) (h1 : a1 = (a2 - 1)) (h2 : a2 ≤ 5) (h3 : a3 = a4 + a0) (h4 : a4 = 25) : a3 < 31 := by omega
theorem ob53 {a0 a1 a2 a3 : Int} (h0 : a0 < a1) (h1 : a1 = (a2 - 1)) (h2 : a2 ≤ 5) (h3 : a3 = 1) : a0 + a3 ≤ 2147483647 := by omega
theorem ob57 {a0 a1 a2 a3 a4 a5 : Int} (h0 : a0 < a1) (h1 : a2 = a0 + a3) (h2 : a4 = a1) (h3 : a5 = a4) (h4 : a3 = 1) : a2 ≤ a5 := by omega
theorem ob59 {a0 a1 a2 : Int} (h0 : a0 = a1 + a2) (h1 : a1 = 19) : a0 = 19 + a2 := by omega
theorem ob60 {a0 a1 a2 : Int} (h0 : a0 = a1 + a2) (h1 : a1 = 20) : a0 = 20 + a2 := by omega
theorem ob61 {a0 a1 a2 : Int} (h0 : a0 = a1 + a2) (h1 : a1 = 25) : a0 = 25 + a2 := by omega
theorem ob62 {a0 a1 a2 : Int} (h0 : a0 = a1 + a2) (h1 : a1 = 26) : a0 = 26 + a2 := by omega
theorem ob65 {a0 a1 a2 : Int} (h0 : a0 < a1) (h1 : a1 = (a2 - 1)) (h2 : a2 ≤ 5) : (1 : Int) ≤ (5 - a0) := by omega
theorem ob67 {a0 a1 : Int} (h0 : (0 : Int) ≤ a0) (h1 : a1 = 0) : a1 ≤ a0 := by omega
theorem ob69 {a0 a1 a2 a3 a4 : Int} (h0 : a0 ≤ a1) (h1 : a1 ≤ a0) (h2 : a0 = (a2 - 1)) (h3 : a3 = a2 - a4) (h4 : a4 = 1) : a1 = a3 := by omega
