theorem toy54 {a0 a1 a2 : Int} (h0 : a0 < a1) (h1 : a1 = a2) : a0 ≤ a2 := by omega
theorem toy74 {a0 a1 : Int} (h0 : a0 ≤ a1) (h1 : a0 = 20) : (0 : Int) ≤ a1 := by omega
theorem toy75 {a0 a1 : Int} (h0 : a0 ≤ a1) (h1 : a1 ≤ 20) (h2 : a0 = 20) : a1 = 20 := by omega
theorem toy121 {a0 a1 : Int} (h0 : a0 ≠ a1) (h1 : a1 ≤ a0) (h2 : a1 = 0) : ¬ (a0 = 0) := by omega
theorem toy122 {a0 a1 a2 : Int} (h0 : a0 ≠ a1) (h1 : a0 ≠ a2) (h2 : a1 ≤ a0) (h3 : a1 = 0) (h4 : a2 = 1) : ¬ (a0 = 1) := by omega
theorem toy127 {a0 a1 : Int} (h0 : a0 = a1) (h1 : a1 = 1) : ¬ (a0 = 2) := by omega
theorem toy129 {a0 a1 : Int} (h0 : a0 = a1) (h1 : a1 = 0) : ¬ (a0 = 1) := by omega
theorem toy130 {a0 a1 : Int} (h0 : a0 = a1) (h1 : a1 = 0) : ¬ (a0 = 2) := by omega
theorem toy131 {a0 a1 : Int} (h0 : a0 ≤ a1) : ¬ (a1 < a0) := by omega
