theorem ox0 {a0 a1 a2 : Int} (h0 : a0 ≤ a1) (h1 : a0 = a2) (h2 : a1 ≤ a2) : a1 = a2 := by omega
theorem ox9 {a0 a1 a2 a3 a4 : Int} (h0 : a0 < a1) (h1 : a1 = a2) (h2 : a3 = a0 + a4) (h3 : a4 = 1) : a3 ≤ a2 := by omega
