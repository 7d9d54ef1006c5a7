theorem kod0 : (0 : Int32).toInt = 0 := by decide
theorem kod121 : (121 : Int32).toInt = 121 := by decide
theorem kod1 : (1 : Int32).toInt = 1 := by decide
theorem kod6 : (6 : Int32).toInt = 6 := by decide
theorem kod2 : (2 : Int32).toInt = 2 := by decide
theorem kod3 : (3 : Int32).toInt = 3 := by decide
theorem kod5 : (5 : Int32).toInt = 5 := by decide
theorem kod4 : (4 : Int32).toInt = 4 := by decide
theorem od0 {a0 : Int} (h0 : a0 = 0) : (0 : Int) ≤ a0 := by omega
theorem od1 {a0 : Int} (h0 : a0 = 0) : a0 ≤ 121 := by omega
theorem od2 {a0 a1 : Int} (h0 : a0 ≤ a1) (h1 : a0 = 121) : 121 ≤ a1 := by omega
theorem od3 {a0 a1 a2 : Int} (h0 : a0 < a1) (h1 : a1 = 0) : ¬ (0 ≤ a0 ∧ a0 < a2) := by omega
theorem od4 {a0 a1 a2 : Int} (h0 : a0 ≤ a1) (h1 : a0 = a2) : ¬ (0 ≤ a1 ∧ a1 < a2) := by omega
theorem od5 {a0 a1 : Int} (h0 : a0 ≤ a1) (h1 : a0 = 0) : (0 : Int) ≤ a1 := by omega
theorem od6 {a0 a1 : Int} (h0 : a0 < a1) (h1 : a1 ≤ 121) : a0 < 121 := by omega
theorem od7 {a0 a1 a2 : Int} (h0 : a0 ≤ a1) (h1 : a0 = 0) (h2 : a2 = 1) : (-2147483648 : Int) ≤ a1 + a2 := by omega
theorem od8 {a0 a1 a2 : Int} (h0 : a0 < a1) (h1 : a1 ≤ 121) (h2 : a2 = 1) : a0 + a2 ≤ 2147483647 := by omega
theorem od9 {a0 a1 : Int} (h0 : a0 ≤ a1) (h1 : a0 = 121) : ((a1 ≤ 120) ∧ (a1 = (a1 + 1))) ∨ (((121 : Int) ≤ a1) ∧ (a1 = a1)) := by omega
theorem od10 {a0 a1 : Int} (h0 : a0 ≤ a1) (h1 : a0 = 121) : ¬ (a1 ≤ 120) := by omega
theorem od11 {a0 : Int} (h0 : (0 : Int) ≤ a0) : (0 : Int) ≤ a0 := by omega
theorem od12 {a0 a1 : Int} (h0 : a0 < a1) (h1 : a1 = 121) : a0 < 121 := by omega
theorem od13 {a0 a1 : Int} (h0 : (0 : Int) ≤ a0) (h1 : a1 = 1) : (-2147483648 : Int) ≤ a0 + a1 := by omega
theorem od14 {a0 a1 : Int} (h0 : a0 ≤ 121) (h1 : a1 = 1) : a0 + a1 ≤ 2147483647 := by omega
theorem od15 {a0 a1 a2 : Int} (h0 : (0 : Int) ≤ a0) (h1 : a1 = a0 + a2) (h2 : a2 = 1) : (0 : Int) ≤ a1 := by omega
theorem od16 {a0 a1 a2 a3 : Int} (h0 : a0 < a1) (h1 : a2 = a0 + a3) (h2 : a1 = 121) (h3 : a3 = 1) : a2 ≤ 121 := by omega
theorem od17 {a0 a1 a2 a3 : Int} (h0 : a0 < a1) (h1 : a2 = a0 + a3) (h2 : a1 = 121) (h3 : a3 = 1) : ((a0 ≤ 120) ∧ (a2 = (a0 + 1))) ∨ (((121 : Int) ≤ a0) ∧ (a2 = a0)) := by omega
theorem od18 {a0 a1 : Int} (h0 : a0 < a1) (h1 : a1 = 121) : a0 ≤ 120 := by omega
theorem od19 {a0 a1 a2 : Int} (h0 : a0 < a1) (h1 : a1 = 121) (h2 : a2 = 1) : a0 + a2 ≤ 2147483647 := by omega
theorem od20 {a0 a1 a2 : Int} (h0 : a0 < a1) (h1 : a1 = a2) : a0 < a2 := by omega
theorem od21 {a0 a1 a2 : Int} (h0 : a0 = a1 + a2) (h1 : a2 = 1) : a0 = a1 + 1 := by omega
theorem od22 {a0 : Int} (h0 : a0 = 0) : a0 = 0 := by omega
theorem od23 {a0 a1 a2 : Int} (h0 : a0 = a1 + a2) (h1 : a2 = 1) : (121 - a0) < (121 - a1) := by omega
theorem od24 {a0 a1 : Int} (h0 : a0 < a1) (h1 : a1 = 121) : (1 : Int) ≤ (121 - a0) := by omega
theorem od25 {a0 : Int} (h0 : a0 = 1) : a0 = 1 := by omega
theorem od26 {a0 a1 : Int} (h0 : a0 < a1) (h1 : a1 = 6) : a0 < 6 := by omega
theorem od27 {a0 a1 a2 : Int} (h0 : a0 < a1) (h1 : a0 = 0) (h2 : a2 = 1) : (-2147483648 : Int) ≤ a1 - a2 := by omega
theorem od28 {a0 a1 : Int} (h0 : a0 ≤ 121) (h1 : a1 = 1) : a0 - a1 ≤ 2147483647 := by omega
theorem od29 {a0 a1 a2 a3 : Int} (h0 : a0 < a1) (h1 : a2 = a1 - a3) (h2 : a0 = 0) (h3 : a3 = 1) : (0 : Int) ≤ a2 := by omega
theorem od30 {a0 a1 a2 : Int} (h0 : a0 ≤ 121) (h1 : a1 = a0 - a2) (h2 : a2 = 1) : a1 ≤ 121 := by omega
theorem od31 {a0 a1 a2 : Int} (h0 : a0 ≤ 121) (h1 : a1 = a0 - a2) (h2 : a2 = 1) : a1 < 121 := by omega
theorem od32 {a0 a1 a2 a3 : Int} (h0 : a0 < a1) (h1 : a2 = a1 - a3) (h2 : a0 = 0) (h3 : a3 = 1) : (((1 : Int) ≤ a1) ∧ (a2 = (a1 - 1))) ∨ ((a1 ≤ 0) ∧ (a2 = a1)) := by omega
theorem od33 {a0 a1 : Int} (h0 : a0 < a1) (h1 : a0 = 0) : 1 ≤ a1 := by omega
theorem od34 {a0 a1 : Int} (h0 : a0 ≤ a1) (h1 : a1 = 0) : (((1 : Int) ≤ a0) ∧ (a0 = (a0 - 1))) ∨ ((a0 ≤ 0) ∧ (a0 = a0)) := by omega
theorem od35 {a0 a1 : Int} (h0 : a0 ≤ a1) (h1 : a1 = 0) : ¬ (1 ≤ a0) := by omega
theorem od36 {a0 : Int} (h0 : a0 = 2) : a0 = 2 := by omega
theorem od37 {a0 : Int} (h0 : a0 = 3) : a0 = 3 := by omega
theorem od38 {a0 : Int} (h0 : a0 = 33) : a0 = 33 := by omega
theorem od39 {a0 : Int} (h0 : a0 = 126) : a0 = 126 := by omega
theorem od40 {a0 a1 : Int} (h0 : a0 ≠ a1) (h1 : a1 = 0) : a0 ≠ 0 := by omega
theorem od41 {a0 : Int} (h0 : ¬ (a0 = 0)) : a0 ≠ 0 := by omega
theorem od42 {a0 : Int} (h0 : ¬ (a0 = 0)) (h1 : ¬ (a0 = 1)) : a0 ≠ 1 := by omega
theorem od43 {a0 : Int} (h0 : ¬ (a0 = 0)) (h1 : ¬ (a0 = 1)) (h2 : ¬ (a0 = 2)) : a0 ≠ 2 := by omega
theorem od44 {a0 : Int} (h0 : ¬ (a0 = 0)) (h1 : ¬ (a0 = 1)) (h2 : ¬ (a0 = 2)) (h3 : ¬ (a0 = 3)) : a0 ≠ 3 := by omega
theorem od45 {a0 : Int} (h0 : ¬ (a0 = 33)) : a0 ≠ 33 := by omega
theorem od46 {a0 : Int} (h0 : ¬ (a0 = 126)) : a0 ≠ 126 := by omega
theorem od47 {a0 : Int} (h0 : a0 ≤ 7) : a0 < 8 := by omega
theorem od48 {a0 a1 : Int} (h0 : a0 = a1) (h1 : (0 : Int) ≤ a0) (h2 : a1 = 0) : a0 = 0 := by omega
theorem od49 {a0 : Int} (h0 : a0 = 0) : a0 < 6 := by omega
theorem od50 {a0 : Int} (h0 : a0 = 1) : (0 : Int) ≤ a0 := by omega
theorem od51 {a0 : Int} (h0 : a0 = 1) : a0 < 6 := by omega
theorem od52 {a0 : Int} (h0 : a0 = 2) : (0 : Int) ≤ a0 := by omega
theorem od53 {a0 : Int} (h0 : a0 = 2) : a0 < 6 := by omega
theorem od54 {a0 : Int} (h0 : a0 = 3) : (0 : Int) ≤ a0 := by omega
theorem od55 {a0 : Int} (h0 : a0 = 3) : a0 < 6 := by omega
theorem od56 {a0 : Int} (h0 : a0 = 4) : (0 : Int) ≤ a0 := by omega
theorem od57 {a0 : Int} (h0 : a0 = 4) : a0 < 6 := by omega
theorem od58 {a0 : Int} (h0 : a0 = 5) : (0 : Int) ≤ a0 := by omega
theorem od59 {a0 : Int} (h0 : a0 = 5) : a0 < 6 := by omega
theorem od60 {a0 a1 : Int} (h0 : a0 ≠ a1) (h1 : (0 : Int) ≤ a0) (h2 : a1 = 0) : ¬ (a0 = 0) := by omega
def yw19_10 : kW := ([645], [13], [], [])
