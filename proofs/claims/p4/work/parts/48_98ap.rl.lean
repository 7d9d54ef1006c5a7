theorem ktoe0 : (0 : Int32).toInt = 0 := by decide
theorem ktoe1 : (1 : Int32).toInt = 1 := by decide
theorem ktoem1 : ((-1) : Int32).toInt = (-1) := by decide
theorem ktoe20 : (20 : Int32).toInt = 20 := by decide
theorem ktoem2 : ((-2) : Int32).toInt = (-2) := by decide
theorem toe9 {a0 : Int} (h0 : (0 : Int) ≤ a0) : (0 : Int) ≤ a0 := by omega
theorem toe18 {a0 : Int} (h0 : (0 : Int) ≤ a0) (h1 : a0 ≤ 5) : ((0 : Int) ≤ a0) ∧ (a0 ≤ 5) := by omega
theorem toe19 {a0 : Int} (h0 : a0 = 0) : (0 : Int) ≤ a0 := by omega
theorem toe31 {a0 : Int}  : a0 = a0 := by omega
theorem toe36 {a0 a1 : Int} (h0 : (0 : Int) ≤ a0) (h1 : a1 = 1) : (-2147483648 : Int) ≤ a0 + a1 := by omega
theorem toe37 {a0 a1 : Int} (h0 : a0 ≤ 21) (h1 : a1 = 1) : a0 + a1 ≤ 2147483647 := by omega
theorem toe38 {a0 a1 a2 : Int} (h0 : (0 : Int) ≤ a0) (h1 : a1 = a0 + a2) (h2 : a2 = 1) : (0 : Int) ≤ a1 := by omega
theorem toe45 {a0 a1 : Int} (h0 : a0 = a1) : a0 = a1 := by omega
theorem toe47 {a0 a1 a2 : Int} (h0 : a0 = a1 + a2) (h1 : a2 = 1) : a0 = a1 + 1 := by omega
theorem toe54 {a0 a1 : Int} (h0 : (0 : Int) ≤ a0) (h1 : a1 = 0) : a1 ≤ a0 := by omega
theorem toe57 {a0 a1 : Int} (h0 : a0 ≤ a1) : a0 ≤ a1 := by omega
theorem toe66 {a0 a1 a2 a3 a4 a5 : Int} (h0 : (0 : Int) ≤ a0) (h1 : a0 ≤ 5) (h2 : (0 : Int) ≤ a1) (h3 : a1 < a2) (h4 : a3 ≤ a4) (h5 : a4 ≤ a5) (h6 : a3 = 0) (h7 : a5 = 1) : (((0 : Int) ≤ a1) ∧ (a1 < a2) ∧ ((0 : Int) ≤ a4) ∧ (a4 ≤ 1)) ∧ ((0 : Int) ≤ a0) ∧ (a0 ≤ 5) := by omega
theorem toe67 {a0 a1 : Int} (h0 : a0 ≤ a1) (h1 : a0 = 0) : ¬ (a1 < 0) := by omega
theorem toe68 {a0 a1 : Int} (h0 : a0 < a1) (h1 : a1 ≤ (a0 + 1)) : a1 = a0 + 1 := by omega
theorem toe69 {a0 : Int} (h0 : a0 ≤ 19) : ¬ (a0 = 20) := by omega
theorem toe70 {a0 a1 : Int} (h0 : a0 ≠ a1) (h1 : a1 ≤ a0) (h2 : a1 = 0) : ¬ (a0 = 0) := by omega
theorem toe73 {a0 a1 : Int} (h0 : a0 = a1) (h1 : a1 ≤ a0) (h2 : a1 = 0) : ¬ (a0 ≠ 0) := by omega
theorem toe74 {a0 a1 : Int} (h0 : a0 ≤ a1) (h1 : a1 ≤ 20) : a0 < 21 := by omega
theorem toe75 {a0 : Int} (h0 : a0 ≤ 7) : a0 ≤ 7 := by omega
theorem toe76 {a0 a1 a2 a3 : Int} (h0 : a0 = a1) (h1 : a1 ≤ 20) (h2 : a2 = a0 + a3) (h3 : a3 = 1) : a2 ≤ 21 := by omega
theorem toe77 {a0 a1 a2 a3 : Int} (h0 : a0 = a1) (h1 : a2 = a0 + a3) (h2 : a3 = 1) : a2 = (a1 + 1) := by omega
theorem toe78 {a0 a1 : Int} (h0 : a0 ≤ a1) (h1 : a1 ≤ a0) : a0 = a1 := by omega
theorem toe79 {a0 a1 : Int} (h0 : a0 ≤ a1) (h1 : a1 ≤ 20) : a0 < ((21 : Nat) : Int) := by omega
theorem toe80 {a0 a1 a2 : Int} (h0 : a0 < a1) (h1 : (0 : Int) ≤ a0) (h2 : a2 = 1) : (-2147483648 : Int) ≤ a1 - a2 := by omega
theorem toe81 {a0 a1 a2 : Int} (h0 : a0 ≤ 21) (h1 : a1 ≤ a0) (h2 : a2 = 1) : a1 - a2 ≤ 2147483647 := by omega
theorem toe82 {a0 a1 a2 a3 : Int} (h0 : a0 < a1) (h1 : (0 : Int) ≤ a0) (h2 : a2 = a1 - a3) (h3 : a3 = 1) : (0 : Int) ≤ a2 := by omega
theorem toe83 {a0 a1 a2 a3 : Int} (h0 : a0 ≤ 21) (h1 : a1 ≤ a0) (h2 : a2 = a1 - a3) (h3 : a3 = 1) : a2 < 21 := by omega
theorem toe84 {a0 a1 : Int} (h0 : a0 < a1) (h1 : (0 : Int) ≤ a0) : (0 : Int) ≤ a1 := by omega
theorem toe85 {a0 a1 : Int} (h0 : a0 ≤ 20) (h1 : a1 ≤ a0) : a1 < 21 := by omega
theorem toe86 {a0 a1 a2 : Int} (h0 : a0 < a1) (h1 : (0 : Int) ≤ a0) (h2 : a2 = (-1)) : (-2147483648 : Int) ≤ a1 + a2 := by omega
theorem toe87 {a0 a1 a2 : Int} (h0 : a0 ≤ 21) (h1 : a1 ≤ a0) (h2 : a2 = (-1)) : a1 + a2 ≤ 2147483647 := by omega
theorem toe88 {a0 a1 a2 a3 : Int} (h0 : a0 ≤ a1) (h1 : a2 = a0 + a3) (h2 : a3 = (-1)) : a2 ≤ a1 := by omega
theorem toe89 {a0 a1 a2 a3 : Int} (h0 : a0 < a1) (h1 : a2 = a1 + a3) (h2 : a3 = (-1)) : a0 ≤ a2 := by omega
theorem toe90 {a0 a1 : Int} (h0 : a0 < a1) (h1 : (0 : Int) ≤ a0) : (1 : Int) ≤ a1 := by omega
theorem toe91 {a0 a1 : Int} (h0 : a0 ≤ 20) (h1 : a1 ≤ a0) : a1 < ((21 : Nat) : Int) := by omega
theorem toe92 {a0 a1 a2 : Int} (h0 : a0 = a1 + a2) (h1 : a2 = (-1)) : a0 = a1 - 1 := by omega
theorem toe93 {a0 a1 a2 : Int} (h0 : a0 = a1 - a2) (h1 : a2 = 1) : a0 = a1 - 1 := by omega
theorem toe94 {a0 a1 a2 a3 : Int} (h0 : a0 = a1 + a2) (h1 : a2 = (-1)) : (a0 - a3) < (a1 - a3) := by omega
theorem toe95 {a0 a1 : Int} (h0 : a0 < a1) : (1 : Int) ≤ (a1 - a0) := by omega
theorem toe96 {a0 : Int}  : a0 ≤ a0 := by omega
theorem toe99 {a0 a1 : Int} (h0 : a0 ≤ 8) (h1 : (0 : Int) ≤ a1) (h2 : a1 < a0) : ((0 : Int) ≤ a1) ∧ (a1 ≤ 7) := by omega
theorem toe130 {a0 a1 a2 : Int} (h0 : a0 = a1) (h1 : a2 = (a0 + 1)) : a2 = a1 + 1 := by omega
theorem toe131 {a0 a1 : Int} (h0 : (1 : Int) ≤ a0) (h1 : a1 = 1) : (-2147483648 : Int) ≤ a0 - a1 := by omega
theorem toe132 {a0 a1 : Int} (h0 : a0 ≤ 21) (h1 : a1 = 1) : a0 - a1 ≤ 2147483647 := by omega
theorem toe133 {a0 a1 a2 : Int} (h0 : (1 : Int) ≤ a0) (h1 : a1 = a0 - a2) (h2 : a2 = 1) : (0 : Int) ≤ a1 := by omega
theorem toe134 {a0 a1 a2 : Int} (h0 : a0 ≤ 21) (h1 : a1 = a0 - a2) (h2 : a2 = 1) : a1 ≤ 21 := by omega
theorem toe135 {a0 a1 a2 a3 : Int} (h0 : a0 = a1) (h1 : a1 = a2 - a3) (h2 : a3 = 1) : a0 = (a2 - 1) := by omega
theorem toe136 {a0 a1 a2 a3 a4 : Int} (h0 : a0 ≤ a1) (h1 : a0 = a2) (h2 : a2 = a3 - a4) (h3 : a4 = 1) : a3 - 1 ≤ a1 := by omega
theorem toe137 {a0 a1 a2 : Int} (h0 : (0 : Int) ≤ a0) (h1 : a0 ≤ a1) (h2 : a2 = 1) : (-2147483648 : Int) ≤ a1 + a2 := by omega
theorem toe138 {a0 a1 a2 : Int} (h0 : a0 < a1) (h1 : a1 ≤ 21) (h2 : a2 = 1) : a0 + a2 ≤ 2147483647 := by omega
theorem toe139 {a0 a1 a2 a3 : Int} (h0 : (0 : Int) ≤ a0) (h1 : a0 ≤ a1) (h2 : a2 = a1 + a3) (h3 : a3 = 1) : (0 : Int) ≤ a2 := by omega
theorem toe140 {a0 a1 a2 a3 a4 : Int} (h0 : a0 < a1) (h1 : a2 ≤ 21) (h2 : a1 = (a2 - 1)) (h3 : a3 = a0 + a4) (h4 : a4 = 1) : a3 < 21 := by omega
theorem toe141 {a0 a1 : Int} (h0 : (0 : Int) ≤ a0) (h1 : a0 ≤ a1) : (0 : Int) ≤ a1 := by omega
theorem toe142 {a0 a1 : Int} (h0 : a0 < a1) (h1 : a1 ≤ 21) : a0 < 21 := by omega
theorem toe143 {a0 a1 a2 a3 : Int} (h0 : a0 ≤ a1) (h1 : a2 = a1 + a3) (h2 : a3 = 1) : a0 ≤ a2 := by omega
theorem toe144 {a0 a1 : Int} (h0 : a0 < a1) (h1 : a1 ≤ 21) : a0 < ((21 : Nat) : Int) := by omega
theorem toe145 {a0 a1 a2 a3 a4 : Int} (h0 : a0 < a1) (h1 : a1 = a2) (h2 : a2 = a3 - a4) (h3 : a4 = 1) : a0 + 1 ≤ a3 - 1 := by omega
theorem toe146 {a0 a1 a2 a3 : Int} (h0 : a0 = a1 + a2) (h1 : a2 = 1) : (a3 - a0) < (a3 - a1) := by omega
theorem toe147 {a0 a1 a2 : Int} (h0 : a0 = a1 - a2) (h1 : a2 = 1) : a0 = (a1 - 1) := by omega
theorem toe148 {a0 a1 a2 : Int} (h0 : a0 = a1) (h1 : (0 : Int) ≤ a2) (h2 : a1 = (a2 + 1)) : (1 : Int) ≤ a0 := by omega
theorem toe150 {a0 a1 a2 : Int} (h0 : a0 ≤ a1) (h1 : a1 ≤ 21) (h2 : a2 = 1) : a0 + a2 ≤ 2147483647 := by omega
theorem toe152 {a0 : Int} (h0 : a0 ≤ 19) : a0 ≤ 19 := by omega
theorem toe153 {a0 a1 a2 a3 : Int} (h0 : a0 ≤ a1) (h1 : a2 = a0 + a3) (h2 : a3 = 1) : a2 ≤ (a1 + 1) := by omega
theorem toe154 {a0 a1 : Int} (h0 : a0 < a1) : a0 < a1 := by omega
theorem toe155 {a0 a1 a2 a3 : Int} (h0 : a0 = a1 + a2) (h1 : a2 = 1) : ((a3 + 1) - a0) < ((a3 + 1) - a1) := by omega
theorem toe156 {a0 a1 : Int} (h0 : a0 ≤ a1) : (1 : Int) ≤ ((a1 + 1) - a0) := by omega
theorem toe157 {a0 a1 : Int} (h0 : a0 ≠ a1) (h1 : a0 ≤ 20) (h2 : a1 = 20) : a0 ≤ 19 := by omega
theorem toe158 {a0 a1 : Int} (h0 : (0 : Int) ≤ a0) (h1 : a1 = 0) : a1 ≤ (a0 + 1) := by omega
theorem toe159 {a0 a1 : Int} (h0 : a0 = a1) (h1 : a1 = 20) : ¬ (a0 < 20) := by omega
theorem toe160 {a0 a1 : Int} (h0 : a0 < a1) (h1 : a1 = 0) : a0 < 0 := by omega
theorem toe161 {a0 a1 a2 a3 a4 a5 : Int} (h0 : ¬ ((a0 ≤ a1) ∧ (a1 ≤ a2))) (h1 : a0 = 0) (h2 : a2 = 1) : ¬ ((((0 : Int) ≤ a3) ∧ (a3 < a4) ∧ ((0 : Int) ≤ a1) ∧ (a1 ≤ 1)) ∧ ((0 : Int) ≤ a5) ∧ (a5 ≤ 5)) := by omega
theorem toe162 {a0 a1 a2 a3 : Int} (h0 : ¬ (((0 : Int) ≤ a0) ∧ (a0 < a1))) : ¬ ((((0 : Int) ≤ a0) ∧ (a0 < a1) ∧ ((0 : Int) ≤ a2) ∧ (a2 ≤ 1)) ∧ ((0 : Int) ≤ a3) ∧ (a3 ≤ 5)) := by omega
theorem toe163 {a0 a1 a2 a3 : Int} (h0 : ¬ (((0 : Int) ≤ a0) ∧ (a0 ≤ 5))) : ¬ ((((0 : Int) ≤ a1) ∧ (a1 < a2) ∧ ((0 : Int) ≤ a3) ∧ (a3 ≤ 1)) ∧ ((0 : Int) ≤ a0) ∧ (a0 ≤ 5)) := by omega
theorem toe164 {a0 a1 a2 : Int} (h0 : a0 ≤ a1) (h1 : (0 : Int) ≤ a0) (h2 : a1 = a2) : ((0 : Int) ≤ a0) ∧ (a0 ≤ a2) := by omega
theorem toe165 {a0 a1 : Int} (h0 : a0 = a1) (h1 : a0 ≤ 19) : a1 ≤ 20 := by omega
theorem toe166 {a0 a1 : Int} (h0 : a0 = a1) : a1 = a0 := by omega
theorem toe167 {a0 a1 a2 : Int} (h0 : a0 = a1) (h1 : a2 = (a1 + 1)) : a2 = a0 + 1 := by omega
theorem toe168 {a0 a1 a2 a3 : Int} (h0 : a0 = a1) (h1 : a2 = a3) (h2 : a1 = (a3 + 1)) : a0 - 1 = a2 := by omega
theorem toe169 {a0 a1 a2 a3 a4 : Int} (h0 : a0 = a1) (h1 : a2 = a3) (h2 : a1 = (a3 + 1)) (h3 : a4 = (a0 - 1)) : a2 = a4 := by omega
theorem toe170 {a0 a1 a2 a3 a4 a5 : Int} (h0 : a0 < a1) (h1 : a1 = 0) : ¬ ((((0 : Int) ≤ a0) ∧ ((0 : Int) ≤ a2) ∧ (a2 < a3) ∧ ((0 : Int) ≤ a4) ∧ (a4 ≤ 1)) ∧ ((0 : Int) ≤ a5) ∧ (a5 ≤ 5)) := by omega
theorem toe171 {a0 a1 a2 a3 a4 a5 a6 : Int} (h0 : a0 ≤ a1) (h1 : (0 : Int) ≤ a2) (h2 : a2 ≤ 5) (h3 : (0 : Int) ≤ a3) (h4 : a3 < a4) (h5 : a0 ≤ a5) (h6 : a5 ≤ a6) (h7 : a0 = 0) (h8 : a6 = 1) : (((0 : Int) ≤ a1) ∧ ((0 : Int) ≤ a3) ∧ (a3 < a4) ∧ ((0 : Int) ≤ a5) ∧ (a5 ≤ 1)) ∧ ((0 : Int) ≤ a2) ∧ (a2 ≤ 5) := by omega
theorem toe172 {a0 a1 : Int} (h0 : a0 ≤ a1) : ¬ (a1 < a0) := by omega
theorem toe173 {a0 a1 a2 a3 : Int} (h0 : a0 ≤ a1) (h1 : a0 = a2) (h2 : a2 = a3) (h3 : a1 ≤ a3) : a1 = a3 := by omega
theorem toe176 {a0 : Int} (h0 : a0 ≤ 19) : a0 ≤ 20 := by omega
theorem toe177 {a0 a1 a2 a3 : Int} (h0 : a0 < a1) (h1 : a1 = a2) (h2 : a2 = a3) (h3 : a3 ≤ 8) (h4 : (0 : Int) ≤ a0) : ((0 : Int) ≤ a0) ∧ (a0 ≤ 7) := by omega
theorem toe178 {a0 a1 : Int} (h0 : a0 ≤ a1) (h1 : a0 = 0) : (0 : Int) ≤ a1 := by omega
theorem toe179 {a0 a1 a2 a3 a4 : Int} (h0 : a0 < a1) (h1 : a1 = a2) (h2 : a2 = a3) (h3 : a3 ≤ 8) (h4 : a4 = 1) : a0 + a4 ≤ 2147483647 := by omega
theorem toe180 {a0 a1 a2 a3 : Int} (h0 : a0 = a1) (h1 : a2 ≤ 19) (h2 : a1 = (a2 + 1)) (h3 : a3 = (a0 - 1)) : a3 ≤ 19 := by omega
theorem toe182 {a0 a1 a2 a3 a4 a5 : Int} (h0 : a0 < a1) (h1 : a1 = a2) (h2 : a2 = a3) (h3 : a4 = a0 + a5) (h4 : a5 = 1) : a4 ≤ a3 := by omega
theorem toe184 {a0 a1 a2 a3 : Int} (h0 : a0 < a1) (h1 : a1 = a2) (h2 : a2 = a3) (h3 : a3 ≤ 8) : a0 ≤ 1000 := by omega
theorem toe185 {a0 a1 a2 a3 a4 a5 a6 : Int} (h0 : a0 = a1) (h1 : a2 = a0) (h2 : a3 = a2) (h3 : a4 = a5 + a6) (h4 : a6 = 1) : (a3 - a4) < (a1 - a5) := by omega
theorem toe186 {a0 a1 : Int} (h0 : a0 < a1) : ¬ (a1 ≤ a0) := by omega
theorem toe187 {a0 a1 a2 a3 a4 a5 a6 : Int} (h0 : ¬ ((a0 ≤ a1) ∧ (a1 ≤ a2))) (h1 : a0 = 0) (h2 : a2 = 1) : ¬ ((((0 : Int) ≤ a3) ∧ ((0 : Int) ≤ a4) ∧ (a4 < a5) ∧ ((0 : Int) ≤ a1) ∧ (a1 ≤ 1)) ∧ ((0 : Int) ≤ a6) ∧ (a6 ≤ 5)) := by omega
theorem toe188 {a0 a1 a2 a3 a4 : Int} (h0 : ¬ (((0 : Int) ≤ a0) ∧ (a0 < a1))) : ¬ ((((0 : Int) ≤ a2) ∧ ((0 : Int) ≤ a0) ∧ (a0 < a1) ∧ ((0 : Int) ≤ a3) ∧ (a3 ≤ 1)) ∧ ((0 : Int) ≤ a4) ∧ (a4 ≤ 5)) := by omega
theorem toe189 {a0 a1 a2 a3 a4 : Int} (h0 : ¬ (((0 : Int) ≤ a0) ∧ (a0 ≤ 5))) : ¬ ((((0 : Int) ≤ a1) ∧ ((0 : Int) ≤ a2) ∧ (a2 < a3) ∧ ((0 : Int) ≤ a4) ∧ (a4 ≤ 1)) ∧ ((0 : Int) ≤ a0) ∧ (a0 ≤ 5)) := by omega
theorem toe190 {a0 a1 : Int} (h0 : a0 ≤ 19) (h1 : a0 = a1) : ¬ (a1 = 20) := by omega
theorem toe191 {a0 a1 a2 : Int} (h0 : a0 ≤ a1) (h1 : a1 ≤ a2) (h2 : a0 = 0) : ((0 : Int) ≤ a1) ∧ (a1 ≤ a2) := by omega
theorem toe192 {a0 a1 a2 a3 : Int} (h0 : a0 = a1) (h1 : a2 = a3) (h2 : a1 = (a2 + 1)) : a0 - 1 = a3 := by omega
theorem toe193 {a0 a1 a2 a3 a4 : Int} (h0 : a0 = a1) (h1 : a2 ≤ a3) (h2 : a1 = (a3 + 1)) (h3 : a4 = (a0 - 1)) : a2 ≤ a4 := by omega
theorem toe194 {a0 a1 a2 a3 a4 : Int} (h0 : a0 = a1) (h1 : a2 = a3) (h2 : a1 = (a2 + 1)) (h3 : a4 = (a0 - 1)) : a4 = a3 := by omega
theorem toe195 {a0 a1 a2 : Int} (h0 : (a0 = 0) ∨ ((a0 + 1) ≤ a1)) (h1 : a1 ≤ 20) (h2 : a2 = 1) : a0 + a2 ≤ 2147483647 := by omega
theorem toe196 {a0 a1 a2 a3 a4 a5 : Int} (h0 : a0 ≤ a1) (h1 : a0 = a2) (h2 : a2 = a3) (h3 : (0 : Int) ≤ a4) (h4 : (a4 = 0) ∨ ((a4 + 1) ≤ a0)) (h5 : a1 = a4 + a5) (h6 : a5 = 1) : a3 - 1 = a4 ∨ (a3 ≤ 0 ∧ a4 = 0) := by omega
theorem toe197 {a0 : Int} (h0 : a0 ≤ 19) : a0 < 21 := by omega
theorem toe198 {a0 a1 : Int} (h0 : a0 ≤ 19) (h1 : a1 = 1) : a0 + a1 ≤ 2147483647 := by omega
theorem toe199 {a0 a1 a2 : Int} (h0 : a0 ≤ 19) (h1 : a1 = a0 + a2) (h2 : a2 = 1) : a1 < 21 := by omega
theorem toe200 {a0 a1 a2 a3 : Int} (h0 : a0 < a1) (h1 : (0 : Int) ≤ a2) (h2 : a1 ≤ 20) (h3 : a0 = a2 + a3) (h4 : a3 = 1) : ((0 : Int) ≤ a2) ∧ (a2 ≤ 19) := by omega
theorem toe201 {a0 a1 a2 a3 : Int} (h0 : a0 < a1) (h1 : a1 = a2) (h2 : a2 = a3) : a0 < a3 := by omega
theorem toe202 {a0 : Int} (h0 : a0 ≤ 21) : a0 ≤ ((21 : Nat) : Int) := by omega
theorem toe203 {a0 a1 a2 a3 : Int} (h0 : a0 = a1) (h1 : a1 = a2) (h2 : a3 = a0) : a3 = a2 := by omega
theorem toe204 {a0 a1 a2 a3 a4 : Int} (h0 : a0 < a1) (h1 : a2 = a1) (h2 : a3 = a2) (h3 : a4 = a3) : (a0 = 0) ∨ ((a0 + 1) ≤ a4) := by omega
theorem toe205 {a0 a1 a2 a3 : Int} (h0 : a0 = a1) (h1 : a2 = a0) (h2 : a3 = a2) (h3 : a1 ≤ 20) : a3 ≤ 20 := by omega
theorem toe206 {a0 a1 a2 a3 : Int} (h0 : a0 < a1) (h1 : a0 = a2 + a3) (h2 : a3 = 1) : (1 : Int) ≤ (a1 - a2) := by omega
theorem toe207 {a0 a1 : Int} (h0 : a0 = 0) : (a0 = 0) ∨ ((a0 + 1) ≤ a1) := by omega
theorem toe208 {a0 a1 : Int} (h0 : a0 = a1) (h1 : a1 ≤ 20) : a0 ≤ 20 := by omega
def yw178_116 : kW := ([7469], [142], [], [])
def yw178_116_L5 : kW := ([], [142], [], [])
set_option maxRecDepth 100000 in
theorem ke178_116 {i : Nat → Int32} {a : Nat → List Int32} {q : Nat → List Int64} {r : Nat → Nat} (hI : kI i a q) (hr : kr r) (x1 : Int32) (x2 : Int32) (hp0 : ((0 : Int) ≤ x1.toInt) ∧ (x1.toInt ≤ (i 7469).toInt)) (hp1 : (i 7469).toInt ≤ 20) (hp2 : ((0 : Int) ≤ x2.toInt) ∧ (x2.toInt ≤ 7)) : km 1 178 [.ref 116, .int x1, .int x2] (ks i a q r) (kVN yw178_116 i a q r (fun i1 a1 q1 r1 => ((i1 7469).toInt = ((i 7469).toInt + 1)) ∧ kIs (a1 142) (rIns (lF (a 142)) x2 x1.toInt.toNat) ((i 7469).toInt + 1))) := by
  have hG := kG_self yw178_116 hI hr
  refine km_ofN (q := (mi_h178, mi_c178)) rfl (by decide) (Nat.le_of_ble_eq_true rfl) ?_
  intro P hP
  have fi_7469 : ((0 : Int) ≤ (i 7469).toInt) ∧ ((i 7469).toInt ≤ 21) := hG.I.1 7469
  refine ft_go mi_k178 3 5 [(3, .int (i 7469)), (0, .ref 116), (1, .int x1), (2, .int x2)] [] i a q r (by rfl) ?_
  have lp1 : ∀ (nz : Nat) (i1 : Nat → Int32) (a1 : Nat → List Int32) (q1 : Nat → List Int64) (r1 : Nat → Nat) (l3_1 : Int32), kG yw178_116_L5 i a q r i1 a1 q1 r1 → l3_1.toInt ≤ (i 7469).toInt → x1.toInt ≤ l3_1.toInt → (i1 7469).toInt = (i 7469).toInt → kPu (a 142) (a1 142) l3_1.toInt (i 7469).toInt → ((l3_1.toInt - x1.toInt)).toNat < nz → ko 1 (mi_h178, mi_c178) P (5, [(3, .int l3_1), (0, .ref 116), (1, .int x1), (2, .int x2)], [], (0, 0), ks i1 a1 q1 r1) := by
    intro nz
    induction nz with
    | zero =>
      intro _ _ _ _ _ _ _ _ _ _ hm
      exact absurd hm (Nat.not_lt_zero _)
    | succ nz ih1 =>
      intro i1 a1 q1 r1 l3_1 hL1 p1_0 p1_1 p1_2 O1_0 hm1
      have fi1_7469 : ((0 : Int) ≤ (i1 7469).toInt) ∧ ((i1 7469).toInt ≤ 21) := hL1.I.1 7469
      have efi1_7469 : (i1 7469).toInt = (i 7469).toInt := hL1.ti 7469 rfl
      refine ft_go mi_k178 2 7 [(3, .int l3_1), (0, .ref 116), (1, .int x1), (2, .int x2)] [.int x1, .int l3_1] i1 a1 q1 r1 (by rfl) ?_
      refine ft_if mi_k178 (decide (l3_1 ≤ x1)) 30 10 [(3, .int l3_1), (0, .ref 116), (1, .int x1), (2, .int x2)] [] (by rfl) (fun c => ?_) (fun c => ?_)
      ·
        have c2 : l3_1.toInt ≤ x1.toInt := kd_le c; clear c
        have hG3 := kG_call hG hL1 (by decide +kernel)
        refine ft_go mi_k178 4 36 [(3, .int l3_1), (0, .ref 116), (1, .int x1), (2, .int x2)] [.int x2, .int x1, .ref 142] i1 a1 q1 r1 (by rfl) ?_
        refine ko_iast3 mi_k178.1 (n := 21) (c := 21) (ax := (0, 0, 0, 0, 0)) (mi_k178.2 _ _ (by rfl)) (by rfl) (ksG142 _ _ _ _) (ksA142 _ _ _ _) (hG3.I.2.1 142) rfl (toe9 hp0.1) (toe74 hp0.2 hp1) ?_
        intro a4 ea4 fa4
        have hJ4 := kG_a3 hG3 142 rfl ea4 fa4 ⟨(toe9 hp2.1), (toe75 hp2.2)⟩
        have s5 : ((i1 7469) + 1).toInt = (i1 7469).toInt + (1 : Int32).toInt := kd_add (toe36 fi1_7469.1 ktoe1) (toe37 fi1_7469.2 ktoe1)
        have hJ6 := kG_i hJ4 7469 rfl (v := ((i1 7469) + 1)) ⟨(toe38 fi1_7469.1 s5 ktoe1), (toe76 efi1_7469 hp1 s5 ktoe1)⟩
        refine ft_go mi_k178 6 47 [(3, .int l3_1), (0, .ref 116), (1, .int x1), (2, .int x2)] [] (ku i1 7469 ((i1 7469) + 1)) a4 q1 r1 (by rfl) ?_
        exact ft_ret mi_k178 (by rfl) (hP  _ _ _ _ hJ6 ⟨(toe77 efi1_7469 s5 ktoe1), (kPu_end (m := 21) O1_0 (hL1.I.2.1 142) (toe78 c2 p1_1) (toe9 hp0.1) (toe79 hp0.2 hp1) ea4)⟩)
      ·
        have c7 : x1.toInt < l3_1.toInt := kd_leF c; clear c
        have s8 : (l3_1 - 1).toInt = l3_1.toInt - (1 : Int32).toInt := kd_sub (toe80 c7 hp0.1 ktoe1) (toe81 fi_7469.2 p1_0 ktoe1)
        refine ft_go mi_k178 8 22 [(3, .int l3_1), (0, .ref 116), (1, .int x1), (2, .int x2)] [.int (l3_1 - 1), .ref 142, .int l3_1, .ref 142] i1 a1 q1 r1 (by rfl) ?_
        refine ko_iald3 mi_k178.1 (n := 21) (c := 21) (ax := (0, 0, 0, 0, 0)) (mi_k178.2 _ _ (by rfl)) (by rfl) (ksG142 _ _ _ _) (hL1.I.2.1 142) rfl (toe82 c7 hp0.1 s8 ktoe1) (toe83 fi_7469.2 p1_0 s8 ktoe1) ?_
        have r9 : ((0 : Int) ≤ ((a1 142).getD (l3_1 - 1).toNatClampNeg 0).toInt) ∧ (((a1 142).getD (l3_1 - 1).toNatClampNeg 0).toInt ≤ 7) := hL1.I.2.2.1 142 ((l3_1 - 1).toNatClampNeg)
        refine ko_iast3 mi_k178.1 (n := 21) (c := 21) (ax := (0, 0, 0, 0, 0)) (mi_k178.2 _ _ (by rfl)) (by rfl) (ksG142 _ _ _ _) (ksA142 _ _ _ _) (hL1.I.2.1 142) rfl (toe84 c7 hp0.1) (toe85 hp1 p1_0) ?_
        intro a10 ea10 fa10
        have hJ10 := kG_a3 hL1 142 rfl ea10 fa10 ⟨(toe9 r9.1), (toe75 r9.2)⟩
        have s11 : (l3_1 + (-1)).toInt = l3_1.toInt + ((-1) : Int32).toInt := kd_add (toe86 c7 hp0.1 ktoem1) (toe87 fi_7469.2 p1_0 ktoem1)
        refine ft_go mi_k178 2 5 [(3, .int (l3_1 + (-1))), (0, .ref 116), (1, .int x1), (2, .int x2)] [] i1 a10 q1 r1 (by rfl) ?_
        exact ih1 _ _ _ _ _ hJ10 (toe88 p1_0 s11 ktoem1) (toe89 c7 s11 ktoem1) (toe45 efi1_7469) (kPu_step (y := (l3_1 - 1)) (m := 21) O1_0 (hL1.I.2.1 142) (toe90 c7 hp0.1) (toe91 hp1 p1_0) (toe92 s11 ktoem1) (toe93 s8 ktoe1) ea10 (toe57 p1_0)) (kj_meas (toe94 s11 ktoem1) (toe95 c7) hm1)
  exact lp1 _ _ _ _ _ _ (kG_self _ hG.I hG.R) toe96 (toe57 hp0.2) toe31 (kPu_0 rfl (Int.le_refl _)) (Nat.lt_succ_self _)
def yw179_116 : kW := ([7469], [142], [], [])
def yw179_116_L12 : kW := ([], [142], [], [])
set_option maxRecDepth 100000 in
theorem ke179_116 {i : Nat → Int32} {a : Nat → List Int32} {q : Nat → List Int64} {r : Nat → Nat} (hI : kI i a q) (hr : kr r) (x1 : Int32) (hp0 : (0 : Int) ≤ x1.toInt) (hp1 : (1 : Int) ≤ (i 7469).toInt) : km 1 179 [.ref 116, .int x1] (ks i a q r) (kVN yw179_116 i a q r (fun i1 a1 q1 r1 => ((i1 7469).toInt = ((i 7469).toInt - 1)) ∧ kIs (a1 142) (rDel (lF (a 142)) x1.toInt.toNat) ((i 7469).toInt - 1))) := by
  have hG := kG_self yw179_116 hI hr
  refine km_ofN (q := (mi_h179, mi_c179)) rfl (by decide) (Nat.le_of_ble_eq_true rfl) ?_
  intro P hP
  have fi_7469 : ((0 : Int) ≤ (i 7469).toInt) ∧ ((i 7469).toInt ≤ 21) := hG.I.1 7469
  have s1 : ((i 7469) - 1).toInt = (i 7469).toInt - (1 : Int32).toInt := kd_sub (toe131 hp1 ktoe1) (toe132 fi_7469.2 ktoe1)
  have hJ2 := kG_i hG 7469 rfl (v := ((i 7469) - 1)) ⟨(toe133 hp1 s1 ktoe1), (toe134 fi_7469.2 s1 ktoe1)⟩
  refine ft_go mi_k179 8 12 [(2, .int x1), (0, .ref 116), (1, .int x1)] [] (ku i 7469 ((i 7469) - 1)) a q r (by rfl) ?_
  have lp3 : ∀ (nz : Nat) (i3 : Nat → Int32) (a3 : Nat → List Int32) (q3 : Nat → List Int64) (r3 : Nat → Nat) (l2_3 : Int32), kG yw179_116_L12 (ku i 7469 ((i 7469) - 1)) a q r i3 a3 q3 r3 → x1.toInt ≤ l2_3.toInt → (i3 7469).toInt = ((i 7469).toInt - 1) → kTa (a 142) (a3 142) x1.toInt l2_3.toInt ((i 7469).toInt - 1) → (((i3 7469).toInt - l2_3.toInt)).toNat < nz → ko 1 (mi_h179, mi_c179) P (12, [(2, .int l2_3), (0, .ref 116), (1, .int x1)], [], (0, 0), ks i3 a3 q3 r3) := by
    intro nz
    induction nz with
    | zero =>
      intro _ _ _ _ _ _ _ _ _ hm
      exact absurd hm (Nat.not_lt_zero _)
    | succ nz ih3 =>
      intro i3 a3 q3 r3 l2_3 hL3 p3_0 p3_1 O3_0 hm3
      have fi3_7469 : ((0 : Int) ≤ (i3 7469).toInt) ∧ ((i3 7469).toInt ≤ 21) := hL3.I.1 7469
      have efi3_7469 : (i3 7469).toInt = ((i 7469) - 1).toInt := hL3.ti 7469 rfl
      refine ft_go mi_k179 3 17 [(2, .int l2_3), (0, .ref 116), (1, .int x1)] [.int (i3 7469), .int l2_3] i3 a3 q3 r3 (by rfl) ?_
      refine ft_if mi_k179 (decide ((i3 7469) ≤ l2_3)) 40 20 [(2, .int l2_3), (0, .ref 116), (1, .int x1)] [] (by rfl) (fun c => ?_) (fun c => ?_)
      ·
        have c4 : (i3 7469).toInt ≤ l2_3.toInt := kd_le c; clear c
        have hG5 := kG_call hJ2 hL3 (by decide +kernel)
        exact ft_ret mi_k179 (by rfl) (hP  _ _ _ _ hG5 ⟨(toe135 efi3_7469 s1 ktoe1), (kTa_end O3_0 (toe9 hp0) (toe136 c4 efi3_7469 s1 ktoe1))⟩)
      ·
        have c6 : l2_3.toInt < (i3 7469).toInt := kd_leF c; clear c
        have s7 : (l2_3 + 1).toInt = l2_3.toInt + (1 : Int32).toInt := kd_add (toe137 hp0 p3_0 ktoe1) (toe138 c6 fi3_7469.2 ktoe1)
        refine ft_go mi_k179 8 32 [(2, .int l2_3), (0, .ref 116), (1, .int x1)] [.int (l2_3 + 1), .ref 142, .int l2_3, .ref 142] i3 a3 q3 r3 (by rfl) ?_
        refine ko_iald3 mi_k179.1 (n := 21) (c := 21) (ax := (0, 0, 0, 0, 0)) (mi_k179.2 _ _ (by rfl)) (by rfl) (ksG142 _ _ _ _) (hL3.I.2.1 142) rfl (toe139 hp0 p3_0 s7 ktoe1) (toe140 c6 fi_7469.2 p3_1 s7 ktoe1) ?_
        have r8 : ((0 : Int) ≤ ((a3 142).getD (l2_3 + 1).toNatClampNeg 0).toInt) ∧ (((a3 142).getD (l2_3 + 1).toNatClampNeg 0).toInt ≤ 7) := hL3.I.2.2.1 142 ((l2_3 + 1).toNatClampNeg)
        refine ko_iast3 mi_k179.1 (n := 21) (c := 21) (ax := (0, 0, 0, 0, 0)) (mi_k179.2 _ _ (by rfl)) (by rfl) (ksG142 _ _ _ _) (ksA142 _ _ _ _) (hL3.I.2.1 142) rfl (toe141 hp0 p3_0) (toe142 c6 fi3_7469.2) ?_
        intro a9 ea9 fa9
        have hJ9 := kG_a3 hL3 142 rfl ea9 fa9 ⟨(toe9 r8.1), (toe75 r8.2)⟩
        refine ft_go mi_k179 2 12 [(2, .int (l2_3 + 1)), (0, .ref 116), (1, .int x1)] [] i3 a9 q3 r3 (by rfl) ?_
        exact ih3 _ _ _ _ _ hJ9 (toe143 p3_0 s7 ktoe1) (toe135 efi3_7469 s1 ktoe1) (kTa_step (y := (l2_3 + 1)) (m := 21) O3_0 (hL3.I.2.1 142) (toe141 hp0 p3_0) (toe57 p3_0) (toe144 c6 fi3_7469.2) (toe145 c6 efi3_7469 s1 ktoe1) (toe47 s7 ktoe1) (toe47 s7 ktoe1) ea9) (kj_meas (toe146 s7 ktoe1) (toe95 c6) hm3)
  exact lp3 _ _ _ _ _ _ (kG_self _ hJ2.I hJ2.R) toe96 (toe147 s1 ktoe1) (kTa_0 rfl (Int.le_refl _)) (Nat.lt_succ_self _)
def yzw180_116 : kW := ([7464, 7465, 7466, 7467, 7469], [118, 128, 129, 139, 141, 142, 143, 144, 145], [], [])
def yzw180_116_L73 : kW := ([7464, 7465, 7466, 7467, 7469], [118, 128, 129, 139, 141, 142, 143, 144, 145], [], [])
set_option maxRecDepth 100000 in
theorem kz180_116 {i : Nat → Int32} {a : Nat → List Int32} {q : Nat → List Int64} {r : Nat → Nat} (hI : kI i a q) (hr : kr r) (x1 : Int32) (x2 : Int32) (x3 : Int32) (hE_code : kCode i a) : km 15 180 [.ref 116, .int x1, .int x2, .int x3] (ks i a q r) (kVI yzw180_116 i a q r (fun v i1 a1 q1 r1 => (True) ∧ (a1 118 = a 118 ∧ rTop (((0 : Int) ≤ x2.toInt) ∧ (x2.toInt < (i 7424).toInt) ∧ ((0 : Int) ≤ x3.toInt) ∧ (x3.toInt ≤ 1)) i a q x1 v (fun n L => fBp (gKn i a) (a 118) x2 x3 v n L)))) := by
  have hG := kG_self yzw180_116 hI hr
  refine km_ofI (q := (mi_h180, mi_c180)) rfl (by decide) (Nat.le_of_ble_eq_true rfl) ?_
  intro P hP
  refine ft_go mi_k180 1 1 [(0, .ref 116), (1, .int x1), (2, .int x2), (3, .int x3)] [.int x1] i a q r (by rfl) ?_
  refine ko_callPI mi_k180.1 (pc := 1) (ls := [(0, .ref 116), (1, .int x1), (2, .int x2), (3, .int x3)]) (st := [.int x1]) (h := ks i a q r) (i := (.invokestatic 127, 3, 133, 0, 9, 0, 382)) (mi_k180.2 _ _ (by rfl)) (ft_invS mi_pq133 (by rfl)) (cy := mi_c133) mi_pq133 rfl (kc133 hG.I hG.R x1) (by decide) ?_
  intro vg1 hg1
  rcases hg1 with ⟨eg1, hg1⟩ | ⟨eg1, hg1⟩
  ·
    subst eg1
    have z2 : ((0 : Int) ≤ x1.toInt) ∧ (x1.toInt ≤ 5) := hg1
    refine ft_go mi_k180 3 9 [(0, .ref 116), (1, .int x1), (2, .int x2), (3, .int x3)] [.int x2, .ref 116] i a q r (by rfl) ?_
    refine ko_callPI mi_k180.1 (pc := 9) (ls := [(0, .ref 116), (1, .int x1), (2, .int x2), (3, .int x3)]) (st := [.int x2, .ref 116]) (h := ks i a q r) (i := (.invokevirtual 137, 3, 132, 0, 9, 0, 387)) (mi_k180.2 _ _ (by rfl)) (ft_invS mi_pq132 (by rfl)) (cy := mi_c132) mi_pq132 rfl (kc132_116 hG.I hG.R x2) (by decide) ?_
    intro vg3 hg3
    rcases hg3 with ⟨eg3, hg3⟩ | ⟨eg3, hg3⟩
    ·
      subst eg3
      have fi_7424 : ((0 : Int) ≤ (i 7424).toInt) ∧ ((i 7424).toInt ≤ 8) := hG.I.1 7424
      have z4 : ((0 : Int) ≤ x2.toInt) ∧ (x2.toInt < (i 7424).toInt) := hg3
      refine ft_go mi_k180 4 18 [(0, .ref 116), (1, .int x1), (2, .int x2), (3, .int x3)] [.int 1, .int 0, .int x3] i a q r (by rfl) ?_
      refine ko_callPI mi_k180.1 (pc := 18) (ls := [(0, .ref 116), (1, .int x1), (2, .int x2), (3, .int x3)]) (st := [.int 1, .int 0, .int x3]) (h := ks i a q r) (i := (.invokestatic 119, 3, 131, 0, 9, 0, 379)) (mi_k180.2 _ _ (by rfl)) (ft_invS mi_pq131 (by rfl)) (cy := mi_c131) mi_pq131 rfl (kc131 hG.I hG.R x3 0 1) (by decide) ?_
      intro vg5 hg5
      rcases hg5 with ⟨eg5, hg5⟩ | ⟨eg5, hg5⟩
      ·
        subst eg5
        have z6 : ((0 : Int32).toInt ≤ x3.toInt) ∧ (x3.toInt ≤ (1 : Int32).toInt) := hg5
        refine ft_go mi_k180 3 28 [(0, .ref 116), (1, .int x1), (2, .int x2), (3, .int x3)] [.int x1, .ref 116] i a q r (by rfl) ?_
        refine ko_callPI mi_k180.1 (pc := 28) (ls := [(0, .ref 116), (1, .int x1), (2, .int x2), (3, .int x3)]) (st := [.int x1, .ref 116]) (h := ks i a q r) (i := (.invokevirtual 276, 3, 173, 0, 9, 0, 410)) (mi_k180.2 _ _ (by rfl)) (ft_invS mi_pq173 (by rfl)) (cy := mi_c173) mi_pq173 rfl (kg173_116 hG.I hG.R x1 (toe18 z2.1 z2.2)) (by decide) ?_
        intro vg7 hg7
        obtain ⟨hg7, og7⟩ := hg7
        have z8 : vg7.toInt ≤ 0 := hg7
        refine ft_go mi_k180 2 35 [(4, .int vg7), (0, .ref 116), (1, .int x1), (2, .int x2), (3, .int x3)] [.int vg7] i a q r (by rfl) ?_
        refine ft_if mi_k180 (decide (0 ≤ vg7)) 41 38 [(4, .int vg7), (0, .ref 116), (1, .int x1), (2, .int x2), (3, .int x3)] [] (by rfl) (fun c => ?_) (fun c => ?_)
        ·
          have c9 : (0 : Int32).toInt ≤ vg7.toInt := kd_le c; clear c
          refine ft_go mi_k180 2 43 [(4, .int vg7), (0, .ref 116), (1, .int x1), (2, .int x2), (3, .int x3)] [.int x1, .ref 116] i a q r (by rfl) ?_
          refine ko_callN mi_k180.1 (pc := 43) (ls := [(4, .int vg7), (0, .ref 116), (1, .int x1), (2, .int x2), (3, .int x3)]) (st := [.int x1, .ref 116]) (h := ks i a q r) (i := (.invokevirtual 279, 3, 174, 0, 9, 0, 411)) (mi_k180.2 _ _ (by rfl)) (ft_invS mi_pq174 (by rfl)) (cy := mi_c174) mi_pq174 rfl (kg174_116 hG.I hG.R x1 (toe18 z2.1 z2.2)) (by decide) ?_
          intro ig10 ag10 qg10 rg10 kg10 hg10
          have hGg10 := kG_call hG kg10 (by decide +kernel)
          obtain ⟨hg10, og10⟩ := hg10
          have fig10_7469 : ((0 : Int) ≤ (ig10 7469).toInt) ∧ ((ig10 7469).toInt ≤ 21) := hGg10.I.1 7469
          have z11 : (ig10 7469).toInt ≤ 20 := hg10
          have tJ12 : kIs (ag10 142) (lF (ag10 142)) ((ig10 7469).toInt) := fun _ _ => rfl
          refine ft_go mi_k180 3 52 [(4, .int vg7), (0, .ref 116), (1, .int x1), (2, .int x2), (3, .int x3)] [.int 20, .int (ig10 7469)] ig10 ag10 qg10 rg10 (by rfl) ?_
          refine ft_if mi_k180 ((ig10 7469) != 20) 58 55 [(4, .int vg7), (0, .ref 116), (1, .int x1), (2, .int x2), (3, .int x3)] [] (by rfl) (fun c => ?_) (fun c => ?_)
          ·
            have c13 : (ig10 7469).toInt ≠ (20 : Int32).toInt := kd_ne c; clear c
            refine ft_go mi_k180 9 73 [(8, .int 0), (7, .int (ig10 7469)), (6, .int (-1)), (5, .int 0), (4, .int vg7), (0, .ref 116), (1, .int x1), (2, .int x2), (3, .int x3)] [] ig10 ag10 qg10 rg10 (by rfl) ?_
            have lp14 : ∀ (nz : Nat) (i14 : Nat → Int32) (a14 : Nat → List Int32) (q14 : Nat → List Int64) (r14 : Nat → Nat) (l8_14 : Int32) (l6_14 : Int32) (l5_14 : Int32), kG yzw180_116_L73 ig10 ag10 qg10 rg10 i14 a14 q14 r14 → (0 : Int) ≤ l8_14.toInt → (ig10 7469).toInt = (i14 7469).toInt → (ig10 7469).toInt ≤ 19 → l8_14.toInt ≤ ((ig10 7469).toInt + 1) → (l6_14, l5_14.toInt) = gBst (fun p => gPur (gKn i a) (a 118) (rIns (lF (ag10 142)) x2 p) ((ig10 7469).toInt + 1).toNat x2) (-1) 0 l8_14.toInt.toNat → kIs (a14 142) (lF (ag10 142)) (ig10 7469).toInt → a14 118 = a 118 → ((((ig10 7469).toInt + 1) - l8_14.toInt)).toNat < nz → ko 15 (mi_h180, mi_c180) P (73, [(8, .int l8_14), (7, .int (ig10 7469)), (6, .int l6_14), (5, .int l5_14), (4, .int vg7), (0, .ref 116), (1, .int x1), (2, .int x2), (3, .int x3)], [], (0, 0), ks i14 a14 q14 r14) := by
              intro nz
              induction nz with
              | zero =>
                intro _ _ _ _ _ _ _ _ _ _ _ _ _ _ _ hm
                exact absurd hm (Nat.not_lt_zero _)
              | succ nz ih14 =>
                intro i14 a14 q14 r14 l8_14 l6_14 l5_14 hL14 p14_0 p14_1 p14_2 p14_3 O14_0 O14_1 O14_2 hm14
                have fi14_7469 : ((0 : Int) ≤ (i14 7469).toInt) ∧ ((i14 7469).toInt ≤ 21) := hL14.I.1 7469
                refine ft_go mi_k180 2 77 [(8, .int l8_14), (7, .int (ig10 7469)), (6, .int l6_14), (5, .int l5_14), (4, .int vg7), (0, .ref 116), (1, .int x1), (2, .int x2), (3, .int x3)] [.int (ig10 7469), .int l8_14] i14 a14 q14 r14 (by rfl) ?_
                refine ft_if mi_k180 (decide ((ig10 7469) < l8_14)) 124 80 [(8, .int l8_14), (7, .int (ig10 7469)), (6, .int l6_14), (5, .int l5_14), (4, .int vg7), (0, .ref 116), (1, .int x1), (2, .int x2), (3, .int x3)] [] (by rfl) (fun c => ?_) (fun c => ?_)
                ·
                  have c15 : (ig10 7469).toInt < l8_14.toInt := kd_lt c; clear c
                  have hG16 := kG_call hGg10 hL14 (by decide +kernel)
                  refine ft_go mi_k180 1 125 [(8, .int l8_14), (7, .int (ig10 7469)), (6, .int l6_14), (5, .int l5_14), (4, .int vg7), (0, .ref 116), (1, .int x1), (2, .int x2), (3, .int x3)] [.int x3] i14 a14 q14 r14 (by rfl) ?_
                  refine ft_if mi_k180 (x3 != 0) 133 128 [(8, .int l8_14), (7, .int (ig10 7469)), (6, .int l6_14), (5, .int l5_14), (4, .int vg7), (0, .ref 116), (1, .int x1), (2, .int x2), (3, .int x3)] [] (by rfl) (fun c => ?_) (fun c => ?_)
                  ·
                    have c17 : x3.toInt ≠ (0 : Int32).toInt := kd_ne c; clear c
                    refine ft_go mi_k180 1 135 [(8, .int l8_14), (7, .int (ig10 7469)), (6, .int l6_14), (5, .int l5_14), (4, .int vg7), (0, .ref 116), (1, .int x1), (2, .int x2), (3, .int x3)] [.int l6_14] i14 a14 q14 r14 (by rfl) ?_
                    exact ft_ret mi_k180 (by rfl) (hP l6_14 _ _ _ _ hG16 ⟨trivial, ⟨(show a14 118 = a 118 from (by first | rfl | (simp only [O14_2, sMn, sMx]; done) | (simp only [O14_2, sMn, sMx]; rfl))), (rTop_go (rok (toe66 z2.1 z2.2 z4.1 z4.2 z6.1 z6.2 ktoe0 ktoe1)) og7 (toe67 c9 ktoe0) og10 ⟨fun h => absurd h (toe69 p14_2), fun _ => ⟨fun h => absurd h (toe70 c17 z6.1 ktoe0), fun _ => congrArg Prod.fst (gBst_len O14_0 (kj_np1 (toe68 c15 p14_3) (toe9 fig10_7469.1)))⟩⟩)⟩⟩)
                  ·
                    have c18 : x3.toInt = (0 : Int32).toInt := kd_neF c; clear c
                    refine ft_go mi_k180 2 135 [(8, .int l8_14), (7, .int (ig10 7469)), (6, .int l6_14), (5, .int l5_14), (4, .int vg7), (0, .ref 116), (1, .int x1), (2, .int x2), (3, .int x3)] [.int l5_14] i14 a14 q14 r14 (by rfl) ?_
                    exact ft_ret mi_k180 (by rfl) (hP l5_14 _ _ _ _ hG16 ⟨trivial, ⟨(show a14 118 = a 118 from (by first | rfl | (simp only [O14_2, sMn, sMx]; done) | (simp only [O14_2, sMn, sMx]; rfl))), (rTop_go (rok (toe66 z2.1 z2.2 z4.1 z4.2 z6.1 z6.2 ktoe0 ktoe1)) og7 (toe67 c9 ktoe0) og10 ⟨fun h => absurd h (toe69 p14_2), fun _ => ⟨fun _ => congrArg Prod.snd (gBst_len O14_0 (kj_np1 (toe68 c15 p14_3) (toe9 fig10_7469.1))), fun h => absurd h (toe73 c18 z6.1 ktoe0)⟩⟩)⟩⟩)
                ·
                  have c19 : l8_14.toInt ≤ (ig10 7469).toInt := kd_ltF c; clear c
                  refine ft_go mi_k180 3 84 [(8, .int l8_14), (7, .int (ig10 7469)), (6, .int l6_14), (5, .int l5_14), (4, .int vg7), (0, .ref 116), (1, .int x1), (2, .int x2), (3, .int x3)] [.int x2, .int l8_14, .ref 116] i14 a14 q14 r14 (by rfl) ?_
                  refine ko_callN mi_k180.1 (pc := 84) (ls := [(8, .int l8_14), (7, .int (ig10 7469)), (6, .int l6_14), (5, .int l5_14), (4, .int vg7), (0, .ref 116), (1, .int x1), (2, .int x2), (3, .int x3)]) (st := [.int x2, .int l8_14, .ref 116]) (h := ks i14 a14 q14 r14) (i := (.invokevirtual 284, 3, 178, 0, 9, 0, 428)) (mi_k180.2 _ _ (by rfl)) (ft_invS mi_pq178 (by rfl)) (cy := mi_c178) mi_pq178 rfl (ke178_116 hL14.I hL14.R l8_14 x2 (toe164 c19 p14_0 p14_1) (toe165 p14_1 p14_2) (toe99 fi_7424.2 z4.1 z4.2)) (by decide) ?_
                  intro ig20 ag20 qg20 rg20 kg20 hg20
                  have hGg20 := kG_call hL14 kg20 (by decide +kernel)
                  obtain ⟨hg20, og20⟩ := hg20
                  have fig20_7469 : ((0 : Int) ≤ (ig20 7469).toInt) ∧ ((ig20 7469).toInt ≤ 21) := hGg20.I.1 7469
                  have z21 : (ig20 7469).toInt = ((i14 7469).toInt + 1) := hg20
                  have oJ22 := og20
                  rw [((toe166 p14_1) : (i14 7469).toInt = (ig10 7469).toInt)] at oJ22
                  have tJ23 : kIs (ag20 142) (rIns (lF (ag10 142)) x2 l8_14.toInt.toNat) ((ig10 7469).toInt + 1) := (kIs_lF oJ22 O14_1 (kj_natle (toe9 p14_0) (toe57 c19)))
                  refine ft_go mi_k180 2 89 [(8, .int l8_14), (7, .int (ig10 7469)), (6, .int l6_14), (5, .int l5_14), (4, .int vg7), (0, .ref 116), (1, .int x1), (2, .int x2), (3, .int x3)] [.int x2, .ref 116] ig20 ag20 qg20 rg20 (by rfl) ?_
                  have hG24 := kG_call hGg10 hGg20 (by decide +kernel)
                  refine ko_callI mi_k180.1 (pc := 89) (ls := [(8, .int l8_14), (7, .int (ig10 7469)), (6, .int l6_14), (5, .int l5_14), (4, .int vg7), (0, .ref 116), (1, .int x1), (2, .int x2), (3, .int x3)]) (st := [.int x2, .ref 116]) (h := ks ig20 ag20 qg20 rg20) (i := (.invokevirtual 288, 3, 172, 0, 9, 0, 429)) (mi_k180.2 _ _ (by rfl)) (ft_invS mi_pq172 (by rfl)) (cy := mi_c172) mi_pq172 rfl (kg172_116 hGg20.I hGg20.R x2 (toe99 fi_7424.2 z4.1 z4.2) (kCode_of (i1 := ig20) hE_code (hG24.fi 7432 rfl) (hG24.fa 120 rfl) (hG24.fa 121 rfl) (hG24.fa 122 rfl) (hG24.fa 123 rfl))) (by decide) ?_
                  intro vg25 ig25 ag25 qg25 rg25 kg25 hg25
                  have hGg25 := kG_call hGg20 kg25 (by decide +kernel)
                  obtain ⟨hg25, og25⟩ := hg25
                  have oP26 := og25.2.1
                  have hG27 := kG_call hGg10 hGg20 (by decide +kernel)
                  rw [(gKn_fr hG27 (by decide +kernel) : gKn ig20 ag20 = gKn i a)] at oP26
                  have pv28 : vg25 = gPur (gKn i a) (a 118) (rIns (lF (ag10 142)) x2 l8_14.toInt.toNat) ((ig10 7469).toInt + 1).toNat x2 := by
                    have e := gPur_of (R := rIns (lF (ag10 142)) x2 l8_14.toInt.toNat) oP26 (N := a 118) (show ag20 118 = a 118 from (by first | rfl | (simp only [kg20.fa 118 rfl, O14_2, sMn, sMx]; done) | (simp only [kg20.fa 118 rfl, O14_2, sMn, sMx]; rfl))) rfl (kIs_c tJ23 rfl (Int.le_of_eq (toe167 p14_1 z21))) (toe9 fig20_7469.1)
                    rw [((toe167 p14_1 z21) : (ig20 7469).toInt = (ig10 7469).toInt + 1)] at e
                    exact e
                  have q29 : ag25 118 = ag20 118 := og25.1
                  refine ft_go mi_k180 3 97 [(9, .int vg25), (8, .int l8_14), (7, .int (ig10 7469)), (6, .int l6_14), (5, .int l5_14), (4, .int vg7), (0, .ref 116), (1, .int x1), (2, .int x2), (3, .int x3)] [.int l8_14, .ref 116] ig25 ag25 qg25 rg25 (by rfl) ?_
                  have fig25_7469 : ((0 : Int) ≤ (ig25 7469).toInt) ∧ ((ig25 7469).toInt ≤ 21) := hGg25.I.1 7469
                  have efig25_7469 : (ig25 7469).toInt = (ig20 7469).toInt := kg25.ti 7469 rfl
                  refine ko_callN mi_k180.1 (pc := 97) (ls := [(9, .int vg25), (8, .int l8_14), (7, .int (ig10 7469)), (6, .int l6_14), (5, .int l5_14), (4, .int vg7), (0, .ref 116), (1, .int x1), (2, .int x2), (3, .int x3)]) (st := [.int l8_14, .ref 116]) (h := ks ig25 ag25 qg25 rg25) (i := (.invokevirtual 291, 3, 179, 0, 9, 0, 430)) (mi_k180.2 _ _ (by rfl)) (ft_invS mi_pq179 (by rfl)) (cy := mi_c179) mi_pq179 rfl (ke179_116 hGg25.I hGg25.R l8_14 (toe9 p14_0) (toe148 efig25_7469 fi14_7469.1 z21)) (by decide) ?_
                  intro ig30 ag30 qg30 rg30 kg30 hg30
                  have hGg30 := kG_call hGg25 kg30 (by decide +kernel)
                  obtain ⟨hg30, og30⟩ := hg30
                  have fig30_7469 : ((0 : Int) ≤ (ig30 7469).toInt) ∧ ((ig30 7469).toInt ≤ 21) := hGg30.I.1 7469
                  have z31 : (ig30 7469).toInt = ((ig25 7469).toInt - 1) := hg30
                  have oJ32 := og30
                  rw [((toe168 efig25_7469 p14_1 z21) : (ig25 7469).toInt - 1 = (ig10 7469).toInt)] at oJ32
                  have tJ33 : kIs (ag30 142) (lF (ag10 142)) ((ig10 7469).toInt) := (kIs_back (kIs_c tJ23 (kg25.fa 142 rfl) (Int.le_refl _)) oJ32)
                  refine ft_go mi_k180 2 104 [(9, .int vg25), (8, .int l8_14), (7, .int (ig10 7469)), (6, .int l6_14), (5, .int l5_14), (4, .int vg7), (0, .ref 116), (1, .int x1), (2, .int x2), (3, .int x3)] [.int l6_14, .int vg25] ig30 ag30 qg30 rg30 (by rfl) ?_
                  refine ft_if mi_k180 (decide (l6_14 < vg25)) 110 107 [(9, .int vg25), (8, .int l8_14), (7, .int (ig10 7469)), (6, .int l6_14), (5, .int l5_14), (4, .int vg7), (0, .ref 116), (1, .int x1), (2, .int x2), (3, .int x3)] [] (by rfl) (fun c => ?_) (fun c => ?_)
                  ·
                    have c34 : l6_14.toInt < vg25.toInt := kd_lt c; clear c
                    have s35 : (l8_14 + 1).toInt = l8_14.toInt + (1 : Int32).toInt := kd_add (toe36 p14_0 ktoe1) (toe150 c19 fig10_7469.2 ktoe1)
                    refine ft_go mi_k180 6 73 [(8, .int (l8_14 + 1)), (5, .int l8_14), (6, .int vg25), (9, .int vg25), (7, .int (ig10 7469)), (4, .int vg7), (0, .ref 116), (1, .int x1), (2, .int x2), (3, .int x3)] [] ig30 ag30 qg30 rg30 (by rfl) ?_
                    refine ko_perm [(8, .int (l8_14 + 1)), (7, .int (ig10 7469)), (6, .int vg25), (5, .int l8_14), (4, .int vg7), (0, .ref 116), (1, .int x1), (2, .int x2), (3, .int x3)] (List.forall_mem_cons.mpr ⟨(List.Mem.head _), (List.forall_mem_cons.mpr ⟨(List.Mem.tail _ (List.Mem.tail _ (List.Mem.tail _ (List.Mem.tail _ (List.Mem.head _))))), (List.forall_mem_cons.mpr ⟨(List.Mem.tail _ (List.Mem.tail _ (List.Mem.head _))), (List.forall_mem_cons.mpr ⟨(List.Mem.tail _ (List.Mem.head _)), (List.forall_mem_cons.mpr ⟨(List.Mem.tail _ (List.Mem.tail _ (List.Mem.tail _ (List.Mem.tail _ (List.Mem.tail _ (List.Mem.head _)))))), (List.forall_mem_cons.mpr ⟨(List.Mem.tail _ (List.Mem.tail _ (List.Mem.tail _ (List.Mem.tail _ (List.Mem.tail _ (List.Mem.tail _ (List.Mem.head _))))))), (List.forall_mem_cons.mpr ⟨(List.Mem.tail _ (List.Mem.tail _ (List.Mem.tail _ (List.Mem.tail _ (List.Mem.tail _ (List.Mem.tail _ (List.Mem.tail _ (List.Mem.head _)))))))), (List.forall_mem_cons.mpr ⟨(List.Mem.tail _ (List.Mem.tail _ (List.Mem.tail _ (List.Mem.tail _ (List.Mem.tail _ (List.Mem.tail _ (List.Mem.tail _ (List.Mem.tail _ (List.Mem.head _))))))))), (List.forall_mem_cons.mpr ⟨(List.Mem.tail _ (List.Mem.tail _ (List.Mem.tail _ (List.Mem.tail _ (List.Mem.tail _ (List.Mem.tail _ (List.Mem.tail _ (List.Mem.tail _ (List.Mem.tail _ (List.Mem.head _)))))))))), (fun _ h => absurd h List.not_mem_nil)⟩)⟩)⟩)⟩)⟩)⟩)⟩)⟩)⟩) ?_
                    exact ih14 _ _ _ _ _ _ _ hGg30 (toe38 p14_0 s35 ktoe1) (toe169 efig25_7469 p14_1 z21 z31) (toe152 p14_2) (toe153 c19 s35 ktoe1) (kT2m (gBst_up (w1 := l8_14) O14_0 pv28 (toe154 c34) (toe9 p14_0) (toe47 s35 ktoe1) toe31) (kj_v toe31) rfl) tJ33 (by first | rfl | (simp only [kg30.fa 118 rfl, q29, kg20.fa 118 rfl, O14_2, sMn, sMx]; done) | (simp only [kg30.fa 118 rfl, q29, kg20.fa 118 rfl, O14_2, sMn, sMx]; rfl)) (kj_meas (toe155 s35 ktoe1) (toe156 c19) hm14)
                  ·
                    have c36 : vg25.toInt ≤ l6_14.toInt := kd_ltF c; clear c
                    have s37 : (l8_14 + 1).toInt = l8_14.toInt + (1 : Int32).toInt := kd_add (toe36 p14_0 ktoe1) (toe150 c19 fig10_7469.2 ktoe1)
                    refine ft_go mi_k180 3 73 [(8, .int (l8_14 + 1)), (9, .int vg25), (7, .int (ig10 7469)), (6, .int l6_14), (5, .int l5_14), (4, .int vg7), (0, .ref 116), (1, .int x1), (2, .int x2), (3, .int x3)] [] ig30 ag30 qg30 rg30 (by rfl) ?_
                    refine ko_perm [(8, .int (l8_14 + 1)), (7, .int (ig10 7469)), (6, .int l6_14), (5, .int l5_14), (4, .int vg7), (0, .ref 116), (1, .int x1), (2, .int x2), (3, .int x3)] (List.forall_mem_cons.mpr ⟨(List.Mem.head _), (List.forall_mem_cons.mpr ⟨(List.Mem.tail _ (List.Mem.tail _ (List.Mem.head _))), (List.forall_mem_cons.mpr ⟨(List.Mem.tail _ (List.Mem.tail _ (List.Mem.tail _ (List.Mem.head _)))), (List.forall_mem_cons.mpr ⟨(List.Mem.tail _ (List.Mem.tail _ (List.Mem.tail _ (List.Mem.tail _ (List.Mem.head _))))), (List.forall_mem_cons.mpr ⟨(List.Mem.tail _ (List.Mem.tail _ (List.Mem.tail _ (List.Mem.tail _ (List.Mem.tail _ (List.Mem.head _)))))), (List.forall_mem_cons.mpr ⟨(List.Mem.tail _ (List.Mem.tail _ (List.Mem.tail _ (List.Mem.tail _ (List.Mem.tail _ (List.Mem.tail _ (List.Mem.head _))))))), (List.forall_mem_cons.mpr ⟨(List.Mem.tail _ (List.Mem.tail _ (List.Mem.tail _ (List.Mem.tail _ (List.Mem.tail _ (List.Mem.tail _ (List.Mem.tail _ (List.Mem.head _)))))))), (List.forall_mem_cons.mpr ⟨(List.Mem.tail _ (List.Mem.tail _ (List.Mem.tail _ (List.Mem.tail _ (List.Mem.tail _ (List.Mem.tail _ (List.Mem.tail _ (List.Mem.tail _ (List.Mem.head _))))))))), (List.forall_mem_cons.mpr ⟨(List.Mem.tail _ (List.Mem.tail _ (List.Mem.tail _ (List.Mem.tail _ (List.Mem.tail _ (List.Mem.tail _ (List.Mem.tail _ (List.Mem.tail _ (List.Mem.tail _ (List.Mem.head _)))))))))), (fun _ h => absurd h List.not_mem_nil)⟩)⟩)⟩)⟩)⟩)⟩)⟩)⟩)⟩) ?_
                    exact ih14 _ _ _ _ _ _ _ hGg30 (toe38 p14_0 s37 ktoe1) (toe169 efig25_7469 p14_1 z21 z31) (toe152 p14_2) (toe153 c19 s37 ktoe1) (kT2m (gBst_no O14_0 pv28 (toe57 c36) (toe9 p14_0) (toe47 s37 ktoe1)) (kj_v toe31) toe31) tJ33 (by first | rfl | (simp only [kg30.fa 118 rfl, q29, kg20.fa 118 rfl, O14_2, sMn, sMx]; done) | (simp only [kg30.fa 118 rfl, q29, kg20.fa 118 rfl, O14_2, sMn, sMx]; rfl)) (kj_meas (toe155 s37 ktoe1) (toe156 c19) hm14)
            exact lp14 _ _ _ _ _ _ _ _ (kG_self _ hGg10.I hGg10.R) (toe19 ktoe0) toe31 (toe157 c13 z11 ktoe20) (toe158 fig10_7469.1 ktoe0) (kT2m (gBst_0 ktoe0) rfl ktoe0) tJ12 (by first | rfl | (simp only [kg10.fa 118 rfl, sMn, sMx]; done) | (simp only [kg10.fa 118 rfl, sMn, sMx]; rfl)) (Nat.lt_succ_self _)
          ·
            have c38 : (ig10 7469).toInt = (20 : Int32).toInt := kd_neF c; clear c
            refine ft_go mi_k180 1 57 [(4, .int vg7), (0, .ref 116), (1, .int x1), (2, .int x2), (3, .int x3)] [.int (-5)] ig10 ag10 qg10 rg10 (by rfl) ?_
            exact ft_ret mi_k180 (by rfl) (hP (-5) _ _ _ _ hGg10 ⟨trivial, ⟨(show ag10 118 = a 118 from (by first | rfl | (simp only [kg10.fa 118 rfl, sMn, sMx]; done) | (simp only [kg10.fa 118 rfl, sMn, sMx]; rfl))), (rTop_go (rok (toe66 z2.1 z2.2 z4.1 z4.2 z6.1 z6.2 ktoe0 ktoe1)) og7 (toe67 c9 ktoe0) og10 ⟨fun _ => rfl, fun h => absurd h (toe159 c38 ktoe20)⟩)⟩⟩)
        ·
          have c39 : vg7.toInt < (0 : Int32).toInt := kd_leF c; clear c
          refine ft_go mi_k180 1 40 [(4, .int vg7), (0, .ref 116), (1, .int x1), (2, .int x2), (3, .int x3)] [.int vg7] i a q r (by rfl) ?_
          exact ft_ret mi_k180 (by rfl) (hP vg7 _ _ _ _ hG ⟨trivial, ⟨(show a 118 = a 118 from rfl), (rTop_bar (rok (toe66 z2.1 z2.2 z4.1 z4.2 z6.1 z6.2 ktoe0 ktoe1)) og7 (toe160 c39 ktoe0))⟩⟩)
      ·
        subst eg5
        have z40 : ¬ (((0 : Int32).toInt ≤ x3.toInt) ∧ (x3.toInt ≤ (1 : Int32).toInt)) := hg5
        refine ft_go mi_k180 2 25 [(0, .ref 116), (1, .int x1), (2, .int x2), (3, .int x3)] [.int (-1)] i a q r (by rfl) ?_
        exact ft_ret mi_k180 (by rfl) (hP (-1) _ _ _ _ hG ⟨trivial, ⟨(show a 118 = a 118 from rfl), (Or.inl ⟨(toe161 z40 ktoe0 ktoe1), rfl⟩)⟩⟩)
    ·
      subst eg3
      have fi_7424 : ((0 : Int) ≤ (i 7424).toInt) ∧ ((i 7424).toInt ≤ 8) := hG.I.1 7424
      have z41 : ¬ (((0 : Int) ≤ x2.toInt) ∧ (x2.toInt < (i 7424).toInt)) := hg3
      refine ft_go mi_k180 2 25 [(0, .ref 116), (1, .int x1), (2, .int x2), (3, .int x3)] [.int (-1)] i a q r (by rfl) ?_
      exact ft_ret mi_k180 (by rfl) (hP (-1) _ _ _ _ hG ⟨trivial, ⟨(show a 118 = a 118 from rfl), (Or.inl ⟨(toe162 z41), rfl⟩)⟩⟩)
  ·
    subst eg1
    have z42 : ¬ (((0 : Int) ≤ x1.toInt) ∧ (x1.toInt ≤ 5)) := hg1
    refine ft_go mi_k180 2 25 [(0, .ref 116), (1, .int x1), (2, .int x2), (3, .int x3)] [.int (-1)] i a q r (by rfl) ?_
    have fi_7424 : ((0 : Int) ≤ (i 7424).toInt) ∧ ((i 7424).toInt ≤ 8) := hG.I.1 7424
    exact ft_ret mi_k180 (by rfl) (hP (-1) _ _ _ _ hG ⟨trivial, ⟨(show a 118 = a 118 from rfl), (Or.inl ⟨(toe163 z42), rfl⟩)⟩⟩)
def yzw181_116 : kW := ([7464, 7465, 7466, 7467, 7469], [118, 128, 129, 139, 141, 142, 143, 144, 145], [], [])
def yzw181_116_L82 : kW := ([7464, 7465, 7466, 7467, 7469], [118, 128, 129, 139, 141, 142, 143, 144, 145], [], [])
set_option maxRecDepth 100000 in
theorem kz181_116 {i : Nat → Int32} {a : Nat → List Int32} {q : Nat → List Int64} {r : Nat → Nat} (hI : kI i a q) (hr : kr r) (x1 : Int32) (x2 : Int32) (x3 : Int32) (x4 : Int32) (hE_code : kCode i a) : km 15 181 [.ref 116, .int x1, .int x2, .int x3, .int x4] (ks i a q r) (kVI yzw181_116 i a q r (fun v i1 a1 q1 r1 => (True) ∧ (a1 118 = a 118 ∧ rTop (((0 : Int) ≤ x2.toInt) ∧ ((0 : Int) ≤ x3.toInt) ∧ (x3.toInt < (i 7424).toInt) ∧ ((0 : Int) ≤ x4.toInt) ∧ (x4.toInt ≤ 1)) i a q x1 v (fun n L => fHi (gKn i a) (a 118) (i 7424) x2 x3 x4 v n L)))) := by
  have hG := kG_self yzw181_116 hI hr
  refine km_ofI (q := (mi_h181, mi_c181)) rfl (by decide) (Nat.le_of_ble_eq_true rfl) ?_
  intro P hP
  refine ft_go mi_k181 1 1 [(0, .ref 116), (1, .int x1), (2, .int x2), (3, .int x3), (4, .int x4)] [.int x1] i a q r (by rfl) ?_
  refine ko_callPI mi_k181.1 (pc := 1) (ls := [(0, .ref 116), (1, .int x1), (2, .int x2), (3, .int x3), (4, .int x4)]) (st := [.int x1]) (h := ks i a q r) (i := (.invokestatic 127, 3, 133, 0, 9, 0, 382)) (mi_k181.2 _ _ (by rfl)) (ft_invS mi_pq133 (by rfl)) (cy := mi_c133) mi_pq133 rfl (kc133 hG.I hG.R x1) (by decide) ?_
  intro vg1 hg1
  rcases hg1 with ⟨eg1, hg1⟩ | ⟨eg1, hg1⟩
  ·
    subst eg1
    have z2 : ((0 : Int) ≤ x1.toInt) ∧ (x1.toInt ≤ 5) := hg1
    refine ft_go mi_k181 2 8 [(0, .ref 116), (1, .int x1), (2, .int x2), (3, .int x3), (4, .int x4)] [.int x2] i a q r (by rfl) ?_
    refine ft_if mi_k181 (decide (x2 < 0)) 29 11 [(0, .ref 116), (1, .int x1), (2, .int x2), (3, .int x3), (4, .int x4)] [] (by rfl) (fun c => ?_) (fun c => ?_)
    ·
      have c3 : x2.toInt < (0 : Int32).toInt := kd_lt c; clear c
      refine ft_go mi_k181 1 30 [(0, .ref 116), (1, .int x1), (2, .int x2), (3, .int x3), (4, .int x4)] [.int (-1)] i a q r (by rfl) ?_
      have fi_7424 : ((0 : Int) ≤ (i 7424).toInt) ∧ ((i 7424).toInt ≤ 8) := hG.I.1 7424
      exact ft_ret mi_k181 (by rfl) (hP (-1) _ _ _ _ hG ⟨trivial, ⟨(show a 118 = a 118 from rfl), (Or.inl ⟨(toe170 c3 ktoe0), rfl⟩)⟩⟩)
    ·
      have c4 : (0 : Int32).toInt ≤ x2.toInt := kd_ltF c; clear c
      refine ft_go mi_k181 2 13 [(0, .ref 116), (1, .int x1), (2, .int x2), (3, .int x3), (4, .int x4)] [.int x3, .ref 116] i a q r (by rfl) ?_
      refine ko_callPI mi_k181.1 (pc := 13) (ls := [(0, .ref 116), (1, .int x1), (2, .int x2), (3, .int x3), (4, .int x4)]) (st := [.int x3, .ref 116]) (h := ks i a q r) (i := (.invokevirtual 137, 3, 132, 0, 9, 0, 387)) (mi_k181.2 _ _ (by rfl)) (ft_invS mi_pq132 (by rfl)) (cy := mi_c132) mi_pq132 rfl (kc132_116 hG.I hG.R x3) (by decide) ?_
      intro vg5 hg5
      rcases hg5 with ⟨eg5, hg5⟩ | ⟨eg5, hg5⟩
      ·
        subst eg5
        have fi_7424 : ((0 : Int) ≤ (i 7424).toInt) ∧ ((i 7424).toInt ≤ 8) := hG.I.1 7424
        have z6 : ((0 : Int) ≤ x3.toInt) ∧ (x3.toInt < (i 7424).toInt) := hg5
        refine ft_go mi_k181 4 23 [(0, .ref 116), (1, .int x1), (2, .int x2), (3, .int x3), (4, .int x4)] [.int 1, .int 0, .int x4] i a q r (by rfl) ?_
        refine ko_callPI mi_k181.1 (pc := 23) (ls := [(0, .ref 116), (1, .int x1), (2, .int x2), (3, .int x3), (4, .int x4)]) (st := [.int 1, .int 0, .int x4]) (h := ks i a q r) (i := (.invokestatic 119, 3, 131, 0, 9, 0, 379)) (mi_k181.2 _ _ (by rfl)) (ft_invS mi_pq131 (by rfl)) (cy := mi_c131) mi_pq131 rfl (kc131 hG.I hG.R x4 0 1) (by decide) ?_
        intro vg7 hg7
        rcases hg7 with ⟨eg7, hg7⟩ | ⟨eg7, hg7⟩
        ·
          subst eg7
          have z8 : ((0 : Int32).toInt ≤ x4.toInt) ∧ (x4.toInt ≤ (1 : Int32).toInt) := hg7
          refine ft_go mi_k181 3 33 [(0, .ref 116), (1, .int x1), (2, .int x2), (3, .int x3), (4, .int x4)] [.int x1, .ref 116] i a q r (by rfl) ?_
          refine ko_callPI mi_k181.1 (pc := 33) (ls := [(0, .ref 116), (1, .int x1), (2, .int x2), (3, .int x3), (4, .int x4)]) (st := [.int x1, .ref 116]) (h := ks i a q r) (i := (.invokevirtual 276, 3, 173, 0, 9, 0, 410)) (mi_k181.2 _ _ (by rfl)) (ft_invS mi_pq173 (by rfl)) (cy := mi_c173) mi_pq173 rfl (kg173_116 hG.I hG.R x1 (toe18 z2.1 z2.2)) (by decide) ?_
          intro vg9 hg9
          obtain ⟨hg9, og9⟩ := hg9
          have z10 : vg9.toInt ≤ 0 := hg9
          refine ft_go mi_k181 2 40 [(5, .int vg9), (0, .ref 116), (1, .int x1), (2, .int x2), (3, .int x3), (4, .int x4)] [.int vg9] i a q r (by rfl) ?_
          refine ft_if mi_k181 (decide (0 ≤ vg9)) 46 43 [(5, .int vg9), (0, .ref 116), (1, .int x1), (2, .int x2), (3, .int x3), (4, .int x4)] [] (by rfl) (fun c => ?_) (fun c => ?_)
          ·
            have c11 : (0 : Int32).toInt ≤ vg9.toInt := kd_le c; clear c
            refine ft_go mi_k181 2 48 [(5, .int vg9), (0, .ref 116), (1, .int x1), (2, .int x2), (3, .int x3), (4, .int x4)] [.int x1, .ref 116] i a q r (by rfl) ?_
            refine ko_callN mi_k181.1 (pc := 48) (ls := [(5, .int vg9), (0, .ref 116), (1, .int x1), (2, .int x2), (3, .int x3), (4, .int x4)]) (st := [.int x1, .ref 116]) (h := ks i a q r) (i := (.invokevirtual 279, 3, 174, 0, 9, 0, 411)) (mi_k181.2 _ _ (by rfl)) (ft_invS mi_pq174 (by rfl)) (cy := mi_c174) mi_pq174 rfl (kg174_116 hG.I hG.R x1 (toe18 z2.1 z2.2)) (by decide) ?_
            intro ig12 ag12 qg12 rg12 kg12 hg12
            have hGg12 := kG_call hG kg12 (by decide +kernel)
            obtain ⟨hg12, og12⟩ := hg12
            have fig12_7469 : ((0 : Int) ≤ (ig12 7469).toInt) ∧ ((ig12 7469).toInt ≤ 21) := hGg12.I.1 7469
            have z13 : (ig12 7469).toInt ≤ 20 := hg12
            have tJ14 : kIs (ag12 142) (lF (ag12 142)) ((ig12 7469).toInt) := fun _ _ => rfl
            refine ft_go mi_k181 3 56 [(5, .int vg9), (0, .ref 116), (1, .int x1), (2, .int x2), (3, .int x3), (4, .int x4)] [.int (ig12 7469), .int x2] ig12 ag12 qg12 rg12 (by rfl) ?_
            refine ft_if mi_k181 (decide (x2 ≤ (ig12 7469))) 61 59 [(5, .int vg9), (0, .ref 116), (1, .int x1), (2, .int x2), (3, .int x3), (4, .int x4)] [] (by rfl) (fun c => ?_) (fun c => ?_)
            ·
              have c15 : x2.toInt ≤ (ig12 7469).toInt := kd_le c; clear c
              refine ft_go mi_k181 3 67 [(5, .int vg9), (0, .ref 116), (1, .int x1), (2, .int x2), (3, .int x3), (4, .int x4)] [.int 20, .int (ig12 7469)] ig12 ag12 qg12 rg12 (by rfl) ?_
              refine ft_if mi_k181 ((ig12 7469) != 20) 73 70 [(5, .int vg9), (0, .ref 116), (1, .int x1), (2, .int x2), (3, .int x3), (4, .int x4)] [] (by rfl) (fun c => ?_) (fun c => ?_)
              ·
                have c16 : (ig12 7469).toInt ≠ (20 : Int32).toInt := kd_ne c; clear c
                refine ft_go mi_k181 6 82 [(8, .int 0), (7, .int (-1)), (6, .int 0), (5, .int vg9), (0, .ref 116), (1, .int x1), (2, .int x2), (3, .int x3), (4, .int x4)] [] ig12 ag12 qg12 rg12 (by rfl) ?_
                have lp17 : ∀ (nz : Nat) (i17 : Nat → Int32) (a17 : Nat → List Int32) (q17 : Nat → List Int64) (r17 : Nat → Nat) (l8_17 : Int32) (l7_17 : Int32) (l6_17 : Int32), kG yzw181_116_L82 ig12 ag12 qg12 rg12 i17 a17 q17 r17 → (0 : Int) ≤ l8_17.toInt → (i17 7469).toInt ≤ 19 → x2.toInt ≤ (i17 7469).toInt → l8_17.toInt ≤ (i 7424).toInt → (i17 7469).toInt = (ig12 7469).toInt → (l7_17, l6_17.toInt) = gBst (fun p => gPur (gKn i a) (a 118) (rIns (lF (ag12 142)) (kOf p) x2.toInt.toNat) ((ig12 7469).toInt + 1).toNat x3) (-1) 0 l8_17.toInt.toNat → kIs (a17 142) (lF (ag12 142)) (ig12 7469).toInt → a17 118 = a 118 → (((i17 7424).toInt - l8_17.toInt)).toNat < nz → ko 15 (mi_h181, mi_c181) P (82, [(8, .int l8_17), (7, .int l7_17), (6, .int l6_17), (5, .int vg9), (0, .ref 116), (1, .int x1), (2, .int x2), (3, .int x3), (4, .int x4)], [], (0, 0), ks i17 a17 q17 r17) := by
                  intro nz
                  induction nz with
                  | zero =>
                    intro _ _ _ _ _ _ _ _ _ _ _ _ _ _ _ _ hm
                    exact absurd hm (Nat.not_lt_zero _)
                  | succ nz ih17 =>
                    intro i17 a17 q17 r17 l8_17 l7_17 l6_17 hL17 p17_0 p17_1 p17_2 p17_3 p17_4 O17_0 O17_1 O17_2 hm17
                    have fi17_7469 : ((0 : Int) ≤ (i17 7469).toInt) ∧ ((i17 7469).toInt ≤ 21) := hL17.I.1 7469
                    have fi17_7424 : ((0 : Int) ≤ (i17 7424).toInt) ∧ ((i17 7424).toInt ≤ 8) := hL17.I.1 7424
                    have fig12_7424 : ((0 : Int) ≤ (ig12 7424).toInt) ∧ ((ig12 7424).toInt ≤ 8) := hGg12.I.1 7424
                    have efig12_7424 : (ig12 7424).toInt = (i 7424).toInt := kg12.ti 7424 rfl
                    have efi17_7424 : (i17 7424).toInt = (ig12 7424).toInt := hL17.ti 7424 rfl
                    refine ft_go mi_k181 3 88 [(8, .int l8_17), (7, .int l7_17), (6, .int l6_17), (5, .int vg9), (0, .ref 116), (1, .int x1), (2, .int x2), (3, .int x3), (4, .int x4)] [.int (i17 7424), .int l8_17] i17 a17 q17 r17 (by rfl) ?_
                    refine ft_if mi_k181 (decide ((i17 7424) ≤ l8_17)) 134 91 [(8, .int l8_17), (7, .int l7_17), (6, .int l6_17), (5, .int vg9), (0, .ref 116), (1, .int x1), (2, .int x2), (3, .int x3), (4, .int x4)] [] (by rfl) (fun c => ?_) (fun c => ?_)
                    ·
                      have c18 : (i17 7424).toInt ≤ l8_17.toInt := kd_le c; clear c
                      have hG19 := kG_call hGg12 hL17 (by decide +kernel)
                      refine ft_go mi_k181 1 136 [(8, .int l8_17), (7, .int l7_17), (6, .int l6_17), (5, .int vg9), (0, .ref 116), (1, .int x1), (2, .int x2), (3, .int x3), (4, .int x4)] [.int x4] i17 a17 q17 r17 (by rfl) ?_
                      refine ft_if mi_k181 (x4 != 0) 144 139 [(8, .int l8_17), (7, .int l7_17), (6, .int l6_17), (5, .int vg9), (0, .ref 116), (1, .int x1), (2, .int x2), (3, .int x3), (4, .int x4)] [] (by rfl) (fun c => ?_) (fun c => ?_)
                      ·
                        have c20 : x4.toInt ≠ (0 : Int32).toInt := kd_ne c; clear c
                        refine ft_go mi_k181 1 146 [(8, .int l8_17), (7, .int l7_17), (6, .int l6_17), (5, .int vg9), (0, .ref 116), (1, .int x1), (2, .int x2), (3, .int x3), (4, .int x4)] [.int l7_17] i17 a17 q17 r17 (by rfl) ?_
                        exact ft_ret mi_k181 (by rfl) (hP l7_17 _ _ _ _ hG19 ⟨trivial, ⟨(show a17 118 = a 118 from (by first | rfl | (simp only [O17_2, sMn, sMx]; done) | (simp only [O17_2, sMn, sMx]; rfl))), (rTop_go (rok (toe171 c4 z2.1 z2.2 z6.1 z6.2 z8.1 z8.2 ktoe0 ktoe1)) og9 (toe67 c11 ktoe0) og12 ⟨fun h => absurd h (toe172 c15), fun _ => ⟨fun h => absurd h (toe190 p17_1 p17_4), fun _ => ⟨fun h => absurd h (toe70 c20 z8.1 ktoe0), fun _ => congrArg Prod.fst (gBst_len O17_0 (kj_np (toe173 c18 efi17_7424 efig12_7424 p17_3) (toe9 fi_7424.1)))⟩⟩⟩)⟩⟩)
                      ·
                        have c21 : x4.toInt = (0 : Int32).toInt := kd_neF c; clear c
                        refine ft_go mi_k181 2 146 [(8, .int l8_17), (7, .int l7_17), (6, .int l6_17), (5, .int vg9), (0, .ref 116), (1, .int x1), (2, .int x2), (3, .int x3), (4, .int x4)] [.int l6_17] i17 a17 q17 r17 (by rfl) ?_
                        exact ft_ret mi_k181 (by rfl) (hP l6_17 _ _ _ _ hG19 ⟨trivial, ⟨(show a17 118 = a 118 from (by first | rfl | (simp only [O17_2, sMn, sMx]; done) | (simp only [O17_2, sMn, sMx]; rfl))), (rTop_go (rok (toe171 c4 z2.1 z2.2 z6.1 z6.2 z8.1 z8.2 ktoe0 ktoe1)) og9 (toe67 c11 ktoe0) og12 ⟨fun h => absurd h (toe172 c15), fun _ => ⟨fun h => absurd h (toe190 p17_1 p17_4), fun _ => ⟨fun _ => congrArg Prod.snd (gBst_len O17_0 (kj_np (toe173 c18 efi17_7424 efig12_7424 p17_3) (toe9 fi_7424.1))), fun h => absurd h (toe73 c21 z8.1 ktoe0)⟩⟩⟩)⟩⟩)
                    ·
                      have c22 : l8_17.toInt < (i17 7424).toInt := kd_leF c; clear c
                      refine ft_go mi_k181 3 95 [(8, .int l8_17), (7, .int l7_17), (6, .int l6_17), (5, .int vg9), (0, .ref 116), (1, .int x1), (2, .int x2), (3, .int x3), (4, .int x4)] [.int l8_17, .int x2, .ref 116] i17 a17 q17 r17 (by rfl) ?_
                      refine ko_callN mi_k181.1 (pc := 95) (ls := [(8, .int l8_17), (7, .int l7_17), (6, .int l6_17), (5, .int vg9), (0, .ref 116), (1, .int x1), (2, .int x2), (3, .int x3), (4, .int x4)]) (st := [.int l8_17, .int x2, .ref 116]) (h := ks i17 a17 q17 r17) (i := (.invokevirtual 284, 3, 178, 0, 9, 0, 428)) (mi_k181.2 _ _ (by rfl)) (ft_invS mi_pq178 (by rfl)) (cy := mi_c178) mi_pq178 rfl (ke178_116 hL17.I hL17.R x2 l8_17 (toe191 c4 p17_2 ktoe0) (toe176 p17_1) (toe177 c22 efi17_7424 efig12_7424 fi_7424.2 p17_0)) (by decide) ?_
                      intro ig23 ag23 qg23 rg23 kg23 hg23
                      have hGg23 := kG_call hL17 kg23 (by decide +kernel)
                      obtain ⟨hg23, og23⟩ := hg23
                      have fig23_7469 : ((0 : Int) ≤ (ig23 7469).toInt) ∧ ((ig23 7469).toInt ≤ 21) := hGg23.I.1 7469
                      have z24 : (ig23 7469).toInt = ((i17 7469).toInt + 1) := hg23
                      have oJ25 := og23
                      rw [((toe45 p17_4) : (i17 7469).toInt = (ig12 7469).toInt)] at oJ25
                      have tJ26 : kIs (ag23 142) (rIns (lF (ag12 142)) l8_17 x2.toInt.toNat) ((ig12 7469).toInt + 1) := (kIs_lF oJ25 O17_1 (kj_natle (toe178 c4 ktoe0) (toe57 c15)))
                      refine ft_go mi_k181 2 100 [(8, .int l8_17), (7, .int l7_17), (6, .int l6_17), (5, .int vg9), (0, .ref 116), (1, .int x1), (2, .int x2), (3, .int x3), (4, .int x4)] [.int x3, .ref 116] ig23 ag23 qg23 rg23 (by rfl) ?_
                      have hG27 := kG_call hGg12 hGg23 (by decide +kernel)
                      refine ko_callI mi_k181.1 (pc := 100) (ls := [(8, .int l8_17), (7, .int l7_17), (6, .int l6_17), (5, .int vg9), (0, .ref 116), (1, .int x1), (2, .int x2), (3, .int x3), (4, .int x4)]) (st := [.int x3, .ref 116]) (h := ks ig23 ag23 qg23 rg23) (i := (.invokevirtual 288, 3, 172, 0, 9, 0, 429)) (mi_k181.2 _ _ (by rfl)) (ft_invS mi_pq172 (by rfl)) (cy := mi_c172) mi_pq172 rfl (kg172_116 hGg23.I hGg23.R x3 (toe99 fi_7424.2 z6.1 z6.2) (kCode_of (i1 := ig23) hE_code (hG27.fi 7432 rfl) (hG27.fa 120 rfl) (hG27.fa 121 rfl) (hG27.fa 122 rfl) (hG27.fa 123 rfl))) (by decide) ?_
                      intro vg28 ig28 ag28 qg28 rg28 kg28 hg28
                      have hGg28 := kG_call hGg23 kg28 (by decide +kernel)
                      obtain ⟨hg28, og28⟩ := hg28
                      have oP29 := og28.2.1
                      have hG30 := kG_call hGg12 hGg23 (by decide +kernel)
                      rw [(gKn_fr hG30 (by decide +kernel) : gKn ig23 ag23 = gKn i a)] at oP29
                      have pv31 : vg28 = gPur (gKn i a) (a 118) (rIns (lF (ag12 142)) l8_17 x2.toInt.toNat) ((ig12 7469).toInt + 1).toNat x3 := by
                        have e := gPur_of (R := rIns (lF (ag12 142)) l8_17 x2.toInt.toNat) oP29 (N := a 118) (show ag23 118 = a 118 from (by first | rfl | (simp only [kg23.fa 118 rfl, O17_2, sMn, sMx]; done) | (simp only [kg23.fa 118 rfl, O17_2, sMn, sMx]; rfl))) rfl (kIs_c tJ26 rfl (Int.le_of_eq (toe130 p17_4 z24))) (toe9 fig23_7469.1)
                        rw [((toe130 p17_4 z24) : (ig23 7469).toInt = (ig12 7469).toInt + 1)] at e
                        exact e
                      have q32 : ag28 118 = ag23 118 := og28.1
                      refine ft_go mi_k181 3 107 [(9, .int vg28), (8, .int l8_17), (7, .int l7_17), (6, .int l6_17), (5, .int vg9), (0, .ref 116), (1, .int x1), (2, .int x2), (3, .int x3), (4, .int x4)] [.int x2, .ref 116] ig28 ag28 qg28 rg28 (by rfl) ?_
                      have fig28_7469 : ((0 : Int) ≤ (ig28 7469).toInt) ∧ ((ig28 7469).toInt ≤ 21) := hGg28.I.1 7469
                      have efig28_7469 : (ig28 7469).toInt = (ig23 7469).toInt := kg28.ti 7469 rfl
                      refine ko_callN mi_k181.1 (pc := 107) (ls := [(9, .int vg28), (8, .int l8_17), (7, .int l7_17), (6, .int l6_17), (5, .int vg9), (0, .ref 116), (1, .int x1), (2, .int x2), (3, .int x3), (4, .int x4)]) (st := [.int x2, .ref 116]) (h := ks ig28 ag28 qg28 rg28) (i := (.invokevirtual 291, 3, 179, 0, 9, 0, 430)) (mi_k181.2 _ _ (by rfl)) (ft_invS mi_pq179 (by rfl)) (cy := mi_c179) mi_pq179 rfl (ke179_116 hGg28.I hGg28.R x2 (toe178 c4 ktoe0) (toe148 efig28_7469 fi17_7469.1 z24)) (by decide) ?_
                      intro ig33 ag33 qg33 rg33 kg33 hg33
                      have hGg33 := kG_call hGg28 kg33 (by decide +kernel)
                      obtain ⟨hg33, og33⟩ := hg33
                      have fig33_7469 : ((0 : Int) ≤ (ig33 7469).toInt) ∧ ((ig33 7469).toInt ≤ 21) := hGg33.I.1 7469
                      have z34 : (ig33 7469).toInt = ((ig28 7469).toInt - 1) := hg33
                      have oJ35 := og33
                      rw [((toe192 efig28_7469 p17_4 z24) : (ig28 7469).toInt - 1 = (ig12 7469).toInt)] at oJ35
                      have tJ36 : kIs (ag33 142) (lF (ag12 142)) ((ig12 7469).toInt) := (kIs_back (kIs_c tJ26 (kg28.fa 142 rfl) (Int.le_refl _)) oJ35)
                      refine ft_go mi_k181 2 114 [(9, .int vg28), (8, .int l8_17), (7, .int l7_17), (6, .int l6_17), (5, .int vg9), (0, .ref 116), (1, .int x1), (2, .int x2), (3, .int x3), (4, .int x4)] [.int l7_17, .int vg28] ig33 ag33 qg33 rg33 (by rfl) ?_
                      refine ft_if mi_k181 (decide (l7_17 < vg28)) 120 117 [(9, .int vg28), (8, .int l8_17), (7, .int l7_17), (6, .int l6_17), (5, .int vg9), (0, .ref 116), (1, .int x1), (2, .int x2), (3, .int x3), (4, .int x4)] [] (by rfl) (fun c => ?_) (fun c => ?_)
                      ·
                        have c37 : l7_17.toInt < vg28.toInt := kd_lt c; clear c
                        have s38 : (l8_17 + 1).toInt = l8_17.toInt + (1 : Int32).toInt := kd_add (toe36 p17_0 ktoe1) (toe179 c22 efi17_7424 efig12_7424 fi_7424.2 ktoe1)
                        refine ft_go mi_k181 6 82 [(8, .int (l8_17 + 1)), (6, .int l8_17), (7, .int vg28), (9, .int vg28), (5, .int vg9), (0, .ref 116), (1, .int x1), (2, .int x2), (3, .int x3), (4, .int x4)] [] ig33 ag33 qg33 rg33 (by rfl) ?_
                        refine ko_perm [(8, .int (l8_17 + 1)), (7, .int vg28), (6, .int l8_17), (5, .int vg9), (0, .ref 116), (1, .int x1), (2, .int x2), (3, .int x3), (4, .int x4)] (List.forall_mem_cons.mpr ⟨(List.Mem.head _), (List.forall_mem_cons.mpr ⟨(List.Mem.tail _ (List.Mem.tail _ (List.Mem.head _))), (List.forall_mem_cons.mpr ⟨(List.Mem.tail _ (List.Mem.head _)), (List.forall_mem_cons.mpr ⟨(List.Mem.tail _ (List.Mem.tail _ (List.Mem.tail _ (List.Mem.tail _ (List.Mem.head _))))), (List.forall_mem_cons.mpr ⟨(List.Mem.tail _ (List.Mem.tail _ (List.Mem.tail _ (List.Mem.tail _ (List.Mem.tail _ (List.Mem.head _)))))), (List.forall_mem_cons.mpr ⟨(List.Mem.tail _ (List.Mem.tail _ (List.Mem.tail _ (List.Mem.tail _ (List.Mem.tail _ (List.Mem.tail _ (List.Mem.head _))))))), (List.forall_mem_cons.mpr ⟨(List.Mem.tail _ (List.Mem.tail _ (List.Mem.tail _ (List.Mem.tail _ (List.Mem.tail _ (List.Mem.tail _ (List.Mem.tail _ (List.Mem.head _)))))))), (List.forall_mem_cons.mpr ⟨(List.Mem.tail _ (List.Mem.tail _ (List.Mem.tail _ (List.Mem.tail _ (List.Mem.tail _ (List.Mem.tail _ (List.Mem.tail _ (List.Mem.tail _ (List.Mem.head _))))))))), (List.forall_mem_cons.mpr ⟨(List.Mem.tail _ (List.Mem.tail _ (List.Mem.tail _ (List.Mem.tail _ (List.Mem.tail _ (List.Mem.tail _ (List.Mem.tail _ (List.Mem.tail _ (List.Mem.tail _ (List.Mem.head _)))))))))), (fun _ h => absurd h List.not_mem_nil)⟩)⟩)⟩)⟩)⟩)⟩)⟩)⟩)⟩) ?_
                        have fig33_7424 : ((0 : Int) ≤ (ig33 7424).toInt) ∧ ((ig33 7424).toInt ≤ 8) := hGg33.I.1 7424
                        have fig28_7424 : ((0 : Int) ≤ (ig28 7424).toInt) ∧ ((ig28 7424).toInt ≤ 8) := hGg28.I.1 7424
                        have fig23_7424 : ((0 : Int) ≤ (ig23 7424).toInt) ∧ ((ig23 7424).toInt ≤ 8) := hGg23.I.1 7424
                        have efig23_7424 : (ig23 7424).toInt = (i17 7424).toInt := kg23.ti 7424 rfl
                        have efig28_7424 : (ig28 7424).toInt = (ig23 7424).toInt := kg28.ti 7424 rfl
                        have efig33_7424 : (ig33 7424).toInt = (ig28 7424).toInt := kg33.ti 7424 rfl
                        exact ih17 _ _ _ _ _ _ _ hGg33 (toe38 p17_0 s38 ktoe1) (toe180 efig28_7469 p17_1 z24 z34) (toe193 efig28_7469 p17_2 z24 z34) (toe182 c22 efi17_7424 efig12_7424 s38 ktoe1) (toe194 efig28_7469 p17_4 z24 z34) (kT2m (gBst_up (w1 := l8_17) O17_0 (bh_fv pv31 (toe9 p17_0) (toe184 c22 efi17_7424 efig12_7424 fi_7424.2)) (toe154 c37) (toe9 p17_0) (toe47 s38 ktoe1) toe31) (kj_v toe31) rfl) tJ36 (by first | rfl | (simp only [kg33.fa 118 rfl, q32, kg23.fa 118 rfl, O17_2, sMn, sMx]; done) | (simp only [kg33.fa 118 rfl, q32, kg23.fa 118 rfl, O17_2, sMn, sMx]; rfl)) (kj_meas (toe185 efig23_7424 efig28_7424 efig33_7424 s38 ktoe1) (toe95 c22) hm17)
                      ·
                        have c39 : vg28.toInt ≤ l7_17.toInt := kd_ltF c; clear c
                        have s40 : (l8_17 + 1).toInt = l8_17.toInt + (1 : Int32).toInt := kd_add (toe36 p17_0 ktoe1) (toe179 c22 efi17_7424 efig12_7424 fi_7424.2 ktoe1)
                        refine ft_go mi_k181 3 82 [(8, .int (l8_17 + 1)), (9, .int vg28), (7, .int l7_17), (6, .int l6_17), (5, .int vg9), (0, .ref 116), (1, .int x1), (2, .int x2), (3, .int x3), (4, .int x4)] [] ig33 ag33 qg33 rg33 (by rfl) ?_
                        refine ko_perm [(8, .int (l8_17 + 1)), (7, .int l7_17), (6, .int l6_17), (5, .int vg9), (0, .ref 116), (1, .int x1), (2, .int x2), (3, .int x3), (4, .int x4)] (List.forall_mem_cons.mpr ⟨(List.Mem.head _), (List.forall_mem_cons.mpr ⟨(List.Mem.tail _ (List.Mem.tail _ (List.Mem.head _))), (List.forall_mem_cons.mpr ⟨(List.Mem.tail _ (List.Mem.tail _ (List.Mem.tail _ (List.Mem.head _)))), (List.forall_mem_cons.mpr ⟨(List.Mem.tail _ (List.Mem.tail _ (List.Mem.tail _ (List.Mem.tail _ (List.Mem.head _))))), (List.forall_mem_cons.mpr ⟨(List.Mem.tail _ (List.Mem.tail _ (List.Mem.tail _ (List.Mem.tail _ (List.Mem.tail _ (List.Mem.head _)))))), (List.forall_mem_cons.mpr ⟨(List.Mem.tail _ (List.Mem.tail _ (List.Mem.tail _ (List.Mem.tail _ (List.Mem.tail _ (List.Mem.tail _ (List.Mem.head _))))))), (List.forall_mem_cons.mpr ⟨(List.Mem.tail _ (List.Mem.tail _ (List.Mem.tail _ (List.Mem.tail _ (List.Mem.tail _ (List.Mem.tail _ (List.Mem.tail _ (List.Mem.head _)))))))), (List.forall_mem_cons.mpr ⟨(List.Mem.tail _ (List.Mem.tail _ (List.Mem.tail _ (List.Mem.tail _ (List.Mem.tail _ (List.Mem.tail _ (List.Mem.tail _ (List.Mem.tail _ (List.Mem.head _))))))))), (List.forall_mem_cons.mpr ⟨(List.Mem.tail _ (List.Mem.tail _ (List.Mem.tail _ (List.Mem.tail _ (List.Mem.tail _ (List.Mem.tail _ (List.Mem.tail _ (List.Mem.tail _ (List.Mem.tail _ (List.Mem.head _)))))))))), (fun _ h => absurd h List.not_mem_nil)⟩)⟩)⟩)⟩)⟩)⟩)⟩)⟩)⟩) ?_
                        have fig33_7424 : ((0 : Int) ≤ (ig33 7424).toInt) ∧ ((ig33 7424).toInt ≤ 8) := hGg33.I.1 7424
                        have fig28_7424 : ((0 : Int) ≤ (ig28 7424).toInt) ∧ ((ig28 7424).toInt ≤ 8) := hGg28.I.1 7424
                        have fig23_7424 : ((0 : Int) ≤ (ig23 7424).toInt) ∧ ((ig23 7424).toInt ≤ 8) := hGg23.I.1 7424
                        have efig23_7424 : (ig23 7424).toInt = (i17 7424).toInt := kg23.ti 7424 rfl
                        have efig28_7424 : (ig28 7424).toInt = (ig23 7424).toInt := kg28.ti 7424 rfl
                        have efig33_7424 : (ig33 7424).toInt = (ig28 7424).toInt := kg33.ti 7424 rfl
                        exact ih17 _ _ _ _ _ _ _ hGg33 (toe38 p17_0 s40 ktoe1) (toe180 efig28_7469 p17_1 z24 z34) (toe193 efig28_7469 p17_2 z24 z34) (toe182 c22 efi17_7424 efig12_7424 s40 ktoe1) (toe194 efig28_7469 p17_4 z24 z34) (kT2m (gBst_no O17_0 (bh_fv pv31 (toe9 p17_0) (toe184 c22 efi17_7424 efig12_7424 fi_7424.2)) (toe57 c39) (toe9 p17_0) (toe47 s40 ktoe1)) (kj_v toe31) toe31) tJ36 (by first | rfl | (simp only [kg33.fa 118 rfl, q32, kg23.fa 118 rfl, O17_2, sMn, sMx]; done) | (simp only [kg33.fa 118 rfl, q32, kg23.fa 118 rfl, O17_2, sMn, sMx]; rfl)) (kj_meas (toe185 efig23_7424 efig28_7424 efig33_7424 s40 ktoe1) (toe95 c22) hm17)
                exact lp17 _ _ _ _ _ _ _ _ (kG_self _ hGg12.I hGg12.R) (toe19 ktoe0) (toe157 c16 z13 ktoe20) (toe57 c15) (toe54 fi_7424.1 ktoe0) toe31 (kT2m (gBst_0 ktoe0) rfl ktoe0) tJ14 (by first | rfl | (simp only [kg12.fa 118 rfl, sMn, sMx]; done) | (simp only [kg12.fa 118 rfl, sMn, sMx]; rfl)) (Nat.lt_succ_self _)
              ·
                have c41 : (ig12 7469).toInt = (20 : Int32).toInt := kd_neF c; clear c
                refine ft_go mi_k181 1 72 [(5, .int vg9), (0, .ref 116), (1, .int x1), (2, .int x2), (3, .int x3), (4, .int x4)] [.int (-5)] ig12 ag12 qg12 rg12 (by rfl) ?_
                exact ft_ret mi_k181 (by rfl) (hP (-5) _ _ _ _ hGg12 ⟨trivial, ⟨(show ag12 118 = a 118 from (by first | rfl | (simp only [kg12.fa 118 rfl, sMn, sMx]; done) | (simp only [kg12.fa 118 rfl, sMn, sMx]; rfl))), (rTop_go (rok (toe171 c4 z2.1 z2.2 z6.1 z6.2 z8.1 z8.2 ktoe0 ktoe1)) og9 (toe67 c11 ktoe0) og12 ⟨fun h => absurd h (toe172 c15), fun _ => ⟨fun _ => rfl, fun h => absurd h (toe159 c41 ktoe20)⟩⟩)⟩⟩)
            ·
              have c42 : (ig12 7469).toInt < x2.toInt := kd_leF c; clear c
              refine ft_go mi_k181 1 60 [(5, .int vg9), (0, .ref 116), (1, .int x1), (2, .int x2), (3, .int x3), (4, .int x4)] [.int (-1)] ig12 ag12 qg12 rg12 (by rfl) ?_
              exact ft_ret mi_k181 (by rfl) (hP (-1) _ _ _ _ hGg12 ⟨trivial, ⟨(show ag12 118 = a 118 from (by first | rfl | (simp only [kg12.fa 118 rfl, sMn, sMx]; done) | (simp only [kg12.fa 118 rfl, sMn, sMx]; rfl))), (rTop_go (rok (toe171 c4 z2.1 z2.2 z6.1 z6.2 z8.1 z8.2 ktoe0 ktoe1)) og9 (toe67 c11 ktoe0) og12 ⟨fun _ => rfl, fun h => absurd h (toe186 c42)⟩)⟩⟩)
          ·
            have c43 : vg9.toInt < (0 : Int32).toInt := kd_leF c; clear c
            refine ft_go mi_k181 1 45 [(5, .int vg9), (0, .ref 116), (1, .int x1), (2, .int x2), (3, .int x3), (4, .int x4)] [.int vg9] i a q r (by rfl) ?_
            exact ft_ret mi_k181 (by rfl) (hP vg9 _ _ _ _ hG ⟨trivial, ⟨(show a 118 = a 118 from rfl), (rTop_bar (rok (toe171 c4 z2.1 z2.2 z6.1 z6.2 z8.1 z8.2 ktoe0 ktoe1)) og9 (toe160 c43 ktoe0))⟩⟩)
        ·
          subst eg7
          have z44 : ¬ (((0 : Int32).toInt ≤ x4.toInt) ∧ (x4.toInt ≤ (1 : Int32).toInt)) := hg7
          refine ft_go mi_k181 2 30 [(0, .ref 116), (1, .int x1), (2, .int x2), (3, .int x3), (4, .int x4)] [.int (-1)] i a q r (by rfl) ?_
          exact ft_ret mi_k181 (by rfl) (hP (-1) _ _ _ _ hG ⟨trivial, ⟨(show a 118 = a 118 from rfl), (Or.inl ⟨(toe187 z44 ktoe0 ktoe1), rfl⟩)⟩⟩)
      ·
        subst eg5
        have fi_7424 : ((0 : Int) ≤ (i 7424).toInt) ∧ ((i 7424).toInt ≤ 8) := hG.I.1 7424
        have z45 : ¬ (((0 : Int) ≤ x3.toInt) ∧ (x3.toInt < (i 7424).toInt)) := hg5
        refine ft_go mi_k181 2 30 [(0, .ref 116), (1, .int x1), (2, .int x2), (3, .int x3), (4, .int x4)] [.int (-1)] i a q r (by rfl) ?_
        exact ft_ret mi_k181 (by rfl) (hP (-1) _ _ _ _ hG ⟨trivial, ⟨(show a 118 = a 118 from rfl), (Or.inl ⟨(toe188 z45), rfl⟩)⟩⟩)
  ·
    subst eg1
    have z46 : ¬ (((0 : Int) ≤ x1.toInt) ∧ (x1.toInt ≤ 5)) := hg1
    refine ft_go mi_k181 2 30 [(0, .ref 116), (1, .int x1), (2, .int x2), (3, .int x3), (4, .int x4)] [.int (-1)] i a q r (by rfl) ?_
    have fi_7424 : ((0 : Int) ≤ (i 7424).toInt) ∧ ((i 7424).toInt ≤ 8) := hG.I.1 7424
    exact ft_ret mi_k181 (by rfl) (hP (-1) _ _ _ _ hG ⟨trivial, ⟨(show a 118 = a 118 from rfl), (Or.inl ⟨(toe189 z46), rfl⟩)⟩⟩)
def yw182_116 : kW := ([], [142], [], [])
set_option maxRecDepth 100000 in
theorem ke182_116 {i : Nat → Int32} {a : Nat → List Int32} {q : Nat → List Int64} {r : Nat → Nat} (hI : kI i a q) (hr : kr r) (x1 : Int32) (hp0 : ((0 : Int) ≤ x1.toInt) ∧ (x1.toInt ≤ 19)) : km 1 182 [.ref 116, .int x1] (ks i a q r) (kVN yw182_116 i a q r (fun i1 a1 q1 r1 => (True) ∧ a1 142 = ((a 142).set x1.toNatClampNeg ((a 142).getD (x1 + 1).toNatClampNeg 0)).set (x1 + 1).toNatClampNeg ((a 142).getD x1.toNatClampNeg 0))) := by
  have hG := kG_self yw182_116 hI hr
  refine km_ofN (q := (mi_h182, mi_c182)) rfl (by decide) (Nat.le_of_ble_eq_true rfl) ?_
  intro P hP
  refine ft_go mi_k182 3 5 [(0, .ref 116), (1, .int x1)] [.int x1, .ref 142] i a q r (by rfl) ?_
  refine ko_iald3 mi_k182.1 (n := 21) (c := 21) (ax := (0, 0, 0, 0, 0)) (mi_k182.2 _ _ (by rfl)) (by rfl) (ksG142 _ _ _ _) (hG.I.2.1 142) rfl (toe9 hp0.1) (toe197 hp0.2) ?_
  have r1 : ((0 : Int) ≤ ((a 142).getD x1.toNatClampNeg 0).toInt) ∧ (((a 142).getD x1.toNatClampNeg 0).toInt ≤ 7) := hG.I.2.2.1 142 (x1.toNatClampNeg)
  have s2 : (x1 + 1).toInt = x1.toInt + (1 : Int32).toInt := kd_add (toe36 hp0.1 ktoe1) (toe198 hp0.2 ktoe1)
  refine ft_go mi_k182 9 19 [(2, .int ((a 142).getD x1.toNatClampNeg 0)), (0, .ref 116), (1, .int x1)] [.int (x1 + 1), .ref 142, .int x1, .ref 142] i a q r (by rfl) ?_
  refine ko_iald3 mi_k182.1 (n := 21) (c := 21) (ax := (0, 0, 0, 0, 0)) (mi_k182.2 _ _ (by rfl)) (by rfl) (ksG142 _ _ _ _) (hG.I.2.1 142) rfl (toe38 hp0.1 s2 ktoe1) (toe199 hp0.2 s2 ktoe1) ?_
  have r3 : ((0 : Int) ≤ ((a 142).getD (x1 + 1).toNatClampNeg 0).toInt) ∧ (((a 142).getD (x1 + 1).toNatClampNeg 0).toInt ≤ 7) := hG.I.2.2.1 142 ((x1 + 1).toNatClampNeg)
  refine ko_iast3 mi_k182.1 (n := 21) (c := 21) (ax := (0, 0, 0, 0, 0)) (mi_k182.2 _ _ (by rfl)) (by rfl) (ksG142 _ _ _ _) (ksA142 _ _ _ _) (hG.I.2.1 142) rfl (toe9 hp0.1) (toe197 hp0.2) ?_
  intro a4 ea4 fa4
  have hJ4 := kG_a3 hG 142 rfl ea4 fa4 ⟨(toe9 r3.1), (toe75 r3.2)⟩
  refine ft_go mi_k182 6 29 [(2, .int ((a 142).getD x1.toNatClampNeg 0)), (0, .ref 116), (1, .int x1)] [.int ((a 142).getD x1.toNatClampNeg 0), .int (x1 + 1), .ref 142] i a4 q r (by rfl) ?_
  refine ko_iast3 mi_k182.1 (n := 21) (c := 21) (ax := (0, 0, 0, 0, 0)) (mi_k182.2 _ _ (by rfl)) (by rfl) (ksG142 _ _ _ _) (ksA142 _ _ _ _) (hJ4.I.2.1 142) rfl (toe38 hp0.1 s2 ktoe1) (toe199 hp0.2 s2 ktoe1) ?_
  intro a5 ea5 fa5
  have hJ5 := kG_a3 hJ4 142 rfl ea5 fa5 ⟨(toe9 r1.1), (toe75 r1.2)⟩
  exact ft_ret mi_k182 (by rfl) (hP  _ _ _ _ hJ5 ⟨trivial, (show a5 142 = ((a 142).set x1.toNatClampNeg ((a 142).getD (x1 + 1).toNatClampNeg 0)).set (x1 + 1).toNatClampNeg ((a 142).getD x1.toNatClampNeg 0) from (by first | rfl | (simp only [ea5, ea4, sMn, sMx]; done) | (simp only [ea5, ea4, sMn, sMx]; rfl)))⟩)
def yzw183_116 : kW := ([7464, 7465, 7466, 7467, 7469], [118, 128, 129, 139, 141, 142, 143, 144, 145], [], [])
def yzw183_116_L60 : kW := ([7464, 7465, 7466, 7467], [118, 128, 129, 139, 141, 142, 143, 144, 145], [], [])
set_option maxRecDepth 100000 in
theorem kz183_116 {i : Nat → Int32} {a : Nat → List Int32} {q : Nat → List Int64} {r : Nat → Nat} (hI : kI i a q) (hr : kr r) (x1 : Int32) (x2 : Int32) (x3 : Int32) (hE_code : kCode i a) : km 15 183 [.ref 116, .int x1, .int x2, .int x3] (ks i a q r) (kVI yzw183_116 i a q r (fun v i1 a1 q1 r1 => (True) ∧ (a1 118 = a 118 ∧ rTop (((0 : Int) ≤ x2.toInt) ∧ (x2.toInt < (i 7424).toInt) ∧ ((0 : Int) ≤ x3.toInt) ∧ (x3.toInt ≤ 1)) i a q x1 v (fun n L => fLt (gKn i a) (a 118) x2 x3 v n L)))) := by
  have hG := kG_self yzw183_116 hI hr
  refine km_ofI (q := (mi_h183, mi_c183)) rfl (by decide) (Nat.le_of_ble_eq_true rfl) ?_
  intro P hP
  refine ft_go mi_k183 1 1 [(0, .ref 116), (1, .int x1), (2, .int x2), (3, .int x3)] [.int x1] i a q r (by rfl) ?_
  refine ko_callPI mi_k183.1 (pc := 1) (ls := [(0, .ref 116), (1, .int x1), (2, .int x2), (3, .int x3)]) (st := [.int x1]) (h := ks i a q r) (i := (.invokestatic 127, 3, 133, 0, 9, 0, 382)) (mi_k183.2 _ _ (by rfl)) (ft_invS mi_pq133 (by rfl)) (cy := mi_c133) mi_pq133 rfl (kc133 hG.I hG.R x1) (by decide) ?_
  intro vg1 hg1
  rcases hg1 with ⟨eg1, hg1⟩ | ⟨eg1, hg1⟩
  ·
    subst eg1
    have z2 : ((0 : Int) ≤ x1.toInt) ∧ (x1.toInt ≤ 5) := hg1
    refine ft_go mi_k183 3 9 [(0, .ref 116), (1, .int x1), (2, .int x2), (3, .int x3)] [.int x2, .ref 116] i a q r (by rfl) ?_
    refine ko_callPI mi_k183.1 (pc := 9) (ls := [(0, .ref 116), (1, .int x1), (2, .int x2), (3, .int x3)]) (st := [.int x2, .ref 116]) (h := ks i a q r) (i := (.invokevirtual 137, 3, 132, 0, 9, 0, 387)) (mi_k183.2 _ _ (by rfl)) (ft_invS mi_pq132 (by rfl)) (cy := mi_c132) mi_pq132 rfl (kc132_116 hG.I hG.R x2) (by decide) ?_
    intro vg3 hg3
    rcases hg3 with ⟨eg3, hg3⟩ | ⟨eg3, hg3⟩
    ·
      subst eg3
      have fi_7424 : ((0 : Int) ≤ (i 7424).toInt) ∧ ((i 7424).toInt ≤ 8) := hG.I.1 7424
      have z4 : ((0 : Int) ≤ x2.toInt) ∧ (x2.toInt < (i 7424).toInt) := hg3
      refine ft_go mi_k183 4 18 [(0, .ref 116), (1, .int x1), (2, .int x2), (3, .int x3)] [.int 1, .int 0, .int x3] i a q r (by rfl) ?_
      refine ko_callPI mi_k183.1 (pc := 18) (ls := [(0, .ref 116), (1, .int x1), (2, .int x2), (3, .int x3)]) (st := [.int 1, .int 0, .int x3]) (h := ks i a q r) (i := (.invokestatic 119, 3, 131, 0, 9, 0, 379)) (mi_k183.2 _ _ (by rfl)) (ft_invS mi_pq131 (by rfl)) (cy := mi_c131) mi_pq131 rfl (kc131 hG.I hG.R x3 0 1) (by decide) ?_
      intro vg5 hg5
      rcases hg5 with ⟨eg5, hg5⟩ | ⟨eg5, hg5⟩
      ·
        subst eg5
        have z6 : ((0 : Int32).toInt ≤ x3.toInt) ∧ (x3.toInt ≤ (1 : Int32).toInt) := hg5
        refine ft_go mi_k183 3 28 [(0, .ref 116), (1, .int x1), (2, .int x2), (3, .int x3)] [.int x1, .ref 116] i a q r (by rfl) ?_
        refine ko_callPI mi_k183.1 (pc := 28) (ls := [(0, .ref 116), (1, .int x1), (2, .int x2), (3, .int x3)]) (st := [.int x1, .ref 116]) (h := ks i a q r) (i := (.invokevirtual 276, 3, 173, 0, 9, 0, 410)) (mi_k183.2 _ _ (by rfl)) (ft_invS mi_pq173 (by rfl)) (cy := mi_c173) mi_pq173 rfl (kg173_116 hG.I hG.R x1 (toe18 z2.1 z2.2)) (by decide) ?_
        intro vg7 hg7
        obtain ⟨hg7, og7⟩ := hg7
        have z8 : vg7.toInt ≤ 0 := hg7
        refine ft_go mi_k183 2 35 [(4, .int vg7), (0, .ref 116), (1, .int x1), (2, .int x2), (3, .int x3)] [.int vg7] i a q r (by rfl) ?_
        refine ft_if mi_k183 (decide (0 ≤ vg7)) 41 38 [(4, .int vg7), (0, .ref 116), (1, .int x1), (2, .int x2), (3, .int x3)] [] (by rfl) (fun c => ?_) (fun c => ?_)
        ·
          have c9 : (0 : Int32).toInt ≤ vg7.toInt := kd_le c; clear c
          refine ft_go mi_k183 2 43 [(4, .int vg7), (0, .ref 116), (1, .int x1), (2, .int x2), (3, .int x3)] [.int x1, .ref 116] i a q r (by rfl) ?_
          refine ko_callN mi_k183.1 (pc := 43) (ls := [(4, .int vg7), (0, .ref 116), (1, .int x1), (2, .int x2), (3, .int x3)]) (st := [.int x1, .ref 116]) (h := ks i a q r) (i := (.invokevirtual 279, 3, 174, 0, 9, 0, 411)) (mi_k183.2 _ _ (by rfl)) (ft_invS mi_pq174 (by rfl)) (cy := mi_c174) mi_pq174 rfl (kg174_116 hG.I hG.R x1 (toe18 z2.1 z2.2)) (by decide) ?_
          intro ig10 ag10 qg10 rg10 kg10 hg10
          have hGg10 := kG_call hG kg10 (by decide +kernel)
          obtain ⟨hg10, og10⟩ := hg10
          have fig10_7469 : ((0 : Int) ≤ (ig10 7469).toInt) ∧ ((ig10 7469).toInt ≤ 21) := hGg10.I.1 7469
          have z11 : (ig10 7469).toInt ≤ 20 := hg10
          have tJ12 : kIs (ag10 142) (lF (ag10 142)) ((ig10 7469).toInt) := fun _ _ => rfl
          refine ft_go mi_k183 4 52 [(5, .int (-2)), (4, .int vg7), (0, .ref 116), (1, .int x1), (2, .int x2), (3, .int x3)] [.int x2, .ref 116] ig10 ag10 qg10 rg10 (by rfl) ?_
          refine ko_callI mi_k183.1 (pc := 52) (ls := [(5, .int (-2)), (4, .int vg7), (0, .ref 116), (1, .int x1), (2, .int x2), (3, .int x3)]) (st := [.int x2, .ref 116]) (h := ks ig10 ag10 qg10 rg10) (i := (.invokevirtual 288, 3, 172, 0, 9, 0, 429)) (mi_k183.2 _ _ (by rfl)) (ft_invS mi_pq172 (by rfl)) (cy := mi_c172) mi_pq172 rfl (kg172_116 hGg10.I hGg10.R x2 (toe99 fi_7424.2 z4.1 z4.2) (kCode_of (i1 := ig10) hE_code (hGg10.fi 7432 rfl) (hGg10.fa 120 rfl) (hGg10.fa 121 rfl) (hGg10.fa 122 rfl) (hGg10.fa 123 rfl))) (by decide) ?_
          intro vg13 ig13 ag13 qg13 rg13 kg13 hg13
          have hGg13 := kG_call hGg10 kg13 (by decide +kernel)
          obtain ⟨hg13, og13⟩ := hg13
          have oP14 := og13.2.1
          rw [(gKn_fr hGg10 (by decide +kernel) : gKn ig10 ag10 = gKn i a)] at oP14
          have pv15 : vg13 = gPur (gKn i a) (a 118) (lF (ag10 142)) ((ig10 7469).toInt).toNat x2 := by
            have e := gPur_of (R := lF (ag10 142)) oP14 (N := a 118) (kg10.fa 118 rfl) rfl (kIs_c tJ12 rfl (Int.le_of_eq toe31)) (toe9 fig10_7469.1)
            rw [(toe31 : (ig10 7469).toInt = (ig10 7469).toInt)] at e
            exact e
          have q16 : ag13 118 = ag10 118 := og13.1
          refine ft_go mi_k183 3 60 [(7, .int 0), (6, .int vg13), (5, .int (-2)), (4, .int vg7), (0, .ref 116), (1, .int x1), (2, .int x2), (3, .int x3)] [] ig13 ag13 qg13 rg13 (by rfl) ?_
          have lp17 : ∀ (nz : Nat) (i17 : Nat → Int32) (a17 : Nat → List Int32) (q17 : Nat → List Int64) (r17 : Nat → Nat) (l7_17 : Int32) (l6_17 : Int32) (l5_17 : Int32), kG yzw183_116_L60 ig13 ag13 qg13 rg13 i17 a17 q17 r17 → (0 : Int) ≤ l7_17.toInt → (l7_17.toInt = 0) ∨ ((l7_17.toInt + 1) ≤ (i17 7469).toInt) → (i17 7469).toInt ≤ 20 → (l6_17, l5_17.toInt) = gBst (fun p => gPur (gKn i a) (a 118) (rSwp (lF (ag10 142)) p) (ig10 7469).toInt.toNat x2) (gPur (gKn i a) (a 118) (lF (ag10 142)) (ig10 7469).toInt.toNat x2) (-2) l7_17.toInt.toNat → kIs (a17 142) (lF (ag10 142)) (ig10 7469).toInt → a17 118 = a 118 → (((i17 7469).toInt - l7_17.toInt)).toNat < nz → ko 15 (mi_h183, mi_c183) P (60, [(7, .int l7_17), (6, .int l6_17), (5, .int l5_17), (4, .int vg7), (0, .ref 116), (1, .int x1), (2, .int x2), (3, .int x3)], [], (0, 0), ks i17 a17 q17 r17) := by
            intro nz
            induction nz with
            | zero =>
              intro _ _ _ _ _ _ _ _ _ _ _ _ _ _ hm
              exact absurd hm (Nat.not_lt_zero _)
            | succ nz ih17 =>
              intro i17 a17 q17 r17 l7_17 l6_17 l5_17 hL17 p17_0 p17_1 p17_2 O17_0 O17_1 O17_2 hm17
              have fi17_7469 : ((0 : Int) ≤ (i17 7469).toInt) ∧ ((i17 7469).toInt ≤ 21) := hL17.I.1 7469
              have fig13_7469 : ((0 : Int) ≤ (ig13 7469).toInt) ∧ ((ig13 7469).toInt ≤ 21) := hGg13.I.1 7469
              have efig13_7469 : (ig13 7469).toInt = (ig10 7469).toInt := kg13.ti 7469 rfl
              have efi17_7469 : (i17 7469).toInt = (ig13 7469).toInt := hL17.ti 7469 rfl
              have s18 : (l7_17 + 1).toInt = l7_17.toInt + (1 : Int32).toInt := kd_add (toe36 p17_0 ktoe1) (toe195 p17_1 p17_2 ktoe1)
              refine ft_go mi_k183 5 68 [(7, .int l7_17), (6, .int l6_17), (5, .int l5_17), (4, .int vg7), (0, .ref 116), (1, .int x1), (2, .int x2), (3, .int x3)] [.int (i17 7469), .int (l7_17 + 1)] i17 a17 q17 r17 (by rfl) ?_
              refine ft_if mi_k183 (decide ((i17 7469) ≤ (l7_17 + 1))) 114 71 [(7, .int l7_17), (6, .int l6_17), (5, .int l5_17), (4, .int vg7), (0, .ref 116), (1, .int x1), (2, .int x2), (3, .int x3)] [] (by rfl) (fun c => ?_) (fun c => ?_)
              ·
                have c19 : (i17 7469).toInt ≤ (l7_17 + 1).toInt := kd_le c; clear c
                have hG20 := kG_call hGg13 hL17 (by decide +kernel)
                refine ft_go mi_k183 1 115 [(7, .int l7_17), (6, .int l6_17), (5, .int l5_17), (4, .int vg7), (0, .ref 116), (1, .int x1), (2, .int x2), (3, .int x3)] [.int x3] i17 a17 q17 r17 (by rfl) ?_
                refine ft_if mi_k183 (x3 != 0) 123 118 [(7, .int l7_17), (6, .int l6_17), (5, .int l5_17), (4, .int vg7), (0, .ref 116), (1, .int x1), (2, .int x2), (3, .int x3)] [] (by rfl) (fun c => ?_) (fun c => ?_)
                ·
                  have c21 : x3.toInt ≠ (0 : Int32).toInt := kd_ne c; clear c
                  refine ft_go mi_k183 1 125 [(7, .int l7_17), (6, .int l6_17), (5, .int l5_17), (4, .int vg7), (0, .ref 116), (1, .int x1), (2, .int x2), (3, .int x3)] [.int l6_17] i17 a17 q17 r17 (by rfl) ?_
                  exact ft_ret mi_k183 (by rfl) (hP l6_17 _ _ _ _ hG20 ⟨trivial, ⟨(show a17 118 = a 118 from (by first | rfl | (simp only [O17_2, sMn, sMx]; done) | (simp only [O17_2, sMn, sMx]; rfl))), (rTop_go (rok (toe66 z2.1 z2.2 z4.1 z4.2 z6.1 z6.2 ktoe0 ktoe1)) og7 (toe67 c9 ktoe0) og10 ⟨fun h => absurd h (toe70 c21 z6.1 ktoe0), fun _ => congrArg Prod.fst (gBst_len O17_0 (kj_nm1 (toe9 p17_0) (toe196 c19 efi17_7469 efig13_7469 p17_0 p17_1 s18 ktoe1)))⟩)⟩⟩)
                ·
                  have c22 : x3.toInt = (0 : Int32).toInt := kd_neF c; clear c
                  refine ft_go mi_k183 2 125 [(7, .int l7_17), (6, .int l6_17), (5, .int l5_17), (4, .int vg7), (0, .ref 116), (1, .int x1), (2, .int x2), (3, .int x3)] [.int l5_17] i17 a17 q17 r17 (by rfl) ?_
                  exact ft_ret mi_k183 (by rfl) (hP l5_17 _ _ _ _ hG20 ⟨trivial, ⟨(show a17 118 = a 118 from (by first | rfl | (simp only [O17_2, sMn, sMx]; done) | (simp only [O17_2, sMn, sMx]; rfl))), (rTop_go (rok (toe66 z2.1 z2.2 z4.1 z4.2 z6.1 z6.2 ktoe0 ktoe1)) og7 (toe67 c9 ktoe0) og10 ⟨fun _ => congrArg Prod.snd (gBst_len O17_0 (kj_nm1 (toe9 p17_0) (toe196 c19 efi17_7469 efig13_7469 p17_0 p17_1 s18 ktoe1))), fun h => absurd h (toe73 c22 z6.1 ktoe0)⟩)⟩⟩)
              ·
                have c23 : (l7_17 + 1).toInt < (i17 7469).toInt := kd_leF c; clear c
                refine ft_go mi_k183 2 74 [(7, .int l7_17), (6, .int l6_17), (5, .int l5_17), (4, .int vg7), (0, .ref 116), (1, .int x1), (2, .int x2), (3, .int x3)] [.int l7_17, .ref 116] i17 a17 q17 r17 (by rfl) ?_
                refine ko_callN mi_k183.1 (pc := 74) (ls := [(7, .int l7_17), (6, .int l6_17), (5, .int l5_17), (4, .int vg7), (0, .ref 116), (1, .int x1), (2, .int x2), (3, .int x3)]) (st := [.int l7_17, .ref 116]) (h := ks i17 a17 q17 r17) (i := (.invokevirtual 294, 3, 182, 0, 9, 0, 433)) (mi_k183.2 _ _ (by rfl)) (ft_invS mi_pq182 (by rfl)) (cy := mi_c182) mi_pq182 rfl (ke182_116 hL17.I hL17.R l7_17 (toe200 c23 p17_0 p17_2 s18 ktoe1)) (by decide) ?_
                intro ig24 ag24 qg24 rg24 kg24 hg24
                have hGg24 := kG_call hL17 kg24 (by decide +kernel)
                obtain ⟨hg24, og24⟩ := hg24
                have tJ25 : kIs (ag24 142) (rSwp (lF (ag10 142)) l7_17.toInt.toNat) ((ig10 7469).toInt) := (kIs_sw (p := l7_17) (p1 := (l7_17 + 1)) (m := 21) O17_1 (hL17.I.2.1 142) (toe9 p17_0) (toe47 s18 ktoe1) (toe201 c23 efi17_7469 efig13_7469) (toe202 fig10_7469.2) og24)
                have q26 : ag24 142 = ((a17 142).set l7_17.toNatClampNeg ((a17 142).getD (l7_17 + 1).toNatClampNeg 0)).set (l7_17 + 1).toNatClampNeg ((a17 142).getD l7_17.toNatClampNeg 0) := og24
                refine ft_go mi_k183 2 79 [(7, .int l7_17), (6, .int l6_17), (5, .int l5_17), (4, .int vg7), (0, .ref 116), (1, .int x1), (2, .int x2), (3, .int x3)] [.int x2, .ref 116] ig24 ag24 qg24 rg24 (by rfl) ?_
                have hG27 := kG_call hGg13 hGg24 (by decide +kernel)
                refine ko_callI mi_k183.1 (pc := 79) (ls := [(7, .int l7_17), (6, .int l6_17), (5, .int l5_17), (4, .int vg7), (0, .ref 116), (1, .int x1), (2, .int x2), (3, .int x3)]) (st := [.int x2, .ref 116]) (h := ks ig24 ag24 qg24 rg24) (i := (.invokevirtual 288, 3, 172, 0, 9, 0, 429)) (mi_k183.2 _ _ (by rfl)) (ft_invS mi_pq172 (by rfl)) (cy := mi_c172) mi_pq172 rfl (kg172_116 hGg24.I hGg24.R x2 (toe99 fi_7424.2 z4.1 z4.2) (kCode_of (i1 := ig24) hE_code (hG27.fi 7432 rfl) (hG27.fa 120 rfl) (hG27.fa 121 rfl) (hG27.fa 122 rfl) (hG27.fa 123 rfl))) (by decide) ?_
                intro vg28 ig28 ag28 qg28 rg28 kg28 hg28
                have hGg28 := kG_call hGg24 kg28 (by decide +kernel)
                obtain ⟨hg28, og28⟩ := hg28
                have oP29 := og28.2.1
                have hG30 := kG_call hGg13 hGg24 (by decide +kernel)
                rw [(gKn_fr hG30 (by decide +kernel) : gKn ig24 ag24 = gKn i a)] at oP29
                have fig24_7469 : ((0 : Int) ≤ (ig24 7469).toInt) ∧ ((ig24 7469).toInt ≤ 21) := hGg24.I.1 7469
                have efig24_7469 : (ig24 7469).toInt = (i17 7469).toInt := kg24.ti 7469 rfl
                have pv31 : vg28 = gPur (gKn i a) (a 118) (rSwp (lF (ag10 142)) l7_17.toInt.toNat) ((ig10 7469).toInt).toNat x2 := by
                  have e := gPur_of (R := rSwp (lF (ag10 142)) l7_17.toInt.toNat) oP29 (N := a 118) (show ag24 118 = a 118 from (by first | rfl | (simp only [kg24.fa 118 rfl, O17_2, sMn, sMx]; done) | (simp only [kg24.fa 118 rfl, O17_2, sMn, sMx]; rfl))) rfl (kIs_c tJ25 rfl (Int.le_of_eq (toe203 efi17_7469 efig13_7469 efig24_7469))) (toe9 fig24_7469.1)
                  rw [((toe203 efi17_7469 efig13_7469 efig24_7469) : (ig24 7469).toInt = (ig10 7469).toInt)] at e
                  exact e
                have q32 : ag28 118 = ag24 118 := og28.1
                refine ft_go mi_k183 3 87 [(8, .int vg28), (7, .int l7_17), (6, .int l6_17), (5, .int l5_17), (4, .int vg7), (0, .ref 116), (1, .int x1), (2, .int x2), (3, .int x3)] [.int l7_17, .ref 116] ig28 ag28 qg28 rg28 (by rfl) ?_
                refine ko_callN mi_k183.1 (pc := 87) (ls := [(8, .int vg28), (7, .int l7_17), (6, .int l6_17), (5, .int l5_17), (4, .int vg7), (0, .ref 116), (1, .int x1), (2, .int x2), (3, .int x3)]) (st := [.int l7_17, .ref 116]) (h := ks ig28 ag28 qg28 rg28) (i := (.invokevirtual 294, 3, 182, 0, 9, 0, 433)) (mi_k183.2 _ _ (by rfl)) (ft_invS mi_pq182 (by rfl)) (cy := mi_c182) mi_pq182 rfl (ke182_116 hGg28.I hGg28.R l7_17 (toe200 c23 p17_0 p17_2 s18 ktoe1)) (by decide) ?_
                intro ig33 ag33 qg33 rg33 kg33 hg33
                have hGg33 := kG_call hGg28 kg33 (by decide +kernel)
                obtain ⟨hg33, og33⟩ := hg33
                have tJ34 : kIs (ag33 142) (rSwp (rSwp (lF (ag10 142)) l7_17.toInt.toNat) l7_17.toInt.toNat) ((ig10 7469).toInt) := (kIs_sw (p := l7_17) (p1 := (l7_17 + 1)) (m := 21) (kIs_c tJ25 (kg28.fa 142 rfl) (Int.le_refl _)) (hGg28.I.2.1 142) (toe9 p17_0) (toe47 s18 ktoe1) (toe201 c23 efi17_7469 efig13_7469) (toe202 fig10_7469.2) og33)
                have q35 : ag33 142 = ((ag28 142).set l7_17.toNatClampNeg ((ag28 142).getD (l7_17 + 1).toNatClampNeg 0)).set (l7_17 + 1).toNatClampNeg ((ag28 142).getD l7_17.toNatClampNeg 0) := og33
                refine ft_go mi_k183 2 94 [(8, .int vg28), (7, .int l7_17), (6, .int l6_17), (5, .int l5_17), (4, .int vg7), (0, .ref 116), (1, .int x1), (2, .int x2), (3, .int x3)] [.int l6_17, .int vg28] ig33 ag33 qg33 rg33 (by rfl) ?_
                refine ft_if mi_k183 (decide (l6_17 < vg28)) 100 97 [(8, .int vg28), (7, .int l7_17), (6, .int l6_17), (5, .int l5_17), (4, .int vg7), (0, .ref 116), (1, .int x1), (2, .int x2), (3, .int x3)] [] (by rfl) (fun c => ?_) (fun c => ?_)
                ·
                  have c36 : l6_17.toInt < vg28.toInt := kd_lt c; clear c
                  refine ft_go mi_k183 6 60 [(7, .int (l7_17 + 1)), (5, .int l7_17), (6, .int vg28), (8, .int vg28), (4, .int vg7), (0, .ref 116), (1, .int x1), (2, .int x2), (3, .int x3)] [] ig33 ag33 qg33 rg33 (by rfl) ?_
                  refine ko_perm [(7, .int (l7_17 + 1)), (6, .int vg28), (5, .int l7_17), (4, .int vg7), (0, .ref 116), (1, .int x1), (2, .int x2), (3, .int x3)] (List.forall_mem_cons.mpr ⟨(List.Mem.head _), (List.forall_mem_cons.mpr ⟨(List.Mem.tail _ (List.Mem.tail _ (List.Mem.head _))), (List.forall_mem_cons.mpr ⟨(List.Mem.tail _ (List.Mem.head _)), (List.forall_mem_cons.mpr ⟨(List.Mem.tail _ (List.Mem.tail _ (List.Mem.tail _ (List.Mem.tail _ (List.Mem.head _))))), (List.forall_mem_cons.mpr ⟨(List.Mem.tail _ (List.Mem.tail _ (List.Mem.tail _ (List.Mem.tail _ (List.Mem.tail _ (List.Mem.head _)))))), (List.forall_mem_cons.mpr ⟨(List.Mem.tail _ (List.Mem.tail _ (List.Mem.tail _ (List.Mem.tail _ (List.Mem.tail _ (List.Mem.tail _ (List.Mem.head _))))))), (List.forall_mem_cons.mpr ⟨(List.Mem.tail _ (List.Mem.tail _ (List.Mem.tail _ (List.Mem.tail _ (List.Mem.tail _ (List.Mem.tail _ (List.Mem.tail _ (List.Mem.head _)))))))), (List.forall_mem_cons.mpr ⟨(List.Mem.tail _ (List.Mem.tail _ (List.Mem.tail _ (List.Mem.tail _ (List.Mem.tail _ (List.Mem.tail _ (List.Mem.tail _ (List.Mem.tail _ (List.Mem.head _))))))))), (fun _ h => absurd h List.not_mem_nil)⟩)⟩)⟩)⟩)⟩)⟩)⟩)⟩) ?_
                  have fig33_7469 : ((0 : Int) ≤ (ig33 7469).toInt) ∧ ((ig33 7469).toInt ≤ 21) := hGg33.I.1 7469
                  have fig28_7469 : ((0 : Int) ≤ (ig28 7469).toInt) ∧ ((ig28 7469).toInt ≤ 21) := hGg28.I.1 7469
                  have efig28_7469 : (ig28 7469).toInt = (ig24 7469).toInt := kg28.ti 7469 rfl
                  have efig33_7469 : (ig33 7469).toInt = (ig28 7469).toInt := kg33.ti 7469 rfl
                  exact ih17 _ _ _ _ _ _ _ hGg33 (toe38 p17_0 s18 ktoe1) (toe204 c23 efig24_7469 efig28_7469 efig33_7469) (toe205 efig24_7469 efig28_7469 efig33_7469 p17_2) (kT2m (gBst_up (w1 := l7_17) O17_0 pv31 (toe154 c36) (toe9 p17_0) (toe47 s18 ktoe1) toe31) (kj_v toe31) rfl) (kIs_R tJ34 (rSwp_2 _).symm) (by first | rfl | (simp only [kg33.fa 118 rfl, q32, kg24.fa 118 rfl, O17_2, sMn, sMx]; done) | (simp only [kg33.fa 118 rfl, q32, kg24.fa 118 rfl, O17_2, sMn, sMx]; rfl)) (kj_meas (toe185 efig24_7469 efig28_7469 efig33_7469 s18 ktoe1) (toe206 c23 s18 ktoe1) hm17)
                ·
                  have c37 : vg28.toInt ≤ l6_17.toInt := kd_ltF c; clear c
                  refine ft_go mi_k183 3 60 [(7, .int (l7_17 + 1)), (8, .int vg28), (6, .int l6_17), (5, .int l5_17), (4, .int vg7), (0, .ref 116), (1, .int x1), (2, .int x2), (3, .int x3)] [] ig33 ag33 qg33 rg33 (by rfl) ?_
                  refine ko_perm [(7, .int (l7_17 + 1)), (6, .int l6_17), (5, .int l5_17), (4, .int vg7), (0, .ref 116), (1, .int x1), (2, .int x2), (3, .int x3)] (List.forall_mem_cons.mpr ⟨(List.Mem.head _), (List.forall_mem_cons.mpr ⟨(List.Mem.tail _ (List.Mem.tail _ (List.Mem.head _))), (List.forall_mem_cons.mpr ⟨(List.Mem.tail _ (List.Mem.tail _ (List.Mem.tail _ (List.Mem.head _)))), (List.forall_mem_cons.mpr ⟨(List.Mem.tail _ (List.Mem.tail _ (List.Mem.tail _ (List.Mem.tail _ (List.Mem.head _))))), (List.forall_mem_cons.mpr ⟨(List.Mem.tail _ (List.Mem.tail _ (List.Mem.tail _ (List.Mem.tail _ (List.Mem.tail _ (List.Mem.head _)))))), (List.forall_mem_cons.mpr ⟨(List.Mem.tail _ (List.Mem.tail _ (List.Mem.tail _ (List.Mem.tail _ (List.Mem.tail _ (List.Mem.tail _ (List.Mem.head _))))))), (List.forall_mem_cons.mpr ⟨(List.Mem.tail _ (List.Mem.tail _ (List.Mem.tail _ (List.Mem.tail _ (List.Mem.tail _ (List.Mem.tail _ (List.Mem.tail _ (List.Mem.head _)))))))), (List.forall_mem_cons.mpr ⟨(List.Mem.tail _ (List.Mem.tail _ (List.Mem.tail _ (List.Mem.tail _ (List.Mem.tail _ (List.Mem.tail _ (List.Mem.tail _ (List.Mem.tail _ (List.Mem.head _))))))))), (fun _ h => absurd h List.not_mem_nil)⟩)⟩)⟩)⟩)⟩)⟩)⟩)⟩) ?_
                  have fig33_7469 : ((0 : Int) ≤ (ig33 7469).toInt) ∧ ((ig33 7469).toInt ≤ 21) := hGg33.I.1 7469
                  have fig28_7469 : ((0 : Int) ≤ (ig28 7469).toInt) ∧ ((ig28 7469).toInt ≤ 21) := hGg28.I.1 7469
                  have efig28_7469 : (ig28 7469).toInt = (ig24 7469).toInt := kg28.ti 7469 rfl
                  have efig33_7469 : (ig33 7469).toInt = (ig28 7469).toInt := kg33.ti 7469 rfl
                  exact ih17 _ _ _ _ _ _ _ hGg33 (toe38 p17_0 s18 ktoe1) (toe204 c23 efig24_7469 efig28_7469 efig33_7469) (toe205 efig24_7469 efig28_7469 efig33_7469 p17_2) (kT2m (gBst_no O17_0 pv31 (toe57 c37) (toe9 p17_0) (toe47 s18 ktoe1)) (kj_v toe31) toe31) (kIs_R tJ34 (rSwp_2 _).symm) (by first | rfl | (simp only [kg33.fa 118 rfl, q32, kg24.fa 118 rfl, O17_2, sMn, sMx]; done) | (simp only [kg33.fa 118 rfl, q32, kg24.fa 118 rfl, O17_2, sMn, sMx]; rfl)) (kj_meas (toe185 efig24_7469 efig28_7469 efig33_7469 s18 ktoe1) (toe206 c23 s18 ktoe1) hm17)
          have fig13_7469 : ((0 : Int) ≤ (ig13 7469).toInt) ∧ ((ig13 7469).toInt ≤ 21) := hGg13.I.1 7469
          have efig13_7469 : (ig13 7469).toInt = (ig10 7469).toInt := kg13.ti 7469 rfl
          exact lp17 _ _ _ _ _ _ _ _ (kG_self _ hGg13.I hGg13.R) (toe19 ktoe0) (toe207 ktoe0) (toe208 efig13_7469 z11) (kT2m (gBst_0 ktoe0) pv15 ktoem2) (kIs_c tJ12 (kg13.fa 142 rfl) (Int.le_refl _)) (by first | rfl | (simp only [q16, kg10.fa 118 rfl, sMn, sMx]; done) | (simp only [q16, kg10.fa 118 rfl, sMn, sMx]; rfl)) (Nat.lt_succ_self _)
        ·
          have c38 : vg7.toInt < (0 : Int32).toInt := kd_leF c; clear c
          refine ft_go mi_k183 1 40 [(4, .int vg7), (0, .ref 116), (1, .int x1), (2, .int x2), (3, .int x3)] [.int vg7] i a q r (by rfl) ?_
          exact ft_ret mi_k183 (by rfl) (hP vg7 _ _ _ _ hG ⟨trivial, ⟨(show a 118 = a 118 from rfl), (rTop_bar (rok (toe66 z2.1 z2.2 z4.1 z4.2 z6.1 z6.2 ktoe0 ktoe1)) og7 (toe160 c38 ktoe0))⟩⟩)
      ·
        subst eg5
        have z39 : ¬ (((0 : Int32).toInt ≤ x3.toInt) ∧ (x3.toInt ≤ (1 : Int32).toInt)) := hg5
        refine ft_go mi_k183 2 25 [(0, .ref 116), (1, .int x1), (2, .int x2), (3, .int x3)] [.int (-1)] i a q r (by rfl) ?_
        exact ft_ret mi_k183 (by rfl) (hP (-1) _ _ _ _ hG ⟨trivial, ⟨(show a 118 = a 118 from rfl), (Or.inl ⟨(toe161 z39 ktoe0 ktoe1), rfl⟩)⟩⟩)
    ·
      subst eg3
      have fi_7424 : ((0 : Int) ≤ (i 7424).toInt) ∧ ((i 7424).toInt ≤ 8) := hG.I.1 7424
      have z40 : ¬ (((0 : Int) ≤ x2.toInt) ∧ (x2.toInt < (i 7424).toInt)) := hg3
      refine ft_go mi_k183 2 25 [(0, .ref 116), (1, .int x1), (2, .int x2), (3, .int x3)] [.int (-1)] i a q r (by rfl) ?_
      exact ft_ret mi_k183 (by rfl) (hP (-1) _ _ _ _ hG ⟨trivial, ⟨(show a 118 = a 118 from rfl), (Or.inl ⟨(toe162 z40), rfl⟩)⟩⟩)
  ·
    subst eg1
    have z41 : ¬ (((0 : Int) ≤ x1.toInt) ∧ (x1.toInt ≤ 5)) := hg1
    refine ft_go mi_k183 2 25 [(0, .ref 116), (1, .int x1), (2, .int x2), (3, .int x3)] [.int (-1)] i a q r (by rfl) ?_
    have fi_7424 : ((0 : Int) ≤ (i 7424).toInt) ∧ ((i 7424).toInt ≤ 8) := hG.I.1 7424
    exact ft_ret mi_k183 (by rfl) (hP (-1) _ _ _ _ hG ⟨trivial, ⟨(show a 118 = a 118 from rfl), (Or.inl ⟨(toe163 z41), rfl⟩)⟩⟩)
