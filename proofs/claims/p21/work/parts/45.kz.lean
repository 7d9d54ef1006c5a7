section
theorem ky2 : (2 : Int32).toInt = 2 := by decide
theorem oy107 {a0 : Int} (h0 : a0 = 0) (h1 : (0 : Int) ≤ a0) : a0 = 0 := oz1337 h0 h1
theorem oy108 {a0 a1 : Int} (h0 : a0 = a1) (h1 : (0 : Int) ≤ a0) (h2 : a1 = 0) : a0 = 0 ∨ a0 = 0 := by omega
theorem oy109 {a0 a1 : Int} (h0 : a0 ≠ a1) (h1 : (0 : Int) ≤ a0) (h2 : a1 = 0) : ¬ (a0 = 0 ∨ a0 = 0) := by omega
theorem oy110 {a0 a1 a2 : Int} (h0 : a0 ≠ a1) (h1 : a0 ≤ 2) (h2 : a1 = 2) : ¬ (a0 = 2 ∧ a0 = 2 ∧ a2 = a2) := by omega
theorem oy111 {a0 a1 : Int} (h0 : a0 = a1) (h1 : a0 ≠ a1) (h2 : a0 ≤ 2) (h3 : a1 = 2) : False := oz1271 h0 h1 h2 h3
theorem oy119 {a0 a1 a2 : Int} (h0 : a0 ≤ 60) (h1 : (a1 + a2) ≤ a0) : a1 + a2 ≤ 60 := oz1278 h0 h1
theorem oy120 {a0 a1 a2 : Int} (h0 : a0 = a1) (h1 : a0 ≤ 2) (h2 : a1 = 2) : a0 = 2 ∧ a0 = 2 ∧ a2 = a2 := by omega
theorem oy121 {a0 a1 a2 a3 : Int} (h0 : (0 : Int) ≤ a0) (h1 : (0 : Int) ≤ a1) (h2 : (a1 + a0) ≤ a2) (h3 : (0 : Int) ≤ a3) (h4 : (a3 + a0) ≤ a2) : 0 ≤ a1 ∧ 0 ≤ a3 ∧ 0 ≤ a0 ∧ a1 + a0 ≤ a2 ∧ a3 + a0 ≤ a2 := by omega
theorem oy122 {a0 a1 a2 a3 : Int} (h0 : (0 : Int) ≤ a0) (h1 : a0 ≤ a1) (h2 : ¬ (((0 : Int) ≤ a0) ∧ (a0 ≤ a1) ∧ ((0 : Int) ≤ a2) ∧ ((a2 + a0) ≤ a1))) : ¬ (0 ≤ a3 ∧ 0 ≤ a2 ∧ 0 ≤ a0 ∧ a3 + a0 ≤ a1 ∧ a2 + a0 ≤ a1) := by omega
theorem oy123 {a0 a1 a2 a3 : Int} (h0 : ¬ (((0 : Int) ≤ a0) ∧ (a0 ≤ a1) ∧ ((0 : Int) ≤ a2) ∧ ((a2 + a0) ≤ a1))) : ¬ (0 ≤ a2 ∧ 0 ≤ a3 ∧ 0 ≤ a0 ∧ a2 + a0 ≤ a1 ∧ a3 + a0 ≤ a1) := by omega
theorem oy124 {a0 : Int} (h0 : a0 ≠ a0) : False := oz1279 h0
theorem oy125 {a0 a1 : Int} (h0 : a0 = a1) (h1 : a0 ≠ a1) (h2 : (0 : Int) ≤ a0) (h3 : a1 = 0) : False := oz1280 h0 h1 h2 h3
theorem oy126 {a0 : Int} (h0 : a0 = 1) : a0 = 1 := oz1381 h0
theorem oy127 {a0 a1 a2 : Int} (h0 : a0 = a1) (h1 : (0 : Int) ≤ a0) (h2 : a1 = 0) : a0 = 0 ∨ a2 = 0 := by omega
theorem oy128 {a0 a1 : Int} (h0 : a0 = 1) (h1 : (0 : Int) ≤ a1) (h2 : a1 ≤ 5) (h3 : a0 ≤ 5) : 0 ≤ a1 ∧ a1 ≤ 5 ∧ 0 ≤ a0 ∧ a0 ≤ 5 := by omega
theorem oy129 {a0 a1 a2 : Int} (h0 : a0 ≠ a1) (h1 : a2 ≠ a1) (h2 : (0 : Int) ≤ a0) (h3 : (0 : Int) ≤ a2) (h4 : a1 = 0) : ¬ (a0 = 0 ∨ a2 = 0) := by omega
theorem oy130 {a0 a1 a2 a3 a4 : Int} (h0 : a0 ≠ a1) (h1 : a0 ≤ 2) (h2 : a1 = 2) : ¬ (a0 = 2 ∧ a2 = 2 ∧ a3 = a4) := by omega
theorem oy131 {a0 a1 a2 a3 : Int} (h0 : a0 ≠ a1) (h1 : a2 = a3) (h2 : (0 : Int) ≤ a0) (h3 : a1 = 0) (h4 : a3 = 2) : ¬ (a2 = 0 ∨ a0 = 0) := by omega
theorem oy132 {a0 a1 a2 a3 a4 : Int} (h0 : a0 ≠ a1) (h1 : a0 ≤ 2) (h2 : a1 = 2) : ¬ (a2 = 2 ∧ a0 = 2 ∧ a3 = a4) := by omega
theorem oy133 {a0 a1 a2 a3 a4 : Int} (h0 : a0 = a1) (h1 : a2 = a1) (h2 : a3 = a4) (h3 : a0 ≤ 2) (h4 : a2 ≤ 2) (h5 : a1 = 2) : a0 = 2 ∧ a2 = 2 ∧ a3 = a4 := by omega
theorem oy134 {a0 a1 a2 a3 a4 : Int} (h0 : (0 : Int) ≤ a0) (h1 : (0 : Int) ≤ a1) (h2 : (a1 + a0) ≤ a2) (h3 : (0 : Int) ≤ a3) (h4 : (a3 + a0) ≤ a4) : 0 ≤ a1 ∧ 0 ≤ a3 ∧ 0 ≤ a0 ∧ a1 + a0 ≤ a2 ∧ a3 + a0 ≤ a4 := by omega
theorem oy135 {a0 a1 a2 a3 a4 : Int} (h0 : (0 : Int) ≤ a0) (h1 : ¬ (((0 : Int) ≤ a0) ∧ (a0 ≤ a1) ∧ ((0 : Int) ≤ a2) ∧ ((a2 + a0) ≤ a1))) : ¬ (0 ≤ a3 ∧ 0 ≤ a2 ∧ 0 ≤ a0 ∧ a3 + a0 ≤ a4 ∧ a2 + a0 ≤ a1) := by omega
theorem oy136 {a0 a1 a2 a3 a4 : Int} (h0 : ¬ (((0 : Int) ≤ a0) ∧ (a0 ≤ a1) ∧ ((0 : Int) ≤ a2) ∧ ((a2 + a0) ≤ a1))) : ¬ (0 ≤ a2 ∧ 0 ≤ a3 ∧ 0 ≤ a0 ∧ a2 + a0 ≤ a1 ∧ a3 + a0 ≤ a4) := by omega
theorem oy137 {a0 a1 a2 : Int} (h0 : a0 = a1) (h1 : a2 = a1) (h2 : a1 = 2) : ¬ (a0 = 0 ∨ a2 = 0) := by omega
theorem oy138 {a0 a1 a2 a3 : Int} (h0 : a0 ≠ a1) : ¬ (a2 = 2 ∧ a3 = 2 ∧ a0 = a1) := by omega
theorem oy139 {a0 a1 a2 : Int} (h0 : a0 = a1) (h1 : (0 : Int) ≤ a0) (h2 : a1 = 0) : a2 = 0 ∨ a0 = 0 := by omega
theorem oy140 {a0 : Int} (h0 : a0 = 2) : a0 = 2 := oz1411 h0
theorem oy141 {a0 a1 : Int} (h0 : a0 = 2) (h1 : (0 : Int) ≤ a1) (h2 : a1 ≤ 5) (h3 : a0 ≤ 5) : 0 ≤ a1 ∧ a1 ≤ 5 ∧ 0 ≤ a0 ∧ a0 ≤ 5 := by omega
theorem oy142 {a0 : Int} (h0 : a0 = 3) : a0 = 3 := oz1421 h0
theorem oy143 {a0 a1 : Int} (h0 : a0 = 3) (h1 : (0 : Int) ≤ a1) (h2 : a1 ≤ 5) (h3 : a0 ≤ 5) : 0 ≤ a1 ∧ a1 ≤ 5 ∧ 0 ≤ a0 ∧ a0 ≤ 5 := by omega
theorem oy144 {a0 : Int} (h0 : a0 = 4) : a0 = 4 := oz1446 h0
theorem oy145 {a0 a1 : Int} (h0 : a0 = 4) (h1 : (0 : Int) ≤ a1) (h2 : a1 ≤ 5) (h3 : a0 ≤ 5) : 0 ≤ a1 ∧ a1 ≤ 5 ∧ 0 ≤ a0 ∧ a0 ≤ 5 := by omega
theorem oy146 {a0 : Int} (h0 : a0 = 5) (h1 : a0 ≤ 5) : a0 = 5 := oz1593 h0 h1
theorem oy147 {a0 a1 : Int} (h0 : a0 = 5) (h1 : (0 : Int) ≤ a1) (h2 : a1 ≤ 5) (h3 : a0 ≤ 5) : 0 ≤ a1 ∧ a1 ≤ 5 ∧ 0 ≤ a0 ∧ a0 ≤ 5 := by omega
theorem oy148 {a0 a1 a2 a3 : Int} (h0 : a0 = a1) (h1 : a2 ≠ a3) (h2 : (0 : Int) ≤ a2) (h3 : a1 = 2) (h4 : a3 = 0) : ¬ (a0 = 0 ∨ a2 = 0) := by omega
theorem oy149 {a0 : Int} (h0 : ¬ (a0 = 1)) (h1 : ¬ (a0 = 2)) (h2 : ¬ (a0 = 0)) (h3 : ¬ (a0 = 3)) (h4 : ¬ (a0 = 4)) (h5 : ¬ (a0 = 5)) (h6 : (0 : Int) ≤ a0) (h7 : a0 ≤ 5) : False := oz1008 h0 h1 h2 h3 h4 h5 h6 h7
theorem oy150 {a0 a1 : Int} (h0 : a0 = 1) (h1 : a0 ≤ 5) (h2 : (0 : Int) ≤ a1) (h3 : a1 ≤ 5) : 0 ≤ a0 ∧ a0 ≤ 5 ∧ 0 ≤ a1 ∧ a1 ≤ 5 := by omega
theorem oy151 {a0 a1 a2 : Int} (h0 : a0 ≠ a1) (h1 : a2 ≠ a1) (h2 : (0 : Int) ≤ a2) (h3 : (0 : Int) ≤ a0) (h4 : a1 = 0) : ¬ (a0 = 0 ∨ a2 = 0) := by omega
theorem oy152 {a0 a1 a2 a3 a4 : Int} (h0 : a0 = a1) (h1 : a2 = a1) (h2 : a3 = a4) (h3 : a2 ≤ 2) (h4 : a0 ≤ 2) (h5 : a1 = 2) : a0 = 2 ∧ a2 = 2 ∧ a3 = a4 := by omega
theorem oy153 {a0 a1 : Int} (h0 : a0 = 1) (h1 : a1 = 1) (h2 : a0 ≤ 5) (h3 : a1 ≤ 5) : 0 ≤ a0 ∧ a0 ≤ 5 ∧ 0 ≤ a1 ∧ a1 ≤ 5 := by omega
theorem oy154 {a0 a1 : Int} (h0 : a0 ≠ a1) (h1 : a0 = a1) (h2 : (0 : Int) ≤ a0) (h3 : a1 = 0) : False := oz1281 h0 h1 h2 h3
theorem oy155 {a0 a1 : Int} (h0 : a0 = 1) (h1 : a1 = 2) (h2 : a0 ≤ 5) (h3 : a1 ≤ 5) : 0 ≤ a0 ∧ a0 ≤ 5 ∧ 0 ≤ a1 ∧ a1 ≤ 5 := by omega
theorem oy156 {a0 a1 : Int} (h0 : a0 = 1) (h1 : a1 = 3) (h2 : a0 ≤ 5) (h3 : a1 ≤ 5) : 0 ≤ a0 ∧ a0 ≤ 5 ∧ 0 ≤ a1 ∧ a1 ≤ 5 := by omega
theorem oy157 {a0 a1 : Int} (h0 : a0 = 1) (h1 : a1 = 4) (h2 : a0 ≤ 5) (h3 : a1 ≤ 5) : 0 ≤ a0 ∧ a0 ≤ 5 ∧ 0 ≤ a1 ∧ a1 ≤ 5 := by omega
theorem oy158 {a0 a1 : Int} (h0 : a0 = 1) (h1 : a1 = 5) (h2 : a0 ≤ 5) (h3 : a1 ≤ 5) : 0 ≤ a0 ∧ a0 ≤ 5 ∧ 0 ≤ a1 ∧ a1 ≤ 5 := by omega
theorem oy159 {a0 : Int} (h0 : ¬ (a0 = 0)) (h1 : ¬ (a0 = 1)) (h2 : ¬ (a0 = 2)) (h3 : ¬ (a0 = 3)) (h4 : ¬ (a0 = 4)) (h5 : ¬ (a0 = 5)) (h6 : (0 : Int) ≤ a0) (h7 : a0 ≤ 5) : False := oz1245 h0 h1 h2 h3 h4 h5 h6 h7
theorem oy160 {a0 a1 : Int} (h0 : a0 = 2) (h1 : a0 ≤ 5) (h2 : (0 : Int) ≤ a1) (h3 : a1 ≤ 5) : 0 ≤ a0 ∧ a0 ≤ 5 ∧ 0 ≤ a1 ∧ a1 ≤ 5 := by omega
theorem oy161 {a0 a1 : Int} (h0 : a0 = 2) (h1 : a1 = 1) (h2 : a0 ≤ 5) (h3 : a1 ≤ 5) : 0 ≤ a0 ∧ a0 ≤ 5 ∧ 0 ≤ a1 ∧ a1 ≤ 5 := by omega
theorem oy162 {a0 a1 : Int} (h0 : a0 = 2) (h1 : a1 = 2) (h2 : a0 ≤ 5) (h3 : a1 ≤ 5) : 0 ≤ a0 ∧ a0 ≤ 5 ∧ 0 ≤ a1 ∧ a1 ≤ 5 := by omega
theorem oy163 {a0 a1 : Int} (h0 : a0 = 2) (h1 : a1 = 3) (h2 : a0 ≤ 5) (h3 : a1 ≤ 5) : 0 ≤ a0 ∧ a0 ≤ 5 ∧ 0 ≤ a1 ∧ a1 ≤ 5 := by omega
theorem oy164 {a0 a1 : Int} (h0 : a0 = 2) (h1 : a1 = 4) (h2 : a0 ≤ 5) (h3 : a1 ≤ 5) : 0 ≤ a0 ∧ a0 ≤ 5 ∧ 0 ≤ a1 ∧ a1 ≤ 5 := by omega
theorem oy165 {a0 a1 : Int} (h0 : a0 = 2) (h1 : a1 = 5) (h2 : a0 ≤ 5) (h3 : a1 ≤ 5) : 0 ≤ a0 ∧ a0 ≤ 5 ∧ 0 ≤ a1 ∧ a1 ≤ 5 := by omega
theorem oy166 {a0 a1 : Int} (h0 : a0 = 3) (h1 : a0 ≤ 5) (h2 : (0 : Int) ≤ a1) (h3 : a1 ≤ 5) : 0 ≤ a0 ∧ a0 ≤ 5 ∧ 0 ≤ a1 ∧ a1 ≤ 5 := by omega
theorem oy167 {a0 a1 : Int} (h0 : a0 = 3) (h1 : a1 = 1) (h2 : a0 ≤ 5) (h3 : a1 ≤ 5) : 0 ≤ a0 ∧ a0 ≤ 5 ∧ 0 ≤ a1 ∧ a1 ≤ 5 := by omega
theorem oy168 {a0 a1 : Int} (h0 : a0 = 3) (h1 : a1 = 2) (h2 : a0 ≤ 5) (h3 : a1 ≤ 5) : 0 ≤ a0 ∧ a0 ≤ 5 ∧ 0 ≤ a1 ∧ a1 ≤ 5 := by omega
theorem oy169 {a0 a1 : Int} (h0 : a0 = 3) (h1 : a1 = 3) (h2 : a0 ≤ 5) (h3 : a1 ≤ 5) : 0 ≤ a0 ∧ a0 ≤ 5 ∧ 0 ≤ a1 ∧ a1 ≤ 5 := by omega
theorem oy170 {a0 a1 : Int} (h0 : a0 = 3) (h1 : a1 = 4) (h2 : a0 ≤ 5) (h3 : a1 ≤ 5) : 0 ≤ a0 ∧ a0 ≤ 5 ∧ 0 ≤ a1 ∧ a1 ≤ 5 := by omega
theorem oy171 {a0 a1 : Int} (h0 : a0 = 3) (h1 : a1 = 5) (h2 : a0 ≤ 5) (h3 : a1 ≤ 5) : 0 ≤ a0 ∧ a0 ≤ 5 ∧ 0 ≤ a1 ∧ a1 ≤ 5 := by omega
theorem oy172 {a0 a1 : Int} (h0 : a0 = 4) (h1 : a0 ≤ 5) (h2 : (0 : Int) ≤ a1) (h3 : a1 ≤ 5) : 0 ≤ a0 ∧ a0 ≤ 5 ∧ 0 ≤ a1 ∧ a1 ≤ 5 := by omega
theorem oy173 {a0 a1 : Int} (h0 : a0 = 4) (h1 : a1 = 1) (h2 : a0 ≤ 5) (h3 : a1 ≤ 5) : 0 ≤ a0 ∧ a0 ≤ 5 ∧ 0 ≤ a1 ∧ a1 ≤ 5 := by omega
theorem oy174 {a0 a1 : Int} (h0 : a0 = 4) (h1 : a1 = 2) (h2 : a0 ≤ 5) (h3 : a1 ≤ 5) : 0 ≤ a0 ∧ a0 ≤ 5 ∧ 0 ≤ a1 ∧ a1 ≤ 5 := by omega
theorem oy175 {a0 a1 : Int} (h0 : a0 = 4) (h1 : a1 = 3) (h2 : a0 ≤ 5) (h3 : a1 ≤ 5) : 0 ≤ a0 ∧ a0 ≤ 5 ∧ 0 ≤ a1 ∧ a1 ≤ 5 := by omega
theorem oy176 {a0 a1 : Int} (h0 : a0 = 4) (h1 : a1 = 4) (h2 : a0 ≤ 5) (h3 : a1 ≤ 5) : 0 ≤ a0 ∧ a0 ≤ 5 ∧ 0 ≤ a1 ∧ a1 ≤ 5 := by omega
theorem oy177 {a0 a1 : Int} (h0 : a0 = 4) (h1 : a1 = 5) (h2 : a0 ≤ 5) (h3 : a1 ≤ 5) : 0 ≤ a0 ∧ a0 ≤ 5 ∧ 0 ≤ a1 ∧ a1 ≤ 5 := by omega
theorem oy178 {a0 a1 : Int} (h0 : a0 = 5) (h1 : a0 ≤ 5) (h2 : (0 : Int) ≤ a1) (h3 : a1 ≤ 5) : 0 ≤ a0 ∧ a0 ≤ 5 ∧ 0 ≤ a1 ∧ a1 ≤ 5 := by omega
theorem oy179 {a0 a1 : Int} (h0 : a0 = 5) (h1 : a1 = 1) (h2 : a0 ≤ 5) (h3 : a1 ≤ 5) : 0 ≤ a0 ∧ a0 ≤ 5 ∧ 0 ≤ a1 ∧ a1 ≤ 5 := by omega
theorem oy180 {a0 a1 : Int} (h0 : a0 = 5) (h1 : a1 = 2) (h2 : a0 ≤ 5) (h3 : a1 ≤ 5) : 0 ≤ a0 ∧ a0 ≤ 5 ∧ 0 ≤ a1 ∧ a1 ≤ 5 := by omega
theorem oy181 {a0 a1 : Int} (h0 : a0 = 5) (h1 : a1 = 3) (h2 : a0 ≤ 5) (h3 : a1 ≤ 5) : 0 ≤ a0 ∧ a0 ≤ 5 ∧ 0 ≤ a1 ∧ a1 ≤ 5 := by omega
theorem oy182 {a0 a1 : Int} (h0 : a0 = 5) (h1 : a1 = 4) (h2 : a0 ≤ 5) (h3 : a1 ≤ 5) : 0 ≤ a0 ∧ a0 ≤ 5 ∧ 0 ≤ a1 ∧ a1 ≤ 5 := by omega
theorem oy183 {a0 a1 : Int} (h0 : a0 = 5) (h1 : a1 = 5) (h2 : a0 ≤ 5) (h3 : a1 ≤ 5) : 0 ≤ a0 ∧ a0 ≤ 5 ∧ 0 ≤ a1 ∧ a1 ≤ 5 := by omega
theorem oy184 {a0 : Int} (h0 : ¬ (a0 = 1)) (h1 : ¬ (a0 = 2)) (h2 : ¬ (a0 = 3)) (h3 : ¬ (a0 = 4)) (h4 : ¬ (a0 = 0)) (h5 : ¬ (a0 = 5)) (h6 : (0 : Int) ≤ a0) (h7 : a0 ≤ 5) : False := oz1282 h0 h1 h2 h3 h4 h5 h6 h7
theorem oy185 {a0 a1 : Int} (h0 : ¬ (((0 : Int) ≤ a0) ∧ (a0 ≤ 5))) : a1 < 0 ∨ 5 < a1 ∨ a0 < 0 ∨ 5 < a0 := by omega
theorem oy186 {a0 a1 : Int} (h0 : ¬ (((0 : Int) ≤ a0) ∧ (a0 ≤ 5))) : a0 < 0 ∨ 5 < a0 ∨ a1 < 0 ∨ 5 < a1 := by omega
def xw117_0 : kW := ([], [], [105, 107, 109, 111, 113, 115], [])
set_option maxRecDepth 100000 in
theorem kd117_0 {i : Nat → Int32} {a : Nat → List Int32} {q : Nat → List Int64} {r : Nat → Nat} (hI : kI i a q) (hr : kr r) (x1 : Int32) (x2 : Int32) (x3 : Int32) (x4 : Int32) (x5 : Int32) : km 5 117 [.ref 0, .int x1, .int x2, .int x3, .int x4, .int x5] (ks i a q r) (kVI xw117_0 i a q r (fun v i1 a1 q1 r1 => (True) ∧ ((∀ s t : Nat, s < 6 → t < 6 → (s : Int) = x1.toInt → (t : Int) = x3.toInt → kSfV (i (6656 + 128 * s)) (i (6656 + 128 * t)) (i (6658 + 128 * s)) (i (6658 + 128 * t)) (i (6659 + 128 * s)) (i (6659 + 128 * t)) x2 x4 x5 v ∧ (0 ≤ v.toInt → q1 (105 + 2 * t) = mi_cpy (q (105 + 2 * s)) (q (105 + 2 * t)) x2.toNatClampNeg x4.toNatClampNeg x5.toNatClampNeg ∧ ∀ u : Nat, u < 6 → u ≠ t → q1 (105 + 2 * u) = q (105 + 2 * u))) ∧ (v.toInt < 0 → (∀ u : Nat, u < 6 → q1 (105 + 2 * u) = q (105 + 2 * u))) ∧ (¬ (0 ≤ x1.toInt ∧ x1.toInt ≤ 5 ∧ 0 ≤ x3.toInt ∧ x3.toInt ≤ 5) → v.toInt = -1)))) := by
  have hG := kG_self xw117_0 hI hr
  refine km_ofI (q := (mi_h117, mi_c117)) rfl (by decide) (Nat.le_of_ble_eq_true rfl) ?_
  intro P hP
  first | refine ft_goL mi_k117 1 1 [(0, .ref 0), (1, .int x1), (2, .int x2), (3, .int x3), (4, .int x4), (5, .int x5)] [.int x1] (by rfl) ?_ | refine ft_go mi_k117 1 1 [(0, .ref 0), (1, .int x1), (2, .int x2), (3, .int x3), (4, .int x4), (5, .int x5)] [.int x1] i a q r (by rfl) ?_ | refine ko_steps mi_in117 1 _ (1, [(0, .ref 0), (1, .int x1), (2, .int x2), (3, .int x3), (4, .int x4), (5, .int x5)], [.int x1], (0, 0), ks i a q r) (by rfl) ?_
  refine ko_callPI mi_k117.1 (pc := 1) (ls := [(0, .ref 0), (1, .int x1), (2, .int x2), (3, .int x3), (4, .int x4), (5, .int x5)]) (st := [.int x1]) (h := ks i a q r) (i := (.invokestatic 70, 3, 121, 0, 9, 0, 157)) (mi_k117.2 _ _ (by rfl)) (ft_invS mi_pq121 (by rfl)) (cy := mi_c121) mi_pq121 rfl (kc121 hG.I hG.R x1) (by decide) ?_
  intro vg1 hg1
  rcases hg1 with ⟨eg1, hg1⟩ | ⟨eg1, hg1⟩
  ·
    subst eg1
    have z2 : ((0 : Int) ≤ x1.toInt) ∧ (x1.toInt ≤ 5) := hg1
    first | refine ft_goS mi_k117 2 8 [.int x3] (by rfl) ?_ | refine ft_go mi_k117 2 8 [(0, .ref 0), (1, .int x1), (2, .int x2), (3, .int x3), (4, .int x4), (5, .int x5)] [.int x3] i a q r (by rfl) ?_ | refine ko_steps mi_in117 2 _ (8, [(0, .ref 0), (1, .int x1), (2, .int x2), (3, .int x3), (4, .int x4), (5, .int x5)], [.int x3], (0, 0), ks i a q r) (by rfl) ?_
    refine ko_callPI mi_k117.1 (pc := 8) (ls := [(0, .ref 0), (1, .int x1), (2, .int x2), (3, .int x3), (4, .int x4), (5, .int x5)]) (st := [.int x3]) (h := ks i a q r) (i := (.invokestatic 70, 3, 121, 0, 9, 0, 157)) (mi_k117.2 _ _ (by rfl)) (ft_invS mi_pq121 (by rfl)) (cy := mi_c121) mi_pq121 rfl (kc121 hG.I hG.R x3) (by decide) ?_
    intro vg3 hg3
    rcases hg3 with ⟨eg3, hg3⟩ | ⟨eg3, hg3⟩
    ·
      subst eg3
      have z4 : ((0 : Int) ≤ x3.toInt) ∧ (x3.toInt ≤ 5) := hg3
      first | refine ft_goS mi_k117 4 21 [.int x1, .ref 97] (by rfl) ?_ | refine ft_go mi_k117 4 21 [(0, .ref 0), (1, .int x1), (2, .int x2), (3, .int x3), (4, .int x4), (5, .int x5)] [.int x1, .ref 97] i a q r (by rfl) ?_ | refine ko_steps mi_in117 4 _ (21, [(0, .ref 0), (1, .int x1), (2, .int x2), (3, .int x3), (4, .int x4), (5, .int x5)], [.int x1, .ref 97], (0, 0), ks i a q r) (by rfl) ?_
      by_cases w5 : x1.toInt = 0
      ·
        refine ft_alx mi_k117 (pc := 21) (v := 0) (p := 97) (z := 104) (kj_eq w5 (by decide) : x1 = 0) (by decide +kernel) (by decide +kernel) ?_
        first | refine fo_goL mi_k117 fz117_22_4_29 [(6, .ref 104), (0, .ref 0), (1, .int x1), (2, .int x2), (3, .int x3), (4, .int x4), (5, .int x5)] [.int x3, .ref 97] (by rfl) ?_ | refine ft_go mi_k117 4 29 [(6, .ref 104), (0, .ref 0), (1, .int x1), (2, .int x2), (3, .int x3), (4, .int x4), (5, .int x5)] [.int x3, .ref 97] i a q r (by rfl) ?_ | refine ko_steps mi_in117 4 _ (29, [(6, .ref 104), (0, .ref 0), (1, .int x1), (2, .int x2), (3, .int x3), (4, .int x4), (5, .int x5)], [.int x3, .ref 97], (0, 0), ks i a q r) (by rfl) ?_
        by_cases w6 : x3.toInt = 0
        ·
          refine ko_eq (x1 := (29, [(6, .ref 104), (0, .ref 0), (1, .int x1), (2, .int x2), (3, .int x3), (4, .int x4), (5, .int x5)], [.int 0, .ref 97], (0, 0), ks i a q r)) (by rw [(kj_eq w6 (by decide) : x3 = 0)]) ?_
          have fi_6656 : ((0 : Int) ≤ (i 6656).toInt) ∧ ((i 6656).toInt ≤ 2) := hG.I.1 6656
          first | refine ft_goL mi_k117 4 37 [(7, .ref 104), (6, .ref 104), (0, .ref 0), (1, .int x1), (2, .int x2), (3, .int x3), (4, .int x4), (5, .int x5)] [.int (i 6656)] (by rfl) ?_ | refine ft_go mi_k117 4 37 [(7, .ref 104), (6, .ref 104), (0, .ref 0), (1, .int x1), (2, .int x2), (3, .int x3), (4, .int x4), (5, .int x5)] [.int (i 6656)] i a q r (by rfl) ?_ | refine ko_steps mi_in117 4 _ (37, [(7, .ref 104), (6, .ref 104), (0, .ref 0), (1, .int x1), (2, .int x2), (3, .int x3), (4, .int x4), (5, .int x5)], [.int (i 6656)], (0, 0), ks i a q r) (by rfl) ?_
          refine ft_ifS mi_k117 ((i 6656) == 0) 48 40 [] (by rfl) (fun c => ?_) (fun c => ?_)
          ·
            have c7 : (i 6656).toInt = (0 : Int32).toInt := kd_eq c; clear c
            first | refine fo_goS mi_k117 fz117_48_1_50 [.int (-11)] (by rfl) ?_ | refine ft_go mi_k117 1 50 [(7, .ref 104), (6, .ref 104), (0, .ref 0), (1, .int x1), (2, .int x2), (3, .int x3), (4, .int x4), (5, .int x5)] [.int (-11)] i a q r (by rfl) ?_ | refine ko_steps mi_in117 1 _ (50, [(7, .ref 104), (6, .ref 104), (0, .ref 0), (1, .int x1), (2, .int x2), (3, .int x3), (4, .int x4), (5, .int x5)], [.int (-11)], (0, 0), ks i a q r) (by rfl) ?_
            have fi_6658 : ((0 : Int) ≤ (i 6658).toInt) ∧ ((i 6658).toInt ≤ 4) := hG.I.1 6658
            have fi_6659 : ((0 : Int) ≤ (i 6659).toInt) ∧ ((i 6659).toInt ≤ 60) := hG.I.1 6659
            exact ft_ret mi_k117 (by rfl) (hP (-11) _ _ _ _ hG ⟨trivial, ⟨fun s t hs ht e1 e3 => by
        have es : s = 0 := kj_at e1 (oy107 w5 z2.1)
        have et : t = 0 := kj_at e3 (oy107 w6 z4.1)
        subst es
        subst et
        exact ⟨(Or.inl ⟨kym11, (oy108 c7 fi_6656.1 ky0)⟩), fun h => absurd h (kj_neg kym11 (by decide))⟩, fun _ => (fun u hu => match u, hu with | 0, _ => rfl | 1, _ => rfl | 2, _ => rfl | 3, _ => rfl | 4, _ => rfl | 5, _ => rfl | _ + 6, h => absurd h (by omega)), fun h => absurd (oy32 z2.1 z2.2 z4.1 z4.2) h⟩⟩)
          ·
            have c8 : (i 6656).toInt ≠ (0 : Int32).toInt := kd_eqF c; clear c
            first | refine fo_goL mi_k117 fz117_40_2_45 [(7, .ref 104), (6, .ref 104), (0, .ref 0), (1, .int x1), (2, .int x2), (3, .int x3), (4, .int x4), (5, .int x5)] [.int (i 6656)] (by rfl) ?_ | refine ft_go mi_k117 2 45 [(7, .ref 104), (6, .ref 104), (0, .ref 0), (1, .int x1), (2, .int x2), (3, .int x3), (4, .int x4), (5, .int x5)] [.int (i 6656)] i a q r (by rfl) ?_ | refine ko_steps mi_in117 2 _ (45, [(7, .ref 104), (6, .ref 104), (0, .ref 0), (1, .int x1), (2, .int x2), (3, .int x3), (4, .int x4), (5, .int x5)], [.int (i 6656)], (0, 0), ks i a q r) (by rfl) ?_
            refine ft_ifS mi_k117 ((i 6656) != 0) 51 48 [] (by rfl) (fun c => ?_) (fun c => ?_)
            ·
              have c9 : (i 6656).toInt ≠ (0 : Int32).toInt := kd_ne c; clear c
              first | refine fo_goS mi_k117 fz117_51_3_57 [.int 2, .int (i 6656)] (by rfl) ?_ | refine ft_go mi_k117 3 57 [(7, .ref 104), (6, .ref 104), (0, .ref 0), (1, .int x1), (2, .int x2), (3, .int x3), (4, .int x4), (5, .int x5)] [.int 2, .int (i 6656)] i a q r (by rfl) ?_ | refine ko_steps mi_in117 3 _ (57, [(7, .ref 104), (6, .ref 104), (0, .ref 0), (1, .int x1), (2, .int x2), (3, .int x3), (4, .int x4), (5, .int x5)], [.int 2, .int (i 6656)], (0, 0), ks i a q r) (by rfl) ?_
              refine ft_ifS mi_k117 ((i 6656) != 2) 82 60 [] (by rfl) (fun c => ?_) (fun c => ?_)
              ·
                have c10 : (i 6656).toInt ≠ (2 : Int32).toInt := kd_ne c; clear c
                first | refine fo_goS mi_k117 fz117_82_1_84 [.int (-12)] (by rfl) ?_ | refine ft_go mi_k117 1 84 [(7, .ref 104), (6, .ref 104), (0, .ref 0), (1, .int x1), (2, .int x2), (3, .int x3), (4, .int x4), (5, .int x5)] [.int (-12)] i a q r (by rfl) ?_ | refine ko_steps mi_in117 1 _ (84, [(7, .ref 104), (6, .ref 104), (0, .ref 0), (1, .int x1), (2, .int x2), (3, .int x3), (4, .int x4), (5, .int x5)], [.int (-12)], (0, 0), ks i a q r) (by rfl) ?_
                have fi_6658 : ((0 : Int) ≤ (i 6658).toInt) ∧ ((i 6658).toInt ≤ 4) := hG.I.1 6658
                have fi_6659 : ((0 : Int) ≤ (i 6659).toInt) ∧ ((i 6659).toInt ≤ 60) := hG.I.1 6659
                exact ft_ret mi_k117 (by rfl) (hP (-12) _ _ _ _ hG ⟨trivial, ⟨fun s t hs ht e1 e3 => by
        have es : s = 0 := kj_at e1 (oy107 w5 z2.1)
        have et : t = 0 := kj_at e3 (oy107 w6 z4.1)
        subst es
        subst et
        exact ⟨(Or.inr (Or.inl ⟨kym12, (oy109 c8 fi_6656.1 ky0), (oy110 c10 fi_6656.2 ky2)⟩)), fun h => absurd h (kj_neg kym12 (by decide))⟩, fun _ => (fun u hu => match u, hu with | 0, _ => rfl | 1, _ => rfl | 2, _ => rfl | 3, _ => rfl | 4, _ => rfl | 5, _ => rfl | _ + 6, h => absurd h (by omega)), fun h => absurd (oy32 z2.1 z2.2 z4.1 z4.2) h⟩⟩)
              ·
                have c11 : (i 6656).toInt = (2 : Int32).toInt := kd_neF c; clear c
                first | refine fo_goL mi_k117 fz117_60_3_66 [(7, .ref 104), (6, .ref 104), (0, .ref 0), (1, .int x1), (2, .int x2), (3, .int x3), (4, .int x4), (5, .int x5)] [.int 2, .int (i 6656)] (by rfl) ?_ | refine ft_go mi_k117 3 66 [(7, .ref 104), (6, .ref 104), (0, .ref 0), (1, .int x1), (2, .int x2), (3, .int x3), (4, .int x4), (5, .int x5)] [.int 2, .int (i 6656)] i a q r (by rfl) ?_ | refine ko_steps mi_in117 3 _ (66, [(7, .ref 104), (6, .ref 104), (0, .ref 0), (1, .int x1), (2, .int x2), (3, .int x3), (4, .int x4), (5, .int x5)], [.int 2, .int (i 6656)], (0, 0), ks i a q r) (by rfl) ?_
                refine ft_ifS mi_k117 ((i 6656) != 2) 82 69 [] (by rfl) (fun c => ?_) (fun c => ?_)
                ·
                  have c12 : (i 6656).toInt ≠ (2 : Int32).toInt := kd_ne c; clear c
                  exact (oy111 c11 c12 fi_6656.2 ky2).elim
                ·
                  have c13 : (i 6656).toInt = (2 : Int32).toInt := kd_neF c; clear c
                  have fi_6658 : ((0 : Int) ≤ (i 6658).toInt) ∧ ((i 6658).toInt ≤ 4) := hG.I.1 6658
                  first | refine fo_goS mi_k117 fz117_69_4_79 [.int (i 6658), .int (i 6658)] (by rfl) ?_ | refine ft_go mi_k117 4 79 [(7, .ref 104), (6, .ref 104), (0, .ref 0), (1, .int x1), (2, .int x2), (3, .int x3), (4, .int x4), (5, .int x5)] [.int (i 6658), .int (i 6658)] i a q r (by rfl) ?_ | refine ko_steps mi_in117 4 _ (79, [(7, .ref 104), (6, .ref 104), (0, .ref 0), (1, .int x1), (2, .int x2), (3, .int x3), (4, .int x4), (5, .int x5)], [.int (i 6658), .int (i 6658)], (0, 0), ks i a q r) (by rfl) ?_
                  refine ft_ifS mi_k117 ((i 6658) == (i 6658)) 85 82 [] (by rfl) (fun c => ?_) (fun c => ?_)
                  ·
                    have c14 : (i 6658).toInt = (i 6658).toInt := kd_eq c; clear c
                    first | refine fo_goS mi_k117 fz117_85_3_90 [.int x5, .int x2, .ref 104] (by rfl) ?_ | refine ft_go mi_k117 3 90 [(7, .ref 104), (6, .ref 104), (0, .ref 0), (1, .int x1), (2, .int x2), (3, .int x3), (4, .int x4), (5, .int x5)] [.int x5, .int x2, .ref 104] i a q r (by rfl) ?_ | refine ko_steps mi_in117 3 _ (90, [(7, .ref 104), (6, .ref 104), (0, .ref 0), (1, .int x1), (2, .int x2), (3, .int x3), (4, .int x4), (5, .int x5)], [.int x5, .int x2, .ref 104], (0, 0), ks i a q r) (by rfl) ?_
                    refine ko_callPI mi_k117.1 (pc := 90) (ls := [(7, .ref 104), (6, .ref 104), (0, .ref 0), (1, .int x1), (2, .int x2), (3, .int x3), (4, .int x4), (5, .int x5)]) (st := [.int x5, .int x2, .ref 104]) (h := ks i a q r) (i := (.invokevirtual 324, 3, 37, 0, 9, 0, 316)) (mi_k117.2 _ _ (by rfl)) (ft_invS mi_pq37 (by rfl)) (cy := mi_c37) mi_pq37 rfl (kc37_104 hG.I hG.R x2 x5) (by decide) ?_
                    intro vg15 hg15
                    rcases hg15 with ⟨eg15, hg15⟩ | ⟨eg15, hg15⟩
                    ·
                      subst eg15
                      have fi_6659 : ((0 : Int) ≤ (i 6659).toInt) ∧ ((i 6659).toInt ≤ 60) := hG.I.1 6659
                      have z16 : ((0 : Int) ≤ x5.toInt) ∧ (x5.toInt ≤ (i 6659).toInt) ∧ ((0 : Int) ≤ x2.toInt) ∧ ((x2.toInt + x5.toInt) ≤ (i 6659).toInt) := hg15
                      first | refine fo_goS mi_k117 fz117_93_4_102 [.int x5, .int x4, .ref 104] (by rfl) ?_ | refine ft_go mi_k117 4 102 [(7, .ref 104), (6, .ref 104), (0, .ref 0), (1, .int x1), (2, .int x2), (3, .int x3), (4, .int x4), (5, .int x5)] [.int x5, .int x4, .ref 104] i a q r (by rfl) ?_ | refine ko_steps mi_in117 4 _ (102, [(7, .ref 104), (6, .ref 104), (0, .ref 0), (1, .int x1), (2, .int x2), (3, .int x3), (4, .int x4), (5, .int x5)], [.int x5, .int x4, .ref 104], (0, 0), ks i a q r) (by rfl) ?_
                      refine ko_callPI mi_k117.1 (pc := 102) (ls := [(7, .ref 104), (6, .ref 104), (0, .ref 0), (1, .int x1), (2, .int x2), (3, .int x3), (4, .int x4), (5, .int x5)]) (st := [.int x5, .int x4, .ref 104]) (h := ks i a q r) (i := (.invokevirtual 324, 3, 37, 0, 9, 0, 316)) (mi_k117.2 _ _ (by rfl)) (ft_invS mi_pq37 (by rfl)) (cy := mi_c37) mi_pq37 rfl (kc37_104 hG.I hG.R x4 x5) (by decide) ?_
                      intro vg17 hg17
                      rcases hg17 with ⟨eg17, hg17⟩ | ⟨eg17, hg17⟩
                      ·
                        subst eg17
                        have z18 : ((0 : Int) ≤ x5.toInt) ∧ (x5.toInt ≤ (i 6659).toInt) ∧ ((0 : Int) ≤ x4.toInt) ∧ ((x4.toInt + x5.toInt) ≤ (i 6659).toInt) := hg17
                        first | refine fo_goS mi_k117 fz117_105_8_126 [.int x5, .int x4, .ref 105, .int x2, .ref 105] (by rfl) ?_ | refine ft_go mi_k117 8 126 [(7, .ref 104), (6, .ref 104), (0, .ref 0), (1, .int x1), (2, .int x2), (3, .int x3), (4, .int x4), (5, .int x5)] [.int x5, .int x4, .ref 105, .int x2, .ref 105] i a q r (by rfl) ?_ | refine ko_steps mi_in117 8 _ (126, [(7, .ref 104), (6, .ref 104), (0, .ref 0), (1, .int x1), (2, .int x2), (3, .int x3), (4, .int x4), (5, .int x5)], [.int x5, .int x4, .ref 105, .int x2, .ref 105], (0, 0), ks i a q r) (by rfl) ?_
                        have hJ19 := kG_q hG 105 rfl (z := mi_cpy (q 105) (q 105) x2.toNatClampNeg x4.toNatClampNeg x5.toNatClampNeg) (kcpy_len2 (n := 60) (c := 60) (m := 60) (b := 60) (sp := x2) (dp := x4) (n1 := x5) (hG.I.2.2.2 105) rfl (hG.I.2.2.2 105) rfl (oy3 z16.1) (oy3 z16.2.2.1) (oy3 z18.2.2.1) (oy119 fi_6659.2 z16.2.2.2) (oy119 fi_6659.2 z18.2.2.2))
                        refine ko_copyL2 mi_k117.1 (l := q 105) (g := q 105) (n := 60) (c := 60) (m := 60) (b := 60) (mi_k117.2 _ _ (by rfl)) (by rfl) (by rfl) (by rfl) (by rfl) (by rfl) (hG.I.2.2.2 105) rfl (hG.I.2.2.2 105) rfl (oy3 z16.1) (oy3 z16.2.2.1) (oy3 z18.2.2.1) (oy119 fi_6659.2 z16.2.2.2) (oy119 fi_6659.2 z18.2.2.2) (h5 := ks i a (ku q 105 (mi_cpy (q 105) (q 105) x2.toNatClampNeg x4.toNatClampNeg x5.toNatClampNeg)) r) (by rfl) ?_
                        first | refine fo_goS mi_k117 fz117_129_1_131 [.int x5] (by rfl) ?_ | refine ft_go mi_k117 1 131 [(7, .ref 104), (6, .ref 104), (0, .ref 0), (1, .int x1), (2, .int x2), (3, .int x3), (4, .int x4), (5, .int x5)] [.int x5] i a (ku q 105 (mi_cpy (q 105) (q 105) x2.toNatClampNeg x4.toNatClampNeg x5.toNatClampNeg)) r (by rfl) ?_ | refine ko_steps mi_in117 1 _ (131, [(7, .ref 104), (6, .ref 104), (0, .ref 0), (1, .int x1), (2, .int x2), (3, .int x3), (4, .int x4), (5, .int x5)], [.int x5], (0, 0), ks i a (ku q 105 (mi_cpy (q 105) (q 105) x2.toNatClampNeg x4.toNatClampNeg x5.toNatClampNeg)) r) (by rfl) ?_
                        exact ft_ret mi_k117 (by rfl) (hP x5 _ _ _ _ hJ19 ⟨trivial, ⟨fun s t hs ht e1 e3 => by
        have es : s = 0 := kj_at e1 (oy107 w5 z2.1)
        have et : t = 0 := kj_at e3 (oy107 w6 z4.1)
        subst es
        subst et
        exact ⟨(Or.inr (Or.inr (Or.inr ⟨rfl, (oy120 c11 fi_6656.2 ky2), (oy121 z16.1 z16.2.2.1 z16.2.2.2 z18.2.2.1 z18.2.2.2)⟩))), fun _ => ⟨rfl, (fun u hu ne => match u, hu, ne with | 0, _, ne => absurd rfl ne | 1, _, _ => rfl | 2, _, _ => rfl | 3, _, _ => rfl | 4, _, _ => rfl | 5, _, _ => rfl | _ + 6, h, _ => absurd h (by omega))⟩⟩, fun h => absurd h (oy26 z16.1), fun h => absurd (oy32 z2.1 z2.2 z4.1 z4.2) h⟩⟩)
                      ·
                        subst eg17
                        have z20 : ¬ (((0 : Int) ≤ x5.toInt) ∧ (x5.toInt ≤ (i 6659).toInt) ∧ ((0 : Int) ≤ x4.toInt) ∧ ((x4.toInt + x5.toInt) ≤ (i 6659).toInt)) := hg17
                        first | refine fo_goL mi_k117 fz117_93_2_110 [(7, .ref 104), (6, .ref 104), (0, .ref 0), (1, .int x1), (2, .int x2), (3, .int x3), (4, .int x4), (5, .int x5)] [.int (-13)] (by rfl) ?_ | refine fo_goL mi_k117 fz117_105_2_110 [(7, .ref 104), (6, .ref 104), (0, .ref 0), (1, .int x1), (2, .int x2), (3, .int x3), (4, .int x4), (5, .int x5)] [.int (-13)] (by rfl) ?_ | refine ft_go mi_k117 2 110 [(7, .ref 104), (6, .ref 104), (0, .ref 0), (1, .int x1), (2, .int x2), (3, .int x3), (4, .int x4), (5, .int x5)] [.int (-13)] i a q r (by rfl) ?_ | refine ko_steps mi_in117 2 _ (110, [(7, .ref 104), (6, .ref 104), (0, .ref 0), (1, .int x1), (2, .int x2), (3, .int x3), (4, .int x4), (5, .int x5)], [.int (-13)], (0, 0), ks i a q r) (by rfl) ?_
                        exact ft_ret mi_k117 (by rfl) (hP (-13) _ _ _ _ hG ⟨trivial, ⟨fun s t hs ht e1 e3 => by
        have es : s = 0 := kj_at e1 (oy107 w5 z2.1)
        have et : t = 0 := kj_at e3 (oy107 w6 z4.1)
        subst es
        subst et
        exact ⟨(Or.inr (Or.inr (Or.inl ⟨kym13, (oy120 c11 fi_6656.2 ky2), (oy122 z16.1 z16.2.1 z20)⟩))), fun h => absurd h (kj_neg kym13 (by decide))⟩, fun _ => (fun u hu => match u, hu with | 0, _ => rfl | 1, _ => rfl | 2, _ => rfl | 3, _ => rfl | 4, _ => rfl | 5, _ => rfl | _ + 6, h => absurd h (by omega)), fun h => absurd (oy32 z2.1 z2.2 z4.1 z4.2) h⟩⟩)
                    ·
                      subst eg15
                      have fi_6659 : ((0 : Int) ≤ (i 6659).toInt) ∧ ((i 6659).toInt ≤ 60) := hG.I.1 6659
                      have z21 : ¬ (((0 : Int) ≤ x5.toInt) ∧ (x5.toInt ≤ (i 6659).toInt) ∧ ((0 : Int) ≤ x2.toInt) ∧ ((x2.toInt + x5.toInt) ≤ (i 6659).toInt)) := hg15
                      first | refine fo_goL mi_k117 fz117_93_2_110 [(7, .ref 104), (6, .ref 104), (0, .ref 0), (1, .int x1), (2, .int x2), (3, .int x3), (4, .int x4), (5, .int x5)] [.int (-13)] (by rfl) ?_ | refine fo_goL mi_k117 fz117_105_2_110 [(7, .ref 104), (6, .ref 104), (0, .ref 0), (1, .int x1), (2, .int x2), (3, .int x3), (4, .int x4), (5, .int x5)] [.int (-13)] (by rfl) ?_ | refine ft_go mi_k117 2 110 [(7, .ref 104), (6, .ref 104), (0, .ref 0), (1, .int x1), (2, .int x2), (3, .int x3), (4, .int x4), (5, .int x5)] [.int (-13)] i a q r (by rfl) ?_ | refine ko_steps mi_in117 2 _ (110, [(7, .ref 104), (6, .ref 104), (0, .ref 0), (1, .int x1), (2, .int x2), (3, .int x3), (4, .int x4), (5, .int x5)], [.int (-13)], (0, 0), ks i a q r) (by rfl) ?_
                      exact ft_ret mi_k117 (by rfl) (hP (-13) _ _ _ _ hG ⟨trivial, ⟨fun s t hs ht e1 e3 => by
        have es : s = 0 := kj_at e1 (oy107 w5 z2.1)
        have et : t = 0 := kj_at e3 (oy107 w6 z4.1)
        subst es
        subst et
        exact ⟨(Or.inr (Or.inr (Or.inl ⟨kym13, (oy120 c11 fi_6656.2 ky2), (oy123 z21)⟩))), fun h => absurd h (kj_neg kym13 (by decide))⟩, fun _ => (fun u hu => match u, hu with | 0, _ => rfl | 1, _ => rfl | 2, _ => rfl | 3, _ => rfl | 4, _ => rfl | 5, _ => rfl | _ + 6, h => absurd h (by omega)), fun h => absurd (oy32 z2.1 z2.2 z4.1 z4.2) h⟩⟩)
                  ·
                    have c22 : (i 6658).toInt ≠ (i 6658).toInt := kd_eqF c; clear c
                    exact (oy124 c22).elim
            ·
              have c23 : (i 6656).toInt = (0 : Int32).toInt := kd_neF c; clear c
              exact (oy125 c23 c8 fi_6656.1 ky0).elim
        by_cases w24 : x3.toInt = 1
        ·
          refine ko_eq (x1 := (29, [(6, .ref 104), (0, .ref 0), (1, .int x1), (2, .int x2), (3, .int x3), (4, .int x4), (5, .int x5)], [.int 1, .ref 97], (0, 0), ks i a q r)) (by rw [(kj_eq w24 (by decide) : x3 = 1)]) ?_
          have fi_6656 : ((0 : Int) ≤ (i 6656).toInt) ∧ ((i 6656).toInt ≤ 2) := hG.I.1 6656
          first | refine ft_goL mi_k117 4 37 [(7, .ref 106), (6, .ref 104), (0, .ref 0), (1, .int x1), (2, .int x2), (3, .int x3), (4, .int x4), (5, .int x5)] [.int (i 6656)] (by rfl) ?_ | refine ft_go mi_k117 4 37 [(7, .ref 106), (6, .ref 104), (0, .ref 0), (1, .int x1), (2, .int x2), (3, .int x3), (4, .int x4), (5, .int x5)] [.int (i 6656)] i a q r (by rfl) ?_ | refine ko_steps mi_in117 4 _ (37, [(7, .ref 106), (6, .ref 104), (0, .ref 0), (1, .int x1), (2, .int x2), (3, .int x3), (4, .int x4), (5, .int x5)], [.int (i 6656)], (0, 0), ks i a q r) (by rfl) ?_
          refine ft_ifS mi_k117 ((i 6656) == 0) 48 40 [] (by rfl) (fun c => ?_) (fun c => ?_)
          ·
            have c25 : (i 6656).toInt = (0 : Int32).toInt := kd_eq c; clear c
            first | refine fo_goS mi_k117 fz117_48_1_50 [.int (-11)] (by rfl) ?_ | refine ft_go mi_k117 1 50 [(7, .ref 106), (6, .ref 104), (0, .ref 0), (1, .int x1), (2, .int x2), (3, .int x3), (4, .int x4), (5, .int x5)] [.int (-11)] i a q r (by rfl) ?_ | refine ko_steps mi_in117 1 _ (50, [(7, .ref 106), (6, .ref 104), (0, .ref 0), (1, .int x1), (2, .int x2), (3, .int x3), (4, .int x4), (5, .int x5)], [.int (-11)], (0, 0), ks i a q r) (by rfl) ?_
            have fi_6784 : ((0 : Int) ≤ (i 6784).toInt) ∧ ((i 6784).toInt ≤ 2) := hG.I.1 6784
            have fi_6658 : ((0 : Int) ≤ (i 6658).toInt) ∧ ((i 6658).toInt ≤ 4) := hG.I.1 6658
            have fi_6786 : ((0 : Int) ≤ (i 6786).toInt) ∧ ((i 6786).toInt ≤ 4) := hG.I.1 6786
            have fi_6659 : ((0 : Int) ≤ (i 6659).toInt) ∧ ((i 6659).toInt ≤ 60) := hG.I.1 6659
            have fi_6787 : ((0 : Int) ≤ (i 6787).toInt) ∧ ((i 6787).toInt ≤ 60) := hG.I.1 6787
            exact ft_ret mi_k117 (by rfl) (hP (-11) _ _ _ _ hG ⟨trivial, ⟨fun s t hs ht e1 e3 => by
        have es : s = 0 := kj_at e1 (oy107 w5 z2.1)
        have et : t = 1 := kj_at e3 (oy126 w24)
        subst es
        subst et
        exact ⟨(Or.inl ⟨kym11, (oy127 c25 fi_6656.1 ky0)⟩), fun h => absurd h (kj_neg kym11 (by decide))⟩, fun _ => (fun u hu => match u, hu with | 0, _ => rfl | 1, _ => rfl | 2, _ => rfl | 3, _ => rfl | 4, _ => rfl | 5, _ => rfl | _ + 6, h => absurd h (by omega)), fun h => absurd (oy128 w24 z2.1 z2.2 z4.2) h⟩⟩)
          ·
            have c26 : (i 6656).toInt ≠ (0 : Int32).toInt := kd_eqF c; clear c
            have fi_6784 : ((0 : Int) ≤ (i 6784).toInt) ∧ ((i 6784).toInt ≤ 2) := hG.I.1 6784
            first | refine fo_goL mi_k117 fz117_40_2_45 [(7, .ref 106), (6, .ref 104), (0, .ref 0), (1, .int x1), (2, .int x2), (3, .int x3), (4, .int x4), (5, .int x5)] [.int (i 6784)] (by rfl) ?_ | refine ft_go mi_k117 2 45 [(7, .ref 106), (6, .ref 104), (0, .ref 0), (1, .int x1), (2, .int x2), (3, .int x3), (4, .int x4), (5, .int x5)] [.int (i 6784)] i a q r (by rfl) ?_ | refine ko_steps mi_in117 2 _ (45, [(7, .ref 106), (6, .ref 104), (0, .ref 0), (1, .int x1), (2, .int x2), (3, .int x3), (4, .int x4), (5, .int x5)], [.int (i 6784)], (0, 0), ks i a q r) (by rfl) ?_
            refine ft_ifS mi_k117 ((i 6784) != 0) 51 48 [] (by rfl) (fun c => ?_) (fun c => ?_)
            ·
              have c27 : (i 6784).toInt ≠ (0 : Int32).toInt := kd_ne c; clear c
              first | refine fo_goS mi_k117 fz117_51_3_57 [.int 2, .int (i 6656)] (by rfl) ?_ | refine ft_go mi_k117 3 57 [(7, .ref 106), (6, .ref 104), (0, .ref 0), (1, .int x1), (2, .int x2), (3, .int x3), (4, .int x4), (5, .int x5)] [.int 2, .int (i 6656)] i a q r (by rfl) ?_ | refine ko_steps mi_in117 3 _ (57, [(7, .ref 106), (6, .ref 104), (0, .ref 0), (1, .int x1), (2, .int x2), (3, .int x3), (4, .int x4), (5, .int x5)], [.int 2, .int (i 6656)], (0, 0), ks i a q r) (by rfl) ?_
              refine ft_ifS mi_k117 ((i 6656) != 2) 82 60 [] (by rfl) (fun c => ?_) (fun c => ?_)
              ·
                have c28 : (i 6656).toInt ≠ (2 : Int32).toInt := kd_ne c; clear c
                first | refine fo_goS mi_k117 fz117_82_1_84 [.int (-12)] (by rfl) ?_ | refine ft_go mi_k117 1 84 [(7, .ref 106), (6, .ref 104), (0, .ref 0), (1, .int x1), (2, .int x2), (3, .int x3), (4, .int x4), (5, .int x5)] [.int (-12)] i a q r (by rfl) ?_ | refine ko_steps mi_in117 1 _ (84, [(7, .ref 106), (6, .ref 104), (0, .ref 0), (1, .int x1), (2, .int x2), (3, .int x3), (4, .int x4), (5, .int x5)], [.int (-12)], (0, 0), ks i a q r) (by rfl) ?_
                have fi_6658 : ((0 : Int) ≤ (i 6658).toInt) ∧ ((i 6658).toInt ≤ 4) := hG.I.1 6658
                have fi_6786 : ((0 : Int) ≤ (i 6786).toInt) ∧ ((i 6786).toInt ≤ 4) := hG.I.1 6786
                have fi_6659 : ((0 : Int) ≤ (i 6659).toInt) ∧ ((i 6659).toInt ≤ 60) := hG.I.1 6659
                have fi_6787 : ((0 : Int) ≤ (i 6787).toInt) ∧ ((i 6787).toInt ≤ 60) := hG.I.1 6787
                exact ft_ret mi_k117 (by rfl) (hP (-12) _ _ _ _ hG ⟨trivial, ⟨fun s t hs ht e1 e3 => by
        have es : s = 0 := kj_at e1 (oy107 w5 z2.1)
        have et : t = 1 := kj_at e3 (oy126 w24)
        subst es
        subst et
        exact ⟨(Or.inr (Or.inl ⟨kym12, (oy129 c26 c27 fi_6656.1 fi_6784.1 ky0), (oy130 c28 fi_6656.2 ky2)⟩)), fun h => absurd h (kj_neg kym12 (by decide))⟩, fun _ => (fun u hu => match u, hu with | 0, _ => rfl | 1, _ => rfl | 2, _ => rfl | 3, _ => rfl | 4, _ => rfl | 5, _ => rfl | _ + 6, h => absurd h (by omega)), fun h => absurd (oy128 w24 z2.1 z2.2 z4.2) h⟩⟩)
              ·
                have c29 : (i 6656).toInt = (2 : Int32).toInt := kd_neF c; clear c
                first | refine fo_goL mi_k117 fz117_60_3_66 [(7, .ref 106), (6, .ref 104), (0, .ref 0), (1, .int x1), (2, .int x2), (3, .int x3), (4, .int x4), (5, .int x5)] [.int 2, .int (i 6784)] (by rfl) ?_ | refine ft_go mi_k117 3 66 [(7, .ref 106), (6, .ref 104), (0, .ref 0), (1, .int x1), (2, .int x2), (3, .int x3), (4, .int x4), (5, .int x5)] [.int 2, .int (i 6784)] i a q r (by rfl) ?_ | refine ko_steps mi_in117 3 _ (66, [(7, .ref 106), (6, .ref 104), (0, .ref 0), (1, .int x1), (2, .int x2), (3, .int x3), (4, .int x4), (5, .int x5)], [.int 2, .int (i 6784)], (0, 0), ks i a q r) (by rfl) ?_
                refine ft_ifS mi_k117 ((i 6784) != 2) 82 69 [] (by rfl) (fun c => ?_) (fun c => ?_)
                ·
                  have c30 : (i 6784).toInt ≠ (2 : Int32).toInt := kd_ne c; clear c
                  first | refine fo_goS mi_k117 fz117_82_1_84 [.int (-12)] (by rfl) ?_ | refine ft_go mi_k117 1 84 [(7, .ref 106), (6, .ref 104), (0, .ref 0), (1, .int x1), (2, .int x2), (3, .int x3), (4, .int x4), (5, .int x5)] [.int (-12)] i a q r (by rfl) ?_ | refine ko_steps mi_in117 1 _ (84, [(7, .ref 106), (6, .ref 104), (0, .ref 0), (1, .int x1), (2, .int x2), (3, .int x3), (4, .int x4), (5, .int x5)], [.int (-12)], (0, 0), ks i a q r) (by rfl) ?_
                  have fi_6658 : ((0 : Int) ≤ (i 6658).toInt) ∧ ((i 6658).toInt ≤ 4) := hG.I.1 6658
                  have fi_6786 : ((0 : Int) ≤ (i 6786).toInt) ∧ ((i 6786).toInt ≤ 4) := hG.I.1 6786
                  have fi_6659 : ((0 : Int) ≤ (i 6659).toInt) ∧ ((i 6659).toInt ≤ 60) := hG.I.1 6659
                  have fi_6787 : ((0 : Int) ≤ (i 6787).toInt) ∧ ((i 6787).toInt ≤ 60) := hG.I.1 6787
                  exact ft_ret mi_k117 (by rfl) (hP (-12) _ _ _ _ hG ⟨trivial, ⟨fun s t hs ht e1 e3 => by
        have es : s = 0 := kj_at e1 (oy107 w5 z2.1)
        have et : t = 1 := kj_at e3 (oy126 w24)
        subst es
        subst et
        exact ⟨(Or.inr (Or.inl ⟨kym12, (oy131 c27 c29 fi_6784.1 ky0 ky2), (oy132 c30 fi_6784.2 ky2)⟩)), fun h => absurd h (kj_neg kym12 (by decide))⟩, fun _ => (fun u hu => match u, hu with | 0, _ => rfl | 1, _ => rfl | 2, _ => rfl | 3, _ => rfl | 4, _ => rfl | 5, _ => rfl | _ + 6, h => absurd h (by omega)), fun h => absurd (oy128 w24 z2.1 z2.2 z4.2) h⟩⟩)
                ·
                  have c31 : (i 6784).toInt = (2 : Int32).toInt := kd_neF c; clear c
                  have fi_6658 : ((0 : Int) ≤ (i 6658).toInt) ∧ ((i 6658).toInt ≤ 4) := hG.I.1 6658
                  have fi_6786 : ((0 : Int) ≤ (i 6786).toInt) ∧ ((i 6786).toInt ≤ 4) := hG.I.1 6786
                  first | refine fo_goL mi_k117 fz117_69_4_79 [(7, .ref 106), (6, .ref 104), (0, .ref 0), (1, .int x1), (2, .int x2), (3, .int x3), (4, .int x4), (5, .int x5)] [.int (i 6786), .int (i 6658)] (by rfl) ?_ | refine ft_go mi_k117 4 79 [(7, .ref 106), (6, .ref 104), (0, .ref 0), (1, .int x1), (2, .int x2), (3, .int x3), (4, .int x4), (5, .int x5)] [.int (i 6786), .int (i 6658)] i a q r (by rfl) ?_ | refine ko_steps mi_in117 4 _ (79, [(7, .ref 106), (6, .ref 104), (0, .ref 0), (1, .int x1), (2, .int x2), (3, .int x3), (4, .int x4), (5, .int x5)], [.int (i 6786), .int (i 6658)], (0, 0), ks i a q r) (by rfl) ?_
                  refine ft_ifS mi_k117 ((i 6658) == (i 6786)) 85 82 [] (by rfl) (fun c => ?_) (fun c => ?_)
                  ·
                    have c32 : (i 6658).toInt = (i 6786).toInt := kd_eq c; clear c
                    first | refine fo_goS mi_k117 fz117_85_3_90 [.int x5, .int x2, .ref 104] (by rfl) ?_ | refine ft_go mi_k117 3 90 [(7, .ref 106), (6, .ref 104), (0, .ref 0), (1, .int x1), (2, .int x2), (3, .int x3), (4, .int x4), (5, .int x5)] [.int x5, .int x2, .ref 104] i a q r (by rfl) ?_ | refine ko_steps mi_in117 3 _ (90, [(7, .ref 106), (6, .ref 104), (0, .ref 0), (1, .int x1), (2, .int x2), (3, .int x3), (4, .int x4), (5, .int x5)], [.int x5, .int x2, .ref 104], (0, 0), ks i a q r) (by rfl) ?_
                    refine ko_callPI mi_k117.1 (pc := 90) (ls := [(7, .ref 106), (6, .ref 104), (0, .ref 0), (1, .int x1), (2, .int x2), (3, .int x3), (4, .int x4), (5, .int x5)]) (st := [.int x5, .int x2, .ref 104]) (h := ks i a q r) (i := (.invokevirtual 324, 3, 37, 0, 9, 0, 316)) (mi_k117.2 _ _ (by rfl)) (ft_invS mi_pq37 (by rfl)) (cy := mi_c37) mi_pq37 rfl (kc37_104 hG.I hG.R x2 x5) (by decide) ?_
                    intro vg33 hg33
                    rcases hg33 with ⟨eg33, hg33⟩ | ⟨eg33, hg33⟩
                    ·
                      subst eg33
                      have fi_6659 : ((0 : Int) ≤ (i 6659).toInt) ∧ ((i 6659).toInt ≤ 60) := hG.I.1 6659
                      have z34 : ((0 : Int) ≤ x5.toInt) ∧ (x5.toInt ≤ (i 6659).toInt) ∧ ((0 : Int) ≤ x2.toInt) ∧ ((x2.toInt + x5.toInt) ≤ (i 6659).toInt) := hg33
                      first | refine fo_goS mi_k117 fz117_93_4_102 [.int x5, .int x4, .ref 106] (by rfl) ?_ | refine ft_go mi_k117 4 102 [(7, .ref 106), (6, .ref 104), (0, .ref 0), (1, .int x1), (2, .int x2), (3, .int x3), (4, .int x4), (5, .int x5)] [.int x5, .int x4, .ref 106] i a q r (by rfl) ?_ | refine ko_steps mi_in117 4 _ (102, [(7, .ref 106), (6, .ref 104), (0, .ref 0), (1, .int x1), (2, .int x2), (3, .int x3), (4, .int x4), (5, .int x5)], [.int x5, .int x4, .ref 106], (0, 0), ks i a q r) (by rfl) ?_
                      refine ko_callPI mi_k117.1 (pc := 102) (ls := [(7, .ref 106), (6, .ref 104), (0, .ref 0), (1, .int x1), (2, .int x2), (3, .int x3), (4, .int x4), (5, .int x5)]) (st := [.int x5, .int x4, .ref 106]) (h := ks i a q r) (i := (.invokevirtual 324, 3, 37, 0, 9, 0, 316)) (mi_k117.2 _ _ (by rfl)) (ft_invS mi_pq37 (by rfl)) (cy := mi_c37) mi_pq37 rfl (kc37_106 hG.I hG.R x4 x5) (by decide) ?_
                      intro vg35 hg35
                      rcases hg35 with ⟨eg35, hg35⟩ | ⟨eg35, hg35⟩
                      ·
                        subst eg35
                        have fi_6787 : ((0 : Int) ≤ (i 6787).toInt) ∧ ((i 6787).toInt ≤ 60) := hG.I.1 6787
                        have z36 : ((0 : Int) ≤ x5.toInt) ∧ (x5.toInt ≤ (i 6787).toInt) ∧ ((0 : Int) ≤ x4.toInt) ∧ ((x4.toInt + x5.toInt) ≤ (i 6787).toInt) := hg35
                        first | refine fo_goS mi_k117 fz117_105_8_126 [.int x5, .int x4, .ref 107, .int x2, .ref 105] (by rfl) ?_ | refine ft_go mi_k117 8 126 [(7, .ref 106), (6, .ref 104), (0, .ref 0), (1, .int x1), (2, .int x2), (3, .int x3), (4, .int x4), (5, .int x5)] [.int x5, .int x4, .ref 107, .int x2, .ref 105] i a q r (by rfl) ?_ | refine ko_steps mi_in117 8 _ (126, [(7, .ref 106), (6, .ref 104), (0, .ref 0), (1, .int x1), (2, .int x2), (3, .int x3), (4, .int x4), (5, .int x5)], [.int x5, .int x4, .ref 107, .int x2, .ref 105], (0, 0), ks i a q r) (by rfl) ?_
                        have hJ37 := kG_q hG 107 rfl (z := mi_cpy (q 105) (q 107) x2.toNatClampNeg x4.toNatClampNeg x5.toNatClampNeg) (kcpy_len2 (n := 60) (c := 60) (m := 60) (b := 60) (sp := x2) (dp := x4) (n1 := x5) (hG.I.2.2.2 105) rfl (hG.I.2.2.2 107) rfl (oy3 z34.1) (oy3 z34.2.2.1) (oy3 z36.2.2.1) (oy119 fi_6659.2 z34.2.2.2) (oy119 fi_6787.2 z36.2.2.2))
                        refine ko_copyL2 mi_k117.1 (l := q 105) (g := q 107) (n := 60) (c := 60) (m := 60) (b := 60) (mi_k117.2 _ _ (by rfl)) (by rfl) (by rfl) (by rfl) (by rfl) (by rfl) (hG.I.2.2.2 105) rfl (hG.I.2.2.2 107) rfl (oy3 z34.1) (oy3 z34.2.2.1) (oy3 z36.2.2.1) (oy119 fi_6659.2 z34.2.2.2) (oy119 fi_6787.2 z36.2.2.2) (h5 := ks i a (ku q 107 (mi_cpy (q 105) (q 107) x2.toNatClampNeg x4.toNatClampNeg x5.toNatClampNeg)) r) (by rfl) ?_
                        first | refine fo_goS mi_k117 fz117_129_1_131 [.int x5] (by rfl) ?_ | refine ft_go mi_k117 1 131 [(7, .ref 106), (6, .ref 104), (0, .ref 0), (1, .int x1), (2, .int x2), (3, .int x3), (4, .int x4), (5, .int x5)] [.int x5] i a (ku q 107 (mi_cpy (q 105) (q 107) x2.toNatClampNeg x4.toNatClampNeg x5.toNatClampNeg)) r (by rfl) ?_ | refine ko_steps mi_in117 1 _ (131, [(7, .ref 106), (6, .ref 104), (0, .ref 0), (1, .int x1), (2, .int x2), (3, .int x3), (4, .int x4), (5, .int x5)], [.int x5], (0, 0), ks i a (ku q 107 (mi_cpy (q 105) (q 107) x2.toNatClampNeg x4.toNatClampNeg x5.toNatClampNeg)) r) (by rfl) ?_
                        exact ft_ret mi_k117 (by rfl) (hP x5 _ _ _ _ hJ37 ⟨trivial, ⟨fun s t hs ht e1 e3 => by
        have es : s = 0 := kj_at e1 (oy107 w5 z2.1)
        have et : t = 1 := kj_at e3 (oy126 w24)
        subst es
        subst et
        exact ⟨(Or.inr (Or.inr (Or.inr ⟨rfl, (oy133 c29 c31 c32 fi_6656.2 fi_6784.2 ky2), (oy134 z34.1 z34.2.2.1 z34.2.2.2 z36.2.2.1 z36.2.2.2)⟩))), fun _ => ⟨rfl, (fun u hu ne => match u, hu, ne with | 0, _, _ => rfl | 1, _, ne => absurd rfl ne | 2, _, _ => rfl | 3, _, _ => rfl | 4, _, _ => rfl | 5, _, _ => rfl | _ + 6, h, _ => absurd h (by omega))⟩⟩, fun h => absurd h (oy26 z34.1), fun h => absurd (oy128 w24 z2.1 z2.2 z4.2) h⟩⟩)
                      ·
                        subst eg35
                        have fi_6787 : ((0 : Int) ≤ (i 6787).toInt) ∧ ((i 6787).toInt ≤ 60) := hG.I.1 6787
                        have z38 : ¬ (((0 : Int) ≤ x5.toInt) ∧ (x5.toInt ≤ (i 6787).toInt) ∧ ((0 : Int) ≤ x4.toInt) ∧ ((x4.toInt + x5.toInt) ≤ (i 6787).toInt)) := hg35
                        first | refine fo_goL mi_k117 fz117_93_2_110 [(7, .ref 106), (6, .ref 104), (0, .ref 0), (1, .int x1), (2, .int x2), (3, .int x3), (4, .int x4), (5, .int x5)] [.int (-13)] (by rfl) ?_ | refine fo_goL mi_k117 fz117_105_2_110 [(7, .ref 106), (6, .ref 104), (0, .ref 0), (1, .int x1), (2, .int x2), (3, .int x3), (4, .int x4), (5, .int x5)] [.int (-13)] (by rfl) ?_ | refine ft_go mi_k117 2 110 [(7, .ref 106), (6, .ref 104), (0, .ref 0), (1, .int x1), (2, .int x2), (3, .int x3), (4, .int x4), (5, .int x5)] [.int (-13)] i a q r (by rfl) ?_ | refine ko_steps mi_in117 2 _ (110, [(7, .ref 106), (6, .ref 104), (0, .ref 0), (1, .int x1), (2, .int x2), (3, .int x3), (4, .int x4), (5, .int x5)], [.int (-13)], (0, 0), ks i a q r) (by rfl) ?_
                        exact ft_ret mi_k117 (by rfl) (hP (-13) _ _ _ _ hG ⟨trivial, ⟨fun s t hs ht e1 e3 => by
        have es : s = 0 := kj_at e1 (oy107 w5 z2.1)
        have et : t = 1 := kj_at e3 (oy126 w24)
        subst es
        subst et
        exact ⟨(Or.inr (Or.inr (Or.inl ⟨kym13, (oy133 c29 c31 c32 fi_6656.2 fi_6784.2 ky2), (oy135 z34.1 z38)⟩))), fun h => absurd h (kj_neg kym13 (by decide))⟩, fun _ => (fun u hu => match u, hu with | 0, _ => rfl | 1, _ => rfl | 2, _ => rfl | 3, _ => rfl | 4, _ => rfl | 5, _ => rfl | _ + 6, h => absurd h (by omega)), fun h => absurd (oy128 w24 z2.1 z2.2 z4.2) h⟩⟩)
                    ·
                      subst eg33
                      have fi_6659 : ((0 : Int) ≤ (i 6659).toInt) ∧ ((i 6659).toInt ≤ 60) := hG.I.1 6659
                      have z39 : ¬ (((0 : Int) ≤ x5.toInt) ∧ (x5.toInt ≤ (i 6659).toInt) ∧ ((0 : Int) ≤ x2.toInt) ∧ ((x2.toInt + x5.toInt) ≤ (i 6659).toInt)) := hg33
                      first | refine fo_goL mi_k117 fz117_93_2_110 [(7, .ref 106), (6, .ref 104), (0, .ref 0), (1, .int x1), (2, .int x2), (3, .int x3), (4, .int x4), (5, .int x5)] [.int (-13)] (by rfl) ?_ | refine fo_goL mi_k117 fz117_105_2_110 [(7, .ref 106), (6, .ref 104), (0, .ref 0), (1, .int x1), (2, .int x2), (3, .int x3), (4, .int x4), (5, .int x5)] [.int (-13)] (by rfl) ?_ | refine ft_go mi_k117 2 110 [(7, .ref 106), (6, .ref 104), (0, .ref 0), (1, .int x1), (2, .int x2), (3, .int x3), (4, .int x4), (5, .int x5)] [.int (-13)] i a q r (by rfl) ?_ | refine ko_steps mi_in117 2 _ (110, [(7, .ref 106), (6, .ref 104), (0, .ref 0), (1, .int x1), (2, .int x2), (3, .int x3), (4, .int x4), (5, .int x5)], [.int (-13)], (0, 0), ks i a q r) (by rfl) ?_
                      have fi_6787 : ((0 : Int) ≤ (i 6787).toInt) ∧ ((i 6787).toInt ≤ 60) := hG.I.1 6787
                      exact ft_ret mi_k117 (by rfl) (hP (-13) _ _ _ _ hG ⟨trivial, ⟨fun s t hs ht e1 e3 => by
        have es : s = 0 := kj_at e1 (oy107 w5 z2.1)
        have et : t = 1 := kj_at e3 (oy126 w24)
        subst es
        subst et
        exact ⟨(Or.inr (Or.inr (Or.inl ⟨kym13, (oy133 c29 c31 c32 fi_6656.2 fi_6784.2 ky2), (oy136 z39)⟩))), fun h => absurd h (kj_neg kym13 (by decide))⟩, fun _ => (fun u hu => match u, hu with | 0, _ => rfl | 1, _ => rfl | 2, _ => rfl | 3, _ => rfl | 4, _ => rfl | 5, _ => rfl | _ + 6, h => absurd h (by omega)), fun h => absurd (oy128 w24 z2.1 z2.2 z4.2) h⟩⟩)
                  ·
                    have c40 : (i 6658).toInt ≠ (i 6786).toInt := kd_eqF c; clear c
                    first | refine fo_goL mi_k117 fz117_82_1_84 [(7, .ref 106), (6, .ref 104), (0, .ref 0), (1, .int x1), (2, .int x2), (3, .int x3), (4, .int x4), (5, .int x5)] [.int (-12)] (by rfl) ?_ | refine ft_go mi_k117 1 84 [(7, .ref 106), (6, .ref 104), (0, .ref 0), (1, .int x1), (2, .int x2), (3, .int x3), (4, .int x4), (5, .int x5)] [.int (-12)] i a q r (by rfl) ?_ | refine ko_steps mi_in117 1 _ (84, [(7, .ref 106), (6, .ref 104), (0, .ref 0), (1, .int x1), (2, .int x2), (3, .int x3), (4, .int x4), (5, .int x5)], [.int (-12)], (0, 0), ks i a q r) (by rfl) ?_
                    have fi_6659 : ((0 : Int) ≤ (i 6659).toInt) ∧ ((i 6659).toInt ≤ 60) := hG.I.1 6659
                    have fi_6787 : ((0 : Int) ≤ (i 6787).toInt) ∧ ((i 6787).toInt ≤ 60) := hG.I.1 6787
                    exact ft_ret mi_k117 (by rfl) (hP (-12) _ _ _ _ hG ⟨trivial, ⟨fun s t hs ht e1 e3 => by
        have es : s = 0 := kj_at e1 (oy107 w5 z2.1)
        have et : t = 1 := kj_at e3 (oy126 w24)
        subst es
        subst et
        exact ⟨(Or.inr (Or.inl ⟨kym12, (oy137 c29 c31 ky2), (oy138 c40)⟩)), fun h => absurd h (kj_neg kym12 (by decide))⟩, fun _ => (fun u hu => match u, hu with | 0, _ => rfl | 1, _ => rfl | 2, _ => rfl | 3, _ => rfl | 4, _ => rfl | 5, _ => rfl | _ + 6, h => absurd h (by omega)), fun h => absurd (oy128 w24 z2.1 z2.2 z4.2) h⟩⟩)
            ·
              have c41 : (i 6784).toInt = (0 : Int32).toInt := kd_neF c; clear c
              first | refine fo_goL mi_k117 fz117_48_1_50 [(7, .ref 106), (6, .ref 104), (0, .ref 0), (1, .int x1), (2, .int x2), (3, .int x3), (4, .int x4), (5, .int x5)] [.int (-11)] (by rfl) ?_ | refine ft_go mi_k117 1 50 [(7, .ref 106), (6, .ref 104), (0, .ref 0), (1, .int x1), (2, .int x2), (3, .int x3), (4, .int x4), (5, .int x5)] [.int (-11)] i a q r (by rfl) ?_ | refine ko_steps mi_in117 1 _ (50, [(7, .ref 106), (6, .ref 104), (0, .ref 0), (1, .int x1), (2, .int x2), (3, .int x3), (4, .int x4), (5, .int x5)], [.int (-11)], (0, 0), ks i a q r) (by rfl) ?_
              have fi_6658 : ((0 : Int) ≤ (i 6658).toInt) ∧ ((i 6658).toInt ≤ 4) := hG.I.1 6658
              have fi_6786 : ((0 : Int) ≤ (i 6786).toInt) ∧ ((i 6786).toInt ≤ 4) := hG.I.1 6786
              have fi_6659 : ((0 : Int) ≤ (i 6659).toInt) ∧ ((i 6659).toInt ≤ 60) := hG.I.1 6659
              have fi_6787 : ((0 : Int) ≤ (i 6787).toInt) ∧ ((i 6787).toInt ≤ 60) := hG.I.1 6787
              exact ft_ret mi_k117 (by rfl) (hP (-11) _ _ _ _ hG ⟨trivial, ⟨fun s t hs ht e1 e3 => by
        have es : s = 0 := kj_at e1 (oy107 w5 z2.1)
        have et : t = 1 := kj_at e3 (oy126 w24)
        subst es
        subst et
        exact ⟨(Or.inl ⟨kym11, (oy139 c41 fi_6784.1 ky0)⟩), fun h => absurd h (kj_neg kym11 (by decide))⟩, fun _ => (fun u hu => match u, hu with | 0, _ => rfl | 1, _ => rfl | 2, _ => rfl | 3, _ => rfl | 4, _ => rfl | 5, _ => rfl | _ + 6, h => absurd h (by omega)), fun h => absurd (oy128 w24 z2.1 z2.2 z4.2) h⟩⟩)
        by_cases w42 : x3.toInt = 2
        ·
          refine ko_eq (x1 := (29, [(6, .ref 104), (0, .ref 0), (1, .int x1), (2, .int x2), (3, .int x3), (4, .int x4), (5, .int x5)], [.int 2, .ref 97], (0, 0), ks i a q r)) (by rw [(kj_eq w42 (by decide) : x3 = 2)]) ?_
          have fi_6656 : ((0 : Int) ≤ (i 6656).toInt) ∧ ((i 6656).toInt ≤ 2) := hG.I.1 6656
          first | refine ft_goL mi_k117 4 37 [(7, .ref 108), (6, .ref 104), (0, .ref 0), (1, .int x1), (2, .int x2), (3, .int x3), (4, .int x4), (5, .int x5)] [.int (i 6656)] (by rfl) ?_ | refine ft_go mi_k117 4 37 [(7, .ref 108), (6, .ref 104), (0, .ref 0), (1, .int x1), (2, .int x2), (3, .int x3), (4, .int x4), (5, .int x5)] [.int (i 6656)] i a q r (by rfl) ?_ | refine ko_steps mi_in117 4 _ (37, [(7, .ref 108), (6, .ref 104), (0, .ref 0), (1, .int x1), (2, .int x2), (3, .int x3), (4, .int x4), (5, .int x5)], [.int (i 6656)], (0, 0), ks i a q r) (by rfl) ?_
          refine ft_ifS mi_k117 ((i 6656) == 0) 48 40 [] (by rfl) (fun c => ?_) (fun c => ?_)
          ·
            have c43 : (i 6656).toInt = (0 : Int32).toInt := kd_eq c; clear c
            first | refine fo_goS mi_k117 fz117_48_1_50 [.int (-11)] (by rfl) ?_ | refine ft_go mi_k117 1 50 [(7, .ref 108), (6, .ref 104), (0, .ref 0), (1, .int x1), (2, .int x2), (3, .int x3), (4, .int x4), (5, .int x5)] [.int (-11)] i a q r (by rfl) ?_ | refine ko_steps mi_in117 1 _ (50, [(7, .ref 108), (6, .ref 104), (0, .ref 0), (1, .int x1), (2, .int x2), (3, .int x3), (4, .int x4), (5, .int x5)], [.int (-11)], (0, 0), ks i a q r) (by rfl) ?_
            have fi_6912 : ((0 : Int) ≤ (i 6912).toInt) ∧ ((i 6912).toInt ≤ 2) := hG.I.1 6912
            have fi_6658 : ((0 : Int) ≤ (i 6658).toInt) ∧ ((i 6658).toInt ≤ 4) := hG.I.1 6658
            have fi_6914 : ((0 : Int) ≤ (i 6914).toInt) ∧ ((i 6914).toInt ≤ 4) := hG.I.1 6914
            have fi_6659 : ((0 : Int) ≤ (i 6659).toInt) ∧ ((i 6659).toInt ≤ 60) := hG.I.1 6659
            have fi_6915 : ((0 : Int) ≤ (i 6915).toInt) ∧ ((i 6915).toInt ≤ 60) := hG.I.1 6915
            exact ft_ret mi_k117 (by rfl) (hP (-11) _ _ _ _ hG ⟨trivial, ⟨fun s t hs ht e1 e3 => by
        have es : s = 0 := kj_at e1 (oy107 w5 z2.1)
        have et : t = 2 := kj_at e3 (oy140 w42)
        subst es
        subst et
        exact ⟨(Or.inl ⟨kym11, (oy127 c43 fi_6656.1 ky0)⟩), fun h => absurd h (kj_neg kym11 (by decide))⟩, fun _ => (fun u hu => match u, hu with | 0, _ => rfl | 1, _ => rfl | 2, _ => rfl | 3, _ => rfl | 4, _ => rfl | 5, _ => rfl | _ + 6, h => absurd h (by omega)), fun h => absurd (oy141 w42 z2.1 z2.2 z4.2) h⟩⟩)
          ·
            have c44 : (i 6656).toInt ≠ (0 : Int32).toInt := kd_eqF c; clear c
            have fi_6912 : ((0 : Int) ≤ (i 6912).toInt) ∧ ((i 6912).toInt ≤ 2) := hG.I.1 6912
            first | refine fo_goL mi_k117 fz117_40_2_45 [(7, .ref 108), (6, .ref 104), (0, .ref 0), (1, .int x1), (2, .int x2), (3, .int x3), (4, .int x4), (5, .int x5)] [.int (i 6912)] (by rfl) ?_ | refine ft_go mi_k117 2 45 [(7, .ref 108), (6, .ref 104), (0, .ref 0), (1, .int x1), (2, .int x2), (3, .int x3), (4, .int x4), (5, .int x5)] [.int (i 6912)] i a q r (by rfl) ?_ | refine ko_steps mi_in117 2 _ (45, [(7, .ref 108), (6, .ref 104), (0, .ref 0), (1, .int x1), (2, .int x2), (3, .int x3), (4, .int x4), (5, .int x5)], [.int (i 6912)], (0, 0), ks i a q r) (by rfl) ?_
            refine ft_ifS mi_k117 ((i 6912) != 0) 51 48 [] (by rfl) (fun c => ?_) (fun c => ?_)
            ·
              have c45 : (i 6912).toInt ≠ (0 : Int32).toInt := kd_ne c; clear c
              first | refine fo_goS mi_k117 fz117_51_3_57 [.int 2, .int (i 6656)] (by rfl) ?_ | refine ft_go mi_k117 3 57 [(7, .ref 108), (6, .ref 104), (0, .ref 0), (1, .int x1), (2, .int x2), (3, .int x3), (4, .int x4), (5, .int x5)] [.int 2, .int (i 6656)] i a q r (by rfl) ?_ | refine ko_steps mi_in117 3 _ (57, [(7, .ref 108), (6, .ref 104), (0, .ref 0), (1, .int x1), (2, .int x2), (3, .int x3), (4, .int x4), (5, .int x5)], [.int 2, .int (i 6656)], (0, 0), ks i a q r) (by rfl) ?_
              refine ft_ifS mi_k117 ((i 6656) != 2) 82 60 [] (by rfl) (fun c => ?_) (fun c => ?_)
              ·
                have c46 : (i 6656).toInt ≠ (2 : Int32).toInt := kd_ne c; clear c
                first | refine fo_goS mi_k117 fz117_82_1_84 [.int (-12)] (by rfl) ?_ | refine ft_go mi_k117 1 84 [(7, .ref 108), (6, .ref 104), (0, .ref 0), (1, .int x1), (2, .int x2), (3, .int x3), (4, .int x4), (5, .int x5)] [.int (-12)] i a q r (by rfl) ?_ | refine ko_steps mi_in117 1 _ (84, [(7, .ref 108), (6, .ref 104), (0, .ref 0), (1, .int x1), (2, .int x2), (3, .int x3), (4, .int x4), (5, .int x5)], [.int (-12)], (0, 0), ks i a q r) (by rfl) ?_
                have fi_6658 : ((0 : Int) ≤ (i 6658).toInt) ∧ ((i 6658).toInt ≤ 4) := hG.I.1 6658
                have fi_6914 : ((0 : Int) ≤ (i 6914).toInt) ∧ ((i 6914).toInt ≤ 4) := hG.I.1 6914
                have fi_6659 : ((0 : Int) ≤ (i 6659).toInt) ∧ ((i 6659).toInt ≤ 60) := hG.I.1 6659
                have fi_6915 : ((0 : Int) ≤ (i 6915).toInt) ∧ ((i 6915).toInt ≤ 60) := hG.I.1 6915
                exact ft_ret mi_k117 (by rfl) (hP (-12) _ _ _ _ hG ⟨trivial, ⟨fun s t hs ht e1 e3 => by
        have es : s = 0 := kj_at e1 (oy107 w5 z2.1)
        have et : t = 2 := kj_at e3 (oy140 w42)
        subst es
        subst et
        exact ⟨(Or.inr (Or.inl ⟨kym12, (oy129 c44 c45 fi_6656.1 fi_6912.1 ky0), (oy130 c46 fi_6656.2 ky2)⟩)), fun h => absurd h (kj_neg kym12 (by decide))⟩, fun _ => (fun u hu => match u, hu with | 0, _ => rfl | 1, _ => rfl | 2, _ => rfl | 3, _ => rfl | 4, _ => rfl | 5, _ => rfl | _ + 6, h => absurd h (by omega)), fun h => absurd (oy141 w42 z2.1 z2.2 z4.2) h⟩⟩)
              ·
                have c47 : (i 6656).toInt = (2 : Int32).toInt := kd_neF c; clear c
                first | refine fo_goL mi_k117 fz117_60_3_66 [(7, .ref 108), (6, .ref 104), (0, .ref 0), (1, .int x1), (2, .int x2), (3, .int x3), (4, .int x4), (5, .int x5)] [.int 2, .int (i 6912)] (by rfl) ?_ | refine ft_go mi_k117 3 66 [(7, .ref 108), (6, .ref 104), (0, .ref 0), (1, .int x1), (2, .int x2), (3, .int x3), (4, .int x4), (5, .int x5)] [.int 2, .int (i 6912)] i a q r (by rfl) ?_ | refine ko_steps mi_in117 3 _ (66, [(7, .ref 108), (6, .ref 104), (0, .ref 0), (1, .int x1), (2, .int x2), (3, .int x3), (4, .int x4), (5, .int x5)], [.int 2, .int (i 6912)], (0, 0), ks i a q r) (by rfl) ?_
                refine ft_ifS mi_k117 ((i 6912) != 2) 82 69 [] (by rfl) (fun c => ?_) (fun c => ?_)
                ·
                  have c48 : (i 6912).toInt ≠ (2 : Int32).toInt := kd_ne c; clear c
                  first | refine fo_goS mi_k117 fz117_82_1_84 [.int (-12)] (by rfl) ?_ | refine ft_go mi_k117 1 84 [(7, .ref 108), (6, .ref 104), (0, .ref 0), (1, .int x1), (2, .int x2), (3, .int x3), (4, .int x4), (5, .int x5)] [.int (-12)] i a q r (by rfl) ?_ | refine ko_steps mi_in117 1 _ (84, [(7, .ref 108), (6, .ref 104), (0, .ref 0), (1, .int x1), (2, .int x2), (3, .int x3), (4, .int x4), (5, .int x5)], [.int (-12)], (0, 0), ks i a q r) (by rfl) ?_
                  have fi_6658 : ((0 : Int) ≤ (i 6658).toInt) ∧ ((i 6658).toInt ≤ 4) := hG.I.1 6658
                  have fi_6914 : ((0 : Int) ≤ (i 6914).toInt) ∧ ((i 6914).toInt ≤ 4) := hG.I.1 6914
                  have fi_6659 : ((0 : Int) ≤ (i 6659).toInt) ∧ ((i 6659).toInt ≤ 60) := hG.I.1 6659
                  have fi_6915 : ((0 : Int) ≤ (i 6915).toInt) ∧ ((i 6915).toInt ≤ 60) := hG.I.1 6915
                  exact ft_ret mi_k117 (by rfl) (hP (-12) _ _ _ _ hG ⟨trivial, ⟨fun s t hs ht e1 e3 => by
        have es : s = 0 := kj_at e1 (oy107 w5 z2.1)
        have et : t = 2 := kj_at e3 (oy140 w42)
        subst es
        subst et
        exact ⟨(Or.inr (Or.inl ⟨kym12, (oy131 c45 c47 fi_6912.1 ky0 ky2), (oy132 c48 fi_6912.2 ky2)⟩)), fun h => absurd h (kj_neg kym12 (by decide))⟩, fun _ => (fun u hu => match u, hu with | 0, _ => rfl | 1, _ => rfl | 2, _ => rfl | 3, _ => rfl | 4, _ => rfl | 5, _ => rfl | _ + 6, h => absurd h (by omega)), fun h => absurd (oy141 w42 z2.1 z2.2 z4.2) h⟩⟩)
                ·
                  have c49 : (i 6912).toInt = (2 : Int32).toInt := kd_neF c; clear c
                  have fi_6658 : ((0 : Int) ≤ (i 6658).toInt) ∧ ((i 6658).toInt ≤ 4) := hG.I.1 6658
                  have fi_6914 : ((0 : Int) ≤ (i 6914).toInt) ∧ ((i 6914).toInt ≤ 4) := hG.I.1 6914
                  first | refine fo_goL mi_k117 fz117_69_4_79 [(7, .ref 108), (6, .ref 104), (0, .ref 0), (1, .int x1), (2, .int x2), (3, .int x3), (4, .int x4), (5, .int x5)] [.int (i 6914), .int (i 6658)] (by rfl) ?_ | refine ft_go mi_k117 4 79 [(7, .ref 108), (6, .ref 104), (0, .ref 0), (1, .int x1), (2, .int x2), (3, .int x3), (4, .int x4), (5, .int x5)] [.int (i 6914), .int (i 6658)] i a q r (by rfl) ?_ | refine ko_steps mi_in117 4 _ (79, [(7, .ref 108), (6, .ref 104), (0, .ref 0), (1, .int x1), (2, .int x2), (3, .int x3), (4, .int x4), (5, .int x5)], [.int (i 6914), .int (i 6658)], (0, 0), ks i a q r) (by rfl) ?_
                  refine ft_ifS mi_k117 ((i 6658) == (i 6914)) 85 82 [] (by rfl) (fun c => ?_) (fun c => ?_)
                  ·
                    have c50 : (i 6658).toInt = (i 6914).toInt := kd_eq c; clear c
                    first | refine fo_goS mi_k117 fz117_85_3_90 [.int x5, .int x2, .ref 104] (by rfl) ?_ | refine ft_go mi_k117 3 90 [(7, .ref 108), (6, .ref 104), (0, .ref 0), (1, .int x1), (2, .int x2), (3, .int x3), (4, .int x4), (5, .int x5)] [.int x5, .int x2, .ref 104] i a q r (by rfl) ?_ | refine ko_steps mi_in117 3 _ (90, [(7, .ref 108), (6, .ref 104), (0, .ref 0), (1, .int x1), (2, .int x2), (3, .int x3), (4, .int x4), (5, .int x5)], [.int x5, .int x2, .ref 104], (0, 0), ks i a q r) (by rfl) ?_
                    refine ko_callPI mi_k117.1 (pc := 90) (ls := [(7, .ref 108), (6, .ref 104), (0, .ref 0), (1, .int x1), (2, .int x2), (3, .int x3), (4, .int x4), (5, .int x5)]) (st := [.int x5, .int x2, .ref 104]) (h := ks i a q r) (i := (.invokevirtual 324, 3, 37, 0, 9, 0, 316)) (mi_k117.2 _ _ (by rfl)) (ft_invS mi_pq37 (by rfl)) (cy := mi_c37) mi_pq37 rfl (kc37_104 hG.I hG.R x2 x5) (by decide) ?_
                    intro vg51 hg51
                    rcases hg51 with ⟨eg51, hg51⟩ | ⟨eg51, hg51⟩
                    ·
                      subst eg51
                      have fi_6659 : ((0 : Int) ≤ (i 6659).toInt) ∧ ((i 6659).toInt ≤ 60) := hG.I.1 6659
                      have z52 : ((0 : Int) ≤ x5.toInt) ∧ (x5.toInt ≤ (i 6659).toInt) ∧ ((0 : Int) ≤ x2.toInt) ∧ ((x2.toInt + x5.toInt) ≤ (i 6659).toInt) := hg51
                      first | refine fo_goS mi_k117 fz117_93_4_102 [.int x5, .int x4, .ref 108] (by rfl) ?_ | refine ft_go mi_k117 4 102 [(7, .ref 108), (6, .ref 104), (0, .ref 0), (1, .int x1), (2, .int x2), (3, .int x3), (4, .int x4), (5, .int x5)] [.int x5, .int x4, .ref 108] i a q r (by rfl) ?_ | refine ko_steps mi_in117 4 _ (102, [(7, .ref 108), (6, .ref 104), (0, .ref 0), (1, .int x1), (2, .int x2), (3, .int x3), (4, .int x4), (5, .int x5)], [.int x5, .int x4, .ref 108], (0, 0), ks i a q r) (by rfl) ?_
                      refine ko_callPI mi_k117.1 (pc := 102) (ls := [(7, .ref 108), (6, .ref 104), (0, .ref 0), (1, .int x1), (2, .int x2), (3, .int x3), (4, .int x4), (5, .int x5)]) (st := [.int x5, .int x4, .ref 108]) (h := ks i a q r) (i := (.invokevirtual 324, 3, 37, 0, 9, 0, 316)) (mi_k117.2 _ _ (by rfl)) (ft_invS mi_pq37 (by rfl)) (cy := mi_c37) mi_pq37 rfl (kc37_108 hG.I hG.R x4 x5) (by decide) ?_
                      intro vg53 hg53
                      rcases hg53 with ⟨eg53, hg53⟩ | ⟨eg53, hg53⟩
                      ·
                        subst eg53
                        have fi_6915 : ((0 : Int) ≤ (i 6915).toInt) ∧ ((i 6915).toInt ≤ 60) := hG.I.1 6915
                        have z54 : ((0 : Int) ≤ x5.toInt) ∧ (x5.toInt ≤ (i 6915).toInt) ∧ ((0 : Int) ≤ x4.toInt) ∧ ((x4.toInt + x5.toInt) ≤ (i 6915).toInt) := hg53
                        first | refine fo_goS mi_k117 fz117_105_8_126 [.int x5, .int x4, .ref 109, .int x2, .ref 105] (by rfl) ?_ | refine ft_go mi_k117 8 126 [(7, .ref 108), (6, .ref 104), (0, .ref 0), (1, .int x1), (2, .int x2), (3, .int x3), (4, .int x4), (5, .int x5)] [.int x5, .int x4, .ref 109, .int x2, .ref 105] i a q r (by rfl) ?_ | refine ko_steps mi_in117 8 _ (126, [(7, .ref 108), (6, .ref 104), (0, .ref 0), (1, .int x1), (2, .int x2), (3, .int x3), (4, .int x4), (5, .int x5)], [.int x5, .int x4, .ref 109, .int x2, .ref 105], (0, 0), ks i a q r) (by rfl) ?_
                        have hJ55 := kG_q hG 109 rfl (z := mi_cpy (q 105) (q 109) x2.toNatClampNeg x4.toNatClampNeg x5.toNatClampNeg) (kcpy_len2 (n := 60) (c := 60) (m := 60) (b := 60) (sp := x2) (dp := x4) (n1 := x5) (hG.I.2.2.2 105) rfl (hG.I.2.2.2 109) rfl (oy3 z52.1) (oy3 z52.2.2.1) (oy3 z54.2.2.1) (oy119 fi_6659.2 z52.2.2.2) (oy119 fi_6915.2 z54.2.2.2))
                        refine ko_copyL2 mi_k117.1 (l := q 105) (g := q 109) (n := 60) (c := 60) (m := 60) (b := 60) (mi_k117.2 _ _ (by rfl)) (by rfl) (by rfl) (by rfl) (by rfl) (by rfl) (hG.I.2.2.2 105) rfl (hG.I.2.2.2 109) rfl (oy3 z52.1) (oy3 z52.2.2.1) (oy3 z54.2.2.1) (oy119 fi_6659.2 z52.2.2.2) (oy119 fi_6915.2 z54.2.2.2) (h5 := ks i a (ku q 109 (mi_cpy (q 105) (q 109) x2.toNatClampNeg x4.toNatClampNeg x5.toNatClampNeg)) r) (by rfl) ?_
                        first | refine fo_goS mi_k117 fz117_129_1_131 [.int x5] (by rfl) ?_ | refine ft_go mi_k117 1 131 [(7, .ref 108), (6, .ref 104), (0, .ref 0), (1, .int x1), (2, .int x2), (3, .int x3), (4, .int x4), (5, .int x5)] [.int x5] i a (ku q 109 (mi_cpy (q 105) (q 109) x2.toNatClampNeg x4.toNatClampNeg x5.toNatClampNeg)) r (by rfl) ?_ | refine ko_steps mi_in117 1 _ (131, [(7, .ref 108), (6, .ref 104), (0, .ref 0), (1, .int x1), (2, .int x2), (3, .int x3), (4, .int x4), (5, .int x5)], [.int x5], (0, 0), ks i a (ku q 109 (mi_cpy (q 105) (q 109) x2.toNatClampNeg x4.toNatClampNeg x5.toNatClampNeg)) r) (by rfl) ?_
                        exact ft_ret mi_k117 (by rfl) (hP x5 _ _ _ _ hJ55 ⟨trivial, ⟨fun s t hs ht e1 e3 => by
        have es : s = 0 := kj_at e1 (oy107 w5 z2.1)
        have et : t = 2 := kj_at e3 (oy140 w42)
        subst es
        subst et
        exact ⟨(Or.inr (Or.inr (Or.inr ⟨rfl, (oy133 c47 c49 c50 fi_6656.2 fi_6912.2 ky2), (oy134 z52.1 z52.2.2.1 z52.2.2.2 z54.2.2.1 z54.2.2.2)⟩))), fun _ => ⟨rfl, (fun u hu ne => match u, hu, ne with | 0, _, _ => rfl | 1, _, _ => rfl | 2, _, ne => absurd rfl ne | 3, _, _ => rfl | 4, _, _ => rfl | 5, _, _ => rfl | _ + 6, h, _ => absurd h (by omega))⟩⟩, fun h => absurd h (oy26 z52.1), fun h => absurd (oy141 w42 z2.1 z2.2 z4.2) h⟩⟩)
                      ·
                        subst eg53
                        have fi_6915 : ((0 : Int) ≤ (i 6915).toInt) ∧ ((i 6915).toInt ≤ 60) := hG.I.1 6915
                        have z56 : ¬ (((0 : Int) ≤ x5.toInt) ∧ (x5.toInt ≤ (i 6915).toInt) ∧ ((0 : Int) ≤ x4.toInt) ∧ ((x4.toInt + x5.toInt) ≤ (i 6915).toInt)) := hg53
                        first | refine fo_goL mi_k117 fz117_93_2_110 [(7, .ref 108), (6, .ref 104), (0, .ref 0), (1, .int x1), (2, .int x2), (3, .int x3), (4, .int x4), (5, .int x5)] [.int (-13)] (by rfl) ?_ | refine fo_goL mi_k117 fz117_105_2_110 [(7, .ref 108), (6, .ref 104), (0, .ref 0), (1, .int x1), (2, .int x2), (3, .int x3), (4, .int x4), (5, .int x5)] [.int (-13)] (by rfl) ?_ | refine ft_go mi_k117 2 110 [(7, .ref 108), (6, .ref 104), (0, .ref 0), (1, .int x1), (2, .int x2), (3, .int x3), (4, .int x4), (5, .int x5)] [.int (-13)] i a q r (by rfl) ?_ | refine ko_steps mi_in117 2 _ (110, [(7, .ref 108), (6, .ref 104), (0, .ref 0), (1, .int x1), (2, .int x2), (3, .int x3), (4, .int x4), (5, .int x5)], [.int (-13)], (0, 0), ks i a q r) (by rfl) ?_
                        exact ft_ret mi_k117 (by rfl) (hP (-13) _ _ _ _ hG ⟨trivial, ⟨fun s t hs ht e1 e3 => by
        have es : s = 0 := kj_at e1 (oy107 w5 z2.1)
        have et : t = 2 := kj_at e3 (oy140 w42)
        subst es
        subst et
        exact ⟨(Or.inr (Or.inr (Or.inl ⟨kym13, (oy133 c47 c49 c50 fi_6656.2 fi_6912.2 ky2), (oy135 z52.1 z56)⟩))), fun h => absurd h (kj_neg kym13 (by decide))⟩, fun _ => (fun u hu => match u, hu with | 0, _ => rfl | 1, _ => rfl | 2, _ => rfl | 3, _ => rfl | 4, _ => rfl | 5, _ => rfl | _ + 6, h => absurd h (by omega)), fun h => absurd (oy141 w42 z2.1 z2.2 z4.2) h⟩⟩)
                    ·
                      subst eg51
                      have fi_6659 : ((0 : Int) ≤ (i 6659).toInt) ∧ ((i 6659).toInt ≤ 60) := hG.I.1 6659
                      have z57 : ¬ (((0 : Int) ≤ x5.toInt) ∧ (x5.toInt ≤ (i 6659).toInt) ∧ ((0 : Int) ≤ x2.toInt) ∧ ((x2.toInt + x5.toInt) ≤ (i 6659).toInt)) := hg51
                      first | refine fo_goL mi_k117 fz117_93_2_110 [(7, .ref 108), (6, .ref 104), (0, .ref 0), (1, .int x1), (2, .int x2), (3, .int x3), (4, .int x4), (5, .int x5)] [.int (-13)] (by rfl) ?_ | refine fo_goL mi_k117 fz117_105_2_110 [(7, .ref 108), (6, .ref 104), (0, .ref 0), (1, .int x1), (2, .int x2), (3, .int x3), (4, .int x4), (5, .int x5)] [.int (-13)] (by rfl) ?_ | refine ft_go mi_k117 2 110 [(7, .ref 108), (6, .ref 104), (0, .ref 0), (1, .int x1), (2, .int x2), (3, .int x3), (4, .int x4), (5, .int x5)] [.int (-13)] i a q r (by rfl) ?_ | refine ko_steps mi_in117 2 _ (110, [(7, .ref 108), (6, .ref 104), (0, .ref 0), (1, .int x1), (2, .int x2), (3, .int x3), (4, .int x4), (5, .int x5)], [.int (-13)], (0, 0), ks i a q r) (by rfl) ?_
                      have fi_6915 : ((0 : Int) ≤ (i 6915).toInt) ∧ ((i 6915).toInt ≤ 60) := hG.I.1 6915
                      exact ft_ret mi_k117 (by rfl) (hP (-13) _ _ _ _ hG ⟨trivial, ⟨fun s t hs ht e1 e3 => by
        have es : s = 0 := kj_at e1 (oy107 w5 z2.1)
        have et : t = 2 := kj_at e3 (oy140 w42)
        subst es
        subst et
        exact ⟨(Or.inr (Or.inr (Or.inl ⟨kym13, (oy133 c47 c49 c50 fi_6656.2 fi_6912.2 ky2), (oy136 z57)⟩))), fun h => absurd h (kj_neg kym13 (by decide))⟩, fun _ => (fun u hu => match u, hu with | 0, _ => rfl | 1, _ => rfl | 2, _ => rfl | 3, _ => rfl | 4, _ => rfl | 5, _ => rfl | _ + 6, h => absurd h (by omega)), fun h => absurd (oy141 w42 z2.1 z2.2 z4.2) h⟩⟩)
                  ·
                    have c58 : (i 6658).toInt ≠ (i 6914).toInt := kd_eqF c; clear c
                    first | refine fo_goL mi_k117 fz117_82_1_84 [(7, .ref 108), (6, .ref 104), (0, .ref 0), (1, .int x1), (2, .int x2), (3, .int x3), (4, .int x4), (5, .int x5)] [.int (-12)] (by rfl) ?_ | refine ft_go mi_k117 1 84 [(7, .ref 108), (6, .ref 104), (0, .ref 0), (1, .int x1), (2, .int x2), (3, .int x3), (4, .int x4), (5, .int x5)] [.int (-12)] i a q r (by rfl) ?_ | refine ko_steps mi_in117 1 _ (84, [(7, .ref 108), (6, .ref 104), (0, .ref 0), (1, .int x1), (2, .int x2), (3, .int x3), (4, .int x4), (5, .int x5)], [.int (-12)], (0, 0), ks i a q r) (by rfl) ?_
                    have fi_6659 : ((0 : Int) ≤ (i 6659).toInt) ∧ ((i 6659).toInt ≤ 60) := hG.I.1 6659
                    have fi_6915 : ((0 : Int) ≤ (i 6915).toInt) ∧ ((i 6915).toInt ≤ 60) := hG.I.1 6915
                    exact ft_ret mi_k117 (by rfl) (hP (-12) _ _ _ _ hG ⟨trivial, ⟨fun s t hs ht e1 e3 => by
        have es : s = 0 := kj_at e1 (oy107 w5 z2.1)
        have et : t = 2 := kj_at e3 (oy140 w42)
        subst es
        subst et
        exact ⟨(Or.inr (Or.inl ⟨kym12, (oy137 c47 c49 ky2), (oy138 c58)⟩)), fun h => absurd h (kj_neg kym12 (by decide))⟩, fun _ => (fun u hu => match u, hu with | 0, _ => rfl | 1, _ => rfl | 2, _ => rfl | 3, _ => rfl | 4, _ => rfl | 5, _ => rfl | _ + 6, h => absurd h (by omega)), fun h => absurd (oy141 w42 z2.1 z2.2 z4.2) h⟩⟩)
            ·
              have c59 : (i 6912).toInt = (0 : Int32).toInt := kd_neF c; clear c
              first | refine fo_goL mi_k117 fz117_48_1_50 [(7, .ref 108), (6, .ref 104), (0, .ref 0), (1, .int x1), (2, .int x2), (3, .int x3), (4, .int x4), (5, .int x5)] [.int (-11)] (by rfl) ?_ | refine ft_go mi_k117 1 50 [(7, .ref 108), (6, .ref 104), (0, .ref 0), (1, .int x1), (2, .int x2), (3, .int x3), (4, .int x4), (5, .int x5)] [.int (-11)] i a q r (by rfl) ?_ | refine ko_steps mi_in117 1 _ (50, [(7, .ref 108), (6, .ref 104), (0, .ref 0), (1, .int x1), (2, .int x2), (3, .int x3), (4, .int x4), (5, .int x5)], [.int (-11)], (0, 0), ks i a q r) (by rfl) ?_
              have fi_6658 : ((0 : Int) ≤ (i 6658).toInt) ∧ ((i 6658).toInt ≤ 4) := hG.I.1 6658
              have fi_6914 : ((0 : Int) ≤ (i 6914).toInt) ∧ ((i 6914).toInt ≤ 4) := hG.I.1 6914
              have fi_6659 : ((0 : Int) ≤ (i 6659).toInt) ∧ ((i 6659).toInt ≤ 60) := hG.I.1 6659
              have fi_6915 : ((0 : Int) ≤ (i 6915).toInt) ∧ ((i 6915).toInt ≤ 60) := hG.I.1 6915
              exact ft_ret mi_k117 (by rfl) (hP (-11) _ _ _ _ hG ⟨trivial, ⟨fun s t hs ht e1 e3 => by
        have es : s = 0 := kj_at e1 (oy107 w5 z2.1)
        have et : t = 2 := kj_at e3 (oy140 w42)
        subst es
        subst et
        exact ⟨(Or.inl ⟨kym11, (oy139 c59 fi_6912.1 ky0)⟩), fun h => absurd h (kj_neg kym11 (by decide))⟩, fun _ => (fun u hu => match u, hu with | 0, _ => rfl | 1, _ => rfl | 2, _ => rfl | 3, _ => rfl | 4, _ => rfl | 5, _ => rfl | _ + 6, h => absurd h (by omega)), fun h => absurd (oy141 w42 z2.1 z2.2 z4.2) h⟩⟩)
        by_cases w60 : x3.toInt = 3
        ·
          refine ko_eq (x1 := (29, [(6, .ref 104), (0, .ref 0), (1, .int x1), (2, .int x2), (3, .int x3), (4, .int x4), (5, .int x5)], [.int 3, .ref 97], (0, 0), ks i a q r)) (by rw [(kj_eq w60 (by decide) : x3 = 3)]) ?_
          have fi_6656 : ((0 : Int) ≤ (i 6656).toInt) ∧ ((i 6656).toInt ≤ 2) := hG.I.1 6656
          first | refine ft_goL mi_k117 4 37 [(7, .ref 110), (6, .ref 104), (0, .ref 0), (1, .int x1), (2, .int x2), (3, .int x3), (4, .int x4), (5, .int x5)] [.int (i 6656)] (by rfl) ?_ | refine ft_go mi_k117 4 37 [(7, .ref 110), (6, .ref 104), (0, .ref 0), (1, .int x1), (2, .int x2), (3, .int x3), (4, .int x4), (5, .int x5)] [.int (i 6656)] i a q r (by rfl) ?_ | refine ko_steps mi_in117 4 _ (37, [(7, .ref 110), (6, .ref 104), (0, .ref 0), (1, .int x1), (2, .int x2), (3, .int x3), (4, .int x4), (5, .int x5)], [.int (i 6656)], (0, 0), ks i a q r) (by rfl) ?_
          refine ft_ifS mi_k117 ((i 6656) == 0) 48 40 [] (by rfl) (fun c => ?_) (fun c => ?_)
          ·
            have c61 : (i 6656).toInt = (0 : Int32).toInt := kd_eq c; clear c
            first | refine fo_goS mi_k117 fz117_48_1_50 [.int (-11)] (by rfl) ?_ | refine ft_go mi_k117 1 50 [(7, .ref 110), (6, .ref 104), (0, .ref 0), (1, .int x1), (2, .int x2), (3, .int x3), (4, .int x4), (5, .int x5)] [.int (-11)] i a q r (by rfl) ?_ | refine ko_steps mi_in117 1 _ (50, [(7, .ref 110), (6, .ref 104), (0, .ref 0), (1, .int x1), (2, .int x2), (3, .int x3), (4, .int x4), (5, .int x5)], [.int (-11)], (0, 0), ks i a q r) (by rfl) ?_
            have fi_7040 : ((0 : Int) ≤ (i 7040).toInt) ∧ ((i 7040).toInt ≤ 2) := hG.I.1 7040
            have fi_6658 : ((0 : Int) ≤ (i 6658).toInt) ∧ ((i 6658).toInt ≤ 4) := hG.I.1 6658
            have fi_7042 : ((0 : Int) ≤ (i 7042).toInt) ∧ ((i 7042).toInt ≤ 4) := hG.I.1 7042
            have fi_6659 : ((0 : Int) ≤ (i 6659).toInt) ∧ ((i 6659).toInt ≤ 60) := hG.I.1 6659
            have fi_7043 : ((0 : Int) ≤ (i 7043).toInt) ∧ ((i 7043).toInt ≤ 60) := hG.I.1 7043
            exact ft_ret mi_k117 (by rfl) (hP (-11) _ _ _ _ hG ⟨trivial, ⟨fun s t hs ht e1 e3 => by
        have es : s = 0 := kj_at e1 (oy107 w5 z2.1)
        have et : t = 3 := kj_at e3 (oy142 w60)
        subst es
        subst et
        exact ⟨(Or.inl ⟨kym11, (oy127 c61 fi_6656.1 ky0)⟩), fun h => absurd h (kj_neg kym11 (by decide))⟩, fun _ => (fun u hu => match u, hu with | 0, _ => rfl | 1, _ => rfl | 2, _ => rfl | 3, _ => rfl | 4, _ => rfl | 5, _ => rfl | _ + 6, h => absurd h (by omega)), fun h => absurd (oy143 w60 z2.1 z2.2 z4.2) h⟩⟩)
          ·
            have c62 : (i 6656).toInt ≠ (0 : Int32).toInt := kd_eqF c; clear c
            have fi_7040 : ((0 : Int) ≤ (i 7040).toInt) ∧ ((i 7040).toInt ≤ 2) := hG.I.1 7040
            first | refine fo_goL mi_k117 fz117_40_2_45 [(7, .ref 110), (6, .ref 104), (0, .ref 0), (1, .int x1), (2, .int x2), (3, .int x3), (4, .int x4), (5, .int x5)] [.int (i 7040)] (by rfl) ?_ | refine ft_go mi_k117 2 45 [(7, .ref 110), (6, .ref 104), (0, .ref 0), (1, .int x1), (2, .int x2), (3, .int x3), (4, .int x4), (5, .int x5)] [.int (i 7040)] i a q r (by rfl) ?_ | refine ko_steps mi_in117 2 _ (45, [(7, .ref 110), (6, .ref 104), (0, .ref 0), (1, .int x1), (2, .int x2), (3, .int x3), (4, .int x4), (5, .int x5)], [.int (i 7040)], (0, 0), ks i a q r) (by rfl) ?_
            refine ft_ifS mi_k117 ((i 7040) != 0) 51 48 [] (by rfl) (fun c => ?_) (fun c => ?_)
            ·
              have c63 : (i 7040).toInt ≠ (0 : Int32).toInt := kd_ne c; clear c
              first | refine fo_goS mi_k117 fz117_51_3_57 [.int 2, .int (i 6656)] (by rfl) ?_ | refine ft_go mi_k117 3 57 [(7, .ref 110), (6, .ref 104), (0, .ref 0), (1, .int x1), (2, .int x2), (3, .int x3), (4, .int x4), (5, .int x5)] [.int 2, .int (i 6656)] i a q r (by rfl) ?_ | refine ko_steps mi_in117 3 _ (57, [(7, .ref 110), (6, .ref 104), (0, .ref 0), (1, .int x1), (2, .int x2), (3, .int x3), (4, .int x4), (5, .int x5)], [.int 2, .int (i 6656)], (0, 0), ks i a q r) (by rfl) ?_
              refine ft_ifS mi_k117 ((i 6656) != 2) 82 60 [] (by rfl) (fun c => ?_) (fun c => ?_)
              ·
                have c64 : (i 6656).toInt ≠ (2 : Int32).toInt := kd_ne c; clear c
                first | refine fo_goS mi_k117 fz117_82_1_84 [.int (-12)] (by rfl) ?_ | refine ft_go mi_k117 1 84 [(7, .ref 110), (6, .ref 104), (0, .ref 0), (1, .int x1), (2, .int x2), (3, .int x3), (4, .int x4), (5, .int x5)] [.int (-12)] i a q r (by rfl) ?_ | refine ko_steps mi_in117 1 _ (84, [(7, .ref 110), (6, .ref 104), (0, .ref 0), (1, .int x1), (2, .int x2), (3, .int x3), (4, .int x4), (5, .int x5)], [.int (-12)], (0, 0), ks i a q r) (by rfl) ?_
                have fi_6658 : ((0 : Int) ≤ (i 6658).toInt) ∧ ((i 6658).toInt ≤ 4) := hG.I.1 6658
                have fi_7042 : ((0 : Int) ≤ (i 7042).toInt) ∧ ((i 7042).toInt ≤ 4) := hG.I.1 7042
                have fi_6659 : ((0 : Int) ≤ (i 6659).toInt) ∧ ((i 6659).toInt ≤ 60) := hG.I.1 6659
                have fi_7043 : ((0 : Int) ≤ (i 7043).toInt) ∧ ((i 7043).toInt ≤ 60) := hG.I.1 7043
                exact ft_ret mi_k117 (by rfl) (hP (-12) _ _ _ _ hG ⟨trivial, ⟨fun s t hs ht e1 e3 => by
        have es : s = 0 := kj_at e1 (oy107 w5 z2.1)
        have et : t = 3 := kj_at e3 (oy142 w60)
        subst es
        subst et
        exact ⟨(Or.inr (Or.inl ⟨kym12, (oy129 c62 c63 fi_6656.1 fi_7040.1 ky0), (oy130 c64 fi_6656.2 ky2)⟩)), fun h => absurd h (kj_neg kym12 (by decide))⟩, fun _ => (fun u hu => match u, hu with | 0, _ => rfl | 1, _ => rfl | 2, _ => rfl | 3, _ => rfl | 4, _ => rfl | 5, _ => rfl | _ + 6, h => absurd h (by omega)), fun h => absurd (oy143 w60 z2.1 z2.2 z4.2) h⟩⟩)
              ·
                have c65 : (i 6656).toInt = (2 : Int32).toInt := kd_neF c; clear c
                first | refine fo_goL mi_k117 fz117_60_3_66 [(7, .ref 110), (6, .ref 104), (0, .ref 0), (1, .int x1), (2, .int x2), (3, .int x3), (4, .int x4), (5, .int x5)] [.int 2, .int (i 7040)] (by rfl) ?_ | refine ft_go mi_k117 3 66 [(7, .ref 110), (6, .ref 104), (0, .ref 0), (1, .int x1), (2, .int x2), (3, .int x3), (4, .int x4), (5, .int x5)] [.int 2, .int (i 7040)] i a q r (by rfl) ?_ | refine ko_steps mi_in117 3 _ (66, [(7, .ref 110), (6, .ref 104), (0, .ref 0), (1, .int x1), (2, .int x2), (3, .int x3), (4, .int x4), (5, .int x5)], [.int 2, .int (i 7040)], (0, 0), ks i a q r) (by rfl) ?_
                refine ft_ifS mi_k117 ((i 7040) != 2) 82 69 [] (by rfl) (fun c => ?_) (fun c => ?_)
                ·
                  have c66 : (i 7040).toInt ≠ (2 : Int32).toInt := kd_ne c; clear c
                  first | refine fo_goS mi_k117 fz117_82_1_84 [.int (-12)] (by rfl) ?_ | refine ft_go mi_k117 1 84 [(7, .ref 110), (6, .ref 104), (0, .ref 0), (1, .int x1), (2, .int x2), (3, .int x3), (4, .int x4), (5, .int x5)] [.int (-12)] i a q r (by rfl) ?_ | refine ko_steps mi_in117 1 _ (84, [(7, .ref 110), (6, .ref 104), (0, .ref 0), (1, .int x1), (2, .int x2), (3, .int x3), (4, .int x4), (5, .int x5)], [.int (-12)], (0, 0), ks i a q r) (by rfl) ?_
                  have fi_6658 : ((0 : Int) ≤ (i 6658).toInt) ∧ ((i 6658).toInt ≤ 4) := hG.I.1 6658
                  have fi_7042 : ((0 : Int) ≤ (i 7042).toInt) ∧ ((i 7042).toInt ≤ 4) := hG.I.1 7042
                  have fi_6659 : ((0 : Int) ≤ (i 6659).toInt) ∧ ((i 6659).toInt ≤ 60) := hG.I.1 6659
                  have fi_7043 : ((0 : Int) ≤ (i 7043).toInt) ∧ ((i 7043).toInt ≤ 60) := hG.I.1 7043
                  exact ft_ret mi_k117 (by rfl) (hP (-12) _ _ _ _ hG ⟨trivial, ⟨fun s t hs ht e1 e3 => by
        have es : s = 0 := kj_at e1 (oy107 w5 z2.1)
        have et : t = 3 := kj_at e3 (oy142 w60)
        subst es
        subst et
        exact ⟨(Or.inr (Or.inl ⟨kym12, (oy131 c63 c65 fi_7040.1 ky0 ky2), (oy132 c66 fi_7040.2 ky2)⟩)), fun h => absurd h (kj_neg kym12 (by decide))⟩, fun _ => (fun u hu => match u, hu with | 0, _ => rfl | 1, _ => rfl | 2, _ => rfl | 3, _ => rfl | 4, _ => rfl | 5, _ => rfl | _ + 6, h => absurd h (by omega)), fun h => absurd (oy143 w60 z2.1 z2.2 z4.2) h⟩⟩)
                ·
                  have c67 : (i 7040).toInt = (2 : Int32).toInt := kd_neF c; clear c
                  have fi_6658 : ((0 : Int) ≤ (i 6658).toInt) ∧ ((i 6658).toInt ≤ 4) := hG.I.1 6658
                  have fi_7042 : ((0 : Int) ≤ (i 7042).toInt) ∧ ((i 7042).toInt ≤ 4) := hG.I.1 7042
                  first | refine fo_goL mi_k117 fz117_69_4_79 [(7, .ref 110), (6, .ref 104), (0, .ref 0), (1, .int x1), (2, .int x2), (3, .int x3), (4, .int x4), (5, .int x5)] [.int (i 7042), .int (i 6658)] (by rfl) ?_ | refine ft_go mi_k117 4 79 [(7, .ref 110), (6, .ref 104), (0, .ref 0), (1, .int x1), (2, .int x2), (3, .int x3), (4, .int x4), (5, .int x5)] [.int (i 7042), .int (i 6658)] i a q r (by rfl) ?_ | refine ko_steps mi_in117 4 _ (79, [(7, .ref 110), (6, .ref 104), (0, .ref 0), (1, .int x1), (2, .int x2), (3, .int x3), (4, .int x4), (5, .int x5)], [.int (i 7042), .int (i 6658)], (0, 0), ks i a q r) (by rfl) ?_
                  refine ft_ifS mi_k117 ((i 6658) == (i 7042)) 85 82 [] (by rfl) (fun c => ?_) (fun c => ?_)
                  ·
                    have c68 : (i 6658).toInt = (i 7042).toInt := kd_eq c; clear c
                    first | refine fo_goS mi_k117 fz117_85_3_90 [.int x5, .int x2, .ref 104] (by rfl) ?_ | refine ft_go mi_k117 3 90 [(7, .ref 110), (6, .ref 104), (0, .ref 0), (1, .int x1), (2, .int x2), (3, .int x3), (4, .int x4), (5, .int x5)] [.int x5, .int x2, .ref 104] i a q r (by rfl) ?_ | refine ko_steps mi_in117 3 _ (90, [(7, .ref 110), (6, .ref 104), (0, .ref 0), (1, .int x1), (2, .int x2), (3, .int x3), (4, .int x4), (5, .int x5)], [.int x5, .int x2, .ref 104], (0, 0), ks i a q r) (by rfl) ?_
                    refine ko_callPI mi_k117.1 (pc := 90) (ls := [(7, .ref 110), (6, .ref 104), (0, .ref 0), (1, .int x1), (2, .int x2), (3, .int x3), (4, .int x4), (5, .int x5)]) (st := [.int x5, .int x2, .ref 104]) (h := ks i a q r) (i := (.invokevirtual 324, 3, 37, 0, 9, 0, 316)) (mi_k117.2 _ _ (by rfl)) (ft_invS mi_pq37 (by rfl)) (cy := mi_c37) mi_pq37 rfl (kc37_104 hG.I hG.R x2 x5) (by decide) ?_
                    intro vg69 hg69
                    rcases hg69 with ⟨eg69, hg69⟩ | ⟨eg69, hg69⟩
                    ·
                      subst eg69
                      have fi_6659 : ((0 : Int) ≤ (i 6659).toInt) ∧ ((i 6659).toInt ≤ 60) := hG.I.1 6659
                      have z70 : ((0 : Int) ≤ x5.toInt) ∧ (x5.toInt ≤ (i 6659).toInt) ∧ ((0 : Int) ≤ x2.toInt) ∧ ((x2.toInt + x5.toInt) ≤ (i 6659).toInt) := hg69
                      first | refine fo_goS mi_k117 fz117_93_4_102 [.int x5, .int x4, .ref 110] (by rfl) ?_ | refine ft_go mi_k117 4 102 [(7, .ref 110), (6, .ref 104), (0, .ref 0), (1, .int x1), (2, .int x2), (3, .int x3), (4, .int x4), (5, .int x5)] [.int x5, .int x4, .ref 110] i a q r (by rfl) ?_ | refine ko_steps mi_in117 4 _ (102, [(7, .ref 110), (6, .ref 104), (0, .ref 0), (1, .int x1), (2, .int x2), (3, .int x3), (4, .int x4), (5, .int x5)], [.int x5, .int x4, .ref 110], (0, 0), ks i a q r) (by rfl) ?_
                      refine ko_callPI mi_k117.1 (pc := 102) (ls := [(7, .ref 110), (6, .ref 104), (0, .ref 0), (1, .int x1), (2, .int x2), (3, .int x3), (4, .int x4), (5, .int x5)]) (st := [.int x5, .int x4, .ref 110]) (h := ks i a q r) (i := (.invokevirtual 324, 3, 37, 0, 9, 0, 316)) (mi_k117.2 _ _ (by rfl)) (ft_invS mi_pq37 (by rfl)) (cy := mi_c37) mi_pq37 rfl (kc37_110 hG.I hG.R x4 x5) (by decide) ?_
                      intro vg71 hg71
                      rcases hg71 with ⟨eg71, hg71⟩ | ⟨eg71, hg71⟩
                      ·
                        subst eg71
                        have fi_7043 : ((0 : Int) ≤ (i 7043).toInt) ∧ ((i 7043).toInt ≤ 60) := hG.I.1 7043
                        have z72 : ((0 : Int) ≤ x5.toInt) ∧ (x5.toInt ≤ (i 7043).toInt) ∧ ((0 : Int) ≤ x4.toInt) ∧ ((x4.toInt + x5.toInt) ≤ (i 7043).toInt) := hg71
                        first | refine fo_goS mi_k117 fz117_105_8_126 [.int x5, .int x4, .ref 111, .int x2, .ref 105] (by rfl) ?_ | refine ft_go mi_k117 8 126 [(7, .ref 110), (6, .ref 104), (0, .ref 0), (1, .int x1), (2, .int x2), (3, .int x3), (4, .int x4), (5, .int x5)] [.int x5, .int x4, .ref 111, .int x2, .ref 105] i a q r (by rfl) ?_ | refine ko_steps mi_in117 8 _ (126, [(7, .ref 110), (6, .ref 104), (0, .ref 0), (1, .int x1), (2, .int x2), (3, .int x3), (4, .int x4), (5, .int x5)], [.int x5, .int x4, .ref 111, .int x2, .ref 105], (0, 0), ks i a q r) (by rfl) ?_
                        have hJ73 := kG_q hG 111 rfl (z := mi_cpy (q 105) (q 111) x2.toNatClampNeg x4.toNatClampNeg x5.toNatClampNeg) (kcpy_len2 (n := 60) (c := 60) (m := 60) (b := 60) (sp := x2) (dp := x4) (n1 := x5) (hG.I.2.2.2 105) rfl (hG.I.2.2.2 111) rfl (oy3 z70.1) (oy3 z70.2.2.1) (oy3 z72.2.2.1) (oy119 fi_6659.2 z70.2.2.2) (oy119 fi_7043.2 z72.2.2.2))
                        refine ko_copyL2 mi_k117.1 (l := q 105) (g := q 111) (n := 60) (c := 60) (m := 60) (b := 60) (mi_k117.2 _ _ (by rfl)) (by rfl) (by rfl) (by rfl) (by rfl) (by rfl) (hG.I.2.2.2 105) rfl (hG.I.2.2.2 111) rfl (oy3 z70.1) (oy3 z70.2.2.1) (oy3 z72.2.2.1) (oy119 fi_6659.2 z70.2.2.2) (oy119 fi_7043.2 z72.2.2.2) (h5 := ks i a (ku q 111 (mi_cpy (q 105) (q 111) x2.toNatClampNeg x4.toNatClampNeg x5.toNatClampNeg)) r) (by rfl) ?_
                        first | refine fo_goS mi_k117 fz117_129_1_131 [.int x5] (by rfl) ?_ | refine ft_go mi_k117 1 131 [(7, .ref 110), (6, .ref 104), (0, .ref 0), (1, .int x1), (2, .int x2), (3, .int x3), (4, .int x4), (5, .int x5)] [.int x5] i a (ku q 111 (mi_cpy (q 105) (q 111) x2.toNatClampNeg x4.toNatClampNeg x5.toNatClampNeg)) r (by rfl) ?_ | refine ko_steps mi_in117 1 _ (131, [(7, .ref 110), (6, .ref 104), (0, .ref 0), (1, .int x1), (2, .int x2), (3, .int x3), (4, .int x4), (5, .int x5)], [.int x5], (0, 0), ks i a (ku q 111 (mi_cpy (q 105) (q 111) x2.toNatClampNeg x4.toNatClampNeg x5.toNatClampNeg)) r) (by rfl) ?_
                        exact ft_ret mi_k117 (by rfl) (hP x5 _ _ _ _ hJ73 ⟨trivial, ⟨fun s t hs ht e1 e3 => by
        have es : s = 0 := kj_at e1 (oy107 w5 z2.1)
        have et : t = 3 := kj_at e3 (oy142 w60)
        subst es
        subst et
        exact ⟨(Or.inr (Or.inr (Or.inr ⟨rfl, (oy133 c65 c67 c68 fi_6656.2 fi_7040.2 ky2), (oy134 z70.1 z70.2.2.1 z70.2.2.2 z72.2.2.1 z72.2.2.2)⟩))), fun _ => ⟨rfl, (fun u hu ne => match u, hu, ne with | 0, _, _ => rfl | 1, _, _ => rfl | 2, _, _ => rfl | 3, _, ne => absurd rfl ne | 4, _, _ => rfl | 5, _, _ => rfl | _ + 6, h, _ => absurd h (by omega))⟩⟩, fun h => absurd h (oy26 z70.1), fun h => absurd (oy143 w60 z2.1 z2.2 z4.2) h⟩⟩)
                      ·
                        subst eg71
                        have fi_7043 : ((0 : Int) ≤ (i 7043).toInt) ∧ ((i 7043).toInt ≤ 60) := hG.I.1 7043
                        have z74 : ¬ (((0 : Int) ≤ x5.toInt) ∧ (x5.toInt ≤ (i 7043).toInt) ∧ ((0 : Int) ≤ x4.toInt) ∧ ((x4.toInt + x5.toInt) ≤ (i 7043).toInt)) := hg71
                        first | refine fo_goL mi_k117 fz117_93_2_110 [(7, .ref 110), (6, .ref 104), (0, .ref 0), (1, .int x1), (2, .int x2), (3, .int x3), (4, .int x4), (5, .int x5)] [.int (-13)] (by rfl) ?_ | refine fo_goL mi_k117 fz117_105_2_110 [(7, .ref 110), (6, .ref 104), (0, .ref 0), (1, .int x1), (2, .int x2), (3, .int x3), (4, .int x4), (5, .int x5)] [.int (-13)] (by rfl) ?_ | refine ft_go mi_k117 2 110 [(7, .ref 110), (6, .ref 104), (0, .ref 0), (1, .int x1), (2, .int x2), (3, .int x3), (4, .int x4), (5, .int x5)] [.int (-13)] i a q r (by rfl) ?_ | refine ko_steps mi_in117 2 _ (110, [(7, .ref 110), (6, .ref 104), (0, .ref 0), (1, .int x1), (2, .int x2), (3, .int x3), (4, .int x4), (5, .int x5)], [.int (-13)], (0, 0), ks i a q r) (by rfl) ?_
                        exact ft_ret mi_k117 (by rfl) (hP (-13) _ _ _ _ hG ⟨trivial, ⟨fun s t hs ht e1 e3 => by
        have es : s = 0 := kj_at e1 (oy107 w5 z2.1)
        have et : t = 3 := kj_at e3 (oy142 w60)
        subst es
        subst et
        exact ⟨(Or.inr (Or.inr (Or.inl ⟨kym13, (oy133 c65 c67 c68 fi_6656.2 fi_7040.2 ky2), (oy135 z70.1 z74)⟩))), fun h => absurd h (kj_neg kym13 (by decide))⟩, fun _ => (fun u hu => match u, hu with | 0, _ => rfl | 1, _ => rfl | 2, _ => rfl | 3, _ => rfl | 4, _ => rfl | 5, _ => rfl | _ + 6, h => absurd h (by omega)), fun h => absurd (oy143 w60 z2.1 z2.2 z4.2) h⟩⟩)
                    ·
                      subst eg69
                      have fi_6659 : ((0 : Int) ≤ (i 6659).toInt) ∧ ((i 6659).toInt ≤ 60) := hG.I.1 6659
                      have z75 : ¬ (((0 : Int) ≤ x5.toInt) ∧ (x5.toInt ≤ (i 6659).toInt) ∧ ((0 : Int) ≤ x2.toInt) ∧ ((x2.toInt + x5.toInt) ≤ (i 6659).toInt)) := hg69
                      first | refine fo_goL mi_k117 fz117_93_2_110 [(7, .ref 110), (6, .ref 104), (0, .ref 0), (1, .int x1), (2, .int x2), (3, .int x3), (4, .int x4), (5, .int x5)] [.int (-13)] (by rfl) ?_ | refine fo_goL mi_k117 fz117_105_2_110 [(7, .ref 110), (6, .ref 104), (0, .ref 0), (1, .int x1), (2, .int x2), (3, .int x3), (4, .int x4), (5, .int x5)] [.int (-13)] (by rfl) ?_ | refine ft_go mi_k117 2 110 [(7, .ref 110), (6, .ref 104), (0, .ref 0), (1, .int x1), (2, .int x2), (3, .int x3), (4, .int x4), (5, .int x5)] [.int (-13)] i a q r (by rfl) ?_ | refine ko_steps mi_in117 2 _ (110, [(7, .ref 110), (6, .ref 104), (0, .ref 0), (1, .int x1), (2, .int x2), (3, .int x3), (4, .int x4), (5, .int x5)], [.int (-13)], (0, 0), ks i a q r) (by rfl) ?_
                      have fi_7043 : ((0 : Int) ≤ (i 7043).toInt) ∧ ((i 7043).toInt ≤ 60) := hG.I.1 7043
                      exact ft_ret mi_k117 (by rfl) (hP (-13) _ _ _ _ hG ⟨trivial, ⟨fun s t hs ht e1 e3 => by
        have es : s = 0 := kj_at e1 (oy107 w5 z2.1)
        have et : t = 3 := kj_at e3 (oy142 w60)
        subst es
        subst et
        exact ⟨(Or.inr (Or.inr (Or.inl ⟨kym13, (oy133 c65 c67 c68 fi_6656.2 fi_7040.2 ky2), (oy136 z75)⟩))), fun h => absurd h (kj_neg kym13 (by decide))⟩, fun _ => (fun u hu => match u, hu with | 0, _ => rfl | 1, _ => rfl | 2, _ => rfl | 3, _ => rfl | 4, _ => rfl | 5, _ => rfl | _ + 6, h => absurd h (by omega)), fun h => absurd (oy143 w60 z2.1 z2.2 z4.2) h⟩⟩)
                  ·
                    have c76 : (i 6658).toInt ≠ (i 7042).toInt := kd_eqF c; clear c
                    first | refine fo_goL mi_k117 fz117_82_1_84 [(7, .ref 110), (6, .ref 104), (0, .ref 0), (1, .int x1), (2, .int x2), (3, .int x3), (4, .int x4), (5, .int x5)] [.int (-12)] (by rfl) ?_ | refine ft_go mi_k117 1 84 [(7, .ref 110), (6, .ref 104), (0, .ref 0), (1, .int x1), (2, .int x2), (3, .int x3), (4, .int x4), (5, .int x5)] [.int (-12)] i a q r (by rfl) ?_ | refine ko_steps mi_in117 1 _ (84, [(7, .ref 110), (6, .ref 104), (0, .ref 0), (1, .int x1), (2, .int x2), (3, .int x3), (4, .int x4), (5, .int x5)], [.int (-12)], (0, 0), ks i a q r) (by rfl) ?_
                    have fi_6659 : ((0 : Int) ≤ (i 6659).toInt) ∧ ((i 6659).toInt ≤ 60) := hG.I.1 6659
                    have fi_7043 : ((0 : Int) ≤ (i 7043).toInt) ∧ ((i 7043).toInt ≤ 60) := hG.I.1 7043
                    exact ft_ret mi_k117 (by rfl) (hP (-12) _ _ _ _ hG ⟨trivial, ⟨fun s t hs ht e1 e3 => by
        have es : s = 0 := kj_at e1 (oy107 w5 z2.1)
        have et : t = 3 := kj_at e3 (oy142 w60)
        subst es
        subst et
        exact ⟨(Or.inr (Or.inl ⟨kym12, (oy137 c65 c67 ky2), (oy138 c76)⟩)), fun h => absurd h (kj_neg kym12 (by decide))⟩, fun _ => (fun u hu => match u, hu with | 0, _ => rfl | 1, _ => rfl | 2, _ => rfl | 3, _ => rfl | 4, _ => rfl | 5, _ => rfl | _ + 6, h => absurd h (by omega)), fun h => absurd (oy143 w60 z2.1 z2.2 z4.2) h⟩⟩)
            ·
              have c77 : (i 7040).toInt = (0 : Int32).toInt := kd_neF c; clear c
              first | refine fo_goL mi_k117 fz117_48_1_50 [(7, .ref 110), (6, .ref 104), (0, .ref 0), (1, .int x1), (2, .int x2), (3, .int x3), (4, .int x4), (5, .int x5)] [.int (-11)] (by rfl) ?_ | refine ft_go mi_k117 1 50 [(7, .ref 110), (6, .ref 104), (0, .ref 0), (1, .int x1), (2, .int x2), (3, .int x3), (4, .int x4), (5, .int x5)] [.int (-11)] i a q r (by rfl) ?_ | refine ko_steps mi_in117 1 _ (50, [(7, .ref 110), (6, .ref 104), (0, .ref 0), (1, .int x1), (2, .int x2), (3, .int x3), (4, .int x4), (5, .int x5)], [.int (-11)], (0, 0), ks i a q r) (by rfl) ?_
              have fi_6658 : ((0 : Int) ≤ (i 6658).toInt) ∧ ((i 6658).toInt ≤ 4) := hG.I.1 6658
              have fi_7042 : ((0 : Int) ≤ (i 7042).toInt) ∧ ((i 7042).toInt ≤ 4) := hG.I.1 7042
              have fi_6659 : ((0 : Int) ≤ (i 6659).toInt) ∧ ((i 6659).toInt ≤ 60) := hG.I.1 6659
              have fi_7043 : ((0 : Int) ≤ (i 7043).toInt) ∧ ((i 7043).toInt ≤ 60) := hG.I.1 7043
              exact ft_ret mi_k117 (by rfl) (hP (-11) _ _ _ _ hG ⟨trivial, ⟨fun s t hs ht e1 e3 => by
        have es : s = 0 := kj_at e1 (oy107 w5 z2.1)
        have et : t = 3 := kj_at e3 (oy142 w60)
        subst es
        subst et
        exact ⟨(Or.inl ⟨kym11, (oy139 c77 fi_7040.1 ky0)⟩), fun h => absurd h (kj_neg kym11 (by decide))⟩, fun _ => (fun u hu => match u, hu with | 0, _ => rfl | 1, _ => rfl | 2, _ => rfl | 3, _ => rfl | 4, _ => rfl | 5, _ => rfl | _ + 6, h => absurd h (by omega)), fun h => absurd (oy143 w60 z2.1 z2.2 z4.2) h⟩⟩)
        by_cases w78 : x3.toInt = 4
        ·
          refine ko_eq (x1 := (29, [(6, .ref 104), (0, .ref 0), (1, .int x1), (2, .int x2), (3, .int x3), (4, .int x4), (5, .int x5)], [.int 4, .ref 97], (0, 0), ks i a q r)) (by rw [(kj_eq w78 (by decide) : x3 = 4)]) ?_
          have fi_6656 : ((0 : Int) ≤ (i 6656).toInt) ∧ ((i 6656).toInt ≤ 2) := hG.I.1 6656
          first | refine ft_goL mi_k117 4 37 [(7, .ref 112), (6, .ref 104), (0, .ref 0), (1, .int x1), (2, .int x2), (3, .int x3), (4, .int x4), (5, .int x5)] [.int (i 6656)] (by rfl) ?_ | refine ft_go mi_k117 4 37 [(7, .ref 112), (6, .ref 104), (0, .ref 0), (1, .int x1), (2, .int x2), (3, .int x3), (4, .int x4), (5, .int x5)] [.int (i 6656)] i a q r (by rfl) ?_ | refine ko_steps mi_in117 4 _ (37, [(7, .ref 112), (6, .ref 104), (0, .ref 0), (1, .int x1), (2, .int x2), (3, .int x3), (4, .int x4), (5, .int x5)], [.int (i 6656)], (0, 0), ks i a q r) (by rfl) ?_
          refine ft_ifS mi_k117 ((i 6656) == 0) 48 40 [] (by rfl) (fun c => ?_) (fun c => ?_)
          ·
            have c79 : (i 6656).toInt = (0 : Int32).toInt := kd_eq c; clear c
            first | refine fo_goS mi_k117 fz117_48_1_50 [.int (-11)] (by rfl) ?_ | refine ft_go mi_k117 1 50 [(7, .ref 112), (6, .ref 104), (0, .ref 0), (1, .int x1), (2, .int x2), (3, .int x3), (4, .int x4), (5, .int x5)] [.int (-11)] i a q r (by rfl) ?_ | refine ko_steps mi_in117 1 _ (50, [(7, .ref 112), (6, .ref 104), (0, .ref 0), (1, .int x1), (2, .int x2), (3, .int x3), (4, .int x4), (5, .int x5)], [.int (-11)], (0, 0), ks i a q r) (by rfl) ?_
            have fi_7168 : ((0 : Int) ≤ (i 7168).toInt) ∧ ((i 7168).toInt ≤ 2) := hG.I.1 7168
            have fi_6658 : ((0 : Int) ≤ (i 6658).toInt) ∧ ((i 6658).toInt ≤ 4) := hG.I.1 6658
            have fi_7170 : ((0 : Int) ≤ (i 7170).toInt) ∧ ((i 7170).toInt ≤ 4) := hG.I.1 7170
            have fi_6659 : ((0 : Int) ≤ (i 6659).toInt) ∧ ((i 6659).toInt ≤ 60) := hG.I.1 6659
            have fi_7171 : ((0 : Int) ≤ (i 7171).toInt) ∧ ((i 7171).toInt ≤ 60) := hG.I.1 7171
            exact ft_ret mi_k117 (by rfl) (hP (-11) _ _ _ _ hG ⟨trivial, ⟨fun s t hs ht e1 e3 => by
        have es : s = 0 := kj_at e1 (oy107 w5 z2.1)
        have et : t = 4 := kj_at e3 (oy144 w78)
        subst es
        subst et
        exact ⟨(Or.inl ⟨kym11, (oy127 c79 fi_6656.1 ky0)⟩), fun h => absurd h (kj_neg kym11 (by decide))⟩, fun _ => (fun u hu => match u, hu with | 0, _ => rfl | 1, _ => rfl | 2, _ => rfl | 3, _ => rfl | 4, _ => rfl | 5, _ => rfl | _ + 6, h => absurd h (by omega)), fun h => absurd (oy145 w78 z2.1 z2.2 z4.2) h⟩⟩)
          ·
            have c80 : (i 6656).toInt ≠ (0 : Int32).toInt := kd_eqF c; clear c
            have fi_7168 : ((0 : Int) ≤ (i 7168).toInt) ∧ ((i 7168).toInt ≤ 2) := hG.I.1 7168
            first | refine fo_goL mi_k117 fz117_40_2_45 [(7, .ref 112), (6, .ref 104), (0, .ref 0), (1, .int x1), (2, .int x2), (3, .int x3), (4, .int x4), (5, .int x5)] [.int (i 7168)] (by rfl) ?_ | refine ft_go mi_k117 2 45 [(7, .ref 112), (6, .ref 104), (0, .ref 0), (1, .int x1), (2, .int x2), (3, .int x3), (4, .int x4), (5, .int x5)] [.int (i 7168)] i a q r (by rfl) ?_ | refine ko_steps mi_in117 2 _ (45, [(7, .ref 112), (6, .ref 104), (0, .ref 0), (1, .int x1), (2, .int x2), (3, .int x3), (4, .int x4), (5, .int x5)], [.int (i 7168)], (0, 0), ks i a q r) (by rfl) ?_
            refine ft_ifS mi_k117 ((i 7168) != 0) 51 48 [] (by rfl) (fun c => ?_) (fun c => ?_)
            ·
              have c81 : (i 7168).toInt ≠ (0 : Int32).toInt := kd_ne c; clear c
              first | refine fo_goS mi_k117 fz117_51_3_57 [.int 2, .int (i 6656)] (by rfl) ?_ | refine ft_go mi_k117 3 57 [(7, .ref 112), (6, .ref 104), (0, .ref 0), (1, .int x1), (2, .int x2), (3, .int x3), (4, .int x4), (5, .int x5)] [.int 2, .int (i 6656)] i a q r (by rfl) ?_ | refine ko_steps mi_in117 3 _ (57, [(7, .ref 112), (6, .ref 104), (0, .ref 0), (1, .int x1), (2, .int x2), (3, .int x3), (4, .int x4), (5, .int x5)], [.int 2, .int (i 6656)], (0, 0), ks i a q r) (by rfl) ?_
              refine ft_ifS mi_k117 ((i 6656) != 2) 82 60 [] (by rfl) (fun c => ?_) (fun c => ?_)
              ·
                have c82 : (i 6656).toInt ≠ (2 : Int32).toInt := kd_ne c; clear c
                first | refine fo_goS mi_k117 fz117_82_1_84 [.int (-12)] (by rfl) ?_ | refine ft_go mi_k117 1 84 [(7, .ref 112), (6, .ref 104), (0, .ref 0), (1, .int x1), (2, .int x2), (3, .int x3), (4, .int x4), (5, .int x5)] [.int (-12)] i a q r (by rfl) ?_ | refine ko_steps mi_in117 1 _ (84, [(7, .ref 112), (6, .ref 104), (0, .ref 0), (1, .int x1), (2, .int x2), (3, .int x3), (4, .int x4), (5, .int x5)], [.int (-12)], (0, 0), ks i a q r) (by rfl) ?_
                have fi_6658 : ((0 : Int) ≤ (i 6658).toInt) ∧ ((i 6658).toInt ≤ 4) := hG.I.1 6658
                have fi_7170 : ((0 : Int) ≤ (i 7170).toInt) ∧ ((i 7170).toInt ≤ 4) := hG.I.1 7170
                have fi_6659 : ((0 : Int) ≤ (i 6659).toInt) ∧ ((i 6659).toInt ≤ 60) := hG.I.1 6659
                have fi_7171 : ((0 : Int) ≤ (i 7171).toInt) ∧ ((i 7171).toInt ≤ 60) := hG.I.1 7171
                exact ft_ret mi_k117 (by rfl) (hP (-12) _ _ _ _ hG ⟨trivial, ⟨fun s t hs ht e1 e3 => by
        have es : s = 0 := kj_at e1 (oy107 w5 z2.1)
        have et : t = 4 := kj_at e3 (oy144 w78)
        subst es
        subst et
        exact ⟨(Or.inr (Or.inl ⟨kym12, (oy129 c80 c81 fi_6656.1 fi_7168.1 ky0), (oy130 c82 fi_6656.2 ky2)⟩)), fun h => absurd h (kj_neg kym12 (by decide))⟩, fun _ => (fun u hu => match u, hu with | 0, _ => rfl | 1, _ => rfl | 2, _ => rfl | 3, _ => rfl | 4, _ => rfl | 5, _ => rfl | _ + 6, h => absurd h (by omega)), fun h => absurd (oy145 w78 z2.1 z2.2 z4.2) h⟩⟩)
              ·
                have c83 : (i 6656).toInt = (2 : Int32).toInt := kd_neF c; clear c
                first | refine fo_goL mi_k117 fz117_60_3_66 [(7, .ref 112), (6, .ref 104), (0, .ref 0), (1, .int x1), (2, .int x2), (3, .int x3), (4, .int x4), (5, .int x5)] [.int 2, .int (i 7168)] (by rfl) ?_ | refine ft_go mi_k117 3 66 [(7, .ref 112), (6, .ref 104), (0, .ref 0), (1, .int x1), (2, .int x2), (3, .int x3), (4, .int x4), (5, .int x5)] [.int 2, .int (i 7168)] i a q r (by rfl) ?_ | refine ko_steps mi_in117 3 _ (66, [(7, .ref 112), (6, .ref 104), (0, .ref 0), (1, .int x1), (2, .int x2), (3, .int x3), (4, .int x4), (5, .int x5)], [.int 2, .int (i 7168)], (0, 0), ks i a q r) (by rfl) ?_
                refine ft_ifS mi_k117 ((i 7168) != 2) 82 69 [] (by rfl) (fun c => ?_) (fun c => ?_)
                ·
                  have c84 : (i 7168).toInt ≠ (2 : Int32).toInt := kd_ne c; clear c
                  first | refine fo_goS mi_k117 fz117_82_1_84 [.int (-12)] (by rfl) ?_ | refine ft_go mi_k117 1 84 [(7, .ref 112), (6, .ref 104), (0, .ref 0), (1, .int x1), (2, .int x2), (3, .int x3), (4, .int x4), (5, .int x5)] [.int (-12)] i a q r (by rfl) ?_ | refine ko_steps mi_in117 1 _ (84, [(7, .ref 112), (6, .ref 104), (0, .ref 0), (1, .int x1), (2, .int x2), (3, .int x3), (4, .int x4), (5, .int x5)], [.int (-12)], (0, 0), ks i a q r) (by rfl) ?_
                  have fi_6658 : ((0 : Int) ≤ (i 6658).toInt) ∧ ((i 6658).toInt ≤ 4) := hG.I.1 6658
                  have fi_7170 : ((0 : Int) ≤ (i 7170).toInt) ∧ ((i 7170).toInt ≤ 4) := hG.I.1 7170
                  have fi_6659 : ((0 : Int) ≤ (i 6659).toInt) ∧ ((i 6659).toInt ≤ 60) := hG.I.1 6659
                  have fi_7171 : ((0 : Int) ≤ (i 7171).toInt) ∧ ((i 7171).toInt ≤ 60) := hG.I.1 7171
                  exact ft_ret mi_k117 (by rfl) (hP (-12) _ _ _ _ hG ⟨trivial, ⟨fun s t hs ht e1 e3 => by
        have es : s = 0 := kj_at e1 (oy107 w5 z2.1)
        have et : t = 4 := kj_at e3 (oy144 w78)
        subst es
        subst et
        exact ⟨(Or.inr (Or.inl ⟨kym12, (oy131 c81 c83 fi_7168.1 ky0 ky2), (oy132 c84 fi_7168.2 ky2)⟩)), fun h => absurd h (kj_neg kym12 (by decide))⟩, fun _ => (fun u hu => match u, hu with | 0, _ => rfl | 1, _ => rfl | 2, _ => rfl | 3, _ => rfl | 4, _ => rfl | 5, _ => rfl | _ + 6, h => absurd h (by omega)), fun h => absurd (oy145 w78 z2.1 z2.2 z4.2) h⟩⟩)
                ·
                  have c85 : (i 7168).toInt = (2 : Int32).toInt := kd_neF c; clear c
                  have fi_6658 : ((0 : Int) ≤ (i 6658).toInt) ∧ ((i 6658).toInt ≤ 4) := hG.I.1 6658
                  have fi_7170 : ((0 : Int) ≤ (i 7170).toInt) ∧ ((i 7170).toInt ≤ 4) := hG.I.1 7170
                  first | refine fo_goL mi_k117 fz117_69_4_79 [(7, .ref 112), (6, .ref 104), (0, .ref 0), (1, .int x1), (2, .int x2), (3, .int x3), (4, .int x4), (5, .int x5)] [.int (i 7170), .int (i 6658)] (by rfl) ?_ | refine ft_go mi_k117 4 79 [(7, .ref 112), (6, .ref 104), (0, .ref 0), (1, .int x1), (2, .int x2), (3, .int x3), (4, .int x4), (5, .int x5)] [.int (i 7170), .int (i 6658)] i a q r (by rfl) ?_ | refine ko_steps mi_in117 4 _ (79, [(7, .ref 112), (6, .ref 104), (0, .ref 0), (1, .int x1), (2, .int x2), (3, .int x3), (4, .int x4), (5, .int x5)], [.int (i 7170), .int (i 6658)], (0, 0), ks i a q r) (by rfl) ?_
                  refine ft_ifS mi_k117 ((i 6658) == (i 7170)) 85 82 [] (by rfl) (fun c => ?_) (fun c => ?_)
                  ·
                    have c86 : (i 6658).toInt = (i 7170).toInt := kd_eq c; clear c
                    first | refine fo_goS mi_k117 fz117_85_3_90 [.int x5, .int x2, .ref 104] (by rfl) ?_ | refine ft_go mi_k117 3 90 [(7, .ref 112), (6, .ref 104), (0, .ref 0), (1, .int x1), (2, .int x2), (3, .int x3), (4, .int x4), (5, .int x5)] [.int x5, .int x2, .ref 104] i a q r (by rfl) ?_ | refine ko_steps mi_in117 3 _ (90, [(7, .ref 112), (6, .ref 104), (0, .ref 0), (1, .int x1), (2, .int x2), (3, .int x3), (4, .int x4), (5, .int x5)], [.int x5, .int x2, .ref 104], (0, 0), ks i a q r) (by rfl) ?_
                    refine ko_callPI mi_k117.1 (pc := 90) (ls := [(7, .ref 112), (6, .ref 104), (0, .ref 0), (1, .int x1), (2, .int x2), (3, .int x3), (4, .int x4), (5, .int x5)]) (st := [.int x5, .int x2, .ref 104]) (h := ks i a q r) (i := (.invokevirtual 324, 3, 37, 0, 9, 0, 316)) (mi_k117.2 _ _ (by rfl)) (ft_invS mi_pq37 (by rfl)) (cy := mi_c37) mi_pq37 rfl (kc37_104 hG.I hG.R x2 x5) (by decide) ?_
                    intro vg87 hg87
                    rcases hg87 with ⟨eg87, hg87⟩ | ⟨eg87, hg87⟩
                    ·
                      subst eg87
                      have fi_6659 : ((0 : Int) ≤ (i 6659).toInt) ∧ ((i 6659).toInt ≤ 60) := hG.I.1 6659
                      have z88 : ((0 : Int) ≤ x5.toInt) ∧ (x5.toInt ≤ (i 6659).toInt) ∧ ((0 : Int) ≤ x2.toInt) ∧ ((x2.toInt + x5.toInt) ≤ (i 6659).toInt) := hg87
                      first | refine fo_goS mi_k117 fz117_93_4_102 [.int x5, .int x4, .ref 112] (by rfl) ?_ | refine ft_go mi_k117 4 102 [(7, .ref 112), (6, .ref 104), (0, .ref 0), (1, .int x1), (2, .int x2), (3, .int x3), (4, .int x4), (5, .int x5)] [.int x5, .int x4, .ref 112] i a q r (by rfl) ?_ | refine ko_steps mi_in117 4 _ (102, [(7, .ref 112), (6, .ref 104), (0, .ref 0), (1, .int x1), (2, .int x2), (3, .int x3), (4, .int x4), (5, .int x5)], [.int x5, .int x4, .ref 112], (0, 0), ks i a q r) (by rfl) ?_
                      refine ko_callPI mi_k117.1 (pc := 102) (ls := [(7, .ref 112), (6, .ref 104), (0, .ref 0), (1, .int x1), (2, .int x2), (3, .int x3), (4, .int x4), (5, .int x5)]) (st := [.int x5, .int x4, .ref 112]) (h := ks i a q r) (i := (.invokevirtual 324, 3, 37, 0, 9, 0, 316)) (mi_k117.2 _ _ (by rfl)) (ft_invS mi_pq37 (by rfl)) (cy := mi_c37) mi_pq37 rfl (kc37_112 hG.I hG.R x4 x5) (by decide) ?_
                      intro vg89 hg89
                      rcases hg89 with ⟨eg89, hg89⟩ | ⟨eg89, hg89⟩
                      ·
                        subst eg89
                        have fi_7171 : ((0 : Int) ≤ (i 7171).toInt) ∧ ((i 7171).toInt ≤ 60) := hG.I.1 7171
                        have z90 : ((0 : Int) ≤ x5.toInt) ∧ (x5.toInt ≤ (i 7171).toInt) ∧ ((0 : Int) ≤ x4.toInt) ∧ ((x4.toInt + x5.toInt) ≤ (i 7171).toInt) := hg89
                        first | refine fo_goS mi_k117 fz117_105_8_126 [.int x5, .int x4, .ref 113, .int x2, .ref 105] (by rfl) ?_ | refine ft_go mi_k117 8 126 [(7, .ref 112), (6, .ref 104), (0, .ref 0), (1, .int x1), (2, .int x2), (3, .int x3), (4, .int x4), (5, .int x5)] [.int x5, .int x4, .ref 113, .int x2, .ref 105] i a q r (by rfl) ?_ | refine ko_steps mi_in117 8 _ (126, [(7, .ref 112), (6, .ref 104), (0, .ref 0), (1, .int x1), (2, .int x2), (3, .int x3), (4, .int x4), (5, .int x5)], [.int x5, .int x4, .ref 113, .int x2, .ref 105], (0, 0), ks i a q r) (by rfl) ?_
                        have hJ91 := kG_q hG 113 rfl (z := mi_cpy (q 105) (q 113) x2.toNatClampNeg x4.toNatClampNeg x5.toNatClampNeg) (kcpy_len2 (n := 60) (c := 60) (m := 60) (b := 60) (sp := x2) (dp := x4) (n1 := x5) (hG.I.2.2.2 105) rfl (hG.I.2.2.2 113) rfl (oy3 z88.1) (oy3 z88.2.2.1) (oy3 z90.2.2.1) (oy119 fi_6659.2 z88.2.2.2) (oy119 fi_7171.2 z90.2.2.2))
                        refine ko_copyL2 mi_k117.1 (l := q 105) (g := q 113) (n := 60) (c := 60) (m := 60) (b := 60) (mi_k117.2 _ _ (by rfl)) (by rfl) (by rfl) (by rfl) (by rfl) (by rfl) (hG.I.2.2.2 105) rfl (hG.I.2.2.2 113) rfl (oy3 z88.1) (oy3 z88.2.2.1) (oy3 z90.2.2.1) (oy119 fi_6659.2 z88.2.2.2) (oy119 fi_7171.2 z90.2.2.2) (h5 := ks i a (ku q 113 (mi_cpy (q 105) (q 113) x2.toNatClampNeg x4.toNatClampNeg x5.toNatClampNeg)) r) (by rfl) ?_
                        first | refine fo_goS mi_k117 fz117_129_1_131 [.int x5] (by rfl) ?_ | refine ft_go mi_k117 1 131 [(7, .ref 112), (6, .ref 104), (0, .ref 0), (1, .int x1), (2, .int x2), (3, .int x3), (4, .int x4), (5, .int x5)] [.int x5] i a (ku q 113 (mi_cpy (q 105) (q 113) x2.toNatClampNeg x4.toNatClampNeg x5.toNatClampNeg)) r (by rfl) ?_ | refine ko_steps mi_in117 1 _ (131, [(7, .ref 112), (6, .ref 104), (0, .ref 0), (1, .int x1), (2, .int x2), (3, .int x3), (4, .int x4), (5, .int x5)], [.int x5], (0, 0), ks i a (ku q 113 (mi_cpy (q 105) (q 113) x2.toNatClampNeg x4.toNatClampNeg x5.toNatClampNeg)) r) (by rfl) ?_
                        exact ft_ret mi_k117 (by rfl) (hP x5 _ _ _ _ hJ91 ⟨trivial, ⟨fun s t hs ht e1 e3 => by
        have es : s = 0 := kj_at e1 (oy107 w5 z2.1)
        have et : t = 4 := kj_at e3 (oy144 w78)
        subst es
        subst et
        exact ⟨(Or.inr (Or.inr (Or.inr ⟨rfl, (oy133 c83 c85 c86 fi_6656.2 fi_7168.2 ky2), (oy134 z88.1 z88.2.2.1 z88.2.2.2 z90.2.2.1 z90.2.2.2)⟩))), fun _ => ⟨rfl, (fun u hu ne => match u, hu, ne with | 0, _, _ => rfl | 1, _, _ => rfl | 2, _, _ => rfl | 3, _, _ => rfl | 4, _, ne => absurd rfl ne | 5, _, _ => rfl | _ + 6, h, _ => absurd h (by omega))⟩⟩, fun h => absurd h (oy26 z88.1), fun h => absurd (oy145 w78 z2.1 z2.2 z4.2) h⟩⟩)
                      ·
                        subst eg89
                        have fi_7171 : ((0 : Int) ≤ (i 7171).toInt) ∧ ((i 7171).toInt ≤ 60) := hG.I.1 7171
                        have z92 : ¬ (((0 : Int) ≤ x5.toInt) ∧ (x5.toInt ≤ (i 7171).toInt) ∧ ((0 : Int) ≤ x4.toInt) ∧ ((x4.toInt + x5.toInt) ≤ (i 7171).toInt)) := hg89
                        first | refine fo_goL mi_k117 fz117_93_2_110 [(7, .ref 112), (6, .ref 104), (0, .ref 0), (1, .int x1), (2, .int x2), (3, .int x3), (4, .int x4), (5, .int x5)] [.int (-13)] (by rfl) ?_ | refine fo_goL mi_k117 fz117_105_2_110 [(7, .ref 112), (6, .ref 104), (0, .ref 0), (1, .int x1), (2, .int x2), (3, .int x3), (4, .int x4), (5, .int x5)] [.int (-13)] (by rfl) ?_ | refine ft_go mi_k117 2 110 [(7, .ref 112), (6, .ref 104), (0, .ref 0), (1, .int x1), (2, .int x2), (3, .int x3), (4, .int x4), (5, .int x5)] [.int (-13)] i a q r (by rfl) ?_ | refine ko_steps mi_in117 2 _ (110, [(7, .ref 112), (6, .ref 104), (0, .ref 0), (1, .int x1), (2, .int x2), (3, .int x3), (4, .int x4), (5, .int x5)], [.int (-13)], (0, 0), ks i a q r) (by rfl) ?_
                        exact ft_ret mi_k117 (by rfl) (hP (-13) _ _ _ _ hG ⟨trivial, ⟨fun s t hs ht e1 e3 => by
        have es : s = 0 := kj_at e1 (oy107 w5 z2.1)
        have et : t = 4 := kj_at e3 (oy144 w78)
        subst es
        subst et
        exact ⟨(Or.inr (Or.inr (Or.inl ⟨kym13, (oy133 c83 c85 c86 fi_6656.2 fi_7168.2 ky2), (oy135 z88.1 z92)⟩))), fun h => absurd h (kj_neg kym13 (by decide))⟩, fun _ => (fun u hu => match u, hu with | 0, _ => rfl | 1, _ => rfl | 2, _ => rfl | 3, _ => rfl | 4, _ => rfl | 5, _ => rfl | _ + 6, h => absurd h (by omega)), fun h => absurd (oy145 w78 z2.1 z2.2 z4.2) h⟩⟩)
                    ·
                      subst eg87
                      have fi_6659 : ((0 : Int) ≤ (i 6659).toInt) ∧ ((i 6659).toInt ≤ 60) := hG.I.1 6659
                      have z93 : ¬ (((0 : Int) ≤ x5.toInt) ∧ (x5.toInt ≤ (i 6659).toInt) ∧ ((0 : Int) ≤ x2.toInt) ∧ ((x2.toInt + x5.toInt) ≤ (i 6659).toInt)) := hg87
                      first | refine fo_goL mi_k117 fz117_93_2_110 [(7, .ref 112), (6, .ref 104), (0, .ref 0), (1, .int x1), (2, .int x2), (3, .int x3), (4, .int x4), (5, .int x5)] [.int (-13)] (by rfl) ?_ | refine fo_goL mi_k117 fz117_105_2_110 [(7, .ref 112), (6, .ref 104), (0, .ref 0), (1, .int x1), (2, .int x2), (3, .int x3), (4, .int x4), (5, .int x5)] [.int (-13)] (by rfl) ?_ | refine ft_go mi_k117 2 110 [(7, .ref 112), (6, .ref 104), (0, .ref 0), (1, .int x1), (2, .int x2), (3, .int x3), (4, .int x4), (5, .int x5)] [.int (-13)] i a q r (by rfl) ?_ | refine ko_steps mi_in117 2 _ (110, [(7, .ref 112), (6, .ref 104), (0, .ref 0), (1, .int x1), (2, .int x2), (3, .int x3), (4, .int x4), (5, .int x5)], [.int (-13)], (0, 0), ks i a q r) (by rfl) ?_
                      have fi_7171 : ((0 : Int) ≤ (i 7171).toInt) ∧ ((i 7171).toInt ≤ 60) := hG.I.1 7171
                      exact ft_ret mi_k117 (by rfl) (hP (-13) _ _ _ _ hG ⟨trivial, ⟨fun s t hs ht e1 e3 => by
        have es : s = 0 := kj_at e1 (oy107 w5 z2.1)
        have et : t = 4 := kj_at e3 (oy144 w78)
        subst es
        subst et
        exact ⟨(Or.inr (Or.inr (Or.inl ⟨kym13, (oy133 c83 c85 c86 fi_6656.2 fi_7168.2 ky2), (oy136 z93)⟩))), fun h => absurd h (kj_neg kym13 (by decide))⟩, fun _ => (fun u hu => match u, hu with | 0, _ => rfl | 1, _ => rfl | 2, _ => rfl | 3, _ => rfl | 4, _ => rfl | 5, _ => rfl | _ + 6, h => absurd h (by omega)), fun h => absurd (oy145 w78 z2.1 z2.2 z4.2) h⟩⟩)
                  ·
                    have c94 : (i 6658).toInt ≠ (i 7170).toInt := kd_eqF c; clear c
                    first | refine fo_goL mi_k117 fz117_82_1_84 [(7, .ref 112), (6, .ref 104), (0, .ref 0), (1, .int x1), (2, .int x2), (3, .int x3), (4, .int x4), (5, .int x5)] [.int (-12)] (by rfl) ?_ | refine ft_go mi_k117 1 84 [(7, .ref 112), (6, .ref 104), (0, .ref 0), (1, .int x1), (2, .int x2), (3, .int x3), (4, .int x4), (5, .int x5)] [.int (-12)] i a q r (by rfl) ?_ | refine ko_steps mi_in117 1 _ (84, [(7, .ref 112), (6, .ref 104), (0, .ref 0), (1, .int x1), (2, .int x2), (3, .int x3), (4, .int x4), (5, .int x5)], [.int (-12)], (0, 0), ks i a q r) (by rfl) ?_
                    have fi_6659 : ((0 : Int) ≤ (i 6659).toInt) ∧ ((i 6659).toInt ≤ 60) := hG.I.1 6659
                    have fi_7171 : ((0 : Int) ≤ (i 7171).toInt) ∧ ((i 7171).toInt ≤ 60) := hG.I.1 7171
                    exact ft_ret mi_k117 (by rfl) (hP (-12) _ _ _ _ hG ⟨trivial, ⟨fun s t hs ht e1 e3 => by
        have es : s = 0 := kj_at e1 (oy107 w5 z2.1)
        have et : t = 4 := kj_at e3 (oy144 w78)
        subst es
        subst et
        exact ⟨(Or.inr (Or.inl ⟨kym12, (oy137 c83 c85 ky2), (oy138 c94)⟩)), fun h => absurd h (kj_neg kym12 (by decide))⟩, fun _ => (fun u hu => match u, hu with | 0, _ => rfl | 1, _ => rfl | 2, _ => rfl | 3, _ => rfl | 4, _ => rfl | 5, _ => rfl | _ + 6, h => absurd h (by omega)), fun h => absurd (oy145 w78 z2.1 z2.2 z4.2) h⟩⟩)
            ·
              have c95 : (i 7168).toInt = (0 : Int32).toInt := kd_neF c; clear c
              first | refine fo_goL mi_k117 fz117_48_1_50 [(7, .ref 112), (6, .ref 104), (0, .ref 0), (1, .int x1), (2, .int x2), (3, .int x3), (4, .int x4), (5, .int x5)] [.int (-11)] (by rfl) ?_ | refine ft_go mi_k117 1 50 [(7, .ref 112), (6, .ref 104), (0, .ref 0), (1, .int x1), (2, .int x2), (3, .int x3), (4, .int x4), (5, .int x5)] [.int (-11)] i a q r (by rfl) ?_ | refine ko_steps mi_in117 1 _ (50, [(7, .ref 112), (6, .ref 104), (0, .ref 0), (1, .int x1), (2, .int x2), (3, .int x3), (4, .int x4), (5, .int x5)], [.int (-11)], (0, 0), ks i a q r) (by rfl) ?_
              have fi_6658 : ((0 : Int) ≤ (i 6658).toInt) ∧ ((i 6658).toInt ≤ 4) := hG.I.1 6658
              have fi_7170 : ((0 : Int) ≤ (i 7170).toInt) ∧ ((i 7170).toInt ≤ 4) := hG.I.1 7170
              have fi_6659 : ((0 : Int) ≤ (i 6659).toInt) ∧ ((i 6659).toInt ≤ 60) := hG.I.1 6659
              have fi_7171 : ((0 : Int) ≤ (i 7171).toInt) ∧ ((i 7171).toInt ≤ 60) := hG.I.1 7171
              exact ft_ret mi_k117 (by rfl) (hP (-11) _ _ _ _ hG ⟨trivial, ⟨fun s t hs ht e1 e3 => by
        have es : s = 0 := kj_at e1 (oy107 w5 z2.1)
        have et : t = 4 := kj_at e3 (oy144 w78)
        subst es
        subst et
        exact ⟨(Or.inl ⟨kym11, (oy139 c95 fi_7168.1 ky0)⟩), fun h => absurd h (kj_neg kym11 (by decide))⟩, fun _ => (fun u hu => match u, hu with | 0, _ => rfl | 1, _ => rfl | 2, _ => rfl | 3, _ => rfl | 4, _ => rfl | 5, _ => rfl | _ + 6, h => absurd h (by omega)), fun h => absurd (oy145 w78 z2.1 z2.2 z4.2) h⟩⟩)
        by_cases w96 : x3.toInt = 5
        ·
          refine ko_eq (x1 := (29, [(6, .ref 104), (0, .ref 0), (1, .int x1), (2, .int x2), (3, .int x3), (4, .int x4), (5, .int x5)], [.int 5, .ref 97], (0, 0), ks i a q r)) (by rw [(kj_eq w96 (by decide) : x3 = 5)]) ?_
          have fi_6656 : ((0 : Int) ≤ (i 6656).toInt) ∧ ((i 6656).toInt ≤ 2) := hG.I.1 6656
          first | refine ft_goL mi_k117 4 37 [(7, .ref 114), (6, .ref 104), (0, .ref 0), (1, .int x1), (2, .int x2), (3, .int x3), (4, .int x4), (5, .int x5)] [.int (i 6656)] (by rfl) ?_ | refine ft_go mi_k117 4 37 [(7, .ref 114), (6, .ref 104), (0, .ref 0), (1, .int x1), (2, .int x2), (3, .int x3), (4, .int x4), (5, .int x5)] [.int (i 6656)] i a q r (by rfl) ?_ | refine ko_steps mi_in117 4 _ (37, [(7, .ref 114), (6, .ref 104), (0, .ref 0), (1, .int x1), (2, .int x2), (3, .int x3), (4, .int x4), (5, .int x5)], [.int (i 6656)], (0, 0), ks i a q r) (by rfl) ?_
          refine ft_ifS mi_k117 ((i 6656) == 0) 48 40 [] (by rfl) (fun c => ?_) (fun c => ?_)
          ·
            have c97 : (i 6656).toInt = (0 : Int32).toInt := kd_eq c; clear c
            first | refine fo_goS mi_k117 fz117_48_1_50 [.int (-11)] (by rfl) ?_ | refine ft_go mi_k117 1 50 [(7, .ref 114), (6, .ref 104), (0, .ref 0), (1, .int x1), (2, .int x2), (3, .int x3), (4, .int x4), (5, .int x5)] [.int (-11)] i a q r (by rfl) ?_ | refine ko_steps mi_in117 1 _ (50, [(7, .ref 114), (6, .ref 104), (0, .ref 0), (1, .int x1), (2, .int x2), (3, .int x3), (4, .int x4), (5, .int x5)], [.int (-11)], (0, 0), ks i a q r) (by rfl) ?_
            have fi_7296 : ((0 : Int) ≤ (i 7296).toInt) ∧ ((i 7296).toInt ≤ 2) := hG.I.1 7296
            have fi_6658 : ((0 : Int) ≤ (i 6658).toInt) ∧ ((i 6658).toInt ≤ 4) := hG.I.1 6658
            have fi_7298 : ((0 : Int) ≤ (i 7298).toInt) ∧ ((i 7298).toInt ≤ 4) := hG.I.1 7298
            have fi_6659 : ((0 : Int) ≤ (i 6659).toInt) ∧ ((i 6659).toInt ≤ 60) := hG.I.1 6659
            have fi_7299 : ((0 : Int) ≤ (i 7299).toInt) ∧ ((i 7299).toInt ≤ 60) := hG.I.1 7299
            exact ft_ret mi_k117 (by rfl) (hP (-11) _ _ _ _ hG ⟨trivial, ⟨fun s t hs ht e1 e3 => by
        have es : s = 0 := kj_at e1 (oy107 w5 z2.1)
        have et : t = 5 := kj_at e3 (oy146 w96 z4.2)
        subst es
        subst et
        exact ⟨(Or.inl ⟨kym11, (oy127 c97 fi_6656.1 ky0)⟩), fun h => absurd h (kj_neg kym11 (by decide))⟩, fun _ => (fun u hu => match u, hu with | 0, _ => rfl | 1, _ => rfl | 2, _ => rfl | 3, _ => rfl | 4, _ => rfl | 5, _ => rfl | _ + 6, h => absurd h (by omega)), fun h => absurd (oy147 w96 z2.1 z2.2 z4.2) h⟩⟩)
          ·
            have c98 : (i 6656).toInt ≠ (0 : Int32).toInt := kd_eqF c; clear c
            have fi_7296 : ((0 : Int) ≤ (i 7296).toInt) ∧ ((i 7296).toInt ≤ 2) := hG.I.1 7296
            first | refine fo_goL mi_k117 fz117_40_2_45 [(7, .ref 114), (6, .ref 104), (0, .ref 0), (1, .int x1), (2, .int x2), (3, .int x3), (4, .int x4), (5, .int x5)] [.int (i 7296)] (by rfl) ?_ | refine ft_go mi_k117 2 45 [(7, .ref 114), (6, .ref 104), (0, .ref 0), (1, .int x1), (2, .int x2), (3, .int x3), (4, .int x4), (5, .int x5)] [.int (i 7296)] i a q r (by rfl) ?_ | refine ko_steps mi_in117 2 _ (45, [(7, .ref 114), (6, .ref 104), (0, .ref 0), (1, .int x1), (2, .int x2), (3, .int x3), (4, .int x4), (5, .int x5)], [.int (i 7296)], (0, 0), ks i a q r) (by rfl) ?_
            refine ft_ifS mi_k117 ((i 7296) != 0) 51 48 [] (by rfl) (fun c => ?_) (fun c => ?_)
            ·
              have c99 : (i 7296).toInt ≠ (0 : Int32).toInt := kd_ne c; clear c
              first | refine fo_goS mi_k117 fz117_51_3_57 [.int 2, .int (i 6656)] (by rfl) ?_ | refine ft_go mi_k117 3 57 [(7, .ref 114), (6, .ref 104), (0, .ref 0), (1, .int x1), (2, .int x2), (3, .int x3), (4, .int x4), (5, .int x5)] [.int 2, .int (i 6656)] i a q r (by rfl) ?_ | refine ko_steps mi_in117 3 _ (57, [(7, .ref 114), (6, .ref 104), (0, .ref 0), (1, .int x1), (2, .int x2), (3, .int x3), (4, .int x4), (5, .int x5)], [.int 2, .int (i 6656)], (0, 0), ks i a q r) (by rfl) ?_
              refine ft_ifS mi_k117 ((i 6656) != 2) 82 60 [] (by rfl) (fun c => ?_) (fun c => ?_)
              ·
                have c100 : (i 6656).toInt ≠ (2 : Int32).toInt := kd_ne c; clear c
                first | refine fo_goS mi_k117 fz117_82_1_84 [.int (-12)] (by rfl) ?_ | refine ft_go mi_k117 1 84 [(7, .ref 114), (6, .ref 104), (0, .ref 0), (1, .int x1), (2, .int x2), (3, .int x3), (4, .int x4), (5, .int x5)] [.int (-12)] i a q r (by rfl) ?_ | refine ko_steps mi_in117 1 _ (84, [(7, .ref 114), (6, .ref 104), (0, .ref 0), (1, .int x1), (2, .int x2), (3, .int x3), (4, .int x4), (5, .int x5)], [.int (-12)], (0, 0), ks i a q r) (by rfl) ?_
                have fi_6658 : ((0 : Int) ≤ (i 6658).toInt) ∧ ((i 6658).toInt ≤ 4) := hG.I.1 6658
                have fi_7298 : ((0 : Int) ≤ (i 7298).toInt) ∧ ((i 7298).toInt ≤ 4) := hG.I.1 7298
                have fi_6659 : ((0 : Int) ≤ (i 6659).toInt) ∧ ((i 6659).toInt ≤ 60) := hG.I.1 6659
                have fi_7299 : ((0 : Int) ≤ (i 7299).toInt) ∧ ((i 7299).toInt ≤ 60) := hG.I.1 7299
                exact ft_ret mi_k117 (by rfl) (hP (-12) _ _ _ _ hG ⟨trivial, ⟨fun s t hs ht e1 e3 => by
        have es : s = 0 := kj_at e1 (oy107 w5 z2.1)
        have et : t = 5 := kj_at e3 (oy146 w96 z4.2)
        subst es
        subst et
        exact ⟨(Or.inr (Or.inl ⟨kym12, (oy129 c98 c99 fi_6656.1 fi_7296.1 ky0), (oy130 c100 fi_6656.2 ky2)⟩)), fun h => absurd h (kj_neg kym12 (by decide))⟩, fun _ => (fun u hu => match u, hu with | 0, _ => rfl | 1, _ => rfl | 2, _ => rfl | 3, _ => rfl | 4, _ => rfl | 5, _ => rfl | _ + 6, h => absurd h (by omega)), fun h => absurd (oy147 w96 z2.1 z2.2 z4.2) h⟩⟩)
              ·
                have c101 : (i 6656).toInt = (2 : Int32).toInt := kd_neF c; clear c
                first | refine fo_goL mi_k117 fz117_60_3_66 [(7, .ref 114), (6, .ref 104), (0, .ref 0), (1, .int x1), (2, .int x2), (3, .int x3), (4, .int x4), (5, .int x5)] [.int 2, .int (i 7296)] (by rfl) ?_ | refine ft_go mi_k117 3 66 [(7, .ref 114), (6, .ref 104), (0, .ref 0), (1, .int x1), (2, .int x2), (3, .int x3), (4, .int x4), (5, .int x5)] [.int 2, .int (i 7296)] i a q r (by rfl) ?_ | refine ko_steps mi_in117 3 _ (66, [(7, .ref 114), (6, .ref 104), (0, .ref 0), (1, .int x1), (2, .int x2), (3, .int x3), (4, .int x4), (5, .int x5)], [.int 2, .int (i 7296)], (0, 0), ks i a q r) (by rfl) ?_
                refine ft_ifS mi_k117 ((i 7296) != 2) 82 69 [] (by rfl) (fun c => ?_) (fun c => ?_)
                ·
                  have c102 : (i 7296).toInt ≠ (2 : Int32).toInt := kd_ne c; clear c
                  first | refine fo_goS mi_k117 fz117_82_1_84 [.int (-12)] (by rfl) ?_ | refine ft_go mi_k117 1 84 [(7, .ref 114), (6, .ref 104), (0, .ref 0), (1, .int x1), (2, .int x2), (3, .int x3), (4, .int x4), (5, .int x5)] [.int (-12)] i a q r (by rfl) ?_ | refine ko_steps mi_in117 1 _ (84, [(7, .ref 114), (6, .ref 104), (0, .ref 0), (1, .int x1), (2, .int x2), (3, .int x3), (4, .int x4), (5, .int x5)], [.int (-12)], (0, 0), ks i a q r) (by rfl) ?_
                  have fi_6658 : ((0 : Int) ≤ (i 6658).toInt) ∧ ((i 6658).toInt ≤ 4) := hG.I.1 6658
                  have fi_7298 : ((0 : Int) ≤ (i 7298).toInt) ∧ ((i 7298).toInt ≤ 4) := hG.I.1 7298
                  have fi_6659 : ((0 : Int) ≤ (i 6659).toInt) ∧ ((i 6659).toInt ≤ 60) := hG.I.1 6659
                  have fi_7299 : ((0 : Int) ≤ (i 7299).toInt) ∧ ((i 7299).toInt ≤ 60) := hG.I.1 7299
                  exact ft_ret mi_k117 (by rfl) (hP (-12) _ _ _ _ hG ⟨trivial, ⟨fun s t hs ht e1 e3 => by
        have es : s = 0 := kj_at e1 (oy107 w5 z2.1)
        have et : t = 5 := kj_at e3 (oy146 w96 z4.2)
        subst es
        subst et
        exact ⟨(Or.inr (Or.inl ⟨kym12, (oy148 c101 c99 fi_7296.1 ky2 ky0), (oy132 c102 fi_7296.2 ky2)⟩)), fun h => absurd h (kj_neg kym12 (by decide))⟩, fun _ => (fun u hu => match u, hu with | 0, _ => rfl | 1, _ => rfl | 2, _ => rfl | 3, _ => rfl | 4, _ => rfl | 5, _ => rfl | _ + 6, h => absurd h (by omega)), fun h => absurd (oy147 w96 z2.1 z2.2 z4.2) h⟩⟩)
                ·
                  have c103 : (i 7296).toInt = (2 : Int32).toInt := kd_neF c; clear c
                  have fi_6658 : ((0 : Int) ≤ (i 6658).toInt) ∧ ((i 6658).toInt ≤ 4) := hG.I.1 6658
                  have fi_7298 : ((0 : Int) ≤ (i 7298).toInt) ∧ ((i 7298).toInt ≤ 4) := hG.I.1 7298
                  first | refine fo_goL mi_k117 fz117_69_4_79 [(7, .ref 114), (6, .ref 104), (0, .ref 0), (1, .int x1), (2, .int x2), (3, .int x3), (4, .int x4), (5, .int x5)] [.int (i 7298), .int (i 6658)] (by rfl) ?_ | refine ft_go mi_k117 4 79 [(7, .ref 114), (6, .ref 104), (0, .ref 0), (1, .int x1), (2, .int x2), (3, .int x3), (4, .int x4), (5, .int x5)] [.int (i 7298), .int (i 6658)] i a q r (by rfl) ?_ | refine ko_steps mi_in117 4 _ (79, [(7, .ref 114), (6, .ref 104), (0, .ref 0), (1, .int x1), (2, .int x2), (3, .int x3), (4, .int x4), (5, .int x5)], [.int (i 7298), .int (i 6658)], (0, 0), ks i a q r) (by rfl) ?_
                  refine ft_ifS mi_k117 ((i 6658) == (i 7298)) 85 82 [] (by rfl) (fun c => ?_) (fun c => ?_)
                  ·
                    have c104 : (i 6658).toInt = (i 7298).toInt := kd_eq c; clear c
                    first | refine fo_goS mi_k117 fz117_85_3_90 [.int x5, .int x2, .ref 104] (by rfl) ?_ | refine ft_go mi_k117 3 90 [(7, .ref 114), (6, .ref 104), (0, .ref 0), (1, .int x1), (2, .int x2), (3, .int x3), (4, .int x4), (5, .int x5)] [.int x5, .int x2, .ref 104] i a q r (by rfl) ?_ | refine ko_steps mi_in117 3 _ (90, [(7, .ref 114), (6, .ref 104), (0, .ref 0), (1, .int x1), (2, .int x2), (3, .int x3), (4, .int x4), (5, .int x5)], [.int x5, .int x2, .ref 104], (0, 0), ks i a q r) (by rfl) ?_
                    refine ko_callPI mi_k117.1 (pc := 90) (ls := [(7, .ref 114), (6, .ref 104), (0, .ref 0), (1, .int x1), (2, .int x2), (3, .int x3), (4, .int x4), (5, .int x5)]) (st := [.int x5, .int x2, .ref 104]) (h := ks i a q r) (i := (.invokevirtual 324, 3, 37, 0, 9, 0, 316)) (mi_k117.2 _ _ (by rfl)) (ft_invS mi_pq37 (by rfl)) (cy := mi_c37) mi_pq37 rfl (kc37_104 hG.I hG.R x2 x5) (by decide) ?_
                    intro vg105 hg105
                    rcases hg105 with ⟨eg105, hg105⟩ | ⟨eg105, hg105⟩
                    ·
                      subst eg105
                      have fi_6659 : ((0 : Int) ≤ (i 6659).toInt) ∧ ((i 6659).toInt ≤ 60) := hG.I.1 6659
                      have z106 : ((0 : Int) ≤ x5.toInt) ∧ (x5.toInt ≤ (i 6659).toInt) ∧ ((0 : Int) ≤ x2.toInt) ∧ ((x2.toInt + x5.toInt) ≤ (i 6659).toInt) := hg105
                      first | refine fo_goS mi_k117 fz117_93_4_102 [.int x5, .int x4, .ref 114] (by rfl) ?_ | refine ft_go mi_k117 4 102 [(7, .ref 114), (6, .ref 104), (0, .ref 0), (1, .int x1), (2, .int x2), (3, .int x3), (4, .int x4), (5, .int x5)] [.int x5, .int x4, .ref 114] i a q r (by rfl) ?_ | refine ko_steps mi_in117 4 _ (102, [(7, .ref 114), (6, .ref 104), (0, .ref 0), (1, .int x1), (2, .int x2), (3, .int x3), (4, .int x4), (5, .int x5)], [.int x5, .int x4, .ref 114], (0, 0), ks i a q r) (by rfl) ?_
                      refine ko_callPI mi_k117.1 (pc := 102) (ls := [(7, .ref 114), (6, .ref 104), (0, .ref 0), (1, .int x1), (2, .int x2), (3, .int x3), (4, .int x4), (5, .int x5)]) (st := [.int x5, .int x4, .ref 114]) (h := ks i a q r) (i := (.invokevirtual 324, 3, 37, 0, 9, 0, 316)) (mi_k117.2 _ _ (by rfl)) (ft_invS mi_pq37 (by rfl)) (cy := mi_c37) mi_pq37 rfl (kc37_114 hG.I hG.R x4 x5) (by decide) ?_
                      intro vg107 hg107
                      rcases hg107 with ⟨eg107, hg107⟩ | ⟨eg107, hg107⟩
                      ·
                        subst eg107
                        have fi_7299 : ((0 : Int) ≤ (i 7299).toInt) ∧ ((i 7299).toInt ≤ 60) := hG.I.1 7299
                        have z108 : ((0 : Int) ≤ x5.toInt) ∧ (x5.toInt ≤ (i 7299).toInt) ∧ ((0 : Int) ≤ x4.toInt) ∧ ((x4.toInt + x5.toInt) ≤ (i 7299).toInt) := hg107
                        first | refine fo_goS mi_k117 fz117_105_8_126 [.int x5, .int x4, .ref 115, .int x2, .ref 105] (by rfl) ?_ | refine ft_go mi_k117 8 126 [(7, .ref 114), (6, .ref 104), (0, .ref 0), (1, .int x1), (2, .int x2), (3, .int x3), (4, .int x4), (5, .int x5)] [.int x5, .int x4, .ref 115, .int x2, .ref 105] i a q r (by rfl) ?_ | refine ko_steps mi_in117 8 _ (126, [(7, .ref 114), (6, .ref 104), (0, .ref 0), (1, .int x1), (2, .int x2), (3, .int x3), (4, .int x4), (5, .int x5)], [.int x5, .int x4, .ref 115, .int x2, .ref 105], (0, 0), ks i a q r) (by rfl) ?_
                        have hJ109 := kG_q hG 115 rfl (z := mi_cpy (q 105) (q 115) x2.toNatClampNeg x4.toNatClampNeg x5.toNatClampNeg) (kcpy_len2 (n := 60) (c := 60) (m := 60) (b := 60) (sp := x2) (dp := x4) (n1 := x5) (hG.I.2.2.2 105) rfl (hG.I.2.2.2 115) rfl (oy3 z106.1) (oy3 z106.2.2.1) (oy3 z108.2.2.1) (oy119 fi_6659.2 z106.2.2.2) (oy119 fi_7299.2 z108.2.2.2))
                        refine ko_copyL2 mi_k117.1 (l := q 105) (g := q 115) (n := 60) (c := 60) (m := 60) (b := 60) (mi_k117.2 _ _ (by rfl)) (by rfl) (by rfl) (by rfl) (by rfl) (by rfl) (hG.I.2.2.2 105) rfl (hG.I.2.2.2 115) rfl (oy3 z106.1) (oy3 z106.2.2.1) (oy3 z108.2.2.1) (oy119 fi_6659.2 z106.2.2.2) (oy119 fi_7299.2 z108.2.2.2) (h5 := ks i a (ku q 115 (mi_cpy (q 105) (q 115) x2.toNatClampNeg x4.toNatClampNeg x5.toNatClampNeg)) r) (by rfl) ?_
                        first | refine fo_goS mi_k117 fz117_129_1_131 [.int x5] (by rfl) ?_ | refine ft_go mi_k117 1 131 [(7, .ref 114), (6, .ref 104), (0, .ref 0), (1, .int x1), (2, .int x2), (3, .int x3), (4, .int x4), (5, .int x5)] [.int x5] i a (ku q 115 (mi_cpy (q 105) (q 115) x2.toNatClampNeg x4.toNatClampNeg x5.toNatClampNeg)) r (by rfl) ?_ | refine ko_steps mi_in117 1 _ (131, [(7, .ref 114), (6, .ref 104), (0, .ref 0), (1, .int x1), (2, .int x2), (3, .int x3), (4, .int x4), (5, .int x5)], [.int x5], (0, 0), ks i a (ku q 115 (mi_cpy (q 105) (q 115) x2.toNatClampNeg x4.toNatClampNeg x5.toNatClampNeg)) r) (by rfl) ?_
                        exact ft_ret mi_k117 (by rfl) (hP x5 _ _ _ _ hJ109 ⟨trivial, ⟨fun s t hs ht e1 e3 => by
        have es : s = 0 := kj_at e1 (oy107 w5 z2.1)
        have et : t = 5 := kj_at e3 (oy146 w96 z4.2)
        subst es
        subst et
        exact ⟨(Or.inr (Or.inr (Or.inr ⟨rfl, (oy133 c101 c103 c104 fi_6656.2 fi_7296.2 ky2), (oy134 z106.1 z106.2.2.1 z106.2.2.2 z108.2.2.1 z108.2.2.2)⟩))), fun _ => ⟨rfl, (fun u hu ne => match u, hu, ne with | 0, _, _ => rfl | 1, _, _ => rfl | 2, _, _ => rfl | 3, _, _ => rfl | 4, _, _ => rfl | 5, _, ne => absurd rfl ne | _ + 6, h, _ => absurd h (by omega))⟩⟩, fun h => absurd h (oy26 z106.1), fun h => absurd (oy147 w96 z2.1 z2.2 z4.2) h⟩⟩)
                      ·
                        subst eg107
                        have fi_7299 : ((0 : Int) ≤ (i 7299).toInt) ∧ ((i 7299).toInt ≤ 60) := hG.I.1 7299
                        have z110 : ¬ (((0 : Int) ≤ x5.toInt) ∧ (x5.toInt ≤ (i 7299).toInt) ∧ ((0 : Int) ≤ x4.toInt) ∧ ((x4.toInt + x5.toInt) ≤ (i 7299).toInt)) := hg107
                        first | refine fo_goL mi_k117 fz117_93_2_110 [(7, .ref 114), (6, .ref 104), (0, .ref 0), (1, .int x1), (2, .int x2), (3, .int x3), (4, .int x4), (5, .int x5)] [.int (-13)] (by rfl) ?_ | refine fo_goL mi_k117 fz117_105_2_110 [(7, .ref 114), (6, .ref 104), (0, .ref 0), (1, .int x1), (2, .int x2), (3, .int x3), (4, .int x4), (5, .int x5)] [.int (-13)] (by rfl) ?_ | refine ft_go mi_k117 2 110 [(7, .ref 114), (6, .ref 104), (0, .ref 0), (1, .int x1), (2, .int x2), (3, .int x3), (4, .int x4), (5, .int x5)] [.int (-13)] i a q r (by rfl) ?_ | refine ko_steps mi_in117 2 _ (110, [(7, .ref 114), (6, .ref 104), (0, .ref 0), (1, .int x1), (2, .int x2), (3, .int x3), (4, .int x4), (5, .int x5)], [.int (-13)], (0, 0), ks i a q r) (by rfl) ?_
                        exact ft_ret mi_k117 (by rfl) (hP (-13) _ _ _ _ hG ⟨trivial, ⟨fun s t hs ht e1 e3 => by
        have es : s = 0 := kj_at e1 (oy107 w5 z2.1)
        have et : t = 5 := kj_at e3 (oy146 w96 z4.2)
        subst es
        subst et
        exact ⟨(Or.inr (Or.inr (Or.inl ⟨kym13, (oy133 c101 c103 c104 fi_6656.2 fi_7296.2 ky2), (oy135 z106.1 z110)⟩))), fun h => absurd h (kj_neg kym13 (by decide))⟩, fun _ => (fun u hu => match u, hu with | 0, _ => rfl | 1, _ => rfl | 2, _ => rfl | 3, _ => rfl | 4, _ => rfl | 5, _ => rfl | _ + 6, h => absurd h (by omega)), fun h => absurd (oy147 w96 z2.1 z2.2 z4.2) h⟩⟩)
                    ·
                      subst eg105
                      have fi_6659 : ((0 : Int) ≤ (i 6659).toInt) ∧ ((i 6659).toInt ≤ 60) := hG.I.1 6659
                      have z111 : ¬ (((0 : Int) ≤ x5.toInt) ∧ (x5.toInt ≤ (i 6659).toInt) ∧ ((0 : Int) ≤ x2.toInt) ∧ ((x2.toInt + x5.toInt) ≤ (i 6659).toInt)) := hg105
                      first | refine fo_goL mi_k117 fz117_93_2_110 [(7, .ref 114), (6, .ref 104), (0, .ref 0), (1, .int x1), (2, .int x2), (3, .int x3), (4, .int x4), (5, .int x5)] [.int (-13)] (by rfl) ?_ | refine fo_goL mi_k117 fz117_105_2_110 [(7, .ref 114), (6, .ref 104), (0, .ref 0), (1, .int x1), (2, .int x2), (3, .int x3), (4, .int x4), (5, .int x5)] [.int (-13)] (by rfl) ?_ | refine ft_go mi_k117 2 110 [(7, .ref 114), (6, .ref 104), (0, .ref 0), (1, .int x1), (2, .int x2), (3, .int x3), (4, .int x4), (5, .int x5)] [.int (-13)] i a q r (by rfl) ?_ | refine ko_steps mi_in117 2 _ (110, [(7, .ref 114), (6, .ref 104), (0, .ref 0), (1, .int x1), (2, .int x2), (3, .int x3), (4, .int x4), (5, .int x5)], [.int (-13)], (0, 0), ks i a q r) (by rfl) ?_
                      have fi_7299 : ((0 : Int) ≤ (i 7299).toInt) ∧ ((i 7299).toInt ≤ 60) := hG.I.1 7299
                      exact ft_ret mi_k117 (by rfl) (hP (-13) _ _ _ _ hG ⟨trivial, ⟨fun s t hs ht e1 e3 => by
        have es : s = 0 := kj_at e1 (oy107 w5 z2.1)
        have et : t = 5 := kj_at e3 (oy146 w96 z4.2)
        subst es
        subst et
        exact ⟨(Or.inr (Or.inr (Or.inl ⟨kym13, (oy133 c101 c103 c104 fi_6656.2 fi_7296.2 ky2), (oy136 z111)⟩))), fun h => absurd h (kj_neg kym13 (by decide))⟩, fun _ => (fun u hu => match u, hu with | 0, _ => rfl | 1, _ => rfl | 2, _ => rfl | 3, _ => rfl | 4, _ => rfl | 5, _ => rfl | _ + 6, h => absurd h (by omega)), fun h => absurd (oy147 w96 z2.1 z2.2 z4.2) h⟩⟩)
                  ·
                    have c112 : (i 6658).toInt ≠ (i 7298).toInt := kd_eqF c; clear c
                    first | refine fo_goL mi_k117 fz117_82_1_84 [(7, .ref 114), (6, .ref 104), (0, .ref 0), (1, .int x1), (2, .int x2), (3, .int x3), (4, .int x4), (5, .int x5)] [.int (-12)] (by rfl) ?_ | refine ft_go mi_k117 1 84 [(7, .ref 114), (6, .ref 104), (0, .ref 0), (1, .int x1), (2, .int x2), (3, .int x3), (4, .int x4), (5, .int x5)] [.int (-12)] i a q r (by rfl) ?_ | refine ko_steps mi_in117 1 _ (84, [(7, .ref 114), (6, .ref 104), (0, .ref 0), (1, .int x1), (2, .int x2), (3, .int x3), (4, .int x4), (5, .int x5)], [.int (-12)], (0, 0), ks i a q r) (by rfl) ?_
                    have fi_6659 : ((0 : Int) ≤ (i 6659).toInt) ∧ ((i 6659).toInt ≤ 60) := hG.I.1 6659
                    have fi_7299 : ((0 : Int) ≤ (i 7299).toInt) ∧ ((i 7299).toInt ≤ 60) := hG.I.1 7299
                    exact ft_ret mi_k117 (by rfl) (hP (-12) _ _ _ _ hG ⟨trivial, ⟨fun s t hs ht e1 e3 => by
        have es : s = 0 := kj_at e1 (oy107 w5 z2.1)
        have et : t = 5 := kj_at e3 (oy146 w96 z4.2)
        subst es
        subst et
        exact ⟨(Or.inr (Or.inl ⟨kym12, (oy137 c101 c103 ky2), (oy138 c112)⟩)), fun h => absurd h (kj_neg kym12 (by decide))⟩, fun _ => (fun u hu => match u, hu with | 0, _ => rfl | 1, _ => rfl | 2, _ => rfl | 3, _ => rfl | 4, _ => rfl | 5, _ => rfl | _ + 6, h => absurd h (by omega)), fun h => absurd (oy147 w96 z2.1 z2.2 z4.2) h⟩⟩)
            ·
              have c113 : (i 7296).toInt = (0 : Int32).toInt := kd_neF c; clear c
              first | refine fo_goL mi_k117 fz117_48_1_50 [(7, .ref 114), (6, .ref 104), (0, .ref 0), (1, .int x1), (2, .int x2), (3, .int x3), (4, .int x4), (5, .int x5)] [.int (-11)] (by rfl) ?_ | refine ft_go mi_k117 1 50 [(7, .ref 114), (6, .ref 104), (0, .ref 0), (1, .int x1), (2, .int x2), (3, .int x3), (4, .int x4), (5, .int x5)] [.int (-11)] i a q r (by rfl) ?_ | refine ko_steps mi_in117 1 _ (50, [(7, .ref 114), (6, .ref 104), (0, .ref 0), (1, .int x1), (2, .int x2), (3, .int x3), (4, .int x4), (5, .int x5)], [.int (-11)], (0, 0), ks i a q r) (by rfl) ?_
              have fi_6658 : ((0 : Int) ≤ (i 6658).toInt) ∧ ((i 6658).toInt ≤ 4) := hG.I.1 6658
              have fi_7298 : ((0 : Int) ≤ (i 7298).toInt) ∧ ((i 7298).toInt ≤ 4) := hG.I.1 7298
              have fi_6659 : ((0 : Int) ≤ (i 6659).toInt) ∧ ((i 6659).toInt ≤ 60) := hG.I.1 6659
              have fi_7299 : ((0 : Int) ≤ (i 7299).toInt) ∧ ((i 7299).toInt ≤ 60) := hG.I.1 7299
              exact ft_ret mi_k117 (by rfl) (hP (-11) _ _ _ _ hG ⟨trivial, ⟨fun s t hs ht e1 e3 => by
        have es : s = 0 := kj_at e1 (oy107 w5 z2.1)
        have et : t = 5 := kj_at e3 (oy146 w96 z4.2)
        subst es
        subst et
        exact ⟨(Or.inl ⟨kym11, (oy139 c113 fi_7296.1 ky0)⟩), fun h => absurd h (kj_neg kym11 (by decide))⟩, fun _ => (fun u hu => match u, hu with | 0, _ => rfl | 1, _ => rfl | 2, _ => rfl | 3, _ => rfl | 4, _ => rfl | 5, _ => rfl | _ + 6, h => absurd h (by omega)), fun h => absurd (oy147 w96 z2.1 z2.2 z4.2) h⟩⟩)
        exact (oy149 w24 w42 w6 w60 w78 w96 z4.1 z4.2).elim
      by_cases w114 : x1.toInt = 1
      ·
        refine ft_alx mi_k117 (pc := 21) (v := 1) (p := 97) (z := 106) (kj_eq w114 (by decide) : x1 = 1) (by decide +kernel) (by decide +kernel) ?_
        first | refine fo_goL mi_k117 fz117_22_4_29 [(6, .ref 106), (0, .ref 0), (1, .int x1), (2, .int x2), (3, .int x3), (4, .int x4), (5, .int x5)] [.int x3, .ref 97] (by rfl) ?_ | refine ft_go mi_k117 4 29 [(6, .ref 106), (0, .ref 0), (1, .int x1), (2, .int x2), (3, .int x3), (4, .int x4), (5, .int x5)] [.int x3, .ref 97] i a q r (by rfl) ?_ | refine ko_steps mi_in117 4 _ (29, [(6, .ref 106), (0, .ref 0), (1, .int x1), (2, .int x2), (3, .int x3), (4, .int x4), (5, .int x5)], [.int x3, .ref 97], (0, 0), ks i a q r) (by rfl) ?_
        by_cases w115 : x3.toInt = 0
        ·
          refine ko_eq (x1 := (29, [(6, .ref 106), (0, .ref 0), (1, .int x1), (2, .int x2), (3, .int x3), (4, .int x4), (5, .int x5)], [.int 0, .ref 97], (0, 0), ks i a q r)) (by rw [(kj_eq w115 (by decide) : x3 = 0)]) ?_
          have fi_6784 : ((0 : Int) ≤ (i 6784).toInt) ∧ ((i 6784).toInt ≤ 2) := hG.I.1 6784
          first | refine ft_goL mi_k117 4 37 [(7, .ref 104), (6, .ref 106), (0, .ref 0), (1, .int x1), (2, .int x2), (3, .int x3), (4, .int x4), (5, .int x5)] [.int (i 6784)] (by rfl) ?_ | refine ft_go mi_k117 4 37 [(7, .ref 104), (6, .ref 106), (0, .ref 0), (1, .int x1), (2, .int x2), (3, .int x3), (4, .int x4), (5, .int x5)] [.int (i 6784)] i a q r (by rfl) ?_ | refine ko_steps mi_in117 4 _ (37, [(7, .ref 104), (6, .ref 106), (0, .ref 0), (1, .int x1), (2, .int x2), (3, .int x3), (4, .int x4), (5, .int x5)], [.int (i 6784)], (0, 0), ks i a q r) (by rfl) ?_
          refine ft_ifS mi_k117 ((i 6784) == 0) 48 40 [] (by rfl) (fun c => ?_) (fun c => ?_)
          ·
            have c116 : (i 6784).toInt = (0 : Int32).toInt := kd_eq c; clear c
            first | refine fo_goS mi_k117 fz117_48_1_50 [.int (-11)] (by rfl) ?_ | refine ft_go mi_k117 1 50 [(7, .ref 104), (6, .ref 106), (0, .ref 0), (1, .int x1), (2, .int x2), (3, .int x3), (4, .int x4), (5, .int x5)] [.int (-11)] i a q r (by rfl) ?_ | refine ko_steps mi_in117 1 _ (50, [(7, .ref 104), (6, .ref 106), (0, .ref 0), (1, .int x1), (2, .int x2), (3, .int x3), (4, .int x4), (5, .int x5)], [.int (-11)], (0, 0), ks i a q r) (by rfl) ?_
            have fi_6656 : ((0 : Int) ≤ (i 6656).toInt) ∧ ((i 6656).toInt ≤ 2) := hG.I.1 6656
            have fi_6786 : ((0 : Int) ≤ (i 6786).toInt) ∧ ((i 6786).toInt ≤ 4) := hG.I.1 6786
            have fi_6658 : ((0 : Int) ≤ (i 6658).toInt) ∧ ((i 6658).toInt ≤ 4) := hG.I.1 6658
            have fi_6787 : ((0 : Int) ≤ (i 6787).toInt) ∧ ((i 6787).toInt ≤ 60) := hG.I.1 6787
            have fi_6659 : ((0 : Int) ≤ (i 6659).toInt) ∧ ((i 6659).toInt ≤ 60) := hG.I.1 6659
            exact ft_ret mi_k117 (by rfl) (hP (-11) _ _ _ _ hG ⟨trivial, ⟨fun s t hs ht e1 e3 => by
        have es : s = 1 := kj_at e1 (oy126 w114)
        have et : t = 0 := kj_at e3 (oy107 w115 z4.1)
        subst es
        subst et
        exact ⟨(Or.inl ⟨kym11, (oy127 c116 fi_6784.1 ky0)⟩), fun h => absurd h (kj_neg kym11 (by decide))⟩, fun _ => (fun u hu => match u, hu with | 0, _ => rfl | 1, _ => rfl | 2, _ => rfl | 3, _ => rfl | 4, _ => rfl | 5, _ => rfl | _ + 6, h => absurd h (by omega)), fun h => absurd (oy150 w114 z2.2 z4.1 z4.2) h⟩⟩)
          ·
            have c117 : (i 6784).toInt ≠ (0 : Int32).toInt := kd_eqF c; clear c
            have fi_6656 : ((0 : Int) ≤ (i 6656).toInt) ∧ ((i 6656).toInt ≤ 2) := hG.I.1 6656
            first | refine fo_goL mi_k117 fz117_40_2_45 [(7, .ref 104), (6, .ref 106), (0, .ref 0), (1, .int x1), (2, .int x2), (3, .int x3), (4, .int x4), (5, .int x5)] [.int (i 6656)] (by rfl) ?_ | refine ft_go mi_k117 2 45 [(7, .ref 104), (6, .ref 106), (0, .ref 0), (1, .int x1), (2, .int x2), (3, .int x3), (4, .int x4), (5, .int x5)] [.int (i 6656)] i a q r (by rfl) ?_ | refine ko_steps mi_in117 2 _ (45, [(7, .ref 104), (6, .ref 106), (0, .ref 0), (1, .int x1), (2, .int x2), (3, .int x3), (4, .int x4), (5, .int x5)], [.int (i 6656)], (0, 0), ks i a q r) (by rfl) ?_
            refine ft_ifS mi_k117 ((i 6656) != 0) 51 48 [] (by rfl) (fun c => ?_) (fun c => ?_)
            ·
              have c118 : (i 6656).toInt ≠ (0 : Int32).toInt := kd_ne c; clear c
              first | refine fo_goS mi_k117 fz117_51_3_57 [.int 2, .int (i 6784)] (by rfl) ?_ | refine ft_go mi_k117 3 57 [(7, .ref 104), (6, .ref 106), (0, .ref 0), (1, .int x1), (2, .int x2), (3, .int x3), (4, .int x4), (5, .int x5)] [.int 2, .int (i 6784)] i a q r (by rfl) ?_ | refine ko_steps mi_in117 3 _ (57, [(7, .ref 104), (6, .ref 106), (0, .ref 0), (1, .int x1), (2, .int x2), (3, .int x3), (4, .int x4), (5, .int x5)], [.int 2, .int (i 6784)], (0, 0), ks i a q r) (by rfl) ?_
              refine ft_ifS mi_k117 ((i 6784) != 2) 82 60 [] (by rfl) (fun c => ?_) (fun c => ?_)
              ·
                have c119 : (i 6784).toInt ≠ (2 : Int32).toInt := kd_ne c; clear c
                first | refine fo_goS mi_k117 fz117_82_1_84 [.int (-12)] (by rfl) ?_ | refine ft_go mi_k117 1 84 [(7, .ref 104), (6, .ref 106), (0, .ref 0), (1, .int x1), (2, .int x2), (3, .int x3), (4, .int x4), (5, .int x5)] [.int (-12)] i a q r (by rfl) ?_ | refine ko_steps mi_in117 1 _ (84, [(7, .ref 104), (6, .ref 106), (0, .ref 0), (1, .int x1), (2, .int x2), (3, .int x3), (4, .int x4), (5, .int x5)], [.int (-12)], (0, 0), ks i a q r) (by rfl) ?_
                have fi_6786 : ((0 : Int) ≤ (i 6786).toInt) ∧ ((i 6786).toInt ≤ 4) := hG.I.1 6786
                have fi_6658 : ((0 : Int) ≤ (i 6658).toInt) ∧ ((i 6658).toInt ≤ 4) := hG.I.1 6658
                have fi_6787 : ((0 : Int) ≤ (i 6787).toInt) ∧ ((i 6787).toInt ≤ 60) := hG.I.1 6787
                have fi_6659 : ((0 : Int) ≤ (i 6659).toInt) ∧ ((i 6659).toInt ≤ 60) := hG.I.1 6659
                exact ft_ret mi_k117 (by rfl) (hP (-12) _ _ _ _ hG ⟨trivial, ⟨fun s t hs ht e1 e3 => by
        have es : s = 1 := kj_at e1 (oy126 w114)
        have et : t = 0 := kj_at e3 (oy107 w115 z4.1)
        subst es
        subst et
        exact ⟨(Or.inr (Or.inl ⟨kym12, (oy151 c117 c118 fi_6656.1 fi_6784.1 ky0), (oy130 c119 fi_6784.2 ky2)⟩)), fun h => absurd h (kj_neg kym12 (by decide))⟩, fun _ => (fun u hu => match u, hu with | 0, _ => rfl | 1, _ => rfl | 2, _ => rfl | 3, _ => rfl | 4, _ => rfl | 5, _ => rfl | _ + 6, h => absurd h (by omega)), fun h => absurd (oy150 w114 z2.2 z4.1 z4.2) h⟩⟩)
              ·
                have c120 : (i 6784).toInt = (2 : Int32).toInt := kd_neF c; clear c
                first | refine fo_goL mi_k117 fz117_60_3_66 [(7, .ref 104), (6, .ref 106), (0, .ref 0), (1, .int x1), (2, .int x2), (3, .int x3), (4, .int x4), (5, .int x5)] [.int 2, .int (i 6656)] (by rfl) ?_ | refine ft_go mi_k117 3 66 [(7, .ref 104), (6, .ref 106), (0, .ref 0), (1, .int x1), (2, .int x2), (3, .int x3), (4, .int x4), (5, .int x5)] [.int 2, .int (i 6656)] i a q r (by rfl) ?_ | refine ko_steps mi_in117 3 _ (66, [(7, .ref 104), (6, .ref 106), (0, .ref 0), (1, .int x1), (2, .int x2), (3, .int x3), (4, .int x4), (5, .int x5)], [.int 2, .int (i 6656)], (0, 0), ks i a q r) (by rfl) ?_
                refine ft_ifS mi_k117 ((i 6656) != 2) 82 69 [] (by rfl) (fun c => ?_) (fun c => ?_)
                ·
                  have c121 : (i 6656).toInt ≠ (2 : Int32).toInt := kd_ne c; clear c
                  first | refine fo_goS mi_k117 fz117_82_1_84 [.int (-12)] (by rfl) ?_ | refine ft_go mi_k117 1 84 [(7, .ref 104), (6, .ref 106), (0, .ref 0), (1, .int x1), (2, .int x2), (3, .int x3), (4, .int x4), (5, .int x5)] [.int (-12)] i a q r (by rfl) ?_ | refine ko_steps mi_in117 1 _ (84, [(7, .ref 104), (6, .ref 106), (0, .ref 0), (1, .int x1), (2, .int x2), (3, .int x3), (4, .int x4), (5, .int x5)], [.int (-12)], (0, 0), ks i a q r) (by rfl) ?_
                  have fi_6786 : ((0 : Int) ≤ (i 6786).toInt) ∧ ((i 6786).toInt ≤ 4) := hG.I.1 6786
                  have fi_6658 : ((0 : Int) ≤ (i 6658).toInt) ∧ ((i 6658).toInt ≤ 4) := hG.I.1 6658
                  have fi_6787 : ((0 : Int) ≤ (i 6787).toInt) ∧ ((i 6787).toInt ≤ 60) := hG.I.1 6787
                  have fi_6659 : ((0 : Int) ≤ (i 6659).toInt) ∧ ((i 6659).toInt ≤ 60) := hG.I.1 6659
                  exact ft_ret mi_k117 (by rfl) (hP (-12) _ _ _ _ hG ⟨trivial, ⟨fun s t hs ht e1 e3 => by
        have es : s = 1 := kj_at e1 (oy126 w114)
        have et : t = 0 := kj_at e3 (oy107 w115 z4.1)
        subst es
        subst et
        exact ⟨(Or.inr (Or.inl ⟨kym12, (oy131 c118 c120 fi_6656.1 ky0 ky2), (oy132 c121 fi_6656.2 ky2)⟩)), fun h => absurd h (kj_neg kym12 (by decide))⟩, fun _ => (fun u hu => match u, hu with | 0, _ => rfl | 1, _ => rfl | 2, _ => rfl | 3, _ => rfl | 4, _ => rfl | 5, _ => rfl | _ + 6, h => absurd h (by omega)), fun h => absurd (oy150 w114 z2.2 z4.1 z4.2) h⟩⟩)
                ·
                  have c122 : (i 6656).toInt = (2 : Int32).toInt := kd_neF c; clear c
                  have fi_6786 : ((0 : Int) ≤ (i 6786).toInt) ∧ ((i 6786).toInt ≤ 4) := hG.I.1 6786
                  have fi_6658 : ((0 : Int) ≤ (i 6658).toInt) ∧ ((i 6658).toInt ≤ 4) := hG.I.1 6658
                  first | refine fo_goL mi_k117 fz117_69_4_79 [(7, .ref 104), (6, .ref 106), (0, .ref 0), (1, .int x1), (2, .int x2), (3, .int x3), (4, .int x4), (5, .int x5)] [.int (i 6658), .int (i 6786)] (by rfl) ?_ | refine ft_go mi_k117 4 79 [(7, .ref 104), (6, .ref 106), (0, .ref 0), (1, .int x1), (2, .int x2), (3, .int x3), (4, .int x4), (5, .int x5)] [.int (i 6658), .int (i 6786)] i a q r (by rfl) ?_ | refine ko_steps mi_in117 4 _ (79, [(7, .ref 104), (6, .ref 106), (0, .ref 0), (1, .int x1), (2, .int x2), (3, .int x3), (4, .int x4), (5, .int x5)], [.int (i 6658), .int (i 6786)], (0, 0), ks i a q r) (by rfl) ?_
                  refine ft_ifS mi_k117 ((i 6786) == (i 6658)) 85 82 [] (by rfl) (fun c => ?_) (fun c => ?_)
                  ·
                    have c123 : (i 6786).toInt = (i 6658).toInt := kd_eq c; clear c
                    first | refine fo_goS mi_k117 fz117_85_3_90 [.int x5, .int x2, .ref 106] (by rfl) ?_ | refine ft_go mi_k117 3 90 [(7, .ref 104), (6, .ref 106), (0, .ref 0), (1, .int x1), (2, .int x2), (3, .int x3), (4, .int x4), (5, .int x5)] [.int x5, .int x2, .ref 106] i a q r (by rfl) ?_ | refine ko_steps mi_in117 3 _ (90, [(7, .ref 104), (6, .ref 106), (0, .ref 0), (1, .int x1), (2, .int x2), (3, .int x3), (4, .int x4), (5, .int x5)], [.int x5, .int x2, .ref 106], (0, 0), ks i a q r) (by rfl) ?_
                    refine ko_callPI mi_k117.1 (pc := 90) (ls := [(7, .ref 104), (6, .ref 106), (0, .ref 0), (1, .int x1), (2, .int x2), (3, .int x3), (4, .int x4), (5, .int x5)]) (st := [.int x5, .int x2, .ref 106]) (h := ks i a q r) (i := (.invokevirtual 324, 3, 37, 0, 9, 0, 316)) (mi_k117.2 _ _ (by rfl)) (ft_invS mi_pq37 (by rfl)) (cy := mi_c37) mi_pq37 rfl (kc37_106 hG.I hG.R x2 x5) (by decide) ?_
                    intro vg124 hg124
                    rcases hg124 with ⟨eg124, hg124⟩ | ⟨eg124, hg124⟩
                    ·
                      subst eg124
                      have fi_6787 : ((0 : Int) ≤ (i 6787).toInt) ∧ ((i 6787).toInt ≤ 60) := hG.I.1 6787
                      have z125 : ((0 : Int) ≤ x5.toInt) ∧ (x5.toInt ≤ (i 6787).toInt) ∧ ((0 : Int) ≤ x2.toInt) ∧ ((x2.toInt + x5.toInt) ≤ (i 6787).toInt) := hg124
                      first | refine fo_goS mi_k117 fz117_93_4_102 [.int x5, .int x4, .ref 104] (by rfl) ?_ | refine ft_go mi_k117 4 102 [(7, .ref 104), (6, .ref 106), (0, .ref 0), (1, .int x1), (2, .int x2), (3, .int x3), (4, .int x4), (5, .int x5)] [.int x5, .int x4, .ref 104] i a q r (by rfl) ?_ | refine ko_steps mi_in117 4 _ (102, [(7, .ref 104), (6, .ref 106), (0, .ref 0), (1, .int x1), (2, .int x2), (3, .int x3), (4, .int x4), (5, .int x5)], [.int x5, .int x4, .ref 104], (0, 0), ks i a q r) (by rfl) ?_
                      refine ko_callPI mi_k117.1 (pc := 102) (ls := [(7, .ref 104), (6, .ref 106), (0, .ref 0), (1, .int x1), (2, .int x2), (3, .int x3), (4, .int x4), (5, .int x5)]) (st := [.int x5, .int x4, .ref 104]) (h := ks i a q r) (i := (.invokevirtual 324, 3, 37, 0, 9, 0, 316)) (mi_k117.2 _ _ (by rfl)) (ft_invS mi_pq37 (by rfl)) (cy := mi_c37) mi_pq37 rfl (kc37_104 hG.I hG.R x4 x5) (by decide) ?_
                      intro vg126 hg126
                      rcases hg126 with ⟨eg126, hg126⟩ | ⟨eg126, hg126⟩
                      ·
                        subst eg126
                        have fi_6659 : ((0 : Int) ≤ (i 6659).toInt) ∧ ((i 6659).toInt ≤ 60) := hG.I.1 6659
                        have z127 : ((0 : Int) ≤ x5.toInt) ∧ (x5.toInt ≤ (i 6659).toInt) ∧ ((0 : Int) ≤ x4.toInt) ∧ ((x4.toInt + x5.toInt) ≤ (i 6659).toInt) := hg126
                        first | refine fo_goS mi_k117 fz117_105_8_126 [.int x5, .int x4, .ref 105, .int x2, .ref 107] (by rfl) ?_ | refine ft_go mi_k117 8 126 [(7, .ref 104), (6, .ref 106), (0, .ref 0), (1, .int x1), (2, .int x2), (3, .int x3), (4, .int x4), (5, .int x5)] [.int x5, .int x4, .ref 105, .int x2, .ref 107] i a q r (by rfl) ?_ | refine ko_steps mi_in117 8 _ (126, [(7, .ref 104), (6, .ref 106), (0, .ref 0), (1, .int x1), (2, .int x2), (3, .int x3), (4, .int x4), (5, .int x5)], [.int x5, .int x4, .ref 105, .int x2, .ref 107], (0, 0), ks i a q r) (by rfl) ?_
                        have hJ128 := kG_q hG 105 rfl (z := mi_cpy (q 107) (q 105) x2.toNatClampNeg x4.toNatClampNeg x5.toNatClampNeg) (kcpy_len2 (n := 60) (c := 60) (m := 60) (b := 60) (sp := x2) (dp := x4) (n1 := x5) (hG.I.2.2.2 107) rfl (hG.I.2.2.2 105) rfl (oy3 z125.1) (oy3 z125.2.2.1) (oy3 z127.2.2.1) (oy119 fi_6787.2 z125.2.2.2) (oy119 fi_6659.2 z127.2.2.2))
                        refine ko_copyL2 mi_k117.1 (l := q 107) (g := q 105) (n := 60) (c := 60) (m := 60) (b := 60) (mi_k117.2 _ _ (by rfl)) (by rfl) (by rfl) (by rfl) (by rfl) (by rfl) (hG.I.2.2.2 107) rfl (hG.I.2.2.2 105) rfl (oy3 z125.1) (oy3 z125.2.2.1) (oy3 z127.2.2.1) (oy119 fi_6787.2 z125.2.2.2) (oy119 fi_6659.2 z127.2.2.2) (h5 := ks i a (ku q 105 (mi_cpy (q 107) (q 105) x2.toNatClampNeg x4.toNatClampNeg x5.toNatClampNeg)) r) (by rfl) ?_
                        first | refine fo_goS mi_k117 fz117_129_1_131 [.int x5] (by rfl) ?_ | refine ft_go mi_k117 1 131 [(7, .ref 104), (6, .ref 106), (0, .ref 0), (1, .int x1), (2, .int x2), (3, .int x3), (4, .int x4), (5, .int x5)] [.int x5] i a (ku q 105 (mi_cpy (q 107) (q 105) x2.toNatClampNeg x4.toNatClampNeg x5.toNatClampNeg)) r (by rfl) ?_ | refine ko_steps mi_in117 1 _ (131, [(7, .ref 104), (6, .ref 106), (0, .ref 0), (1, .int x1), (2, .int x2), (3, .int x3), (4, .int x4), (5, .int x5)], [.int x5], (0, 0), ks i a (ku q 105 (mi_cpy (q 107) (q 105) x2.toNatClampNeg x4.toNatClampNeg x5.toNatClampNeg)) r) (by rfl) ?_
                        exact ft_ret mi_k117 (by rfl) (hP x5 _ _ _ _ hJ128 ⟨trivial, ⟨fun s t hs ht e1 e3 => by
        have es : s = 1 := kj_at e1 (oy126 w114)
        have et : t = 0 := kj_at e3 (oy107 w115 z4.1)
        subst es
        subst et
        exact ⟨(Or.inr (Or.inr (Or.inr ⟨rfl, (oy152 c120 c122 c123 fi_6656.2 fi_6784.2 ky2), (oy134 z125.1 z125.2.2.1 z125.2.2.2 z127.2.2.1 z127.2.2.2)⟩))), fun _ => ⟨rfl, (fun u hu ne => match u, hu, ne with | 0, _, ne => absurd rfl ne | 1, _, _ => rfl | 2, _, _ => rfl | 3, _, _ => rfl | 4, _, _ => rfl | 5, _, _ => rfl | _ + 6, h, _ => absurd h (by omega))⟩⟩, fun h => absurd h (oy26 z125.1), fun h => absurd (oy150 w114 z2.2 z4.1 z4.2) h⟩⟩)
                      ·
                        subst eg126
                        have fi_6659 : ((0 : Int) ≤ (i 6659).toInt) ∧ ((i 6659).toInt ≤ 60) := hG.I.1 6659
                        have z129 : ¬ (((0 : Int) ≤ x5.toInt) ∧ (x5.toInt ≤ (i 6659).toInt) ∧ ((0 : Int) ≤ x4.toInt) ∧ ((x4.toInt + x5.toInt) ≤ (i 6659).toInt)) := hg126
                        first | refine fo_goL mi_k117 fz117_93_2_110 [(7, .ref 104), (6, .ref 106), (0, .ref 0), (1, .int x1), (2, .int x2), (3, .int x3), (4, .int x4), (5, .int x5)] [.int (-13)] (by rfl) ?_ | refine fo_goL mi_k117 fz117_105_2_110 [(7, .ref 104), (6, .ref 106), (0, .ref 0), (1, .int x1), (2, .int x2), (3, .int x3), (4, .int x4), (5, .int x5)] [.int (-13)] (by rfl) ?_ | refine ft_go mi_k117 2 110 [(7, .ref 104), (6, .ref 106), (0, .ref 0), (1, .int x1), (2, .int x2), (3, .int x3), (4, .int x4), (5, .int x5)] [.int (-13)] i a q r (by rfl) ?_ | refine ko_steps mi_in117 2 _ (110, [(7, .ref 104), (6, .ref 106), (0, .ref 0), (1, .int x1), (2, .int x2), (3, .int x3), (4, .int x4), (5, .int x5)], [.int (-13)], (0, 0), ks i a q r) (by rfl) ?_
                        exact ft_ret mi_k117 (by rfl) (hP (-13) _ _ _ _ hG ⟨trivial, ⟨fun s t hs ht e1 e3 => by
        have es : s = 1 := kj_at e1 (oy126 w114)
        have et : t = 0 := kj_at e3 (oy107 w115 z4.1)
        subst es
        subst et
        exact ⟨(Or.inr (Or.inr (Or.inl ⟨kym13, (oy152 c120 c122 c123 fi_6656.2 fi_6784.2 ky2), (oy135 z125.1 z129)⟩))), fun h => absurd h (kj_neg kym13 (by decide))⟩, fun _ => (fun u hu => match u, hu with | 0, _ => rfl | 1, _ => rfl | 2, _ => rfl | 3, _ => rfl | 4, _ => rfl | 5, _ => rfl | _ + 6, h => absurd h (by omega)), fun h => absurd (oy150 w114 z2.2 z4.1 z4.2) h⟩⟩)
                    ·
                      subst eg124
                      have fi_6787 : ((0 : Int) ≤ (i 6787).toInt) ∧ ((i 6787).toInt ≤ 60) := hG.I.1 6787
                      have z130 : ¬ (((0 : Int) ≤ x5.toInt) ∧ (x5.toInt ≤ (i 6787).toInt) ∧ ((0 : Int) ≤ x2.toInt) ∧ ((x2.toInt + x5.toInt) ≤ (i 6787).toInt)) := hg124
                      first | refine fo_goL mi_k117 fz117_93_2_110 [(7, .ref 104), (6, .ref 106), (0, .ref 0), (1, .int x1), (2, .int x2), (3, .int x3), (4, .int x4), (5, .int x5)] [.int (-13)] (by rfl) ?_ | refine fo_goL mi_k117 fz117_105_2_110 [(7, .ref 104), (6, .ref 106), (0, .ref 0), (1, .int x1), (2, .int x2), (3, .int x3), (4, .int x4), (5, .int x5)] [.int (-13)] (by rfl) ?_ | refine ft_go mi_k117 2 110 [(7, .ref 104), (6, .ref 106), (0, .ref 0), (1, .int x1), (2, .int x2), (3, .int x3), (4, .int x4), (5, .int x5)] [.int (-13)] i a q r (by rfl) ?_ | refine ko_steps mi_in117 2 _ (110, [(7, .ref 104), (6, .ref 106), (0, .ref 0), (1, .int x1), (2, .int x2), (3, .int x3), (4, .int x4), (5, .int x5)], [.int (-13)], (0, 0), ks i a q r) (by rfl) ?_
                      have fi_6659 : ((0 : Int) ≤ (i 6659).toInt) ∧ ((i 6659).toInt ≤ 60) := hG.I.1 6659
                      exact ft_ret mi_k117 (by rfl) (hP (-13) _ _ _ _ hG ⟨trivial, ⟨fun s t hs ht e1 e3 => by
        have es : s = 1 := kj_at e1 (oy126 w114)
        have et : t = 0 := kj_at e3 (oy107 w115 z4.1)
        subst es
        subst et
        exact ⟨(Or.inr (Or.inr (Or.inl ⟨kym13, (oy152 c120 c122 c123 fi_6656.2 fi_6784.2 ky2), (oy136 z130)⟩))), fun h => absurd h (kj_neg kym13 (by decide))⟩, fun _ => (fun u hu => match u, hu with | 0, _ => rfl | 1, _ => rfl | 2, _ => rfl | 3, _ => rfl | 4, _ => rfl | 5, _ => rfl | _ + 6, h => absurd h (by omega)), fun h => absurd (oy150 w114 z2.2 z4.1 z4.2) h⟩⟩)
                  ·
                    have c131 : (i 6786).toInt ≠ (i 6658).toInt := kd_eqF c; clear c
                    first | refine fo_goL mi_k117 fz117_82_1_84 [(7, .ref 104), (6, .ref 106), (0, .ref 0), (1, .int x1), (2, .int x2), (3, .int x3), (4, .int x4), (5, .int x5)] [.int (-12)] (by rfl) ?_ | refine ft_go mi_k117 1 84 [(7, .ref 104), (6, .ref 106), (0, .ref 0), (1, .int x1), (2, .int x2), (3, .int x3), (4, .int x4), (5, .int x5)] [.int (-12)] i a q r (by rfl) ?_ | refine ko_steps mi_in117 1 _ (84, [(7, .ref 104), (6, .ref 106), (0, .ref 0), (1, .int x1), (2, .int x2), (3, .int x3), (4, .int x4), (5, .int x5)], [.int (-12)], (0, 0), ks i a q r) (by rfl) ?_
                    have fi_6787 : ((0 : Int) ≤ (i 6787).toInt) ∧ ((i 6787).toInt ≤ 60) := hG.I.1 6787
                    have fi_6659 : ((0 : Int) ≤ (i 6659).toInt) ∧ ((i 6659).toInt ≤ 60) := hG.I.1 6659
                    exact ft_ret mi_k117 (by rfl) (hP (-12) _ _ _ _ hG ⟨trivial, ⟨fun s t hs ht e1 e3 => by
        have es : s = 1 := kj_at e1 (oy126 w114)
        have et : t = 0 := kj_at e3 (oy107 w115 z4.1)
        subst es
        subst et
        exact ⟨(Or.inr (Or.inl ⟨kym12, (oy137 c120 c122 ky2), (oy138 c131)⟩)), fun h => absurd h (kj_neg kym12 (by decide))⟩, fun _ => (fun u hu => match u, hu with | 0, _ => rfl | 1, _ => rfl | 2, _ => rfl | 3, _ => rfl | 4, _ => rfl | 5, _ => rfl | _ + 6, h => absurd h (by omega)), fun h => absurd (oy150 w114 z2.2 z4.1 z4.2) h⟩⟩)
            ·
              have c132 : (i 6656).toInt = (0 : Int32).toInt := kd_neF c; clear c
              first | refine fo_goL mi_k117 fz117_48_1_50 [(7, .ref 104), (6, .ref 106), (0, .ref 0), (1, .int x1), (2, .int x2), (3, .int x3), (4, .int x4), (5, .int x5)] [.int (-11)] (by rfl) ?_ | refine ft_go mi_k117 1 50 [(7, .ref 104), (6, .ref 106), (0, .ref 0), (1, .int x1), (2, .int x2), (3, .int x3), (4, .int x4), (5, .int x5)] [.int (-11)] i a q r (by rfl) ?_ | refine ko_steps mi_in117 1 _ (50, [(7, .ref 104), (6, .ref 106), (0, .ref 0), (1, .int x1), (2, .int x2), (3, .int x3), (4, .int x4), (5, .int x5)], [.int (-11)], (0, 0), ks i a q r) (by rfl) ?_
              have fi_6786 : ((0 : Int) ≤ (i 6786).toInt) ∧ ((i 6786).toInt ≤ 4) := hG.I.1 6786
              have fi_6658 : ((0 : Int) ≤ (i 6658).toInt) ∧ ((i 6658).toInt ≤ 4) := hG.I.1 6658
              have fi_6787 : ((0 : Int) ≤ (i 6787).toInt) ∧ ((i 6787).toInt ≤ 60) := hG.I.1 6787
              have fi_6659 : ((0 : Int) ≤ (i 6659).toInt) ∧ ((i 6659).toInt ≤ 60) := hG.I.1 6659
              exact ft_ret mi_k117 (by rfl) (hP (-11) _ _ _ _ hG ⟨trivial, ⟨fun s t hs ht e1 e3 => by
        have es : s = 1 := kj_at e1 (oy126 w114)
        have et : t = 0 := kj_at e3 (oy107 w115 z4.1)
        subst es
        subst et
        exact ⟨(Or.inl ⟨kym11, (oy139 c132 fi_6656.1 ky0)⟩), fun h => absurd h (kj_neg kym11 (by decide))⟩, fun _ => (fun u hu => match u, hu with | 0, _ => rfl | 1, _ => rfl | 2, _ => rfl | 3, _ => rfl | 4, _ => rfl | 5, _ => rfl | _ + 6, h => absurd h (by omega)), fun h => absurd (oy150 w114 z2.2 z4.1 z4.2) h⟩⟩)
        by_cases w133 : x3.toInt = 1
        ·
          refine ko_eq (x1 := (29, [(6, .ref 106), (0, .ref 0), (1, .int x1), (2, .int x2), (3, .int x3), (4, .int x4), (5, .int x5)], [.int 1, .ref 97], (0, 0), ks i a q r)) (by rw [(kj_eq w133 (by decide) : x3 = 1)]) ?_
          have fi_6784 : ((0 : Int) ≤ (i 6784).toInt) ∧ ((i 6784).toInt ≤ 2) := hG.I.1 6784
          first | refine ft_goL mi_k117 4 37 [(7, .ref 106), (6, .ref 106), (0, .ref 0), (1, .int x1), (2, .int x2), (3, .int x3), (4, .int x4), (5, .int x5)] [.int (i 6784)] (by rfl) ?_ | refine ft_go mi_k117 4 37 [(7, .ref 106), (6, .ref 106), (0, .ref 0), (1, .int x1), (2, .int x2), (3, .int x3), (4, .int x4), (5, .int x5)] [.int (i 6784)] i a q r (by rfl) ?_ | refine ko_steps mi_in117 4 _ (37, [(7, .ref 106), (6, .ref 106), (0, .ref 0), (1, .int x1), (2, .int x2), (3, .int x3), (4, .int x4), (5, .int x5)], [.int (i 6784)], (0, 0), ks i a q r) (by rfl) ?_
          refine ft_ifS mi_k117 ((i 6784) == 0) 48 40 [] (by rfl) (fun c => ?_) (fun c => ?_)
          ·
            have c134 : (i 6784).toInt = (0 : Int32).toInt := kd_eq c; clear c
            first | refine fo_goS mi_k117 fz117_48_1_50 [.int (-11)] (by rfl) ?_ | refine ft_go mi_k117 1 50 [(7, .ref 106), (6, .ref 106), (0, .ref 0), (1, .int x1), (2, .int x2), (3, .int x3), (4, .int x4), (5, .int x5)] [.int (-11)] i a q r (by rfl) ?_ | refine ko_steps mi_in117 1 _ (50, [(7, .ref 106), (6, .ref 106), (0, .ref 0), (1, .int x1), (2, .int x2), (3, .int x3), (4, .int x4), (5, .int x5)], [.int (-11)], (0, 0), ks i a q r) (by rfl) ?_
            have fi_6786 : ((0 : Int) ≤ (i 6786).toInt) ∧ ((i 6786).toInt ≤ 4) := hG.I.1 6786
            have fi_6787 : ((0 : Int) ≤ (i 6787).toInt) ∧ ((i 6787).toInt ≤ 60) := hG.I.1 6787
            exact ft_ret mi_k117 (by rfl) (hP (-11) _ _ _ _ hG ⟨trivial, ⟨fun s t hs ht e1 e3 => by
        have es : s = 1 := kj_at e1 (oy126 w114)
        have et : t = 1 := kj_at e3 (oy126 w133)
        subst es
        subst et
        exact ⟨(Or.inl ⟨kym11, (oy108 c134 fi_6784.1 ky0)⟩), fun h => absurd h (kj_neg kym11 (by decide))⟩, fun _ => (fun u hu => match u, hu with | 0, _ => rfl | 1, _ => rfl | 2, _ => rfl | 3, _ => rfl | 4, _ => rfl | 5, _ => rfl | _ + 6, h => absurd h (by omega)), fun h => absurd (oy153 w114 w133 z2.2 z4.2) h⟩⟩)
          ·
            have c135 : (i 6784).toInt ≠ (0 : Int32).toInt := kd_eqF c; clear c
            first | refine fo_goL mi_k117 fz117_40_2_45 [(7, .ref 106), (6, .ref 106), (0, .ref 0), (1, .int x1), (2, .int x2), (3, .int x3), (4, .int x4), (5, .int x5)] [.int (i 6784)] (by rfl) ?_ | refine ft_go mi_k117 2 45 [(7, .ref 106), (6, .ref 106), (0, .ref 0), (1, .int x1), (2, .int x2), (3, .int x3), (4, .int x4), (5, .int x5)] [.int (i 6784)] i a q r (by rfl) ?_ | refine ko_steps mi_in117 2 _ (45, [(7, .ref 106), (6, .ref 106), (0, .ref 0), (1, .int x1), (2, .int x2), (3, .int x3), (4, .int x4), (5, .int x5)], [.int (i 6784)], (0, 0), ks i a q r) (by rfl) ?_
            refine ft_ifS mi_k117 ((i 6784) != 0) 51 48 [] (by rfl) (fun c => ?_) (fun c => ?_)
            ·
              have c136 : (i 6784).toInt ≠ (0 : Int32).toInt := kd_ne c; clear c
              first | refine fo_goS mi_k117 fz117_51_3_57 [.int 2, .int (i 6784)] (by rfl) ?_ | refine ft_go mi_k117 3 57 [(7, .ref 106), (6, .ref 106), (0, .ref 0), (1, .int x1), (2, .int x2), (3, .int x3), (4, .int x4), (5, .int x5)] [.int 2, .int (i 6784)] i a q r (by rfl) ?_ | refine ko_steps mi_in117 3 _ (57, [(7, .ref 106), (6, .ref 106), (0, .ref 0), (1, .int x1), (2, .int x2), (3, .int x3), (4, .int x4), (5, .int x5)], [.int 2, .int (i 6784)], (0, 0), ks i a q r) (by rfl) ?_
              refine ft_ifS mi_k117 ((i 6784) != 2) 82 60 [] (by rfl) (fun c => ?_) (fun c => ?_)
              ·
                have c137 : (i 6784).toInt ≠ (2 : Int32).toInt := kd_ne c; clear c
                first | refine fo_goS mi_k117 fz117_82_1_84 [.int (-12)] (by rfl) ?_ | refine ft_go mi_k117 1 84 [(7, .ref 106), (6, .ref 106), (0, .ref 0), (1, .int x1), (2, .int x2), (3, .int x3), (4, .int x4), (5, .int x5)] [.int (-12)] i a q r (by rfl) ?_ | refine ko_steps mi_in117 1 _ (84, [(7, .ref 106), (6, .ref 106), (0, .ref 0), (1, .int x1), (2, .int x2), (3, .int x3), (4, .int x4), (5, .int x5)], [.int (-12)], (0, 0), ks i a q r) (by rfl) ?_
                have fi_6786 : ((0 : Int) ≤ (i 6786).toInt) ∧ ((i 6786).toInt ≤ 4) := hG.I.1 6786
                have fi_6787 : ((0 : Int) ≤ (i 6787).toInt) ∧ ((i 6787).toInt ≤ 60) := hG.I.1 6787
                exact ft_ret mi_k117 (by rfl) (hP (-12) _ _ _ _ hG ⟨trivial, ⟨fun s t hs ht e1 e3 => by
        have es : s = 1 := kj_at e1 (oy126 w114)
        have et : t = 1 := kj_at e3 (oy126 w133)
        subst es
        subst et
        exact ⟨(Or.inr (Or.inl ⟨kym12, (oy109 c135 fi_6784.1 ky0), (oy110 c137 fi_6784.2 ky2)⟩)), fun h => absurd h (kj_neg kym12 (by decide))⟩, fun _ => (fun u hu => match u, hu with | 0, _ => rfl | 1, _ => rfl | 2, _ => rfl | 3, _ => rfl | 4, _ => rfl | 5, _ => rfl | _ + 6, h => absurd h (by omega)), fun h => absurd (oy153 w114 w133 z2.2 z4.2) h⟩⟩)
              ·
                have c138 : (i 6784).toInt = (2 : Int32).toInt := kd_neF c; clear c
                first | refine fo_goL mi_k117 fz117_60_3_66 [(7, .ref 106), (6, .ref 106), (0, .ref 0), (1, .int x1), (2, .int x2), (3, .int x3), (4, .int x4), (5, .int x5)] [.int 2, .int (i 6784)] (by rfl) ?_ | refine ft_go mi_k117 3 66 [(7, .ref 106), (6, .ref 106), (0, .ref 0), (1, .int x1), (2, .int x2), (3, .int x3), (4, .int x4), (5, .int x5)] [.int 2, .int (i 6784)] i a q r (by rfl) ?_ | refine ko_steps mi_in117 3 _ (66, [(7, .ref 106), (6, .ref 106), (0, .ref 0), (1, .int x1), (2, .int x2), (3, .int x3), (4, .int x4), (5, .int x5)], [.int 2, .int (i 6784)], (0, 0), ks i a q r) (by rfl) ?_
                refine ft_ifS mi_k117 ((i 6784) != 2) 82 69 [] (by rfl) (fun c => ?_) (fun c => ?_)
                ·
                  have c139 : (i 6784).toInt ≠ (2 : Int32).toInt := kd_ne c; clear c
                  exact (oy111 c138 c139 fi_6784.2 ky2).elim
                ·
                  have c140 : (i 6784).toInt = (2 : Int32).toInt := kd_neF c; clear c
                  have fi_6786 : ((0 : Int) ≤ (i 6786).toInt) ∧ ((i 6786).toInt ≤ 4) := hG.I.1 6786
                  first | refine fo_goS mi_k117 fz117_69_4_79 [.int (i 6786), .int (i 6786)] (by rfl) ?_ | refine ft_go mi_k117 4 79 [(7, .ref 106), (6, .ref 106), (0, .ref 0), (1, .int x1), (2, .int x2), (3, .int x3), (4, .int x4), (5, .int x5)] [.int (i 6786), .int (i 6786)] i a q r (by rfl) ?_ | refine ko_steps mi_in117 4 _ (79, [(7, .ref 106), (6, .ref 106), (0, .ref 0), (1, .int x1), (2, .int x2), (3, .int x3), (4, .int x4), (5, .int x5)], [.int (i 6786), .int (i 6786)], (0, 0), ks i a q r) (by rfl) ?_
                  refine ft_ifS mi_k117 ((i 6786) == (i 6786)) 85 82 [] (by rfl) (fun c => ?_) (fun c => ?_)
                  ·
                    have c141 : (i 6786).toInt = (i 6786).toInt := kd_eq c; clear c
                    first | refine fo_goS mi_k117 fz117_85_3_90 [.int x5, .int x2, .ref 106] (by rfl) ?_ | refine ft_go mi_k117 3 90 [(7, .ref 106), (6, .ref 106), (0, .ref 0), (1, .int x1), (2, .int x2), (3, .int x3), (4, .int x4), (5, .int x5)] [.int x5, .int x2, .ref 106] i a q r (by rfl) ?_ | refine ko_steps mi_in117 3 _ (90, [(7, .ref 106), (6, .ref 106), (0, .ref 0), (1, .int x1), (2, .int x2), (3, .int x3), (4, .int x4), (5, .int x5)], [.int x5, .int x2, .ref 106], (0, 0), ks i a q r) (by rfl) ?_
                    refine ko_callPI mi_k117.1 (pc := 90) (ls := [(7, .ref 106), (6, .ref 106), (0, .ref 0), (1, .int x1), (2, .int x2), (3, .int x3), (4, .int x4), (5, .int x5)]) (st := [.int x5, .int x2, .ref 106]) (h := ks i a q r) (i := (.invokevirtual 324, 3, 37, 0, 9, 0, 316)) (mi_k117.2 _ _ (by rfl)) (ft_invS mi_pq37 (by rfl)) (cy := mi_c37) mi_pq37 rfl (kc37_106 hG.I hG.R x2 x5) (by decide) ?_
                    intro vg142 hg142
                    rcases hg142 with ⟨eg142, hg142⟩ | ⟨eg142, hg142⟩
                    ·
                      subst eg142
                      have fi_6787 : ((0 : Int) ≤ (i 6787).toInt) ∧ ((i 6787).toInt ≤ 60) := hG.I.1 6787
                      have z143 : ((0 : Int) ≤ x5.toInt) ∧ (x5.toInt ≤ (i 6787).toInt) ∧ ((0 : Int) ≤ x2.toInt) ∧ ((x2.toInt + x5.toInt) ≤ (i 6787).toInt) := hg142
                      first | refine fo_goS mi_k117 fz117_93_4_102 [.int x5, .int x4, .ref 106] (by rfl) ?_ | refine ft_go mi_k117 4 102 [(7, .ref 106), (6, .ref 106), (0, .ref 0), (1, .int x1), (2, .int x2), (3, .int x3), (4, .int x4), (5, .int x5)] [.int x5, .int x4, .ref 106] i a q r (by rfl) ?_ | refine ko_steps mi_in117 4 _ (102, [(7, .ref 106), (6, .ref 106), (0, .ref 0), (1, .int x1), (2, .int x2), (3, .int x3), (4, .int x4), (5, .int x5)], [.int x5, .int x4, .ref 106], (0, 0), ks i a q r) (by rfl) ?_
                      refine ko_callPI mi_k117.1 (pc := 102) (ls := [(7, .ref 106), (6, .ref 106), (0, .ref 0), (1, .int x1), (2, .int x2), (3, .int x3), (4, .int x4), (5, .int x5)]) (st := [.int x5, .int x4, .ref 106]) (h := ks i a q r) (i := (.invokevirtual 324, 3, 37, 0, 9, 0, 316)) (mi_k117.2 _ _ (by rfl)) (ft_invS mi_pq37 (by rfl)) (cy := mi_c37) mi_pq37 rfl (kc37_106 hG.I hG.R x4 x5) (by decide) ?_
                      intro vg144 hg144
                      rcases hg144 with ⟨eg144, hg144⟩ | ⟨eg144, hg144⟩
                      ·
                        subst eg144
                        have z145 : ((0 : Int) ≤ x5.toInt) ∧ (x5.toInt ≤ (i 6787).toInt) ∧ ((0 : Int) ≤ x4.toInt) ∧ ((x4.toInt + x5.toInt) ≤ (i 6787).toInt) := hg144
                        first | refine fo_goS mi_k117 fz117_105_8_126 [.int x5, .int x4, .ref 107, .int x2, .ref 107] (by rfl) ?_ | refine ft_go mi_k117 8 126 [(7, .ref 106), (6, .ref 106), (0, .ref 0), (1, .int x1), (2, .int x2), (3, .int x3), (4, .int x4), (5, .int x5)] [.int x5, .int x4, .ref 107, .int x2, .ref 107] i a q r (by rfl) ?_ | refine ko_steps mi_in117 8 _ (126, [(7, .ref 106), (6, .ref 106), (0, .ref 0), (1, .int x1), (2, .int x2), (3, .int x3), (4, .int x4), (5, .int x5)], [.int x5, .int x4, .ref 107, .int x2, .ref 107], (0, 0), ks i a q r) (by rfl) ?_
                        have hJ146 := kG_q hG 107 rfl (z := mi_cpy (q 107) (q 107) x2.toNatClampNeg x4.toNatClampNeg x5.toNatClampNeg) (kcpy_len2 (n := 60) (c := 60) (m := 60) (b := 60) (sp := x2) (dp := x4) (n1 := x5) (hG.I.2.2.2 107) rfl (hG.I.2.2.2 107) rfl (oy3 z143.1) (oy3 z143.2.2.1) (oy3 z145.2.2.1) (oy119 fi_6787.2 z143.2.2.2) (oy119 fi_6787.2 z145.2.2.2))
                        refine ko_copyL2 mi_k117.1 (l := q 107) (g := q 107) (n := 60) (c := 60) (m := 60) (b := 60) (mi_k117.2 _ _ (by rfl)) (by rfl) (by rfl) (by rfl) (by rfl) (by rfl) (hG.I.2.2.2 107) rfl (hG.I.2.2.2 107) rfl (oy3 z143.1) (oy3 z143.2.2.1) (oy3 z145.2.2.1) (oy119 fi_6787.2 z143.2.2.2) (oy119 fi_6787.2 z145.2.2.2) (h5 := ks i a (ku q 107 (mi_cpy (q 107) (q 107) x2.toNatClampNeg x4.toNatClampNeg x5.toNatClampNeg)) r) (by rfl) ?_
                        first | refine fo_goS mi_k117 fz117_129_1_131 [.int x5] (by rfl) ?_ | refine ft_go mi_k117 1 131 [(7, .ref 106), (6, .ref 106), (0, .ref 0), (1, .int x1), (2, .int x2), (3, .int x3), (4, .int x4), (5, .int x5)] [.int x5] i a (ku q 107 (mi_cpy (q 107) (q 107) x2.toNatClampNeg x4.toNatClampNeg x5.toNatClampNeg)) r (by rfl) ?_ | refine ko_steps mi_in117 1 _ (131, [(7, .ref 106), (6, .ref 106), (0, .ref 0), (1, .int x1), (2, .int x2), (3, .int x3), (4, .int x4), (5, .int x5)], [.int x5], (0, 0), ks i a (ku q 107 (mi_cpy (q 107) (q 107) x2.toNatClampNeg x4.toNatClampNeg x5.toNatClampNeg)) r) (by rfl) ?_
                        exact ft_ret mi_k117 (by rfl) (hP x5 _ _ _ _ hJ146 ⟨trivial, ⟨fun s t hs ht e1 e3 => by
        have es : s = 1 := kj_at e1 (oy126 w114)
        have et : t = 1 := kj_at e3 (oy126 w133)
        subst es
        subst et
        exact ⟨(Or.inr (Or.inr (Or.inr ⟨rfl, (oy120 c138 fi_6784.2 ky2), (oy121 z143.1 z143.2.2.1 z143.2.2.2 z145.2.2.1 z145.2.2.2)⟩))), fun _ => ⟨rfl, (fun u hu ne => match u, hu, ne with | 0, _, _ => rfl | 1, _, ne => absurd rfl ne | 2, _, _ => rfl | 3, _, _ => rfl | 4, _, _ => rfl | 5, _, _ => rfl | _ + 6, h, _ => absurd h (by omega))⟩⟩, fun h => absurd h (oy26 z143.1), fun h => absurd (oy153 w114 w133 z2.2 z4.2) h⟩⟩)
                      ·
                        subst eg144
                        have z147 : ¬ (((0 : Int) ≤ x5.toInt) ∧ (x5.toInt ≤ (i 6787).toInt) ∧ ((0 : Int) ≤ x4.toInt) ∧ ((x4.toInt + x5.toInt) ≤ (i 6787).toInt)) := hg144
                        first | refine fo_goL mi_k117 fz117_93_2_110 [(7, .ref 106), (6, .ref 106), (0, .ref 0), (1, .int x1), (2, .int x2), (3, .int x3), (4, .int x4), (5, .int x5)] [.int (-13)] (by rfl) ?_ | refine fo_goL mi_k117 fz117_105_2_110 [(7, .ref 106), (6, .ref 106), (0, .ref 0), (1, .int x1), (2, .int x2), (3, .int x3), (4, .int x4), (5, .int x5)] [.int (-13)] (by rfl) ?_ | refine ft_go mi_k117 2 110 [(7, .ref 106), (6, .ref 106), (0, .ref 0), (1, .int x1), (2, .int x2), (3, .int x3), (4, .int x4), (5, .int x5)] [.int (-13)] i a q r (by rfl) ?_ | refine ko_steps mi_in117 2 _ (110, [(7, .ref 106), (6, .ref 106), (0, .ref 0), (1, .int x1), (2, .int x2), (3, .int x3), (4, .int x4), (5, .int x5)], [.int (-13)], (0, 0), ks i a q r) (by rfl) ?_
                        exact ft_ret mi_k117 (by rfl) (hP (-13) _ _ _ _ hG ⟨trivial, ⟨fun s t hs ht e1 e3 => by
        have es : s = 1 := kj_at e1 (oy126 w114)
        have et : t = 1 := kj_at e3 (oy126 w133)
        subst es
        subst et
        exact ⟨(Or.inr (Or.inr (Or.inl ⟨kym13, (oy120 c138 fi_6784.2 ky2), (oy122 z143.1 z143.2.1 z147)⟩))), fun h => absurd h (kj_neg kym13 (by decide))⟩, fun _ => (fun u hu => match u, hu with | 0, _ => rfl | 1, _ => rfl | 2, _ => rfl | 3, _ => rfl | 4, _ => rfl | 5, _ => rfl | _ + 6, h => absurd h (by omega)), fun h => absurd (oy153 w114 w133 z2.2 z4.2) h⟩⟩)
                    ·
                      subst eg142
                      have fi_6787 : ((0 : Int) ≤ (i 6787).toInt) ∧ ((i 6787).toInt ≤ 60) := hG.I.1 6787
                      have z148 : ¬ (((0 : Int) ≤ x5.toInt) ∧ (x5.toInt ≤ (i 6787).toInt) ∧ ((0 : Int) ≤ x2.toInt) ∧ ((x2.toInt + x5.toInt) ≤ (i 6787).toInt)) := hg142
                      first | refine fo_goL mi_k117 fz117_93_2_110 [(7, .ref 106), (6, .ref 106), (0, .ref 0), (1, .int x1), (2, .int x2), (3, .int x3), (4, .int x4), (5, .int x5)] [.int (-13)] (by rfl) ?_ | refine fo_goL mi_k117 fz117_105_2_110 [(7, .ref 106), (6, .ref 106), (0, .ref 0), (1, .int x1), (2, .int x2), (3, .int x3), (4, .int x4), (5, .int x5)] [.int (-13)] (by rfl) ?_ | refine ft_go mi_k117 2 110 [(7, .ref 106), (6, .ref 106), (0, .ref 0), (1, .int x1), (2, .int x2), (3, .int x3), (4, .int x4), (5, .int x5)] [.int (-13)] i a q r (by rfl) ?_ | refine ko_steps mi_in117 2 _ (110, [(7, .ref 106), (6, .ref 106), (0, .ref 0), (1, .int x1), (2, .int x2), (3, .int x3), (4, .int x4), (5, .int x5)], [.int (-13)], (0, 0), ks i a q r) (by rfl) ?_
                      exact ft_ret mi_k117 (by rfl) (hP (-13) _ _ _ _ hG ⟨trivial, ⟨fun s t hs ht e1 e3 => by
        have es : s = 1 := kj_at e1 (oy126 w114)
        have et : t = 1 := kj_at e3 (oy126 w133)
        subst es
        subst et
        exact ⟨(Or.inr (Or.inr (Or.inl ⟨kym13, (oy120 c138 fi_6784.2 ky2), (oy123 z148)⟩))), fun h => absurd h (kj_neg kym13 (by decide))⟩, fun _ => (fun u hu => match u, hu with | 0, _ => rfl | 1, _ => rfl | 2, _ => rfl | 3, _ => rfl | 4, _ => rfl | 5, _ => rfl | _ + 6, h => absurd h (by omega)), fun h => absurd (oy153 w114 w133 z2.2 z4.2) h⟩⟩)
                  ·
                    have c149 : (i 6786).toInt ≠ (i 6786).toInt := kd_eqF c; clear c
                    exact (oy124 c149).elim
            ·
              have c150 : (i 6784).toInt = (0 : Int32).toInt := kd_neF c; clear c
              exact (oy154 c135 c150 fi_6784.1 ky0).elim
        by_cases w151 : x3.toInt = 2
        ·
          refine ko_eq (x1 := (29, [(6, .ref 106), (0, .ref 0), (1, .int x1), (2, .int x2), (3, .int x3), (4, .int x4), (5, .int x5)], [.int 2, .ref 97], (0, 0), ks i a q r)) (by rw [(kj_eq w151 (by decide) : x3 = 2)]) ?_
          have fi_6784 : ((0 : Int) ≤ (i 6784).toInt) ∧ ((i 6784).toInt ≤ 2) := hG.I.1 6784
          first | refine ft_goL mi_k117 4 37 [(7, .ref 108), (6, .ref 106), (0, .ref 0), (1, .int x1), (2, .int x2), (3, .int x3), (4, .int x4), (5, .int x5)] [.int (i 6784)] (by rfl) ?_ | refine ft_go mi_k117 4 37 [(7, .ref 108), (6, .ref 106), (0, .ref 0), (1, .int x1), (2, .int x2), (3, .int x3), (4, .int x4), (5, .int x5)] [.int (i 6784)] i a q r (by rfl) ?_ | refine ko_steps mi_in117 4 _ (37, [(7, .ref 108), (6, .ref 106), (0, .ref 0), (1, .int x1), (2, .int x2), (3, .int x3), (4, .int x4), (5, .int x5)], [.int (i 6784)], (0, 0), ks i a q r) (by rfl) ?_
          refine ft_ifS mi_k117 ((i 6784) == 0) 48 40 [] (by rfl) (fun c => ?_) (fun c => ?_)
          ·
            have c152 : (i 6784).toInt = (0 : Int32).toInt := kd_eq c; clear c
            first | refine fo_goS mi_k117 fz117_48_1_50 [.int (-11)] (by rfl) ?_ | refine ft_go mi_k117 1 50 [(7, .ref 108), (6, .ref 106), (0, .ref 0), (1, .int x1), (2, .int x2), (3, .int x3), (4, .int x4), (5, .int x5)] [.int (-11)] i a q r (by rfl) ?_ | refine ko_steps mi_in117 1 _ (50, [(7, .ref 108), (6, .ref 106), (0, .ref 0), (1, .int x1), (2, .int x2), (3, .int x3), (4, .int x4), (5, .int x5)], [.int (-11)], (0, 0), ks i a q r) (by rfl) ?_
            have fi_6912 : ((0 : Int) ≤ (i 6912).toInt) ∧ ((i 6912).toInt ≤ 2) := hG.I.1 6912
            have fi_6786 : ((0 : Int) ≤ (i 6786).toInt) ∧ ((i 6786).toInt ≤ 4) := hG.I.1 6786
            have fi_6914 : ((0 : Int) ≤ (i 6914).toInt) ∧ ((i 6914).toInt ≤ 4) := hG.I.1 6914
            have fi_6787 : ((0 : Int) ≤ (i 6787).toInt) ∧ ((i 6787).toInt ≤ 60) := hG.I.1 6787
            have fi_6915 : ((0 : Int) ≤ (i 6915).toInt) ∧ ((i 6915).toInt ≤ 60) := hG.I.1 6915
            exact ft_ret mi_k117 (by rfl) (hP (-11) _ _ _ _ hG ⟨trivial, ⟨fun s t hs ht e1 e3 => by
        have es : s = 1 := kj_at e1 (oy126 w114)
        have et : t = 2 := kj_at e3 (oy140 w151)
        subst es
        subst et
        exact ⟨(Or.inl ⟨kym11, (oy127 c152 fi_6784.1 ky0)⟩), fun h => absurd h (kj_neg kym11 (by decide))⟩, fun _ => (fun u hu => match u, hu with | 0, _ => rfl | 1, _ => rfl | 2, _ => rfl | 3, _ => rfl | 4, _ => rfl | 5, _ => rfl | _ + 6, h => absurd h (by omega)), fun h => absurd (oy155 w114 w151 z2.2 z4.2) h⟩⟩)
          ·
            have c153 : (i 6784).toInt ≠ (0 : Int32).toInt := kd_eqF c; clear c
            have fi_6912 : ((0 : Int) ≤ (i 6912).toInt) ∧ ((i 6912).toInt ≤ 2) := hG.I.1 6912
            first | refine fo_goL mi_k117 fz117_40_2_45 [(7, .ref 108), (6, .ref 106), (0, .ref 0), (1, .int x1), (2, .int x2), (3, .int x3), (4, .int x4), (5, .int x5)] [.int (i 6912)] (by rfl) ?_ | refine ft_go mi_k117 2 45 [(7, .ref 108), (6, .ref 106), (0, .ref 0), (1, .int x1), (2, .int x2), (3, .int x3), (4, .int x4), (5, .int x5)] [.int (i 6912)] i a q r (by rfl) ?_ | refine ko_steps mi_in117 2 _ (45, [(7, .ref 108), (6, .ref 106), (0, .ref 0), (1, .int x1), (2, .int x2), (3, .int x3), (4, .int x4), (5, .int x5)], [.int (i 6912)], (0, 0), ks i a q r) (by rfl) ?_
            refine ft_ifS mi_k117 ((i 6912) != 0) 51 48 [] (by rfl) (fun c => ?_) (fun c => ?_)
            ·
              have c154 : (i 6912).toInt ≠ (0 : Int32).toInt := kd_ne c; clear c
              first | refine fo_goS mi_k117 fz117_51_3_57 [.int 2, .int (i 6784)] (by rfl) ?_ | refine ft_go mi_k117 3 57 [(7, .ref 108), (6, .ref 106), (0, .ref 0), (1, .int x1), (2, .int x2), (3, .int x3), (4, .int x4), (5, .int x5)] [.int 2, .int (i 6784)] i a q r (by rfl) ?_ | refine ko_steps mi_in117 3 _ (57, [(7, .ref 108), (6, .ref 106), (0, .ref 0), (1, .int x1), (2, .int x2), (3, .int x3), (4, .int x4), (5, .int x5)], [.int 2, .int (i 6784)], (0, 0), ks i a q r) (by rfl) ?_
              refine ft_ifS mi_k117 ((i 6784) != 2) 82 60 [] (by rfl) (fun c => ?_) (fun c => ?_)
              ·
                have c155 : (i 6784).toInt ≠ (2 : Int32).toInt := kd_ne c; clear c
                first | refine fo_goS mi_k117 fz117_82_1_84 [.int (-12)] (by rfl) ?_ | refine ft_go mi_k117 1 84 [(7, .ref 108), (6, .ref 106), (0, .ref 0), (1, .int x1), (2, .int x2), (3, .int x3), (4, .int x4), (5, .int x5)] [.int (-12)] i a q r (by rfl) ?_ | refine ko_steps mi_in117 1 _ (84, [(7, .ref 108), (6, .ref 106), (0, .ref 0), (1, .int x1), (2, .int x2), (3, .int x3), (4, .int x4), (5, .int x5)], [.int (-12)], (0, 0), ks i a q r) (by rfl) ?_
                have fi_6786 : ((0 : Int) ≤ (i 6786).toInt) ∧ ((i 6786).toInt ≤ 4) := hG.I.1 6786
                have fi_6914 : ((0 : Int) ≤ (i 6914).toInt) ∧ ((i 6914).toInt ≤ 4) := hG.I.1 6914
                have fi_6787 : ((0 : Int) ≤ (i 6787).toInt) ∧ ((i 6787).toInt ≤ 60) := hG.I.1 6787
                have fi_6915 : ((0 : Int) ≤ (i 6915).toInt) ∧ ((i 6915).toInt ≤ 60) := hG.I.1 6915
                exact ft_ret mi_k117 (by rfl) (hP (-12) _ _ _ _ hG ⟨trivial, ⟨fun s t hs ht e1 e3 => by
        have es : s = 1 := kj_at e1 (oy126 w114)
        have et : t = 2 := kj_at e3 (oy140 w151)
        subst es
        subst et
        exact ⟨(Or.inr (Or.inl ⟨kym12, (oy129 c153 c154 fi_6784.1 fi_6912.1 ky0), (oy130 c155 fi_6784.2 ky2)⟩)), fun h => absurd h (kj_neg kym12 (by decide))⟩, fun _ => (fun u hu => match u, hu with | 0, _ => rfl | 1, _ => rfl | 2, _ => rfl | 3, _ => rfl | 4, _ => rfl | 5, _ => rfl | _ + 6, h => absurd h (by omega)), fun h => absurd (oy155 w114 w151 z2.2 z4.2) h⟩⟩)
              ·
                have c156 : (i 6784).toInt = (2 : Int32).toInt := kd_neF c; clear c
                first | refine fo_goL mi_k117 fz117_60_3_66 [(7, .ref 108), (6, .ref 106), (0, .ref 0), (1, .int x1), (2, .int x2), (3, .int x3), (4, .int x4), (5, .int x5)] [.int 2, .int (i 6912)] (by rfl) ?_ | refine ft_go mi_k117 3 66 [(7, .ref 108), (6, .ref 106), (0, .ref 0), (1, .int x1), (2, .int x2), (3, .int x3), (4, .int x4), (5, .int x5)] [.int 2, .int (i 6912)] i a q r (by rfl) ?_ | refine ko_steps mi_in117 3 _ (66, [(7, .ref 108), (6, .ref 106), (0, .ref 0), (1, .int x1), (2, .int x2), (3, .int x3), (4, .int x4), (5, .int x5)], [.int 2, .int (i 6912)], (0, 0), ks i a q r) (by rfl) ?_
                refine ft_ifS mi_k117 ((i 6912) != 2) 82 69 [] (by rfl) (fun c => ?_) (fun c => ?_)
                ·
                  have c157 : (i 6912).toInt ≠ (2 : Int32).toInt := kd_ne c; clear c
                  first | refine fo_goS mi_k117 fz117_82_1_84 [.int (-12)] (by rfl) ?_ | refine ft_go mi_k117 1 84 [(7, .ref 108), (6, .ref 106), (0, .ref 0), (1, .int x1), (2, .int x2), (3, .int x3), (4, .int x4), (5, .int x5)] [.int (-12)] i a q r (by rfl) ?_ | refine ko_steps mi_in117 1 _ (84, [(7, .ref 108), (6, .ref 106), (0, .ref 0), (1, .int x1), (2, .int x2), (3, .int x3), (4, .int x4), (5, .int x5)], [.int (-12)], (0, 0), ks i a q r) (by rfl) ?_
                  have fi_6786 : ((0 : Int) ≤ (i 6786).toInt) ∧ ((i 6786).toInt ≤ 4) := hG.I.1 6786
                  have fi_6914 : ((0 : Int) ≤ (i 6914).toInt) ∧ ((i 6914).toInt ≤ 4) := hG.I.1 6914
                  have fi_6787 : ((0 : Int) ≤ (i 6787).toInt) ∧ ((i 6787).toInt ≤ 60) := hG.I.1 6787
                  have fi_6915 : ((0 : Int) ≤ (i 6915).toInt) ∧ ((i 6915).toInt ≤ 60) := hG.I.1 6915
                  exact ft_ret mi_k117 (by rfl) (hP (-12) _ _ _ _ hG ⟨trivial, ⟨fun s t hs ht e1 e3 => by
        have es : s = 1 := kj_at e1 (oy126 w114)
        have et : t = 2 := kj_at e3 (oy140 w151)
        subst es
        subst et
        exact ⟨(Or.inr (Or.inl ⟨kym12, (oy131 c154 c156 fi_6912.1 ky0 ky2), (oy132 c157 fi_6912.2 ky2)⟩)), fun h => absurd h (kj_neg kym12 (by decide))⟩, fun _ => (fun u hu => match u, hu with | 0, _ => rfl | 1, _ => rfl | 2, _ => rfl | 3, _ => rfl | 4, _ => rfl | 5, _ => rfl | _ + 6, h => absurd h (by omega)), fun h => absurd (oy155 w114 w151 z2.2 z4.2) h⟩⟩)
                ·
                  have c158 : (i 6912).toInt = (2 : Int32).toInt := kd_neF c; clear c
                  have fi_6786 : ((0 : Int) ≤ (i 6786).toInt) ∧ ((i 6786).toInt ≤ 4) := hG.I.1 6786
                  have fi_6914 : ((0 : Int) ≤ (i 6914).toInt) ∧ ((i 6914).toInt ≤ 4) := hG.I.1 6914
                  first | refine fo_goL mi_k117 fz117_69_4_79 [(7, .ref 108), (6, .ref 106), (0, .ref 0), (1, .int x1), (2, .int x2), (3, .int x3), (4, .int x4), (5, .int x5)] [.int (i 6914), .int (i 6786)] (by rfl) ?_ | refine ft_go mi_k117 4 79 [(7, .ref 108), (6, .ref 106), (0, .ref 0), (1, .int x1), (2, .int x2), (3, .int x3), (4, .int x4), (5, .int x5)] [.int (i 6914), .int (i 6786)] i a q r (by rfl) ?_ | refine ko_steps mi_in117 4 _ (79, [(7, .ref 108), (6, .ref 106), (0, .ref 0), (1, .int x1), (2, .int x2), (3, .int x3), (4, .int x4), (5, .int x5)], [.int (i 6914), .int (i 6786)], (0, 0), ks i a q r) (by rfl) ?_
                  refine ft_ifS mi_k117 ((i 6786) == (i 6914)) 85 82 [] (by rfl) (fun c => ?_) (fun c => ?_)
                  ·
                    have c159 : (i 6786).toInt = (i 6914).toInt := kd_eq c; clear c
                    first | refine fo_goS mi_k117 fz117_85_3_90 [.int x5, .int x2, .ref 106] (by rfl) ?_ | refine ft_go mi_k117 3 90 [(7, .ref 108), (6, .ref 106), (0, .ref 0), (1, .int x1), (2, .int x2), (3, .int x3), (4, .int x4), (5, .int x5)] [.int x5, .int x2, .ref 106] i a q r (by rfl) ?_ | refine ko_steps mi_in117 3 _ (90, [(7, .ref 108), (6, .ref 106), (0, .ref 0), (1, .int x1), (2, .int x2), (3, .int x3), (4, .int x4), (5, .int x5)], [.int x5, .int x2, .ref 106], (0, 0), ks i a q r) (by rfl) ?_
                    refine ko_callPI mi_k117.1 (pc := 90) (ls := [(7, .ref 108), (6, .ref 106), (0, .ref 0), (1, .int x1), (2, .int x2), (3, .int x3), (4, .int x4), (5, .int x5)]) (st := [.int x5, .int x2, .ref 106]) (h := ks i a q r) (i := (.invokevirtual 324, 3, 37, 0, 9, 0, 316)) (mi_k117.2 _ _ (by rfl)) (ft_invS mi_pq37 (by rfl)) (cy := mi_c37) mi_pq37 rfl (kc37_106 hG.I hG.R x2 x5) (by decide) ?_
                    intro vg160 hg160
                    rcases hg160 with ⟨eg160, hg160⟩ | ⟨eg160, hg160⟩
                    ·
                      subst eg160
                      have fi_6787 : ((0 : Int) ≤ (i 6787).toInt) ∧ ((i 6787).toInt ≤ 60) := hG.I.1 6787
                      have z161 : ((0 : Int) ≤ x5.toInt) ∧ (x5.toInt ≤ (i 6787).toInt) ∧ ((0 : Int) ≤ x2.toInt) ∧ ((x2.toInt + x5.toInt) ≤ (i 6787).toInt) := hg160
                      first | refine fo_goS mi_k117 fz117_93_4_102 [.int x5, .int x4, .ref 108] (by rfl) ?_ | refine ft_go mi_k117 4 102 [(7, .ref 108), (6, .ref 106), (0, .ref 0), (1, .int x1), (2, .int x2), (3, .int x3), (4, .int x4), (5, .int x5)] [.int x5, .int x4, .ref 108] i a q r (by rfl) ?_ | refine ko_steps mi_in117 4 _ (102, [(7, .ref 108), (6, .ref 106), (0, .ref 0), (1, .int x1), (2, .int x2), (3, .int x3), (4, .int x4), (5, .int x5)], [.int x5, .int x4, .ref 108], (0, 0), ks i a q r) (by rfl) ?_
                      refine ko_callPI mi_k117.1 (pc := 102) (ls := [(7, .ref 108), (6, .ref 106), (0, .ref 0), (1, .int x1), (2, .int x2), (3, .int x3), (4, .int x4), (5, .int x5)]) (st := [.int x5, .int x4, .ref 108]) (h := ks i a q r) (i := (.invokevirtual 324, 3, 37, 0, 9, 0, 316)) (mi_k117.2 _ _ (by rfl)) (ft_invS mi_pq37 (by rfl)) (cy := mi_c37) mi_pq37 rfl (kc37_108 hG.I hG.R x4 x5) (by decide) ?_
                      intro vg162 hg162
                      rcases hg162 with ⟨eg162, hg162⟩ | ⟨eg162, hg162⟩
                      ·
                        subst eg162
                        have fi_6915 : ((0 : Int) ≤ (i 6915).toInt) ∧ ((i 6915).toInt ≤ 60) := hG.I.1 6915
                        have z163 : ((0 : Int) ≤ x5.toInt) ∧ (x5.toInt ≤ (i 6915).toInt) ∧ ((0 : Int) ≤ x4.toInt) ∧ ((x4.toInt + x5.toInt) ≤ (i 6915).toInt) := hg162
                        first | refine fo_goS mi_k117 fz117_105_8_126 [.int x5, .int x4, .ref 109, .int x2, .ref 107] (by rfl) ?_ | refine ft_go mi_k117 8 126 [(7, .ref 108), (6, .ref 106), (0, .ref 0), (1, .int x1), (2, .int x2), (3, .int x3), (4, .int x4), (5, .int x5)] [.int x5, .int x4, .ref 109, .int x2, .ref 107] i a q r (by rfl) ?_ | refine ko_steps mi_in117 8 _ (126, [(7, .ref 108), (6, .ref 106), (0, .ref 0), (1, .int x1), (2, .int x2), (3, .int x3), (4, .int x4), (5, .int x5)], [.int x5, .int x4, .ref 109, .int x2, .ref 107], (0, 0), ks i a q r) (by rfl) ?_
                        have hJ164 := kG_q hG 109 rfl (z := mi_cpy (q 107) (q 109) x2.toNatClampNeg x4.toNatClampNeg x5.toNatClampNeg) (kcpy_len2 (n := 60) (c := 60) (m := 60) (b := 60) (sp := x2) (dp := x4) (n1 := x5) (hG.I.2.2.2 107) rfl (hG.I.2.2.2 109) rfl (oy3 z161.1) (oy3 z161.2.2.1) (oy3 z163.2.2.1) (oy119 fi_6787.2 z161.2.2.2) (oy119 fi_6915.2 z163.2.2.2))
                        refine ko_copyL2 mi_k117.1 (l := q 107) (g := q 109) (n := 60) (c := 60) (m := 60) (b := 60) (mi_k117.2 _ _ (by rfl)) (by rfl) (by rfl) (by rfl) (by rfl) (by rfl) (hG.I.2.2.2 107) rfl (hG.I.2.2.2 109) rfl (oy3 z161.1) (oy3 z161.2.2.1) (oy3 z163.2.2.1) (oy119 fi_6787.2 z161.2.2.2) (oy119 fi_6915.2 z163.2.2.2) (h5 := ks i a (ku q 109 (mi_cpy (q 107) (q 109) x2.toNatClampNeg x4.toNatClampNeg x5.toNatClampNeg)) r) (by rfl) ?_
                        first | refine fo_goS mi_k117 fz117_129_1_131 [.int x5] (by rfl) ?_ | refine ft_go mi_k117 1 131 [(7, .ref 108), (6, .ref 106), (0, .ref 0), (1, .int x1), (2, .int x2), (3, .int x3), (4, .int x4), (5, .int x5)] [.int x5] i a (ku q 109 (mi_cpy (q 107) (q 109) x2.toNatClampNeg x4.toNatClampNeg x5.toNatClampNeg)) r (by rfl) ?_ | refine ko_steps mi_in117 1 _ (131, [(7, .ref 108), (6, .ref 106), (0, .ref 0), (1, .int x1), (2, .int x2), (3, .int x3), (4, .int x4), (5, .int x5)], [.int x5], (0, 0), ks i a (ku q 109 (mi_cpy (q 107) (q 109) x2.toNatClampNeg x4.toNatClampNeg x5.toNatClampNeg)) r) (by rfl) ?_
                        exact ft_ret mi_k117 (by rfl) (hP x5 _ _ _ _ hJ164 ⟨trivial, ⟨fun s t hs ht e1 e3 => by
        have es : s = 1 := kj_at e1 (oy126 w114)
        have et : t = 2 := kj_at e3 (oy140 w151)
        subst es
        subst et
        exact ⟨(Or.inr (Or.inr (Or.inr ⟨rfl, (oy133 c156 c158 c159 fi_6784.2 fi_6912.2 ky2), (oy134 z161.1 z161.2.2.1 z161.2.2.2 z163.2.2.1 z163.2.2.2)⟩))), fun _ => ⟨rfl, (fun u hu ne => match u, hu, ne with | 0, _, _ => rfl | 1, _, _ => rfl | 2, _, ne => absurd rfl ne | 3, _, _ => rfl | 4, _, _ => rfl | 5, _, _ => rfl | _ + 6, h, _ => absurd h (by omega))⟩⟩, fun h => absurd h (oy26 z161.1), fun h => absurd (oy155 w114 w151 z2.2 z4.2) h⟩⟩)
                      ·
                        subst eg162
                        have fi_6915 : ((0 : Int) ≤ (i 6915).toInt) ∧ ((i 6915).toInt ≤ 60) := hG.I.1 6915
                        have z165 : ¬ (((0 : Int) ≤ x5.toInt) ∧ (x5.toInt ≤ (i 6915).toInt) ∧ ((0 : Int) ≤ x4.toInt) ∧ ((x4.toInt + x5.toInt) ≤ (i 6915).toInt)) := hg162
                        first | refine fo_goL mi_k117 fz117_93_2_110 [(7, .ref 108), (6, .ref 106), (0, .ref 0), (1, .int x1), (2, .int x2), (3, .int x3), (4, .int x4), (5, .int x5)] [.int (-13)] (by rfl) ?_ | refine fo_goL mi_k117 fz117_105_2_110 [(7, .ref 108), (6, .ref 106), (0, .ref 0), (1, .int x1), (2, .int x2), (3, .int x3), (4, .int x4), (5, .int x5)] [.int (-13)] (by rfl) ?_ | refine ft_go mi_k117 2 110 [(7, .ref 108), (6, .ref 106), (0, .ref 0), (1, .int x1), (2, .int x2), (3, .int x3), (4, .int x4), (5, .int x5)] [.int (-13)] i a q r (by rfl) ?_ | refine ko_steps mi_in117 2 _ (110, [(7, .ref 108), (6, .ref 106), (0, .ref 0), (1, .int x1), (2, .int x2), (3, .int x3), (4, .int x4), (5, .int x5)], [.int (-13)], (0, 0), ks i a q r) (by rfl) ?_
                        exact ft_ret mi_k117 (by rfl) (hP (-13) _ _ _ _ hG ⟨trivial, ⟨fun s t hs ht e1 e3 => by
        have es : s = 1 := kj_at e1 (oy126 w114)
        have et : t = 2 := kj_at e3 (oy140 w151)
        subst es
        subst et
        exact ⟨(Or.inr (Or.inr (Or.inl ⟨kym13, (oy133 c156 c158 c159 fi_6784.2 fi_6912.2 ky2), (oy135 z161.1 z165)⟩))), fun h => absurd h (kj_neg kym13 (by decide))⟩, fun _ => (fun u hu => match u, hu with | 0, _ => rfl | 1, _ => rfl | 2, _ => rfl | 3, _ => rfl | 4, _ => rfl | 5, _ => rfl | _ + 6, h => absurd h (by omega)), fun h => absurd (oy155 w114 w151 z2.2 z4.2) h⟩⟩)
                    ·
                      subst eg160
                      have fi_6787 : ((0 : Int) ≤ (i 6787).toInt) ∧ ((i 6787).toInt ≤ 60) := hG.I.1 6787
                      have z166 : ¬ (((0 : Int) ≤ x5.toInt) ∧ (x5.toInt ≤ (i 6787).toInt) ∧ ((0 : Int) ≤ x2.toInt) ∧ ((x2.toInt + x5.toInt) ≤ (i 6787).toInt)) := hg160
                      first | refine fo_goL mi_k117 fz117_93_2_110 [(7, .ref 108), (6, .ref 106), (0, .ref 0), (1, .int x1), (2, .int x2), (3, .int x3), (4, .int x4), (5, .int x5)] [.int (-13)] (by rfl) ?_ | refine fo_goL mi_k117 fz117_105_2_110 [(7, .ref 108), (6, .ref 106), (0, .ref 0), (1, .int x1), (2, .int x2), (3, .int x3), (4, .int x4), (5, .int x5)] [.int (-13)] (by rfl) ?_ | refine ft_go mi_k117 2 110 [(7, .ref 108), (6, .ref 106), (0, .ref 0), (1, .int x1), (2, .int x2), (3, .int x3), (4, .int x4), (5, .int x5)] [.int (-13)] i a q r (by rfl) ?_ | refine ko_steps mi_in117 2 _ (110, [(7, .ref 108), (6, .ref 106), (0, .ref 0), (1, .int x1), (2, .int x2), (3, .int x3), (4, .int x4), (5, .int x5)], [.int (-13)], (0, 0), ks i a q r) (by rfl) ?_
                      have fi_6915 : ((0 : Int) ≤ (i 6915).toInt) ∧ ((i 6915).toInt ≤ 60) := hG.I.1 6915
                      exact ft_ret mi_k117 (by rfl) (hP (-13) _ _ _ _ hG ⟨trivial, ⟨fun s t hs ht e1 e3 => by
        have es : s = 1 := kj_at e1 (oy126 w114)
        have et : t = 2 := kj_at e3 (oy140 w151)
        subst es
        subst et
        exact ⟨(Or.inr (Or.inr (Or.inl ⟨kym13, (oy133 c156 c158 c159 fi_6784.2 fi_6912.2 ky2), (oy136 z166)⟩))), fun h => absurd h (kj_neg kym13 (by decide))⟩, fun _ => (fun u hu => match u, hu with | 0, _ => rfl | 1, _ => rfl | 2, _ => rfl | 3, _ => rfl | 4, _ => rfl | 5, _ => rfl | _ + 6, h => absurd h (by omega)), fun h => absurd (oy155 w114 w151 z2.2 z4.2) h⟩⟩)
                  ·
                    have c167 : (i 6786).toInt ≠ (i 6914).toInt := kd_eqF c; clear c
                    first | refine fo_goL mi_k117 fz117_82_1_84 [(7, .ref 108), (6, .ref 106), (0, .ref 0), (1, .int x1), (2, .int x2), (3, .int x3), (4, .int x4), (5, .int x5)] [.int (-12)] (by rfl) ?_ | refine ft_go mi_k117 1 84 [(7, .ref 108), (6, .ref 106), (0, .ref 0), (1, .int x1), (2, .int x2), (3, .int x3), (4, .int x4), (5, .int x5)] [.int (-12)] i a q r (by rfl) ?_ | refine ko_steps mi_in117 1 _ (84, [(7, .ref 108), (6, .ref 106), (0, .ref 0), (1, .int x1), (2, .int x2), (3, .int x3), (4, .int x4), (5, .int x5)], [.int (-12)], (0, 0), ks i a q r) (by rfl) ?_
                    have fi_6787 : ((0 : Int) ≤ (i 6787).toInt) ∧ ((i 6787).toInt ≤ 60) := hG.I.1 6787
                    have fi_6915 : ((0 : Int) ≤ (i 6915).toInt) ∧ ((i 6915).toInt ≤ 60) := hG.I.1 6915
                    exact ft_ret mi_k117 (by rfl) (hP (-12) _ _ _ _ hG ⟨trivial, ⟨fun s t hs ht e1 e3 => by
        have es : s = 1 := kj_at e1 (oy126 w114)
        have et : t = 2 := kj_at e3 (oy140 w151)
        subst es
        subst et
        exact ⟨(Or.inr (Or.inl ⟨kym12, (oy137 c156 c158 ky2), (oy138 c167)⟩)), fun h => absurd h (kj_neg kym12 (by decide))⟩, fun _ => (fun u hu => match u, hu with | 0, _ => rfl | 1, _ => rfl | 2, _ => rfl | 3, _ => rfl | 4, _ => rfl | 5, _ => rfl | _ + 6, h => absurd h (by omega)), fun h => absurd (oy155 w114 w151 z2.2 z4.2) h⟩⟩)
            ·
              have c168 : (i 6912).toInt = (0 : Int32).toInt := kd_neF c; clear c
              first | refine fo_goL mi_k117 fz117_48_1_50 [(7, .ref 108), (6, .ref 106), (0, .ref 0), (1, .int x1), (2, .int x2), (3, .int x3), (4, .int x4), (5, .int x5)] [.int (-11)] (by rfl) ?_ | refine ft_go mi_k117 1 50 [(7, .ref 108), (6, .ref 106), (0, .ref 0), (1, .int x1), (2, .int x2), (3, .int x3), (4, .int x4), (5, .int x5)] [.int (-11)] i a q r (by rfl) ?_ | refine ko_steps mi_in117 1 _ (50, [(7, .ref 108), (6, .ref 106), (0, .ref 0), (1, .int x1), (2, .int x2), (3, .int x3), (4, .int x4), (5, .int x5)], [.int (-11)], (0, 0), ks i a q r) (by rfl) ?_
              have fi_6786 : ((0 : Int) ≤ (i 6786).toInt) ∧ ((i 6786).toInt ≤ 4) := hG.I.1 6786
              have fi_6914 : ((0 : Int) ≤ (i 6914).toInt) ∧ ((i 6914).toInt ≤ 4) := hG.I.1 6914
              have fi_6787 : ((0 : Int) ≤ (i 6787).toInt) ∧ ((i 6787).toInt ≤ 60) := hG.I.1 6787
              have fi_6915 : ((0 : Int) ≤ (i 6915).toInt) ∧ ((i 6915).toInt ≤ 60) := hG.I.1 6915
              exact ft_ret mi_k117 (by rfl) (hP (-11) _ _ _ _ hG ⟨trivial, ⟨fun s t hs ht e1 e3 => by
        have es : s = 1 := kj_at e1 (oy126 w114)
        have et : t = 2 := kj_at e3 (oy140 w151)
        subst es
        subst et
        exact ⟨(Or.inl ⟨kym11, (oy139 c168 fi_6912.1 ky0)⟩), fun h => absurd h (kj_neg kym11 (by decide))⟩, fun _ => (fun u hu => match u, hu with | 0, _ => rfl | 1, _ => rfl | 2, _ => rfl | 3, _ => rfl | 4, _ => rfl | 5, _ => rfl | _ + 6, h => absurd h (by omega)), fun h => absurd (oy155 w114 w151 z2.2 z4.2) h⟩⟩)
        by_cases w169 : x3.toInt = 3
        ·
          refine ko_eq (x1 := (29, [(6, .ref 106), (0, .ref 0), (1, .int x1), (2, .int x2), (3, .int x3), (4, .int x4), (5, .int x5)], [.int 3, .ref 97], (0, 0), ks i a q r)) (by rw [(kj_eq w169 (by decide) : x3 = 3)]) ?_
          have fi_6784 : ((0 : Int) ≤ (i 6784).toInt) ∧ ((i 6784).toInt ≤ 2) := hG.I.1 6784
          first | refine ft_goL mi_k117 4 37 [(7, .ref 110), (6, .ref 106), (0, .ref 0), (1, .int x1), (2, .int x2), (3, .int x3), (4, .int x4), (5, .int x5)] [.int (i 6784)] (by rfl) ?_ | refine ft_go mi_k117 4 37 [(7, .ref 110), (6, .ref 106), (0, .ref 0), (1, .int x1), (2, .int x2), (3, .int x3), (4, .int x4), (5, .int x5)] [.int (i 6784)] i a q r (by rfl) ?_ | refine ko_steps mi_in117 4 _ (37, [(7, .ref 110), (6, .ref 106), (0, .ref 0), (1, .int x1), (2, .int x2), (3, .int x3), (4, .int x4), (5, .int x5)], [.int (i 6784)], (0, 0), ks i a q r) (by rfl) ?_
          refine ft_ifS mi_k117 ((i 6784) == 0) 48 40 [] (by rfl) (fun c => ?_) (fun c => ?_)
          ·
            have c170 : (i 6784).toInt = (0 : Int32).toInt := kd_eq c; clear c
            first | refine fo_goS mi_k117 fz117_48_1_50 [.int (-11)] (by rfl) ?_ | refine ft_go mi_k117 1 50 [(7, .ref 110), (6, .ref 106), (0, .ref 0), (1, .int x1), (2, .int x2), (3, .int x3), (4, .int x4), (5, .int x5)] [.int (-11)] i a q r (by rfl) ?_ | refine ko_steps mi_in117 1 _ (50, [(7, .ref 110), (6, .ref 106), (0, .ref 0), (1, .int x1), (2, .int x2), (3, .int x3), (4, .int x4), (5, .int x5)], [.int (-11)], (0, 0), ks i a q r) (by rfl) ?_
            have fi_7040 : ((0 : Int) ≤ (i 7040).toInt) ∧ ((i 7040).toInt ≤ 2) := hG.I.1 7040
            have fi_6786 : ((0 : Int) ≤ (i 6786).toInt) ∧ ((i 6786).toInt ≤ 4) := hG.I.1 6786
            have fi_7042 : ((0 : Int) ≤ (i 7042).toInt) ∧ ((i 7042).toInt ≤ 4) := hG.I.1 7042
            have fi_6787 : ((0 : Int) ≤ (i 6787).toInt) ∧ ((i 6787).toInt ≤ 60) := hG.I.1 6787
            have fi_7043 : ((0 : Int) ≤ (i 7043).toInt) ∧ ((i 7043).toInt ≤ 60) := hG.I.1 7043
            exact ft_ret mi_k117 (by rfl) (hP (-11) _ _ _ _ hG ⟨trivial, ⟨fun s t hs ht e1 e3 => by
        have es : s = 1 := kj_at e1 (oy126 w114)
        have et : t = 3 := kj_at e3 (oy142 w169)
        subst es
        subst et
        exact ⟨(Or.inl ⟨kym11, (oy127 c170 fi_6784.1 ky0)⟩), fun h => absurd h (kj_neg kym11 (by decide))⟩, fun _ => (fun u hu => match u, hu with | 0, _ => rfl | 1, _ => rfl | 2, _ => rfl | 3, _ => rfl | 4, _ => rfl | 5, _ => rfl | _ + 6, h => absurd h (by omega)), fun h => absurd (oy156 w114 w169 z2.2 z4.2) h⟩⟩)
          ·
            have c171 : (i 6784).toInt ≠ (0 : Int32).toInt := kd_eqF c; clear c
            have fi_7040 : ((0 : Int) ≤ (i 7040).toInt) ∧ ((i 7040).toInt ≤ 2) := hG.I.1 7040
            first | refine fo_goL mi_k117 fz117_40_2_45 [(7, .ref 110), (6, .ref 106), (0, .ref 0), (1, .int x1), (2, .int x2), (3, .int x3), (4, .int x4), (5, .int x5)] [.int (i 7040)] (by rfl) ?_ | refine ft_go mi_k117 2 45 [(7, .ref 110), (6, .ref 106), (0, .ref 0), (1, .int x1), (2, .int x2), (3, .int x3), (4, .int x4), (5, .int x5)] [.int (i 7040)] i a q r (by rfl) ?_ | refine ko_steps mi_in117 2 _ (45, [(7, .ref 110), (6, .ref 106), (0, .ref 0), (1, .int x1), (2, .int x2), (3, .int x3), (4, .int x4), (5, .int x5)], [.int (i 7040)], (0, 0), ks i a q r) (by rfl) ?_
            refine ft_ifS mi_k117 ((i 7040) != 0) 51 48 [] (by rfl) (fun c => ?_) (fun c => ?_)
            ·
              have c172 : (i 7040).toInt ≠ (0 : Int32).toInt := kd_ne c; clear c
              first | refine fo_goS mi_k117 fz117_51_3_57 [.int 2, .int (i 6784)] (by rfl) ?_ | refine ft_go mi_k117 3 57 [(7, .ref 110), (6, .ref 106), (0, .ref 0), (1, .int x1), (2, .int x2), (3, .int x3), (4, .int x4), (5, .int x5)] [.int 2, .int (i 6784)] i a q r (by rfl) ?_ | refine ko_steps mi_in117 3 _ (57, [(7, .ref 110), (6, .ref 106), (0, .ref 0), (1, .int x1), (2, .int x2), (3, .int x3), (4, .int x4), (5, .int x5)], [.int 2, .int (i 6784)], (0, 0), ks i a q r) (by rfl) ?_
              refine ft_ifS mi_k117 ((i 6784) != 2) 82 60 [] (by rfl) (fun c => ?_) (fun c => ?_)
              ·
                have c173 : (i 6784).toInt ≠ (2 : Int32).toInt := kd_ne c; clear c
                first | refine fo_goS mi_k117 fz117_82_1_84 [.int (-12)] (by rfl) ?_ | refine ft_go mi_k117 1 84 [(7, .ref 110), (6, .ref 106), (0, .ref 0), (1, .int x1), (2, .int x2), (3, .int x3), (4, .int x4), (5, .int x5)] [.int (-12)] i a q r (by rfl) ?_ | refine ko_steps mi_in117 1 _ (84, [(7, .ref 110), (6, .ref 106), (0, .ref 0), (1, .int x1), (2, .int x2), (3, .int x3), (4, .int x4), (5, .int x5)], [.int (-12)], (0, 0), ks i a q r) (by rfl) ?_
                have fi_6786 : ((0 : Int) ≤ (i 6786).toInt) ∧ ((i 6786).toInt ≤ 4) := hG.I.1 6786
                have fi_7042 : ((0 : Int) ≤ (i 7042).toInt) ∧ ((i 7042).toInt ≤ 4) := hG.I.1 7042
                have fi_6787 : ((0 : Int) ≤ (i 6787).toInt) ∧ ((i 6787).toInt ≤ 60) := hG.I.1 6787
                have fi_7043 : ((0 : Int) ≤ (i 7043).toInt) ∧ ((i 7043).toInt ≤ 60) := hG.I.1 7043
                exact ft_ret mi_k117 (by rfl) (hP (-12) _ _ _ _ hG ⟨trivial, ⟨fun s t hs ht e1 e3 => by
        have es : s = 1 := kj_at e1 (oy126 w114)
        have et : t = 3 := kj_at e3 (oy142 w169)
        subst es
        subst et
        exact ⟨(Or.inr (Or.inl ⟨kym12, (oy129 c171 c172 fi_6784.1 fi_7040.1 ky0), (oy130 c173 fi_6784.2 ky2)⟩)), fun h => absurd h (kj_neg kym12 (by decide))⟩, fun _ => (fun u hu => match u, hu with | 0, _ => rfl | 1, _ => rfl | 2, _ => rfl | 3, _ => rfl | 4, _ => rfl | 5, _ => rfl | _ + 6, h => absurd h (by omega)), fun h => absurd (oy156 w114 w169 z2.2 z4.2) h⟩⟩)
              ·
                have c174 : (i 6784).toInt = (2 : Int32).toInt := kd_neF c; clear c
                first | refine fo_goL mi_k117 fz117_60_3_66 [(7, .ref 110), (6, .ref 106), (0, .ref 0), (1, .int x1), (2, .int x2), (3, .int x3), (4, .int x4), (5, .int x5)] [.int 2, .int (i 7040)] (by rfl) ?_ | refine ft_go mi_k117 3 66 [(7, .ref 110), (6, .ref 106), (0, .ref 0), (1, .int x1), (2, .int x2), (3, .int x3), (4, .int x4), (5, .int x5)] [.int 2, .int (i 7040)] i a q r (by rfl) ?_ | refine ko_steps mi_in117 3 _ (66, [(7, .ref 110), (6, .ref 106), (0, .ref 0), (1, .int x1), (2, .int x2), (3, .int x3), (4, .int x4), (5, .int x5)], [.int 2, .int (i 7040)], (0, 0), ks i a q r) (by rfl) ?_
                refine ft_ifS mi_k117 ((i 7040) != 2) 82 69 [] (by rfl) (fun c => ?_) (fun c => ?_)
                ·
                  have c175 : (i 7040).toInt ≠ (2 : Int32).toInt := kd_ne c; clear c
                  first | refine fo_goS mi_k117 fz117_82_1_84 [.int (-12)] (by rfl) ?_ | refine ft_go mi_k117 1 84 [(7, .ref 110), (6, .ref 106), (0, .ref 0), (1, .int x1), (2, .int x2), (3, .int x3), (4, .int x4), (5, .int x5)] [.int (-12)] i a q r (by rfl) ?_ | refine ko_steps mi_in117 1 _ (84, [(7, .ref 110), (6, .ref 106), (0, .ref 0), (1, .int x1), (2, .int x2), (3, .int x3), (4, .int x4), (5, .int x5)], [.int (-12)], (0, 0), ks i a q r) (by rfl) ?_
                  have fi_6786 : ((0 : Int) ≤ (i 6786).toInt) ∧ ((i 6786).toInt ≤ 4) := hG.I.1 6786
                  have fi_7042 : ((0 : Int) ≤ (i 7042).toInt) ∧ ((i 7042).toInt ≤ 4) := hG.I.1 7042
                  have fi_6787 : ((0 : Int) ≤ (i 6787).toInt) ∧ ((i 6787).toInt ≤ 60) := hG.I.1 6787
                  have fi_7043 : ((0 : Int) ≤ (i 7043).toInt) ∧ ((i 7043).toInt ≤ 60) := hG.I.1 7043
                  exact ft_ret mi_k117 (by rfl) (hP (-12) _ _ _ _ hG ⟨trivial, ⟨fun s t hs ht e1 e3 => by
        have es : s = 1 := kj_at e1 (oy126 w114)
        have et : t = 3 := kj_at e3 (oy142 w169)
        subst es
        subst et
        exact ⟨(Or.inr (Or.inl ⟨kym12, (oy131 c172 c174 fi_7040.1 ky0 ky2), (oy132 c175 fi_7040.2 ky2)⟩)), fun h => absurd h (kj_neg kym12 (by decide))⟩, fun _ => (fun u hu => match u, hu with | 0, _ => rfl | 1, _ => rfl | 2, _ => rfl | 3, _ => rfl | 4, _ => rfl | 5, _ => rfl | _ + 6, h => absurd h (by omega)), fun h => absurd (oy156 w114 w169 z2.2 z4.2) h⟩⟩)
                ·
                  have c176 : (i 7040).toInt = (2 : Int32).toInt := kd_neF c; clear c
                  have fi_6786 : ((0 : Int) ≤ (i 6786).toInt) ∧ ((i 6786).toInt ≤ 4) := hG.I.1 6786
                  have fi_7042 : ((0 : Int) ≤ (i 7042).toInt) ∧ ((i 7042).toInt ≤ 4) := hG.I.1 7042
                  first | refine fo_goL mi_k117 fz117_69_4_79 [(7, .ref 110), (6, .ref 106), (0, .ref 0), (1, .int x1), (2, .int x2), (3, .int x3), (4, .int x4), (5, .int x5)] [.int (i 7042), .int (i 6786)] (by rfl) ?_ | refine ft_go mi_k117 4 79 [(7, .ref 110), (6, .ref 106), (0, .ref 0), (1, .int x1), (2, .int x2), (3, .int x3), (4, .int x4), (5, .int x5)] [.int (i 7042), .int (i 6786)] i a q r (by rfl) ?_ | refine ko_steps mi_in117 4 _ (79, [(7, .ref 110), (6, .ref 106), (0, .ref 0), (1, .int x1), (2, .int x2), (3, .int x3), (4, .int x4), (5, .int x5)], [.int (i 7042), .int (i 6786)], (0, 0), ks i a q r) (by rfl) ?_
                  refine ft_ifS mi_k117 ((i 6786) == (i 7042)) 85 82 [] (by rfl) (fun c => ?_) (fun c => ?_)
                  ·
                    have c177 : (i 6786).toInt = (i 7042).toInt := kd_eq c; clear c
                    first | refine fo_goS mi_k117 fz117_85_3_90 [.int x5, .int x2, .ref 106] (by rfl) ?_ | refine ft_go mi_k117 3 90 [(7, .ref 110), (6, .ref 106), (0, .ref 0), (1, .int x1), (2, .int x2), (3, .int x3), (4, .int x4), (5, .int x5)] [.int x5, .int x2, .ref 106] i a q r (by rfl) ?_ | refine ko_steps mi_in117 3 _ (90, [(7, .ref 110), (6, .ref 106), (0, .ref 0), (1, .int x1), (2, .int x2), (3, .int x3), (4, .int x4), (5, .int x5)], [.int x5, .int x2, .ref 106], (0, 0), ks i a q r) (by rfl) ?_
                    refine ko_callPI mi_k117.1 (pc := 90) (ls := [(7, .ref 110), (6, .ref 106), (0, .ref 0), (1, .int x1), (2, .int x2), (3, .int x3), (4, .int x4), (5, .int x5)]) (st := [.int x5, .int x2, .ref 106]) (h := ks i a q r) (i := (.invokevirtual 324, 3, 37, 0, 9, 0, 316)) (mi_k117.2 _ _ (by rfl)) (ft_invS mi_pq37 (by rfl)) (cy := mi_c37) mi_pq37 rfl (kc37_106 hG.I hG.R x2 x5) (by decide) ?_
                    intro vg178 hg178
                    rcases hg178 with ⟨eg178, hg178⟩ | ⟨eg178, hg178⟩
                    ·
                      subst eg178
                      have fi_6787 : ((0 : Int) ≤ (i 6787).toInt) ∧ ((i 6787).toInt ≤ 60) := hG.I.1 6787
                      have z179 : ((0 : Int) ≤ x5.toInt) ∧ (x5.toInt ≤ (i 6787).toInt) ∧ ((0 : Int) ≤ x2.toInt) ∧ ((x2.toInt + x5.toInt) ≤ (i 6787).toInt) := hg178
                      first | refine fo_goS mi_k117 fz117_93_4_102 [.int x5, .int x4, .ref 110] (by rfl) ?_ | refine ft_go mi_k117 4 102 [(7, .ref 110), (6, .ref 106), (0, .ref 0), (1, .int x1), (2, .int x2), (3, .int x3), (4, .int x4), (5, .int x5)] [.int x5, .int x4, .ref 110] i a q r (by rfl) ?_ | refine ko_steps mi_in117 4 _ (102, [(7, .ref 110), (6, .ref 106), (0, .ref 0), (1, .int x1), (2, .int x2), (3, .int x3), (4, .int x4), (5, .int x5)], [.int x5, .int x4, .ref 110], (0, 0), ks i a q r) (by rfl) ?_
                      refine ko_callPI mi_k117.1 (pc := 102) (ls := [(7, .ref 110), (6, .ref 106), (0, .ref 0), (1, .int x1), (2, .int x2), (3, .int x3), (4, .int x4), (5, .int x5)]) (st := [.int x5, .int x4, .ref 110]) (h := ks i a q r) (i := (.invokevirtual 324, 3, 37, 0, 9, 0, 316)) (mi_k117.2 _ _ (by rfl)) (ft_invS mi_pq37 (by rfl)) (cy := mi_c37) mi_pq37 rfl (kc37_110 hG.I hG.R x4 x5) (by decide) ?_
                      intro vg180 hg180
                      rcases hg180 with ⟨eg180, hg180⟩ | ⟨eg180, hg180⟩
                      ·
                        subst eg180
                        have fi_7043 : ((0 : Int) ≤ (i 7043).toInt) ∧ ((i 7043).toInt ≤ 60) := hG.I.1 7043
                        have z181 : ((0 : Int) ≤ x5.toInt) ∧ (x5.toInt ≤ (i 7043).toInt) ∧ ((0 : Int) ≤ x4.toInt) ∧ ((x4.toInt + x5.toInt) ≤ (i 7043).toInt) := hg180
                        first | refine fo_goS mi_k117 fz117_105_8_126 [.int x5, .int x4, .ref 111, .int x2, .ref 107] (by rfl) ?_ | refine ft_go mi_k117 8 126 [(7, .ref 110), (6, .ref 106), (0, .ref 0), (1, .int x1), (2, .int x2), (3, .int x3), (4, .int x4), (5, .int x5)] [.int x5, .int x4, .ref 111, .int x2, .ref 107] i a q r (by rfl) ?_ | refine ko_steps mi_in117 8 _ (126, [(7, .ref 110), (6, .ref 106), (0, .ref 0), (1, .int x1), (2, .int x2), (3, .int x3), (4, .int x4), (5, .int x5)], [.int x5, .int x4, .ref 111, .int x2, .ref 107], (0, 0), ks i a q r) (by rfl) ?_
                        have hJ182 := kG_q hG 111 rfl (z := mi_cpy (q 107) (q 111) x2.toNatClampNeg x4.toNatClampNeg x5.toNatClampNeg) (kcpy_len2 (n := 60) (c := 60) (m := 60) (b := 60) (sp := x2) (dp := x4) (n1 := x5) (hG.I.2.2.2 107) rfl (hG.I.2.2.2 111) rfl (oy3 z179.1) (oy3 z179.2.2.1) (oy3 z181.2.2.1) (oy119 fi_6787.2 z179.2.2.2) (oy119 fi_7043.2 z181.2.2.2))
                        refine ko_copyL2 mi_k117.1 (l := q 107) (g := q 111) (n := 60) (c := 60) (m := 60) (b := 60) (mi_k117.2 _ _ (by rfl)) (by rfl) (by rfl) (by rfl) (by rfl) (by rfl) (hG.I.2.2.2 107) rfl (hG.I.2.2.2 111) rfl (oy3 z179.1) (oy3 z179.2.2.1) (oy3 z181.2.2.1) (oy119 fi_6787.2 z179.2.2.2) (oy119 fi_7043.2 z181.2.2.2) (h5 := ks i a (ku q 111 (mi_cpy (q 107) (q 111) x2.toNatClampNeg x4.toNatClampNeg x5.toNatClampNeg)) r) (by rfl) ?_
                        first | refine fo_goS mi_k117 fz117_129_1_131 [.int x5] (by rfl) ?_ | refine ft_go mi_k117 1 131 [(7, .ref 110), (6, .ref 106), (0, .ref 0), (1, .int x1), (2, .int x2), (3, .int x3), (4, .int x4), (5, .int x5)] [.int x5] i a (ku q 111 (mi_cpy (q 107) (q 111) x2.toNatClampNeg x4.toNatClampNeg x5.toNatClampNeg)) r (by rfl) ?_ | refine ko_steps mi_in117 1 _ (131, [(7, .ref 110), (6, .ref 106), (0, .ref 0), (1, .int x1), (2, .int x2), (3, .int x3), (4, .int x4), (5, .int x5)], [.int x5], (0, 0), ks i a (ku q 111 (mi_cpy (q 107) (q 111) x2.toNatClampNeg x4.toNatClampNeg x5.toNatClampNeg)) r) (by rfl) ?_
                        exact ft_ret mi_k117 (by rfl) (hP x5 _ _ _ _ hJ182 ⟨trivial, ⟨fun s t hs ht e1 e3 => by
        have es : s = 1 := kj_at e1 (oy126 w114)
        have et : t = 3 := kj_at e3 (oy142 w169)
        subst es
        subst et
        exact ⟨(Or.inr (Or.inr (Or.inr ⟨rfl, (oy133 c174 c176 c177 fi_6784.2 fi_7040.2 ky2), (oy134 z179.1 z179.2.2.1 z179.2.2.2 z181.2.2.1 z181.2.2.2)⟩))), fun _ => ⟨rfl, (fun u hu ne => match u, hu, ne with | 0, _, _ => rfl | 1, _, _ => rfl | 2, _, _ => rfl | 3, _, ne => absurd rfl ne | 4, _, _ => rfl | 5, _, _ => rfl | _ + 6, h, _ => absurd h (by omega))⟩⟩, fun h => absurd h (oy26 z179.1), fun h => absurd (oy156 w114 w169 z2.2 z4.2) h⟩⟩)
                      ·
                        subst eg180
                        have fi_7043 : ((0 : Int) ≤ (i 7043).toInt) ∧ ((i 7043).toInt ≤ 60) := hG.I.1 7043
                        have z183 : ¬ (((0 : Int) ≤ x5.toInt) ∧ (x5.toInt ≤ (i 7043).toInt) ∧ ((0 : Int) ≤ x4.toInt) ∧ ((x4.toInt + x5.toInt) ≤ (i 7043).toInt)) := hg180
                        first | refine fo_goL mi_k117 fz117_93_2_110 [(7, .ref 110), (6, .ref 106), (0, .ref 0), (1, .int x1), (2, .int x2), (3, .int x3), (4, .int x4), (5, .int x5)] [.int (-13)] (by rfl) ?_ | refine fo_goL mi_k117 fz117_105_2_110 [(7, .ref 110), (6, .ref 106), (0, .ref 0), (1, .int x1), (2, .int x2), (3, .int x3), (4, .int x4), (5, .int x5)] [.int (-13)] (by rfl) ?_ | refine ft_go mi_k117 2 110 [(7, .ref 110), (6, .ref 106), (0, .ref 0), (1, .int x1), (2, .int x2), (3, .int x3), (4, .int x4), (5, .int x5)] [.int (-13)] i a q r (by rfl) ?_ | refine ko_steps mi_in117 2 _ (110, [(7, .ref 110), (6, .ref 106), (0, .ref 0), (1, .int x1), (2, .int x2), (3, .int x3), (4, .int x4), (5, .int x5)], [.int (-13)], (0, 0), ks i a q r) (by rfl) ?_
                        exact ft_ret mi_k117 (by rfl) (hP (-13) _ _ _ _ hG ⟨trivial, ⟨fun s t hs ht e1 e3 => by
        have es : s = 1 := kj_at e1 (oy126 w114)
        have et : t = 3 := kj_at e3 (oy142 w169)
        subst es
        subst et
        exact ⟨(Or.inr (Or.inr (Or.inl ⟨kym13, (oy133 c174 c176 c177 fi_6784.2 fi_7040.2 ky2), (oy135 z179.1 z183)⟩))), fun h => absurd h (kj_neg kym13 (by decide))⟩, fun _ => (fun u hu => match u, hu with | 0, _ => rfl | 1, _ => rfl | 2, _ => rfl | 3, _ => rfl | 4, _ => rfl | 5, _ => rfl | _ + 6, h => absurd h (by omega)), fun h => absurd (oy156 w114 w169 z2.2 z4.2) h⟩⟩)
                    ·
                      subst eg178
                      have fi_6787 : ((0 : Int) ≤ (i 6787).toInt) ∧ ((i 6787).toInt ≤ 60) := hG.I.1 6787
                      have z184 : ¬ (((0 : Int) ≤ x5.toInt) ∧ (x5.toInt ≤ (i 6787).toInt) ∧ ((0 : Int) ≤ x2.toInt) ∧ ((x2.toInt + x5.toInt) ≤ (i 6787).toInt)) := hg178
                      first | refine fo_goL mi_k117 fz117_93_2_110 [(7, .ref 110), (6, .ref 106), (0, .ref 0), (1, .int x1), (2, .int x2), (3, .int x3), (4, .int x4), (5, .int x5)] [.int (-13)] (by rfl) ?_ | refine fo_goL mi_k117 fz117_105_2_110 [(7, .ref 110), (6, .ref 106), (0, .ref 0), (1, .int x1), (2, .int x2), (3, .int x3), (4, .int x4), (5, .int x5)] [.int (-13)] (by rfl) ?_ | refine ft_go mi_k117 2 110 [(7, .ref 110), (6, .ref 106), (0, .ref 0), (1, .int x1), (2, .int x2), (3, .int x3), (4, .int x4), (5, .int x5)] [.int (-13)] i a q r (by rfl) ?_ | refine ko_steps mi_in117 2 _ (110, [(7, .ref 110), (6, .ref 106), (0, .ref 0), (1, .int x1), (2, .int x2), (3, .int x3), (4, .int x4), (5, .int x5)], [.int (-13)], (0, 0), ks i a q r) (by rfl) ?_
                      have fi_7043 : ((0 : Int) ≤ (i 7043).toInt) ∧ ((i 7043).toInt ≤ 60) := hG.I.1 7043
                      exact ft_ret mi_k117 (by rfl) (hP (-13) _ _ _ _ hG ⟨trivial, ⟨fun s t hs ht e1 e3 => by
        have es : s = 1 := kj_at e1 (oy126 w114)
        have et : t = 3 := kj_at e3 (oy142 w169)
        subst es
        subst et
        exact ⟨(Or.inr (Or.inr (Or.inl ⟨kym13, (oy133 c174 c176 c177 fi_6784.2 fi_7040.2 ky2), (oy136 z184)⟩))), fun h => absurd h (kj_neg kym13 (by decide))⟩, fun _ => (fun u hu => match u, hu with | 0, _ => rfl | 1, _ => rfl | 2, _ => rfl | 3, _ => rfl | 4, _ => rfl | 5, _ => rfl | _ + 6, h => absurd h (by omega)), fun h => absurd (oy156 w114 w169 z2.2 z4.2) h⟩⟩)
                  ·
                    have c185 : (i 6786).toInt ≠ (i 7042).toInt := kd_eqF c; clear c
                    first | refine fo_goL mi_k117 fz117_82_1_84 [(7, .ref 110), (6, .ref 106), (0, .ref 0), (1, .int x1), (2, .int x2), (3, .int x3), (4, .int x4), (5, .int x5)] [.int (-12)] (by rfl) ?_ | refine ft_go mi_k117 1 84 [(7, .ref 110), (6, .ref 106), (0, .ref 0), (1, .int x1), (2, .int x2), (3, .int x3), (4, .int x4), (5, .int x5)] [.int (-12)] i a q r (by rfl) ?_ | refine ko_steps mi_in117 1 _ (84, [(7, .ref 110), (6, .ref 106), (0, .ref 0), (1, .int x1), (2, .int x2), (3, .int x3), (4, .int x4), (5, .int x5)], [.int (-12)], (0, 0), ks i a q r) (by rfl) ?_
                    have fi_6787 : ((0 : Int) ≤ (i 6787).toInt) ∧ ((i 6787).toInt ≤ 60) := hG.I.1 6787
                    have fi_7043 : ((0 : Int) ≤ (i 7043).toInt) ∧ ((i 7043).toInt ≤ 60) := hG.I.1 7043
                    exact ft_ret mi_k117 (by rfl) (hP (-12) _ _ _ _ hG ⟨trivial, ⟨fun s t hs ht e1 e3 => by
        have es : s = 1 := kj_at e1 (oy126 w114)
        have et : t = 3 := kj_at e3 (oy142 w169)
        subst es
        subst et
        exact ⟨(Or.inr (Or.inl ⟨kym12, (oy137 c174 c176 ky2), (oy138 c185)⟩)), fun h => absurd h (kj_neg kym12 (by decide))⟩, fun _ => (fun u hu => match u, hu with | 0, _ => rfl | 1, _ => rfl | 2, _ => rfl | 3, _ => rfl | 4, _ => rfl | 5, _ => rfl | _ + 6, h => absurd h (by omega)), fun h => absurd (oy156 w114 w169 z2.2 z4.2) h⟩⟩)
            ·
              have c186 : (i 7040).toInt = (0 : Int32).toInt := kd_neF c; clear c
              first | refine fo_goL mi_k117 fz117_48_1_50 [(7, .ref 110), (6, .ref 106), (0, .ref 0), (1, .int x1), (2, .int x2), (3, .int x3), (4, .int x4), (5, .int x5)] [.int (-11)] (by rfl) ?_ | refine ft_go mi_k117 1 50 [(7, .ref 110), (6, .ref 106), (0, .ref 0), (1, .int x1), (2, .int x2), (3, .int x3), (4, .int x4), (5, .int x5)] [.int (-11)] i a q r (by rfl) ?_ | refine ko_steps mi_in117 1 _ (50, [(7, .ref 110), (6, .ref 106), (0, .ref 0), (1, .int x1), (2, .int x2), (3, .int x3), (4, .int x4), (5, .int x5)], [.int (-11)], (0, 0), ks i a q r) (by rfl) ?_
              have fi_6786 : ((0 : Int) ≤ (i 6786).toInt) ∧ ((i 6786).toInt ≤ 4) := hG.I.1 6786
              have fi_7042 : ((0 : Int) ≤ (i 7042).toInt) ∧ ((i 7042).toInt ≤ 4) := hG.I.1 7042
              have fi_6787 : ((0 : Int) ≤ (i 6787).toInt) ∧ ((i 6787).toInt ≤ 60) := hG.I.1 6787
              have fi_7043 : ((0 : Int) ≤ (i 7043).toInt) ∧ ((i 7043).toInt ≤ 60) := hG.I.1 7043
              exact ft_ret mi_k117 (by rfl) (hP (-11) _ _ _ _ hG ⟨trivial, ⟨fun s t hs ht e1 e3 => by
        have es : s = 1 := kj_at e1 (oy126 w114)
        have et : t = 3 := kj_at e3 (oy142 w169)
        subst es
        subst et
        exact ⟨(Or.inl ⟨kym11, (oy139 c186 fi_7040.1 ky0)⟩), fun h => absurd h (kj_neg kym11 (by decide))⟩, fun _ => (fun u hu => match u, hu with | 0, _ => rfl | 1, _ => rfl | 2, _ => rfl | 3, _ => rfl | 4, _ => rfl | 5, _ => rfl | _ + 6, h => absurd h (by omega)), fun h => absurd (oy156 w114 w169 z2.2 z4.2) h⟩⟩)
        by_cases w187 : x3.toInt = 4
        ·
          refine ko_eq (x1 := (29, [(6, .ref 106), (0, .ref 0), (1, .int x1), (2, .int x2), (3, .int x3), (4, .int x4), (5, .int x5)], [.int 4, .ref 97], (0, 0), ks i a q r)) (by rw [(kj_eq w187 (by decide) : x3 = 4)]) ?_
          have fi_6784 : ((0 : Int) ≤ (i 6784).toInt) ∧ ((i 6784).toInt ≤ 2) := hG.I.1 6784
          first | refine ft_goL mi_k117 4 37 [(7, .ref 112), (6, .ref 106), (0, .ref 0), (1, .int x1), (2, .int x2), (3, .int x3), (4, .int x4), (5, .int x5)] [.int (i 6784)] (by rfl) ?_ | refine ft_go mi_k117 4 37 [(7, .ref 112), (6, .ref 106), (0, .ref 0), (1, .int x1), (2, .int x2), (3, .int x3), (4, .int x4), (5, .int x5)] [.int (i 6784)] i a q r (by rfl) ?_ | refine ko_steps mi_in117 4 _ (37, [(7, .ref 112), (6, .ref 106), (0, .ref 0), (1, .int x1), (2, .int x2), (3, .int x3), (4, .int x4), (5, .int x5)], [.int (i 6784)], (0, 0), ks i a q r) (by rfl) ?_
          refine ft_ifS mi_k117 ((i 6784) == 0) 48 40 [] (by rfl) (fun c => ?_) (fun c => ?_)
          ·
            have c188 : (i 6784).toInt = (0 : Int32).toInt := kd_eq c; clear c
            first | refine fo_goS mi_k117 fz117_48_1_50 [.int (-11)] (by rfl) ?_ | refine ft_go mi_k117 1 50 [(7, .ref 112), (6, .ref 106), (0, .ref 0), (1, .int x1), (2, .int x2), (3, .int x3), (4, .int x4), (5, .int x5)] [.int (-11)] i a q r (by rfl) ?_ | refine ko_steps mi_in117 1 _ (50, [(7, .ref 112), (6, .ref 106), (0, .ref 0), (1, .int x1), (2, .int x2), (3, .int x3), (4, .int x4), (5, .int x5)], [.int (-11)], (0, 0), ks i a q r) (by rfl) ?_
            have fi_7168 : ((0 : Int) ≤ (i 7168).toInt) ∧ ((i 7168).toInt ≤ 2) := hG.I.1 7168
            have fi_6786 : ((0 : Int) ≤ (i 6786).toInt) ∧ ((i 6786).toInt ≤ 4) := hG.I.1 6786
            have fi_7170 : ((0 : Int) ≤ (i 7170).toInt) ∧ ((i 7170).toInt ≤ 4) := hG.I.1 7170
            have fi_6787 : ((0 : Int) ≤ (i 6787).toInt) ∧ ((i 6787).toInt ≤ 60) := hG.I.1 6787
            have fi_7171 : ((0 : Int) ≤ (i 7171).toInt) ∧ ((i 7171).toInt ≤ 60) := hG.I.1 7171
            exact ft_ret mi_k117 (by rfl) (hP (-11) _ _ _ _ hG ⟨trivial, ⟨fun s t hs ht e1 e3 => by
        have es : s = 1 := kj_at e1 (oy126 w114)
        have et : t = 4 := kj_at e3 (oy144 w187)
        subst es
        subst et
        exact ⟨(Or.inl ⟨kym11, (oy127 c188 fi_6784.1 ky0)⟩), fun h => absurd h (kj_neg kym11 (by decide))⟩, fun _ => (fun u hu => match u, hu with | 0, _ => rfl | 1, _ => rfl | 2, _ => rfl | 3, _ => rfl | 4, _ => rfl | 5, _ => rfl | _ + 6, h => absurd h (by omega)), fun h => absurd (oy157 w114 w187 z2.2 z4.2) h⟩⟩)
          ·
            have c189 : (i 6784).toInt ≠ (0 : Int32).toInt := kd_eqF c; clear c
            have fi_7168 : ((0 : Int) ≤ (i 7168).toInt) ∧ ((i 7168).toInt ≤ 2) := hG.I.1 7168
            first | refine fo_goL mi_k117 fz117_40_2_45 [(7, .ref 112), (6, .ref 106), (0, .ref 0), (1, .int x1), (2, .int x2), (3, .int x3), (4, .int x4), (5, .int x5)] [.int (i 7168)] (by rfl) ?_ | refine ft_go mi_k117 2 45 [(7, .ref 112), (6, .ref 106), (0, .ref 0), (1, .int x1), (2, .int x2), (3, .int x3), (4, .int x4), (5, .int x5)] [.int (i 7168)] i a q r (by rfl) ?_ | refine ko_steps mi_in117 2 _ (45, [(7, .ref 112), (6, .ref 106), (0, .ref 0), (1, .int x1), (2, .int x2), (3, .int x3), (4, .int x4), (5, .int x5)], [.int (i 7168)], (0, 0), ks i a q r) (by rfl) ?_
            refine ft_ifS mi_k117 ((i 7168) != 0) 51 48 [] (by rfl) (fun c => ?_) (fun c => ?_)
            ·
              have c190 : (i 7168).toInt ≠ (0 : Int32).toInt := kd_ne c; clear c
              first | refine fo_goS mi_k117 fz117_51_3_57 [.int 2, .int (i 6784)] (by rfl) ?_ | refine ft_go mi_k117 3 57 [(7, .ref 112), (6, .ref 106), (0, .ref 0), (1, .int x1), (2, .int x2), (3, .int x3), (4, .int x4), (5, .int x5)] [.int 2, .int (i 6784)] i a q r (by rfl) ?_ | refine ko_steps mi_in117 3 _ (57, [(7, .ref 112), (6, .ref 106), (0, .ref 0), (1, .int x1), (2, .int x2), (3, .int x3), (4, .int x4), (5, .int x5)], [.int 2, .int (i 6784)], (0, 0), ks i a q r) (by rfl) ?_
              refine ft_ifS mi_k117 ((i 6784) != 2) 82 60 [] (by rfl) (fun c => ?_) (fun c => ?_)
              ·
                have c191 : (i 6784).toInt ≠ (2 : Int32).toInt := kd_ne c; clear c
                first | refine fo_goS mi_k117 fz117_82_1_84 [.int (-12)] (by rfl) ?_ | refine ft_go mi_k117 1 84 [(7, .ref 112), (6, .ref 106), (0, .ref 0), (1, .int x1), (2, .int x2), (3, .int x3), (4, .int x4), (5, .int x5)] [.int (-12)] i a q r (by rfl) ?_ | refine ko_steps mi_in117 1 _ (84, [(7, .ref 112), (6, .ref 106), (0, .ref 0), (1, .int x1), (2, .int x2), (3, .int x3), (4, .int x4), (5, .int x5)], [.int (-12)], (0, 0), ks i a q r) (by rfl) ?_
                have fi_6786 : ((0 : Int) ≤ (i 6786).toInt) ∧ ((i 6786).toInt ≤ 4) := hG.I.1 6786
                have fi_7170 : ((0 : Int) ≤ (i 7170).toInt) ∧ ((i 7170).toInt ≤ 4) := hG.I.1 7170
                have fi_6787 : ((0 : Int) ≤ (i 6787).toInt) ∧ ((i 6787).toInt ≤ 60) := hG.I.1 6787
                have fi_7171 : ((0 : Int) ≤ (i 7171).toInt) ∧ ((i 7171).toInt ≤ 60) := hG.I.1 7171
                exact ft_ret mi_k117 (by rfl) (hP (-12) _ _ _ _ hG ⟨trivial, ⟨fun s t hs ht e1 e3 => by
        have es : s = 1 := kj_at e1 (oy126 w114)
        have et : t = 4 := kj_at e3 (oy144 w187)
        subst es
        subst et
        exact ⟨(Or.inr (Or.inl ⟨kym12, (oy129 c189 c190 fi_6784.1 fi_7168.1 ky0), (oy130 c191 fi_6784.2 ky2)⟩)), fun h => absurd h (kj_neg kym12 (by decide))⟩, fun _ => (fun u hu => match u, hu with | 0, _ => rfl | 1, _ => rfl | 2, _ => rfl | 3, _ => rfl | 4, _ => rfl | 5, _ => rfl | _ + 6, h => absurd h (by omega)), fun h => absurd (oy157 w114 w187 z2.2 z4.2) h⟩⟩)
              ·
                have c192 : (i 6784).toInt = (2 : Int32).toInt := kd_neF c; clear c
                first | refine fo_goL mi_k117 fz117_60_3_66 [(7, .ref 112), (6, .ref 106), (0, .ref 0), (1, .int x1), (2, .int x2), (3, .int x3), (4, .int x4), (5, .int x5)] [.int 2, .int (i 7168)] (by rfl) ?_ | refine ft_go mi_k117 3 66 [(7, .ref 112), (6, .ref 106), (0, .ref 0), (1, .int x1), (2, .int x2), (3, .int x3), (4, .int x4), (5, .int x5)] [.int 2, .int (i 7168)] i a q r (by rfl) ?_ | refine ko_steps mi_in117 3 _ (66, [(7, .ref 112), (6, .ref 106), (0, .ref 0), (1, .int x1), (2, .int x2), (3, .int x3), (4, .int x4), (5, .int x5)], [.int 2, .int (i 7168)], (0, 0), ks i a q r) (by rfl) ?_
                refine ft_ifS mi_k117 ((i 7168) != 2) 82 69 [] (by rfl) (fun c => ?_) (fun c => ?_)
                ·
                  have c193 : (i 7168).toInt ≠ (2 : Int32).toInt := kd_ne c; clear c
                  first | refine fo_goS mi_k117 fz117_82_1_84 [.int (-12)] (by rfl) ?_ | refine ft_go mi_k117 1 84 [(7, .ref 112), (6, .ref 106), (0, .ref 0), (1, .int x1), (2, .int x2), (3, .int x3), (4, .int x4), (5, .int x5)] [.int (-12)] i a q r (by rfl) ?_ | refine ko_steps mi_in117 1 _ (84, [(7, .ref 112), (6, .ref 106), (0, .ref 0), (1, .int x1), (2, .int x2), (3, .int x3), (4, .int x4), (5, .int x5)], [.int (-12)], (0, 0), ks i a q r) (by rfl) ?_
                  have fi_6786 : ((0 : Int) ≤ (i 6786).toInt) ∧ ((i 6786).toInt ≤ 4) := hG.I.1 6786
                  have fi_7170 : ((0 : Int) ≤ (i 7170).toInt) ∧ ((i 7170).toInt ≤ 4) := hG.I.1 7170
                  have fi_6787 : ((0 : Int) ≤ (i 6787).toInt) ∧ ((i 6787).toInt ≤ 60) := hG.I.1 6787
                  have fi_7171 : ((0 : Int) ≤ (i 7171).toInt) ∧ ((i 7171).toInt ≤ 60) := hG.I.1 7171
                  exact ft_ret mi_k117 (by rfl) (hP (-12) _ _ _ _ hG ⟨trivial, ⟨fun s t hs ht e1 e3 => by
        have es : s = 1 := kj_at e1 (oy126 w114)
        have et : t = 4 := kj_at e3 (oy144 w187)
        subst es
        subst et
        exact ⟨(Or.inr (Or.inl ⟨kym12, (oy131 c190 c192 fi_7168.1 ky0 ky2), (oy132 c193 fi_7168.2 ky2)⟩)), fun h => absurd h (kj_neg kym12 (by decide))⟩, fun _ => (fun u hu => match u, hu with | 0, _ => rfl | 1, _ => rfl | 2, _ => rfl | 3, _ => rfl | 4, _ => rfl | 5, _ => rfl | _ + 6, h => absurd h (by omega)), fun h => absurd (oy157 w114 w187 z2.2 z4.2) h⟩⟩)
                ·
                  have c194 : (i 7168).toInt = (2 : Int32).toInt := kd_neF c; clear c
                  have fi_6786 : ((0 : Int) ≤ (i 6786).toInt) ∧ ((i 6786).toInt ≤ 4) := hG.I.1 6786
                  have fi_7170 : ((0 : Int) ≤ (i 7170).toInt) ∧ ((i 7170).toInt ≤ 4) := hG.I.1 7170
                  first | refine fo_goL mi_k117 fz117_69_4_79 [(7, .ref 112), (6, .ref 106), (0, .ref 0), (1, .int x1), (2, .int x2), (3, .int x3), (4, .int x4), (5, .int x5)] [.int (i 7170), .int (i 6786)] (by rfl) ?_ | refine ft_go mi_k117 4 79 [(7, .ref 112), (6, .ref 106), (0, .ref 0), (1, .int x1), (2, .int x2), (3, .int x3), (4, .int x4), (5, .int x5)] [.int (i 7170), .int (i 6786)] i a q r (by rfl) ?_ | refine ko_steps mi_in117 4 _ (79, [(7, .ref 112), (6, .ref 106), (0, .ref 0), (1, .int x1), (2, .int x2), (3, .int x3), (4, .int x4), (5, .int x5)], [.int (i 7170), .int (i 6786)], (0, 0), ks i a q r) (by rfl) ?_
                  refine ft_ifS mi_k117 ((i 6786) == (i 7170)) 85 82 [] (by rfl) (fun c => ?_) (fun c => ?_)
                  ·
                    have c195 : (i 6786).toInt = (i 7170).toInt := kd_eq c; clear c
                    first | refine fo_goS mi_k117 fz117_85_3_90 [.int x5, .int x2, .ref 106] (by rfl) ?_ | refine ft_go mi_k117 3 90 [(7, .ref 112), (6, .ref 106), (0, .ref 0), (1, .int x1), (2, .int x2), (3, .int x3), (4, .int x4), (5, .int x5)] [.int x5, .int x2, .ref 106] i a q r (by rfl) ?_ | refine ko_steps mi_in117 3 _ (90, [(7, .ref 112), (6, .ref 106), (0, .ref 0), (1, .int x1), (2, .int x2), (3, .int x3), (4, .int x4), (5, .int x5)], [.int x5, .int x2, .ref 106], (0, 0), ks i a q r) (by rfl) ?_
                    refine ko_callPI mi_k117.1 (pc := 90) (ls := [(7, .ref 112), (6, .ref 106), (0, .ref 0), (1, .int x1), (2, .int x2), (3, .int x3), (4, .int x4), (5, .int x5)]) (st := [.int x5, .int x2, .ref 106]) (h := ks i a q r) (i := (.invokevirtual 324, 3, 37, 0, 9, 0, 316)) (mi_k117.2 _ _ (by rfl)) (ft_invS mi_pq37 (by rfl)) (cy := mi_c37) mi_pq37 rfl (kc37_106 hG.I hG.R x2 x5) (by decide) ?_
                    intro vg196 hg196
                    rcases hg196 with ⟨eg196, hg196⟩ | ⟨eg196, hg196⟩
                    ·
                      subst eg196
                      have fi_6787 : ((0 : Int) ≤ (i 6787).toInt) ∧ ((i 6787).toInt ≤ 60) := hG.I.1 6787
                      have z197 : ((0 : Int) ≤ x5.toInt) ∧ (x5.toInt ≤ (i 6787).toInt) ∧ ((0 : Int) ≤ x2.toInt) ∧ ((x2.toInt + x5.toInt) ≤ (i 6787).toInt) := hg196
                      first | refine fo_goS mi_k117 fz117_93_4_102 [.int x5, .int x4, .ref 112] (by rfl) ?_ | refine ft_go mi_k117 4 102 [(7, .ref 112), (6, .ref 106), (0, .ref 0), (1, .int x1), (2, .int x2), (3, .int x3), (4, .int x4), (5, .int x5)] [.int x5, .int x4, .ref 112] i a q r (by rfl) ?_ | refine ko_steps mi_in117 4 _ (102, [(7, .ref 112), (6, .ref 106), (0, .ref 0), (1, .int x1), (2, .int x2), (3, .int x3), (4, .int x4), (5, .int x5)], [.int x5, .int x4, .ref 112], (0, 0), ks i a q r) (by rfl) ?_
                      refine ko_callPI mi_k117.1 (pc := 102) (ls := [(7, .ref 112), (6, .ref 106), (0, .ref 0), (1, .int x1), (2, .int x2), (3, .int x3), (4, .int x4), (5, .int x5)]) (st := [.int x5, .int x4, .ref 112]) (h := ks i a q r) (i := (.invokevirtual 324, 3, 37, 0, 9, 0, 316)) (mi_k117.2 _ _ (by rfl)) (ft_invS mi_pq37 (by rfl)) (cy := mi_c37) mi_pq37 rfl (kc37_112 hG.I hG.R x4 x5) (by decide) ?_
                      intro vg198 hg198
                      rcases hg198 with ⟨eg198, hg198⟩ | ⟨eg198, hg198⟩
                      ·
                        subst eg198
                        have fi_7171 : ((0 : Int) ≤ (i 7171).toInt) ∧ ((i 7171).toInt ≤ 60) := hG.I.1 7171
                        have z199 : ((0 : Int) ≤ x5.toInt) ∧ (x5.toInt ≤ (i 7171).toInt) ∧ ((0 : Int) ≤ x4.toInt) ∧ ((x4.toInt + x5.toInt) ≤ (i 7171).toInt) := hg198
                        first | refine fo_goS mi_k117 fz117_105_8_126 [.int x5, .int x4, .ref 113, .int x2, .ref 107] (by rfl) ?_ | refine ft_go mi_k117 8 126 [(7, .ref 112), (6, .ref 106), (0, .ref 0), (1, .int x1), (2, .int x2), (3, .int x3), (4, .int x4), (5, .int x5)] [.int x5, .int x4, .ref 113, .int x2, .ref 107] i a q r (by rfl) ?_ | refine ko_steps mi_in117 8 _ (126, [(7, .ref 112), (6, .ref 106), (0, .ref 0), (1, .int x1), (2, .int x2), (3, .int x3), (4, .int x4), (5, .int x5)], [.int x5, .int x4, .ref 113, .int x2, .ref 107], (0, 0), ks i a q r) (by rfl) ?_
                        have hJ200 := kG_q hG 113 rfl (z := mi_cpy (q 107) (q 113) x2.toNatClampNeg x4.toNatClampNeg x5.toNatClampNeg) (kcpy_len2 (n := 60) (c := 60) (m := 60) (b := 60) (sp := x2) (dp := x4) (n1 := x5) (hG.I.2.2.2 107) rfl (hG.I.2.2.2 113) rfl (oy3 z197.1) (oy3 z197.2.2.1) (oy3 z199.2.2.1) (oy119 fi_6787.2 z197.2.2.2) (oy119 fi_7171.2 z199.2.2.2))
                        refine ko_copyL2 mi_k117.1 (l := q 107) (g := q 113) (n := 60) (c := 60) (m := 60) (b := 60) (mi_k117.2 _ _ (by rfl)) (by rfl) (by rfl) (by rfl) (by rfl) (by rfl) (hG.I.2.2.2 107) rfl (hG.I.2.2.2 113) rfl (oy3 z197.1) (oy3 z197.2.2.1) (oy3 z199.2.2.1) (oy119 fi_6787.2 z197.2.2.2) (oy119 fi_7171.2 z199.2.2.2) (h5 := ks i a (ku q 113 (mi_cpy (q 107) (q 113) x2.toNatClampNeg x4.toNatClampNeg x5.toNatClampNeg)) r) (by rfl) ?_
                        first | refine fo_goS mi_k117 fz117_129_1_131 [.int x5] (by rfl) ?_ | refine ft_go mi_k117 1 131 [(7, .ref 112), (6, .ref 106), (0, .ref 0), (1, .int x1), (2, .int x2), (3, .int x3), (4, .int x4), (5, .int x5)] [.int x5] i a (ku q 113 (mi_cpy (q 107) (q 113) x2.toNatClampNeg x4.toNatClampNeg x5.toNatClampNeg)) r (by rfl) ?_ | refine ko_steps mi_in117 1 _ (131, [(7, .ref 112), (6, .ref 106), (0, .ref 0), (1, .int x1), (2, .int x2), (3, .int x3), (4, .int x4), (5, .int x5)], [.int x5], (0, 0), ks i a (ku q 113 (mi_cpy (q 107) (q 113) x2.toNatClampNeg x4.toNatClampNeg x5.toNatClampNeg)) r) (by rfl) ?_
                        exact ft_ret mi_k117 (by rfl) (hP x5 _ _ _ _ hJ200 ⟨trivial, ⟨fun s t hs ht e1 e3 => by
        have es : s = 1 := kj_at e1 (oy126 w114)
        have et : t = 4 := kj_at e3 (oy144 w187)
        subst es
        subst et
        exact ⟨(Or.inr (Or.inr (Or.inr ⟨rfl, (oy133 c192 c194 c195 fi_6784.2 fi_7168.2 ky2), (oy134 z197.1 z197.2.2.1 z197.2.2.2 z199.2.2.1 z199.2.2.2)⟩))), fun _ => ⟨rfl, (fun u hu ne => match u, hu, ne with | 0, _, _ => rfl | 1, _, _ => rfl | 2, _, _ => rfl | 3, _, _ => rfl | 4, _, ne => absurd rfl ne | 5, _, _ => rfl | _ + 6, h, _ => absurd h (by omega))⟩⟩, fun h => absurd h (oy26 z197.1), fun h => absurd (oy157 w114 w187 z2.2 z4.2) h⟩⟩)
                      ·
                        subst eg198
                        have fi_7171 : ((0 : Int) ≤ (i 7171).toInt) ∧ ((i 7171).toInt ≤ 60) := hG.I.1 7171
                        have z201 : ¬ (((0 : Int) ≤ x5.toInt) ∧ (x5.toInt ≤ (i 7171).toInt) ∧ ((0 : Int) ≤ x4.toInt) ∧ ((x4.toInt + x5.toInt) ≤ (i 7171).toInt)) := hg198
                        first | refine fo_goL mi_k117 fz117_93_2_110 [(7, .ref 112), (6, .ref 106), (0, .ref 0), (1, .int x1), (2, .int x2), (3, .int x3), (4, .int x4), (5, .int x5)] [.int (-13)] (by rfl) ?_ | refine fo_goL mi_k117 fz117_105_2_110 [(7, .ref 112), (6, .ref 106), (0, .ref 0), (1, .int x1), (2, .int x2), (3, .int x3), (4, .int x4), (5, .int x5)] [.int (-13)] (by rfl) ?_ | refine ft_go mi_k117 2 110 [(7, .ref 112), (6, .ref 106), (0, .ref 0), (1, .int x1), (2, .int x2), (3, .int x3), (4, .int x4), (5, .int x5)] [.int (-13)] i a q r (by rfl) ?_ | refine ko_steps mi_in117 2 _ (110, [(7, .ref 112), (6, .ref 106), (0, .ref 0), (1, .int x1), (2, .int x2), (3, .int x3), (4, .int x4), (5, .int x5)], [.int (-13)], (0, 0), ks i a q r) (by rfl) ?_
                        exact ft_ret mi_k117 (by rfl) (hP (-13) _ _ _ _ hG ⟨trivial, ⟨fun s t hs ht e1 e3 => by
        have es : s = 1 := kj_at e1 (oy126 w114)
        have et : t = 4 := kj_at e3 (oy144 w187)
        subst es
        subst et
        exact ⟨(Or.inr (Or.inr (Or.inl ⟨kym13, (oy133 c192 c194 c195 fi_6784.2 fi_7168.2 ky2), (oy135 z197.1 z201)⟩))), fun h => absurd h (kj_neg kym13 (by decide))⟩, fun _ => (fun u hu => match u, hu with | 0, _ => rfl | 1, _ => rfl | 2, _ => rfl | 3, _ => rfl | 4, _ => rfl | 5, _ => rfl | _ + 6, h => absurd h (by omega)), fun h => absurd (oy157 w114 w187 z2.2 z4.2) h⟩⟩)
                    ·
                      subst eg196
                      have fi_6787 : ((0 : Int) ≤ (i 6787).toInt) ∧ ((i 6787).toInt ≤ 60) := hG.I.1 6787
                      have z202 : ¬ (((0 : Int) ≤ x5.toInt) ∧ (x5.toInt ≤ (i 6787).toInt) ∧ ((0 : Int) ≤ x2.toInt) ∧ ((x2.toInt + x5.toInt) ≤ (i 6787).toInt)) := hg196
                      first | refine fo_goL mi_k117 fz117_93_2_110 [(7, .ref 112), (6, .ref 106), (0, .ref 0), (1, .int x1), (2, .int x2), (3, .int x3), (4, .int x4), (5, .int x5)] [.int (-13)] (by rfl) ?_ | refine fo_goL mi_k117 fz117_105_2_110 [(7, .ref 112), (6, .ref 106), (0, .ref 0), (1, .int x1), (2, .int x2), (3, .int x3), (4, .int x4), (5, .int x5)] [.int (-13)] (by rfl) ?_ | refine ft_go mi_k117 2 110 [(7, .ref 112), (6, .ref 106), (0, .ref 0), (1, .int x1), (2, .int x2), (3, .int x3), (4, .int x4), (5, .int x5)] [.int (-13)] i a q r (by rfl) ?_ | refine ko_steps mi_in117 2 _ (110, [(7, .ref 112), (6, .ref 106), (0, .ref 0), (1, .int x1), (2, .int x2), (3, .int x3), (4, .int x4), (5, .int x5)], [.int (-13)], (0, 0), ks i a q r) (by rfl) ?_
                      have fi_7171 : ((0 : Int) ≤ (i 7171).toInt) ∧ ((i 7171).toInt ≤ 60) := hG.I.1 7171
                      exact ft_ret mi_k117 (by rfl) (hP (-13) _ _ _ _ hG ⟨trivial, ⟨fun s t hs ht e1 e3 => by
        have es : s = 1 := kj_at e1 (oy126 w114)
        have et : t = 4 := kj_at e3 (oy144 w187)
        subst es
        subst et
        exact ⟨(Or.inr (Or.inr (Or.inl ⟨kym13, (oy133 c192 c194 c195 fi_6784.2 fi_7168.2 ky2), (oy136 z202)⟩))), fun h => absurd h (kj_neg kym13 (by decide))⟩, fun _ => (fun u hu => match u, hu with | 0, _ => rfl | 1, _ => rfl | 2, _ => rfl | 3, _ => rfl | 4, _ => rfl | 5, _ => rfl | _ + 6, h => absurd h (by omega)), fun h => absurd (oy157 w114 w187 z2.2 z4.2) h⟩⟩)
                  ·
                    have c203 : (i 6786).toInt ≠ (i 7170).toInt := kd_eqF c; clear c
                    first | refine fo_goL mi_k117 fz117_82_1_84 [(7, .ref 112), (6, .ref 106), (0, .ref 0), (1, .int x1), (2, .int x2), (3, .int x3), (4, .int x4), (5, .int x5)] [.int (-12)] (by rfl) ?_ | refine ft_go mi_k117 1 84 [(7, .ref 112), (6, .ref 106), (0, .ref 0), (1, .int x1), (2, .int x2), (3, .int x3), (4, .int x4), (5, .int x5)] [.int (-12)] i a q r (by rfl) ?_ | refine ko_steps mi_in117 1 _ (84, [(7, .ref 112), (6, .ref 106), (0, .ref 0), (1, .int x1), (2, .int x2), (3, .int x3), (4, .int x4), (5, .int x5)], [.int (-12)], (0, 0), ks i a q r) (by rfl) ?_
                    have fi_6787 : ((0 : Int) ≤ (i 6787).toInt) ∧ ((i 6787).toInt ≤ 60) := hG.I.1 6787
                    have fi_7171 : ((0 : Int) ≤ (i 7171).toInt) ∧ ((i 7171).toInt ≤ 60) := hG.I.1 7171
                    exact ft_ret mi_k117 (by rfl) (hP (-12) _ _ _ _ hG ⟨trivial, ⟨fun s t hs ht e1 e3 => by
        have es : s = 1 := kj_at e1 (oy126 w114)
        have et : t = 4 := kj_at e3 (oy144 w187)
        subst es
        subst et
        exact ⟨(Or.inr (Or.inl ⟨kym12, (oy137 c192 c194 ky2), (oy138 c203)⟩)), fun h => absurd h (kj_neg kym12 (by decide))⟩, fun _ => (fun u hu => match u, hu with | 0, _ => rfl | 1, _ => rfl | 2, _ => rfl | 3, _ => rfl | 4, _ => rfl | 5, _ => rfl | _ + 6, h => absurd h (by omega)), fun h => absurd (oy157 w114 w187 z2.2 z4.2) h⟩⟩)
            ·
              have c204 : (i 7168).toInt = (0 : Int32).toInt := kd_neF c; clear c
              first | refine fo_goL mi_k117 fz117_48_1_50 [(7, .ref 112), (6, .ref 106), (0, .ref 0), (1, .int x1), (2, .int x2), (3, .int x3), (4, .int x4), (5, .int x5)] [.int (-11)] (by rfl) ?_ | refine ft_go mi_k117 1 50 [(7, .ref 112), (6, .ref 106), (0, .ref 0), (1, .int x1), (2, .int x2), (3, .int x3), (4, .int x4), (5, .int x5)] [.int (-11)] i a q r (by rfl) ?_ | refine ko_steps mi_in117 1 _ (50, [(7, .ref 112), (6, .ref 106), (0, .ref 0), (1, .int x1), (2, .int x2), (3, .int x3), (4, .int x4), (5, .int x5)], [.int (-11)], (0, 0), ks i a q r) (by rfl) ?_
              have fi_6786 : ((0 : Int) ≤ (i 6786).toInt) ∧ ((i 6786).toInt ≤ 4) := hG.I.1 6786
              have fi_7170 : ((0 : Int) ≤ (i 7170).toInt) ∧ ((i 7170).toInt ≤ 4) := hG.I.1 7170
              have fi_6787 : ((0 : Int) ≤ (i 6787).toInt) ∧ ((i 6787).toInt ≤ 60) := hG.I.1 6787
              have fi_7171 : ((0 : Int) ≤ (i 7171).toInt) ∧ ((i 7171).toInt ≤ 60) := hG.I.1 7171
              exact ft_ret mi_k117 (by rfl) (hP (-11) _ _ _ _ hG ⟨trivial, ⟨fun s t hs ht e1 e3 => by
        have es : s = 1 := kj_at e1 (oy126 w114)
        have et : t = 4 := kj_at e3 (oy144 w187)
        subst es
        subst et
        exact ⟨(Or.inl ⟨kym11, (oy139 c204 fi_7168.1 ky0)⟩), fun h => absurd h (kj_neg kym11 (by decide))⟩, fun _ => (fun u hu => match u, hu with | 0, _ => rfl | 1, _ => rfl | 2, _ => rfl | 3, _ => rfl | 4, _ => rfl | 5, _ => rfl | _ + 6, h => absurd h (by omega)), fun h => absurd (oy157 w114 w187 z2.2 z4.2) h⟩⟩)
        by_cases w205 : x3.toInt = 5
        ·
          refine ko_eq (x1 := (29, [(6, .ref 106), (0, .ref 0), (1, .int x1), (2, .int x2), (3, .int x3), (4, .int x4), (5, .int x5)], [.int 5, .ref 97], (0, 0), ks i a q r)) (by rw [(kj_eq w205 (by decide) : x3 = 5)]) ?_
          have fi_6784 : ((0 : Int) ≤ (i 6784).toInt) ∧ ((i 6784).toInt ≤ 2) := hG.I.1 6784
          first | refine ft_goL mi_k117 4 37 [(7, .ref 114), (6, .ref 106), (0, .ref 0), (1, .int x1), (2, .int x2), (3, .int x3), (4, .int x4), (5, .int x5)] [.int (i 6784)] (by rfl) ?_ | refine ft_go mi_k117 4 37 [(7, .ref 114), (6, .ref 106), (0, .ref 0), (1, .int x1), (2, .int x2), (3, .int x3), (4, .int x4), (5, .int x5)] [.int (i 6784)] i a q r (by rfl) ?_ | refine ko_steps mi_in117 4 _ (37, [(7, .ref 114), (6, .ref 106), (0, .ref 0), (1, .int x1), (2, .int x2), (3, .int x3), (4, .int x4), (5, .int x5)], [.int (i 6784)], (0, 0), ks i a q r) (by rfl) ?_
          refine ft_ifS mi_k117 ((i 6784) == 0) 48 40 [] (by rfl) (fun c => ?_) (fun c => ?_)
          ·
            have c206 : (i 6784).toInt = (0 : Int32).toInt := kd_eq c; clear c
            first | refine fo_goS mi_k117 fz117_48_1_50 [.int (-11)] (by rfl) ?_ | refine ft_go mi_k117 1 50 [(7, .ref 114), (6, .ref 106), (0, .ref 0), (1, .int x1), (2, .int x2), (3, .int x3), (4, .int x4), (5, .int x5)] [.int (-11)] i a q r (by rfl) ?_ | refine ko_steps mi_in117 1 _ (50, [(7, .ref 114), (6, .ref 106), (0, .ref 0), (1, .int x1), (2, .int x2), (3, .int x3), (4, .int x4), (5, .int x5)], [.int (-11)], (0, 0), ks i a q r) (by rfl) ?_
            have fi_7296 : ((0 : Int) ≤ (i 7296).toInt) ∧ ((i 7296).toInt ≤ 2) := hG.I.1 7296
            have fi_6786 : ((0 : Int) ≤ (i 6786).toInt) ∧ ((i 6786).toInt ≤ 4) := hG.I.1 6786
            have fi_7298 : ((0 : Int) ≤ (i 7298).toInt) ∧ ((i 7298).toInt ≤ 4) := hG.I.1 7298
            have fi_6787 : ((0 : Int) ≤ (i 6787).toInt) ∧ ((i 6787).toInt ≤ 60) := hG.I.1 6787
            have fi_7299 : ((0 : Int) ≤ (i 7299).toInt) ∧ ((i 7299).toInt ≤ 60) := hG.I.1 7299
            exact ft_ret mi_k117 (by rfl) (hP (-11) _ _ _ _ hG ⟨trivial, ⟨fun s t hs ht e1 e3 => by
        have es : s = 1 := kj_at e1 (oy126 w114)
        have et : t = 5 := kj_at e3 (oy146 w205 z4.2)
        subst es
        subst et
        exact ⟨(Or.inl ⟨kym11, (oy127 c206 fi_6784.1 ky0)⟩), fun h => absurd h (kj_neg kym11 (by decide))⟩, fun _ => (fun u hu => match u, hu with | 0, _ => rfl | 1, _ => rfl | 2, _ => rfl | 3, _ => rfl | 4, _ => rfl | 5, _ => rfl | _ + 6, h => absurd h (by omega)), fun h => absurd (oy158 w114 w205 z2.2 z4.2) h⟩⟩)
          ·
            have c207 : (i 6784).toInt ≠ (0 : Int32).toInt := kd_eqF c; clear c
            have fi_7296 : ((0 : Int) ≤ (i 7296).toInt) ∧ ((i 7296).toInt ≤ 2) := hG.I.1 7296
            first | refine fo_goL mi_k117 fz117_40_2_45 [(7, .ref 114), (6, .ref 106), (0, .ref 0), (1, .int x1), (2, .int x2), (3, .int x3), (4, .int x4), (5, .int x5)] [.int (i 7296)] (by rfl) ?_ | refine ft_go mi_k117 2 45 [(7, .ref 114), (6, .ref 106), (0, .ref 0), (1, .int x1), (2, .int x2), (3, .int x3), (4, .int x4), (5, .int x5)] [.int (i 7296)] i a q r (by rfl) ?_ | refine ko_steps mi_in117 2 _ (45, [(7, .ref 114), (6, .ref 106), (0, .ref 0), (1, .int x1), (2, .int x2), (3, .int x3), (4, .int x4), (5, .int x5)], [.int (i 7296)], (0, 0), ks i a q r) (by rfl) ?_
            refine ft_ifS mi_k117 ((i 7296) != 0) 51 48 [] (by rfl) (fun c => ?_) (fun c => ?_)
            ·
              have c208 : (i 7296).toInt ≠ (0 : Int32).toInt := kd_ne c; clear c
              first | refine fo_goS mi_k117 fz117_51_3_57 [.int 2, .int (i 6784)] (by rfl) ?_ | refine ft_go mi_k117 3 57 [(7, .ref 114), (6, .ref 106), (0, .ref 0), (1, .int x1), (2, .int x2), (3, .int x3), (4, .int x4), (5, .int x5)] [.int 2, .int (i 6784)] i a q r (by rfl) ?_ | refine ko_steps mi_in117 3 _ (57, [(7, .ref 114), (6, .ref 106), (0, .ref 0), (1, .int x1), (2, .int x2), (3, .int x3), (4, .int x4), (5, .int x5)], [.int 2, .int (i 6784)], (0, 0), ks i a q r) (by rfl) ?_
              refine ft_ifS mi_k117 ((i 6784) != 2) 82 60 [] (by rfl) (fun c => ?_) (fun c => ?_)
              ·
                have c209 : (i 6784).toInt ≠ (2 : Int32).toInt := kd_ne c; clear c
                first | refine fo_goS mi_k117 fz117_82_1_84 [.int (-12)] (by rfl) ?_ | refine ft_go mi_k117 1 84 [(7, .ref 114), (6, .ref 106), (0, .ref 0), (1, .int x1), (2, .int x2), (3, .int x3), (4, .int x4), (5, .int x5)] [.int (-12)] i a q r (by rfl) ?_ | refine ko_steps mi_in117 1 _ (84, [(7, .ref 114), (6, .ref 106), (0, .ref 0), (1, .int x1), (2, .int x2), (3, .int x3), (4, .int x4), (5, .int x5)], [.int (-12)], (0, 0), ks i a q r) (by rfl) ?_
                have fi_6786 : ((0 : Int) ≤ (i 6786).toInt) ∧ ((i 6786).toInt ≤ 4) := hG.I.1 6786
                have fi_7298 : ((0 : Int) ≤ (i 7298).toInt) ∧ ((i 7298).toInt ≤ 4) := hG.I.1 7298
                have fi_6787 : ((0 : Int) ≤ (i 6787).toInt) ∧ ((i 6787).toInt ≤ 60) := hG.I.1 6787
                have fi_7299 : ((0 : Int) ≤ (i 7299).toInt) ∧ ((i 7299).toInt ≤ 60) := hG.I.1 7299
                exact ft_ret mi_k117 (by rfl) (hP (-12) _ _ _ _ hG ⟨trivial, ⟨fun s t hs ht e1 e3 => by
        have es : s = 1 := kj_at e1 (oy126 w114)
        have et : t = 5 := kj_at e3 (oy146 w205 z4.2)
        subst es
        subst et
        exact ⟨(Or.inr (Or.inl ⟨kym12, (oy129 c207 c208 fi_6784.1 fi_7296.1 ky0), (oy130 c209 fi_6784.2 ky2)⟩)), fun h => absurd h (kj_neg kym12 (by decide))⟩, fun _ => (fun u hu => match u, hu with | 0, _ => rfl | 1, _ => rfl | 2, _ => rfl | 3, _ => rfl | 4, _ => rfl | 5, _ => rfl | _ + 6, h => absurd h (by omega)), fun h => absurd (oy158 w114 w205 z2.2 z4.2) h⟩⟩)
              ·
                have c210 : (i 6784).toInt = (2 : Int32).toInt := kd_neF c; clear c
                first | refine fo_goL mi_k117 fz117_60_3_66 [(7, .ref 114), (6, .ref 106), (0, .ref 0), (1, .int x1), (2, .int x2), (3, .int x3), (4, .int x4), (5, .int x5)] [.int 2, .int (i 7296)] (by rfl) ?_ | refine ft_go mi_k117 3 66 [(7, .ref 114), (6, .ref 106), (0, .ref 0), (1, .int x1), (2, .int x2), (3, .int x3), (4, .int x4), (5, .int x5)] [.int 2, .int (i 7296)] i a q r (by rfl) ?_ | refine ko_steps mi_in117 3 _ (66, [(7, .ref 114), (6, .ref 106), (0, .ref 0), (1, .int x1), (2, .int x2), (3, .int x3), (4, .int x4), (5, .int x5)], [.int 2, .int (i 7296)], (0, 0), ks i a q r) (by rfl) ?_
                refine ft_ifS mi_k117 ((i 7296) != 2) 82 69 [] (by rfl) (fun c => ?_) (fun c => ?_)
                ·
                  have c211 : (i 7296).toInt ≠ (2 : Int32).toInt := kd_ne c; clear c
                  first | refine fo_goS mi_k117 fz117_82_1_84 [.int (-12)] (by rfl) ?_ | refine ft_go mi_k117 1 84 [(7, .ref 114), (6, .ref 106), (0, .ref 0), (1, .int x1), (2, .int x2), (3, .int x3), (4, .int x4), (5, .int x5)] [.int (-12)] i a q r (by rfl) ?_ | refine ko_steps mi_in117 1 _ (84, [(7, .ref 114), (6, .ref 106), (0, .ref 0), (1, .int x1), (2, .int x2), (3, .int x3), (4, .int x4), (5, .int x5)], [.int (-12)], (0, 0), ks i a q r) (by rfl) ?_
                  have fi_6786 : ((0 : Int) ≤ (i 6786).toInt) ∧ ((i 6786).toInt ≤ 4) := hG.I.1 6786
                  have fi_7298 : ((0 : Int) ≤ (i 7298).toInt) ∧ ((i 7298).toInt ≤ 4) := hG.I.1 7298
                  have fi_6787 : ((0 : Int) ≤ (i 6787).toInt) ∧ ((i 6787).toInt ≤ 60) := hG.I.1 6787
                  have fi_7299 : ((0 : Int) ≤ (i 7299).toInt) ∧ ((i 7299).toInt ≤ 60) := hG.I.1 7299
                  exact ft_ret mi_k117 (by rfl) (hP (-12) _ _ _ _ hG ⟨trivial, ⟨fun s t hs ht e1 e3 => by
        have es : s = 1 := kj_at e1 (oy126 w114)
        have et : t = 5 := kj_at e3 (oy146 w205 z4.2)
        subst es
        subst et
        exact ⟨(Or.inr (Or.inl ⟨kym12, (oy131 c208 c210 fi_7296.1 ky0 ky2), (oy132 c211 fi_7296.2 ky2)⟩)), fun h => absurd h (kj_neg kym12 (by decide))⟩, fun _ => (fun u hu => match u, hu with | 0, _ => rfl | 1, _ => rfl | 2, _ => rfl | 3, _ => rfl | 4, _ => rfl | 5, _ => rfl | _ + 6, h => absurd h (by omega)), fun h => absurd (oy158 w114 w205 z2.2 z4.2) h⟩⟩)
                ·
                  have c212 : (i 7296).toInt = (2 : Int32).toInt := kd_neF c; clear c
                  have fi_6786 : ((0 : Int) ≤ (i 6786).toInt) ∧ ((i 6786).toInt ≤ 4) := hG.I.1 6786
                  have fi_7298 : ((0 : Int) ≤ (i 7298).toInt) ∧ ((i 7298).toInt ≤ 4) := hG.I.1 7298
                  first | refine fo_goL mi_k117 fz117_69_4_79 [(7, .ref 114), (6, .ref 106), (0, .ref 0), (1, .int x1), (2, .int x2), (3, .int x3), (4, .int x4), (5, .int x5)] [.int (i 7298), .int (i 6786)] (by rfl) ?_ | refine ft_go mi_k117 4 79 [(7, .ref 114), (6, .ref 106), (0, .ref 0), (1, .int x1), (2, .int x2), (3, .int x3), (4, .int x4), (5, .int x5)] [.int (i 7298), .int (i 6786)] i a q r (by rfl) ?_ | refine ko_steps mi_in117 4 _ (79, [(7, .ref 114), (6, .ref 106), (0, .ref 0), (1, .int x1), (2, .int x2), (3, .int x3), (4, .int x4), (5, .int x5)], [.int (i 7298), .int (i 6786)], (0, 0), ks i a q r) (by rfl) ?_
                  refine ft_ifS mi_k117 ((i 6786) == (i 7298)) 85 82 [] (by rfl) (fun c => ?_) (fun c => ?_)
                  ·
                    have c213 : (i 6786).toInt = (i 7298).toInt := kd_eq c; clear c
                    first | refine fo_goS mi_k117 fz117_85_3_90 [.int x5, .int x2, .ref 106] (by rfl) ?_ | refine ft_go mi_k117 3 90 [(7, .ref 114), (6, .ref 106), (0, .ref 0), (1, .int x1), (2, .int x2), (3, .int x3), (4, .int x4), (5, .int x5)] [.int x5, .int x2, .ref 106] i a q r (by rfl) ?_ | refine ko_steps mi_in117 3 _ (90, [(7, .ref 114), (6, .ref 106), (0, .ref 0), (1, .int x1), (2, .int x2), (3, .int x3), (4, .int x4), (5, .int x5)], [.int x5, .int x2, .ref 106], (0, 0), ks i a q r) (by rfl) ?_
                    refine ko_callPI mi_k117.1 (pc := 90) (ls := [(7, .ref 114), (6, .ref 106), (0, .ref 0), (1, .int x1), (2, .int x2), (3, .int x3), (4, .int x4), (5, .int x5)]) (st := [.int x5, .int x2, .ref 106]) (h := ks i a q r) (i := (.invokevirtual 324, 3, 37, 0, 9, 0, 316)) (mi_k117.2 _ _ (by rfl)) (ft_invS mi_pq37 (by rfl)) (cy := mi_c37) mi_pq37 rfl (kc37_106 hG.I hG.R x2 x5) (by decide) ?_
                    intro vg214 hg214
                    rcases hg214 with ⟨eg214, hg214⟩ | ⟨eg214, hg214⟩
                    ·
                      subst eg214
                      have fi_6787 : ((0 : Int) ≤ (i 6787).toInt) ∧ ((i 6787).toInt ≤ 60) := hG.I.1 6787
                      have z215 : ((0 : Int) ≤ x5.toInt) ∧ (x5.toInt ≤ (i 6787).toInt) ∧ ((0 : Int) ≤ x2.toInt) ∧ ((x2.toInt + x5.toInt) ≤ (i 6787).toInt) := hg214
                      first | refine fo_goS mi_k117 fz117_93_4_102 [.int x5, .int x4, .ref 114] (by rfl) ?_ | refine ft_go mi_k117 4 102 [(7, .ref 114), (6, .ref 106), (0, .ref 0), (1, .int x1), (2, .int x2), (3, .int x3), (4, .int x4), (5, .int x5)] [.int x5, .int x4, .ref 114] i a q r (by rfl) ?_ | refine ko_steps mi_in117 4 _ (102, [(7, .ref 114), (6, .ref 106), (0, .ref 0), (1, .int x1), (2, .int x2), (3, .int x3), (4, .int x4), (5, .int x5)], [.int x5, .int x4, .ref 114], (0, 0), ks i a q r) (by rfl) ?_
                      refine ko_callPI mi_k117.1 (pc := 102) (ls := [(7, .ref 114), (6, .ref 106), (0, .ref 0), (1, .int x1), (2, .int x2), (3, .int x3), (4, .int x4), (5, .int x5)]) (st := [.int x5, .int x4, .ref 114]) (h := ks i a q r) (i := (.invokevirtual 324, 3, 37, 0, 9, 0, 316)) (mi_k117.2 _ _ (by rfl)) (ft_invS mi_pq37 (by rfl)) (cy := mi_c37) mi_pq37 rfl (kc37_114 hG.I hG.R x4 x5) (by decide) ?_
                      intro vg216 hg216
                      rcases hg216 with ⟨eg216, hg216⟩ | ⟨eg216, hg216⟩
                      ·
                        subst eg216
                        have fi_7299 : ((0 : Int) ≤ (i 7299).toInt) ∧ ((i 7299).toInt ≤ 60) := hG.I.1 7299
                        have z217 : ((0 : Int) ≤ x5.toInt) ∧ (x5.toInt ≤ (i 7299).toInt) ∧ ((0 : Int) ≤ x4.toInt) ∧ ((x4.toInt + x5.toInt) ≤ (i 7299).toInt) := hg216
                        first | refine fo_goS mi_k117 fz117_105_8_126 [.int x5, .int x4, .ref 115, .int x2, .ref 107] (by rfl) ?_ | refine ft_go mi_k117 8 126 [(7, .ref 114), (6, .ref 106), (0, .ref 0), (1, .int x1), (2, .int x2), (3, .int x3), (4, .int x4), (5, .int x5)] [.int x5, .int x4, .ref 115, .int x2, .ref 107] i a q r (by rfl) ?_ | refine ko_steps mi_in117 8 _ (126, [(7, .ref 114), (6, .ref 106), (0, .ref 0), (1, .int x1), (2, .int x2), (3, .int x3), (4, .int x4), (5, .int x5)], [.int x5, .int x4, .ref 115, .int x2, .ref 107], (0, 0), ks i a q r) (by rfl) ?_
                        have hJ218 := kG_q hG 115 rfl (z := mi_cpy (q 107) (q 115) x2.toNatClampNeg x4.toNatClampNeg x5.toNatClampNeg) (kcpy_len2 (n := 60) (c := 60) (m := 60) (b := 60) (sp := x2) (dp := x4) (n1 := x5) (hG.I.2.2.2 107) rfl (hG.I.2.2.2 115) rfl (oy3 z215.1) (oy3 z215.2.2.1) (oy3 z217.2.2.1) (oy119 fi_6787.2 z215.2.2.2) (oy119 fi_7299.2 z217.2.2.2))
                        refine ko_copyL2 mi_k117.1 (l := q 107) (g := q 115) (n := 60) (c := 60) (m := 60) (b := 60) (mi_k117.2 _ _ (by rfl)) (by rfl) (by rfl) (by rfl) (by rfl) (by rfl) (hG.I.2.2.2 107) rfl (hG.I.2.2.2 115) rfl (oy3 z215.1) (oy3 z215.2.2.1) (oy3 z217.2.2.1) (oy119 fi_6787.2 z215.2.2.2) (oy119 fi_7299.2 z217.2.2.2) (h5 := ks i a (ku q 115 (mi_cpy (q 107) (q 115) x2.toNatClampNeg x4.toNatClampNeg x5.toNatClampNeg)) r) (by rfl) ?_
                        first | refine fo_goS mi_k117 fz117_129_1_131 [.int x5] (by rfl) ?_ | refine ft_go mi_k117 1 131 [(7, .ref 114), (6, .ref 106), (0, .ref 0), (1, .int x1), (2, .int x2), (3, .int x3), (4, .int x4), (5, .int x5)] [.int x5] i a (ku q 115 (mi_cpy (q 107) (q 115) x2.toNatClampNeg x4.toNatClampNeg x5.toNatClampNeg)) r (by rfl) ?_ | refine ko_steps mi_in117 1 _ (131, [(7, .ref 114), (6, .ref 106), (0, .ref 0), (1, .int x1), (2, .int x2), (3, .int x3), (4, .int x4), (5, .int x5)], [.int x5], (0, 0), ks i a (ku q 115 (mi_cpy (q 107) (q 115) x2.toNatClampNeg x4.toNatClampNeg x5.toNatClampNeg)) r) (by rfl) ?_
                        exact ft_ret mi_k117 (by rfl) (hP x5 _ _ _ _ hJ218 ⟨trivial, ⟨fun s t hs ht e1 e3 => by
        have es : s = 1 := kj_at e1 (oy126 w114)
        have et : t = 5 := kj_at e3 (oy146 w205 z4.2)
        subst es
        subst et
        exact ⟨(Or.inr (Or.inr (Or.inr ⟨rfl, (oy133 c210 c212 c213 fi_6784.2 fi_7296.2 ky2), (oy134 z215.1 z215.2.2.1 z215.2.2.2 z217.2.2.1 z217.2.2.2)⟩))), fun _ => ⟨rfl, (fun u hu ne => match u, hu, ne with | 0, _, _ => rfl | 1, _, _ => rfl | 2, _, _ => rfl | 3, _, _ => rfl | 4, _, _ => rfl | 5, _, ne => absurd rfl ne | _ + 6, h, _ => absurd h (by omega))⟩⟩, fun h => absurd h (oy26 z215.1), fun h => absurd (oy158 w114 w205 z2.2 z4.2) h⟩⟩)
                      ·
                        subst eg216
                        have fi_7299 : ((0 : Int) ≤ (i 7299).toInt) ∧ ((i 7299).toInt ≤ 60) := hG.I.1 7299
                        have z219 : ¬ (((0 : Int) ≤ x5.toInt) ∧ (x5.toInt ≤ (i 7299).toInt) ∧ ((0 : Int) ≤ x4.toInt) ∧ ((x4.toInt + x5.toInt) ≤ (i 7299).toInt)) := hg216
                        first | refine fo_goL mi_k117 fz117_93_2_110 [(7, .ref 114), (6, .ref 106), (0, .ref 0), (1, .int x1), (2, .int x2), (3, .int x3), (4, .int x4), (5, .int x5)] [.int (-13)] (by rfl) ?_ | refine fo_goL mi_k117 fz117_105_2_110 [(7, .ref 114), (6, .ref 106), (0, .ref 0), (1, .int x1), (2, .int x2), (3, .int x3), (4, .int x4), (5, .int x5)] [.int (-13)] (by rfl) ?_ | refine ft_go mi_k117 2 110 [(7, .ref 114), (6, .ref 106), (0, .ref 0), (1, .int x1), (2, .int x2), (3, .int x3), (4, .int x4), (5, .int x5)] [.int (-13)] i a q r (by rfl) ?_ | refine ko_steps mi_in117 2 _ (110, [(7, .ref 114), (6, .ref 106), (0, .ref 0), (1, .int x1), (2, .int x2), (3, .int x3), (4, .int x4), (5, .int x5)], [.int (-13)], (0, 0), ks i a q r) (by rfl) ?_
                        exact ft_ret mi_k117 (by rfl) (hP (-13) _ _ _ _ hG ⟨trivial, ⟨fun s t hs ht e1 e3 => by
        have es : s = 1 := kj_at e1 (oy126 w114)
        have et : t = 5 := kj_at e3 (oy146 w205 z4.2)
        subst es
        subst et
        exact ⟨(Or.inr (Or.inr (Or.inl ⟨kym13, (oy133 c210 c212 c213 fi_6784.2 fi_7296.2 ky2), (oy135 z215.1 z219)⟩))), fun h => absurd h (kj_neg kym13 (by decide))⟩, fun _ => (fun u hu => match u, hu with | 0, _ => rfl | 1, _ => rfl | 2, _ => rfl | 3, _ => rfl | 4, _ => rfl | 5, _ => rfl | _ + 6, h => absurd h (by omega)), fun h => absurd (oy158 w114 w205 z2.2 z4.2) h⟩⟩)
                    ·
                      subst eg214
                      have fi_6787 : ((0 : Int) ≤ (i 6787).toInt) ∧ ((i 6787).toInt ≤ 60) := hG.I.1 6787
                      have z220 : ¬ (((0 : Int) ≤ x5.toInt) ∧ (x5.toInt ≤ (i 6787).toInt) ∧ ((0 : Int) ≤ x2.toInt) ∧ ((x2.toInt + x5.toInt) ≤ (i 6787).toInt)) := hg214
                      first | refine fo_goL mi_k117 fz117_93_2_110 [(7, .ref 114), (6, .ref 106), (0, .ref 0), (1, .int x1), (2, .int x2), (3, .int x3), (4, .int x4), (5, .int x5)] [.int (-13)] (by rfl) ?_ | refine fo_goL mi_k117 fz117_105_2_110 [(7, .ref 114), (6, .ref 106), (0, .ref 0), (1, .int x1), (2, .int x2), (3, .int x3), (4, .int x4), (5, .int x5)] [.int (-13)] (by rfl) ?_ | refine ft_go mi_k117 2 110 [(7, .ref 114), (6, .ref 106), (0, .ref 0), (1, .int x1), (2, .int x2), (3, .int x3), (4, .int x4), (5, .int x5)] [.int (-13)] i a q r (by rfl) ?_ | refine ko_steps mi_in117 2 _ (110, [(7, .ref 114), (6, .ref 106), (0, .ref 0), (1, .int x1), (2, .int x2), (3, .int x3), (4, .int x4), (5, .int x5)], [.int (-13)], (0, 0), ks i a q r) (by rfl) ?_
                      have fi_7299 : ((0 : Int) ≤ (i 7299).toInt) ∧ ((i 7299).toInt ≤ 60) := hG.I.1 7299
                      exact ft_ret mi_k117 (by rfl) (hP (-13) _ _ _ _ hG ⟨trivial, ⟨fun s t hs ht e1 e3 => by
        have es : s = 1 := kj_at e1 (oy126 w114)
        have et : t = 5 := kj_at e3 (oy146 w205 z4.2)
        subst es
        subst et
        exact ⟨(Or.inr (Or.inr (Or.inl ⟨kym13, (oy133 c210 c212 c213 fi_6784.2 fi_7296.2 ky2), (oy136 z220)⟩))), fun h => absurd h (kj_neg kym13 (by decide))⟩, fun _ => (fun u hu => match u, hu with | 0, _ => rfl | 1, _ => rfl | 2, _ => rfl | 3, _ => rfl | 4, _ => rfl | 5, _ => rfl | _ + 6, h => absurd h (by omega)), fun h => absurd (oy158 w114 w205 z2.2 z4.2) h⟩⟩)
                  ·
                    have c221 : (i 6786).toInt ≠ (i 7298).toInt := kd_eqF c; clear c
                    first | refine fo_goL mi_k117 fz117_82_1_84 [(7, .ref 114), (6, .ref 106), (0, .ref 0), (1, .int x1), (2, .int x2), (3, .int x3), (4, .int x4), (5, .int x5)] [.int (-12)] (by rfl) ?_ | refine ft_go mi_k117 1 84 [(7, .ref 114), (6, .ref 106), (0, .ref 0), (1, .int x1), (2, .int x2), (3, .int x3), (4, .int x4), (5, .int x5)] [.int (-12)] i a q r (by rfl) ?_ | refine ko_steps mi_in117 1 _ (84, [(7, .ref 114), (6, .ref 106), (0, .ref 0), (1, .int x1), (2, .int x2), (3, .int x3), (4, .int x4), (5, .int x5)], [.int (-12)], (0, 0), ks i a q r) (by rfl) ?_
                    have fi_6787 : ((0 : Int) ≤ (i 6787).toInt) ∧ ((i 6787).toInt ≤ 60) := hG.I.1 6787
                    have fi_7299 : ((0 : Int) ≤ (i 7299).toInt) ∧ ((i 7299).toInt ≤ 60) := hG.I.1 7299
                    exact ft_ret mi_k117 (by rfl) (hP (-12) _ _ _ _ hG ⟨trivial, ⟨fun s t hs ht e1 e3 => by
        have es : s = 1 := kj_at e1 (oy126 w114)
        have et : t = 5 := kj_at e3 (oy146 w205 z4.2)
        subst es
        subst et
        exact ⟨(Or.inr (Or.inl ⟨kym12, (oy137 c210 c212 ky2), (oy138 c221)⟩)), fun h => absurd h (kj_neg kym12 (by decide))⟩, fun _ => (fun u hu => match u, hu with | 0, _ => rfl | 1, _ => rfl | 2, _ => rfl | 3, _ => rfl | 4, _ => rfl | 5, _ => rfl | _ + 6, h => absurd h (by omega)), fun h => absurd (oy158 w114 w205 z2.2 z4.2) h⟩⟩)
            ·
              have c222 : (i 7296).toInt = (0 : Int32).toInt := kd_neF c; clear c
              first | refine fo_goL mi_k117 fz117_48_1_50 [(7, .ref 114), (6, .ref 106), (0, .ref 0), (1, .int x1), (2, .int x2), (3, .int x3), (4, .int x4), (5, .int x5)] [.int (-11)] (by rfl) ?_ | refine ft_go mi_k117 1 50 [(7, .ref 114), (6, .ref 106), (0, .ref 0), (1, .int x1), (2, .int x2), (3, .int x3), (4, .int x4), (5, .int x5)] [.int (-11)] i a q r (by rfl) ?_ | refine ko_steps mi_in117 1 _ (50, [(7, .ref 114), (6, .ref 106), (0, .ref 0), (1, .int x1), (2, .int x2), (3, .int x3), (4, .int x4), (5, .int x5)], [.int (-11)], (0, 0), ks i a q r) (by rfl) ?_
              have fi_6786 : ((0 : Int) ≤ (i 6786).toInt) ∧ ((i 6786).toInt ≤ 4) := hG.I.1 6786
              have fi_7298 : ((0 : Int) ≤ (i 7298).toInt) ∧ ((i 7298).toInt ≤ 4) := hG.I.1 7298
              have fi_6787 : ((0 : Int) ≤ (i 6787).toInt) ∧ ((i 6787).toInt ≤ 60) := hG.I.1 6787
              have fi_7299 : ((0 : Int) ≤ (i 7299).toInt) ∧ ((i 7299).toInt ≤ 60) := hG.I.1 7299
              exact ft_ret mi_k117 (by rfl) (hP (-11) _ _ _ _ hG ⟨trivial, ⟨fun s t hs ht e1 e3 => by
        have es : s = 1 := kj_at e1 (oy126 w114)
        have et : t = 5 := kj_at e3 (oy146 w205 z4.2)
        subst es
        subst et
        exact ⟨(Or.inl ⟨kym11, (oy139 c222 fi_7296.1 ky0)⟩), fun h => absurd h (kj_neg kym11 (by decide))⟩, fun _ => (fun u hu => match u, hu with | 0, _ => rfl | 1, _ => rfl | 2, _ => rfl | 3, _ => rfl | 4, _ => rfl | 5, _ => rfl | _ + 6, h => absurd h (by omega)), fun h => absurd (oy158 w114 w205 z2.2 z4.2) h⟩⟩)
        exact (oy159 w115 w133 w151 w169 w187 w205 z4.1 z4.2).elim
      by_cases w223 : x1.toInt = 2
      ·
        refine ft_alx mi_k117 (pc := 21) (v := 2) (p := 97) (z := 108) (kj_eq w223 (by decide) : x1 = 2) (by decide +kernel) (by decide +kernel) ?_
        first | refine fo_goL mi_k117 fz117_22_4_29 [(6, .ref 108), (0, .ref 0), (1, .int x1), (2, .int x2), (3, .int x3), (4, .int x4), (5, .int x5)] [.int x3, .ref 97] (by rfl) ?_ | refine ft_go mi_k117 4 29 [(6, .ref 108), (0, .ref 0), (1, .int x1), (2, .int x2), (3, .int x3), (4, .int x4), (5, .int x5)] [.int x3, .ref 97] i a q r (by rfl) ?_ | refine ko_steps mi_in117 4 _ (29, [(6, .ref 108), (0, .ref 0), (1, .int x1), (2, .int x2), (3, .int x3), (4, .int x4), (5, .int x5)], [.int x3, .ref 97], (0, 0), ks i a q r) (by rfl) ?_
        by_cases w224 : x3.toInt = 0
        ·
          refine ko_eq (x1 := (29, [(6, .ref 108), (0, .ref 0), (1, .int x1), (2, .int x2), (3, .int x3), (4, .int x4), (5, .int x5)], [.int 0, .ref 97], (0, 0), ks i a q r)) (by rw [(kj_eq w224 (by decide) : x3 = 0)]) ?_
          have fi_6912 : ((0 : Int) ≤ (i 6912).toInt) ∧ ((i 6912).toInt ≤ 2) := hG.I.1 6912
          first | refine ft_goL mi_k117 4 37 [(7, .ref 104), (6, .ref 108), (0, .ref 0), (1, .int x1), (2, .int x2), (3, .int x3), (4, .int x4), (5, .int x5)] [.int (i 6912)] (by rfl) ?_ | refine ft_go mi_k117 4 37 [(7, .ref 104), (6, .ref 108), (0, .ref 0), (1, .int x1), (2, .int x2), (3, .int x3), (4, .int x4), (5, .int x5)] [.int (i 6912)] i a q r (by rfl) ?_ | refine ko_steps mi_in117 4 _ (37, [(7, .ref 104), (6, .ref 108), (0, .ref 0), (1, .int x1), (2, .int x2), (3, .int x3), (4, .int x4), (5, .int x5)], [.int (i 6912)], (0, 0), ks i a q r) (by rfl) ?_
          refine ft_ifS mi_k117 ((i 6912) == 0) 48 40 [] (by rfl) (fun c => ?_) (fun c => ?_)
          ·
            have c225 : (i 6912).toInt = (0 : Int32).toInt := kd_eq c; clear c
            first | refine fo_goS mi_k117 fz117_48_1_50 [.int (-11)] (by rfl) ?_ | refine ft_go mi_k117 1 50 [(7, .ref 104), (6, .ref 108), (0, .ref 0), (1, .int x1), (2, .int x2), (3, .int x3), (4, .int x4), (5, .int x5)] [.int (-11)] i a q r (by rfl) ?_ | refine ko_steps mi_in117 1 _ (50, [(7, .ref 104), (6, .ref 108), (0, .ref 0), (1, .int x1), (2, .int x2), (3, .int x3), (4, .int x4), (5, .int x5)], [.int (-11)], (0, 0), ks i a q r) (by rfl) ?_
            have fi_6656 : ((0 : Int) ≤ (i 6656).toInt) ∧ ((i 6656).toInt ≤ 2) := hG.I.1 6656
            have fi_6914 : ((0 : Int) ≤ (i 6914).toInt) ∧ ((i 6914).toInt ≤ 4) := hG.I.1 6914
            have fi_6658 : ((0 : Int) ≤ (i 6658).toInt) ∧ ((i 6658).toInt ≤ 4) := hG.I.1 6658
            have fi_6915 : ((0 : Int) ≤ (i 6915).toInt) ∧ ((i 6915).toInt ≤ 60) := hG.I.1 6915
            have fi_6659 : ((0 : Int) ≤ (i 6659).toInt) ∧ ((i 6659).toInt ≤ 60) := hG.I.1 6659
            exact ft_ret mi_k117 (by rfl) (hP (-11) _ _ _ _ hG ⟨trivial, ⟨fun s t hs ht e1 e3 => by
        have es : s = 2 := kj_at e1 (oy140 w223)
        have et : t = 0 := kj_at e3 (oy107 w224 z4.1)
        subst es
        subst et
        exact ⟨(Or.inl ⟨kym11, (oy127 c225 fi_6912.1 ky0)⟩), fun h => absurd h (kj_neg kym11 (by decide))⟩, fun _ => (fun u hu => match u, hu with | 0, _ => rfl | 1, _ => rfl | 2, _ => rfl | 3, _ => rfl | 4, _ => rfl | 5, _ => rfl | _ + 6, h => absurd h (by omega)), fun h => absurd (oy160 w223 z2.2 z4.1 z4.2) h⟩⟩)
          ·
            have c226 : (i 6912).toInt ≠ (0 : Int32).toInt := kd_eqF c; clear c
            have fi_6656 : ((0 : Int) ≤ (i 6656).toInt) ∧ ((i 6656).toInt ≤ 2) := hG.I.1 6656
            first | refine fo_goL mi_k117 fz117_40_2_45 [(7, .ref 104), (6, .ref 108), (0, .ref 0), (1, .int x1), (2, .int x2), (3, .int x3), (4, .int x4), (5, .int x5)] [.int (i 6656)] (by rfl) ?_ | refine ft_go mi_k117 2 45 [(7, .ref 104), (6, .ref 108), (0, .ref 0), (1, .int x1), (2, .int x2), (3, .int x3), (4, .int x4), (5, .int x5)] [.int (i 6656)] i a q r (by rfl) ?_ | refine ko_steps mi_in117 2 _ (45, [(7, .ref 104), (6, .ref 108), (0, .ref 0), (1, .int x1), (2, .int x2), (3, .int x3), (4, .int x4), (5, .int x5)], [.int (i 6656)], (0, 0), ks i a q r) (by rfl) ?_
            refine ft_ifS mi_k117 ((i 6656) != 0) 51 48 [] (by rfl) (fun c => ?_) (fun c => ?_)
            ·
              have c227 : (i 6656).toInt ≠ (0 : Int32).toInt := kd_ne c; clear c
              first | refine fo_goS mi_k117 fz117_51_3_57 [.int 2, .int (i 6912)] (by rfl) ?_ | refine ft_go mi_k117 3 57 [(7, .ref 104), (6, .ref 108), (0, .ref 0), (1, .int x1), (2, .int x2), (3, .int x3), (4, .int x4), (5, .int x5)] [.int 2, .int (i 6912)] i a q r (by rfl) ?_ | refine ko_steps mi_in117 3 _ (57, [(7, .ref 104), (6, .ref 108), (0, .ref 0), (1, .int x1), (2, .int x2), (3, .int x3), (4, .int x4), (5, .int x5)], [.int 2, .int (i 6912)], (0, 0), ks i a q r) (by rfl) ?_
              refine ft_ifS mi_k117 ((i 6912) != 2) 82 60 [] (by rfl) (fun c => ?_) (fun c => ?_)
              ·
                have c228 : (i 6912).toInt ≠ (2 : Int32).toInt := kd_ne c; clear c
                first | refine fo_goS mi_k117 fz117_82_1_84 [.int (-12)] (by rfl) ?_ | refine ft_go mi_k117 1 84 [(7, .ref 104), (6, .ref 108), (0, .ref 0), (1, .int x1), (2, .int x2), (3, .int x3), (4, .int x4), (5, .int x5)] [.int (-12)] i a q r (by rfl) ?_ | refine ko_steps mi_in117 1 _ (84, [(7, .ref 104), (6, .ref 108), (0, .ref 0), (1, .int x1), (2, .int x2), (3, .int x3), (4, .int x4), (5, .int x5)], [.int (-12)], (0, 0), ks i a q r) (by rfl) ?_
                have fi_6914 : ((0 : Int) ≤ (i 6914).toInt) ∧ ((i 6914).toInt ≤ 4) := hG.I.1 6914
                have fi_6658 : ((0 : Int) ≤ (i 6658).toInt) ∧ ((i 6658).toInt ≤ 4) := hG.I.1 6658
                have fi_6915 : ((0 : Int) ≤ (i 6915).toInt) ∧ ((i 6915).toInt ≤ 60) := hG.I.1 6915
                have fi_6659 : ((0 : Int) ≤ (i 6659).toInt) ∧ ((i 6659).toInt ≤ 60) := hG.I.1 6659
                exact ft_ret mi_k117 (by rfl) (hP (-12) _ _ _ _ hG ⟨trivial, ⟨fun s t hs ht e1 e3 => by
        have es : s = 2 := kj_at e1 (oy140 w223)
        have et : t = 0 := kj_at e3 (oy107 w224 z4.1)
        subst es
        subst et
        exact ⟨(Or.inr (Or.inl ⟨kym12, (oy151 c226 c227 fi_6656.1 fi_6912.1 ky0), (oy130 c228 fi_6912.2 ky2)⟩)), fun h => absurd h (kj_neg kym12 (by decide))⟩, fun _ => (fun u hu => match u, hu with | 0, _ => rfl | 1, _ => rfl | 2, _ => rfl | 3, _ => rfl | 4, _ => rfl | 5, _ => rfl | _ + 6, h => absurd h (by omega)), fun h => absurd (oy160 w223 z2.2 z4.1 z4.2) h⟩⟩)
              ·
                have c229 : (i 6912).toInt = (2 : Int32).toInt := kd_neF c; clear c
                first | refine fo_goL mi_k117 fz117_60_3_66 [(7, .ref 104), (6, .ref 108), (0, .ref 0), (1, .int x1), (2, .int x2), (3, .int x3), (4, .int x4), (5, .int x5)] [.int 2, .int (i 6656)] (by rfl) ?_ | refine ft_go mi_k117 3 66 [(7, .ref 104), (6, .ref 108), (0, .ref 0), (1, .int x1), (2, .int x2), (3, .int x3), (4, .int x4), (5, .int x5)] [.int 2, .int (i 6656)] i a q r (by rfl) ?_ | refine ko_steps mi_in117 3 _ (66, [(7, .ref 104), (6, .ref 108), (0, .ref 0), (1, .int x1), (2, .int x2), (3, .int x3), (4, .int x4), (5, .int x5)], [.int 2, .int (i 6656)], (0, 0), ks i a q r) (by rfl) ?_
                refine ft_ifS mi_k117 ((i 6656) != 2) 82 69 [] (by rfl) (fun c => ?_) (fun c => ?_)
                ·
                  have c230 : (i 6656).toInt ≠ (2 : Int32).toInt := kd_ne c; clear c
                  first | refine fo_goS mi_k117 fz117_82_1_84 [.int (-12)] (by rfl) ?_ | refine ft_go mi_k117 1 84 [(7, .ref 104), (6, .ref 108), (0, .ref 0), (1, .int x1), (2, .int x2), (3, .int x3), (4, .int x4), (5, .int x5)] [.int (-12)] i a q r (by rfl) ?_ | refine ko_steps mi_in117 1 _ (84, [(7, .ref 104), (6, .ref 108), (0, .ref 0), (1, .int x1), (2, .int x2), (3, .int x3), (4, .int x4), (5, .int x5)], [.int (-12)], (0, 0), ks i a q r) (by rfl) ?_
                  have fi_6914 : ((0 : Int) ≤ (i 6914).toInt) ∧ ((i 6914).toInt ≤ 4) := hG.I.1 6914
                  have fi_6658 : ((0 : Int) ≤ (i 6658).toInt) ∧ ((i 6658).toInt ≤ 4) := hG.I.1 6658
                  have fi_6915 : ((0 : Int) ≤ (i 6915).toInt) ∧ ((i 6915).toInt ≤ 60) := hG.I.1 6915
                  have fi_6659 : ((0 : Int) ≤ (i 6659).toInt) ∧ ((i 6659).toInt ≤ 60) := hG.I.1 6659
                  exact ft_ret mi_k117 (by rfl) (hP (-12) _ _ _ _ hG ⟨trivial, ⟨fun s t hs ht e1 e3 => by
        have es : s = 2 := kj_at e1 (oy140 w223)
        have et : t = 0 := kj_at e3 (oy107 w224 z4.1)
        subst es
        subst et
        exact ⟨(Or.inr (Or.inl ⟨kym12, (oy131 c227 c229 fi_6656.1 ky0 ky2), (oy132 c230 fi_6656.2 ky2)⟩)), fun h => absurd h (kj_neg kym12 (by decide))⟩, fun _ => (fun u hu => match u, hu with | 0, _ => rfl | 1, _ => rfl | 2, _ => rfl | 3, _ => rfl | 4, _ => rfl | 5, _ => rfl | _ + 6, h => absurd h (by omega)), fun h => absurd (oy160 w223 z2.2 z4.1 z4.2) h⟩⟩)
                ·
                  have c231 : (i 6656).toInt = (2 : Int32).toInt := kd_neF c; clear c
                  have fi_6914 : ((0 : Int) ≤ (i 6914).toInt) ∧ ((i 6914).toInt ≤ 4) := hG.I.1 6914
                  have fi_6658 : ((0 : Int) ≤ (i 6658).toInt) ∧ ((i 6658).toInt ≤ 4) := hG.I.1 6658
                  first | refine fo_goL mi_k117 fz117_69_4_79 [(7, .ref 104), (6, .ref 108), (0, .ref 0), (1, .int x1), (2, .int x2), (3, .int x3), (4, .int x4), (5, .int x5)] [.int (i 6658), .int (i 6914)] (by rfl) ?_ | refine ft_go mi_k117 4 79 [(7, .ref 104), (6, .ref 108), (0, .ref 0), (1, .int x1), (2, .int x2), (3, .int x3), (4, .int x4), (5, .int x5)] [.int (i 6658), .int (i 6914)] i a q r (by rfl) ?_ | refine ko_steps mi_in117 4 _ (79, [(7, .ref 104), (6, .ref 108), (0, .ref 0), (1, .int x1), (2, .int x2), (3, .int x3), (4, .int x4), (5, .int x5)], [.int (i 6658), .int (i 6914)], (0, 0), ks i a q r) (by rfl) ?_
                  refine ft_ifS mi_k117 ((i 6914) == (i 6658)) 85 82 [] (by rfl) (fun c => ?_) (fun c => ?_)
                  ·
                    have c232 : (i 6914).toInt = (i 6658).toInt := kd_eq c; clear c
                    first | refine fo_goS mi_k117 fz117_85_3_90 [.int x5, .int x2, .ref 108] (by rfl) ?_ | refine ft_go mi_k117 3 90 [(7, .ref 104), (6, .ref 108), (0, .ref 0), (1, .int x1), (2, .int x2), (3, .int x3), (4, .int x4), (5, .int x5)] [.int x5, .int x2, .ref 108] i a q r (by rfl) ?_ | refine ko_steps mi_in117 3 _ (90, [(7, .ref 104), (6, .ref 108), (0, .ref 0), (1, .int x1), (2, .int x2), (3, .int x3), (4, .int x4), (5, .int x5)], [.int x5, .int x2, .ref 108], (0, 0), ks i a q r) (by rfl) ?_
                    refine ko_callPI mi_k117.1 (pc := 90) (ls := [(7, .ref 104), (6, .ref 108), (0, .ref 0), (1, .int x1), (2, .int x2), (3, .int x3), (4, .int x4), (5, .int x5)]) (st := [.int x5, .int x2, .ref 108]) (h := ks i a q r) (i := (.invokevirtual 324, 3, 37, 0, 9, 0, 316)) (mi_k117.2 _ _ (by rfl)) (ft_invS mi_pq37 (by rfl)) (cy := mi_c37) mi_pq37 rfl (kc37_108 hG.I hG.R x2 x5) (by decide) ?_
                    intro vg233 hg233
                    rcases hg233 with ⟨eg233, hg233⟩ | ⟨eg233, hg233⟩
                    ·
                      subst eg233
                      have fi_6915 : ((0 : Int) ≤ (i 6915).toInt) ∧ ((i 6915).toInt ≤ 60) := hG.I.1 6915
                      have z234 : ((0 : Int) ≤ x5.toInt) ∧ (x5.toInt ≤ (i 6915).toInt) ∧ ((0 : Int) ≤ x2.toInt) ∧ ((x2.toInt + x5.toInt) ≤ (i 6915).toInt) := hg233
                      first | refine fo_goS mi_k117 fz117_93_4_102 [.int x5, .int x4, .ref 104] (by rfl) ?_ | refine ft_go mi_k117 4 102 [(7, .ref 104), (6, .ref 108), (0, .ref 0), (1, .int x1), (2, .int x2), (3, .int x3), (4, .int x4), (5, .int x5)] [.int x5, .int x4, .ref 104] i a q r (by rfl) ?_ | refine ko_steps mi_in117 4 _ (102, [(7, .ref 104), (6, .ref 108), (0, .ref 0), (1, .int x1), (2, .int x2), (3, .int x3), (4, .int x4), (5, .int x5)], [.int x5, .int x4, .ref 104], (0, 0), ks i a q r) (by rfl) ?_
                      refine ko_callPI mi_k117.1 (pc := 102) (ls := [(7, .ref 104), (6, .ref 108), (0, .ref 0), (1, .int x1), (2, .int x2), (3, .int x3), (4, .int x4), (5, .int x5)]) (st := [.int x5, .int x4, .ref 104]) (h := ks i a q r) (i := (.invokevirtual 324, 3, 37, 0, 9, 0, 316)) (mi_k117.2 _ _ (by rfl)) (ft_invS mi_pq37 (by rfl)) (cy := mi_c37) mi_pq37 rfl (kc37_104 hG.I hG.R x4 x5) (by decide) ?_
                      intro vg235 hg235
                      rcases hg235 with ⟨eg235, hg235⟩ | ⟨eg235, hg235⟩
                      ·
                        subst eg235
                        have fi_6659 : ((0 : Int) ≤ (i 6659).toInt) ∧ ((i 6659).toInt ≤ 60) := hG.I.1 6659
                        have z236 : ((0 : Int) ≤ x5.toInt) ∧ (x5.toInt ≤ (i 6659).toInt) ∧ ((0 : Int) ≤ x4.toInt) ∧ ((x4.toInt + x5.toInt) ≤ (i 6659).toInt) := hg235
                        first | refine fo_goS mi_k117 fz117_105_8_126 [.int x5, .int x4, .ref 105, .int x2, .ref 109] (by rfl) ?_ | refine ft_go mi_k117 8 126 [(7, .ref 104), (6, .ref 108), (0, .ref 0), (1, .int x1), (2, .int x2), (3, .int x3), (4, .int x4), (5, .int x5)] [.int x5, .int x4, .ref 105, .int x2, .ref 109] i a q r (by rfl) ?_ | refine ko_steps mi_in117 8 _ (126, [(7, .ref 104), (6, .ref 108), (0, .ref 0), (1, .int x1), (2, .int x2), (3, .int x3), (4, .int x4), (5, .int x5)], [.int x5, .int x4, .ref 105, .int x2, .ref 109], (0, 0), ks i a q r) (by rfl) ?_
                        have hJ237 := kG_q hG 105 rfl (z := mi_cpy (q 109) (q 105) x2.toNatClampNeg x4.toNatClampNeg x5.toNatClampNeg) (kcpy_len2 (n := 60) (c := 60) (m := 60) (b := 60) (sp := x2) (dp := x4) (n1 := x5) (hG.I.2.2.2 109) rfl (hG.I.2.2.2 105) rfl (oy3 z234.1) (oy3 z234.2.2.1) (oy3 z236.2.2.1) (oy119 fi_6915.2 z234.2.2.2) (oy119 fi_6659.2 z236.2.2.2))
                        refine ko_copyL2 mi_k117.1 (l := q 109) (g := q 105) (n := 60) (c := 60) (m := 60) (b := 60) (mi_k117.2 _ _ (by rfl)) (by rfl) (by rfl) (by rfl) (by rfl) (by rfl) (hG.I.2.2.2 109) rfl (hG.I.2.2.2 105) rfl (oy3 z234.1) (oy3 z234.2.2.1) (oy3 z236.2.2.1) (oy119 fi_6915.2 z234.2.2.2) (oy119 fi_6659.2 z236.2.2.2) (h5 := ks i a (ku q 105 (mi_cpy (q 109) (q 105) x2.toNatClampNeg x4.toNatClampNeg x5.toNatClampNeg)) r) (by rfl) ?_
                        first | refine fo_goS mi_k117 fz117_129_1_131 [.int x5] (by rfl) ?_ | refine ft_go mi_k117 1 131 [(7, .ref 104), (6, .ref 108), (0, .ref 0), (1, .int x1), (2, .int x2), (3, .int x3), (4, .int x4), (5, .int x5)] [.int x5] i a (ku q 105 (mi_cpy (q 109) (q 105) x2.toNatClampNeg x4.toNatClampNeg x5.toNatClampNeg)) r (by rfl) ?_ | refine ko_steps mi_in117 1 _ (131, [(7, .ref 104), (6, .ref 108), (0, .ref 0), (1, .int x1), (2, .int x2), (3, .int x3), (4, .int x4), (5, .int x5)], [.int x5], (0, 0), ks i a (ku q 105 (mi_cpy (q 109) (q 105) x2.toNatClampNeg x4.toNatClampNeg x5.toNatClampNeg)) r) (by rfl) ?_
                        exact ft_ret mi_k117 (by rfl) (hP x5 _ _ _ _ hJ237 ⟨trivial, ⟨fun s t hs ht e1 e3 => by
        have es : s = 2 := kj_at e1 (oy140 w223)
        have et : t = 0 := kj_at e3 (oy107 w224 z4.1)
        subst es
        subst et
        exact ⟨(Or.inr (Or.inr (Or.inr ⟨rfl, (oy152 c229 c231 c232 fi_6656.2 fi_6912.2 ky2), (oy134 z234.1 z234.2.2.1 z234.2.2.2 z236.2.2.1 z236.2.2.2)⟩))), fun _ => ⟨rfl, (fun u hu ne => match u, hu, ne with | 0, _, ne => absurd rfl ne | 1, _, _ => rfl | 2, _, _ => rfl | 3, _, _ => rfl | 4, _, _ => rfl | 5, _, _ => rfl | _ + 6, h, _ => absurd h (by omega))⟩⟩, fun h => absurd h (oy26 z234.1), fun h => absurd (oy160 w223 z2.2 z4.1 z4.2) h⟩⟩)
                      ·
                        subst eg235
                        have fi_6659 : ((0 : Int) ≤ (i 6659).toInt) ∧ ((i 6659).toInt ≤ 60) := hG.I.1 6659
                        have z238 : ¬ (((0 : Int) ≤ x5.toInt) ∧ (x5.toInt ≤ (i 6659).toInt) ∧ ((0 : Int) ≤ x4.toInt) ∧ ((x4.toInt + x5.toInt) ≤ (i 6659).toInt)) := hg235
                        first | refine fo_goL mi_k117 fz117_93_2_110 [(7, .ref 104), (6, .ref 108), (0, .ref 0), (1, .int x1), (2, .int x2), (3, .int x3), (4, .int x4), (5, .int x5)] [.int (-13)] (by rfl) ?_ | refine fo_goL mi_k117 fz117_105_2_110 [(7, .ref 104), (6, .ref 108), (0, .ref 0), (1, .int x1), (2, .int x2), (3, .int x3), (4, .int x4), (5, .int x5)] [.int (-13)] (by rfl) ?_ | refine ft_go mi_k117 2 110 [(7, .ref 104), (6, .ref 108), (0, .ref 0), (1, .int x1), (2, .int x2), (3, .int x3), (4, .int x4), (5, .int x5)] [.int (-13)] i a q r (by rfl) ?_ | refine ko_steps mi_in117 2 _ (110, [(7, .ref 104), (6, .ref 108), (0, .ref 0), (1, .int x1), (2, .int x2), (3, .int x3), (4, .int x4), (5, .int x5)], [.int (-13)], (0, 0), ks i a q r) (by rfl) ?_
                        exact ft_ret mi_k117 (by rfl) (hP (-13) _ _ _ _ hG ⟨trivial, ⟨fun s t hs ht e1 e3 => by
        have es : s = 2 := kj_at e1 (oy140 w223)
        have et : t = 0 := kj_at e3 (oy107 w224 z4.1)
        subst es
        subst et
        exact ⟨(Or.inr (Or.inr (Or.inl ⟨kym13, (oy152 c229 c231 c232 fi_6656.2 fi_6912.2 ky2), (oy135 z234.1 z238)⟩))), fun h => absurd h (kj_neg kym13 (by decide))⟩, fun _ => (fun u hu => match u, hu with | 0, _ => rfl | 1, _ => rfl | 2, _ => rfl | 3, _ => rfl | 4, _ => rfl | 5, _ => rfl | _ + 6, h => absurd h (by omega)), fun h => absurd (oy160 w223 z2.2 z4.1 z4.2) h⟩⟩)
                    ·
                      subst eg233
                      have fi_6915 : ((0 : Int) ≤ (i 6915).toInt) ∧ ((i 6915).toInt ≤ 60) := hG.I.1 6915
                      have z239 : ¬ (((0 : Int) ≤ x5.toInt) ∧ (x5.toInt ≤ (i 6915).toInt) ∧ ((0 : Int) ≤ x2.toInt) ∧ ((x2.toInt + x5.toInt) ≤ (i 6915).toInt)) := hg233
                      first | refine fo_goL mi_k117 fz117_93_2_110 [(7, .ref 104), (6, .ref 108), (0, .ref 0), (1, .int x1), (2, .int x2), (3, .int x3), (4, .int x4), (5, .int x5)] [.int (-13)] (by rfl) ?_ | refine fo_goL mi_k117 fz117_105_2_110 [(7, .ref 104), (6, .ref 108), (0, .ref 0), (1, .int x1), (2, .int x2), (3, .int x3), (4, .int x4), (5, .int x5)] [.int (-13)] (by rfl) ?_ | refine ft_go mi_k117 2 110 [(7, .ref 104), (6, .ref 108), (0, .ref 0), (1, .int x1), (2, .int x2), (3, .int x3), (4, .int x4), (5, .int x5)] [.int (-13)] i a q r (by rfl) ?_ | refine ko_steps mi_in117 2 _ (110, [(7, .ref 104), (6, .ref 108), (0, .ref 0), (1, .int x1), (2, .int x2), (3, .int x3), (4, .int x4), (5, .int x5)], [.int (-13)], (0, 0), ks i a q r) (by rfl) ?_
                      have fi_6659 : ((0 : Int) ≤ (i 6659).toInt) ∧ ((i 6659).toInt ≤ 60) := hG.I.1 6659
                      exact ft_ret mi_k117 (by rfl) (hP (-13) _ _ _ _ hG ⟨trivial, ⟨fun s t hs ht e1 e3 => by
        have es : s = 2 := kj_at e1 (oy140 w223)
        have et : t = 0 := kj_at e3 (oy107 w224 z4.1)
        subst es
        subst et
        exact ⟨(Or.inr (Or.inr (Or.inl ⟨kym13, (oy152 c229 c231 c232 fi_6656.2 fi_6912.2 ky2), (oy136 z239)⟩))), fun h => absurd h (kj_neg kym13 (by decide))⟩, fun _ => (fun u hu => match u, hu with | 0, _ => rfl | 1, _ => rfl | 2, _ => rfl | 3, _ => rfl | 4, _ => rfl | 5, _ => rfl | _ + 6, h => absurd h (by omega)), fun h => absurd (oy160 w223 z2.2 z4.1 z4.2) h⟩⟩)
                  ·
                    have c240 : (i 6914).toInt ≠ (i 6658).toInt := kd_eqF c; clear c
                    first | refine fo_goL mi_k117 fz117_82_1_84 [(7, .ref 104), (6, .ref 108), (0, .ref 0), (1, .int x1), (2, .int x2), (3, .int x3), (4, .int x4), (5, .int x5)] [.int (-12)] (by rfl) ?_ | refine ft_go mi_k117 1 84 [(7, .ref 104), (6, .ref 108), (0, .ref 0), (1, .int x1), (2, .int x2), (3, .int x3), (4, .int x4), (5, .int x5)] [.int (-12)] i a q r (by rfl) ?_ | refine ko_steps mi_in117 1 _ (84, [(7, .ref 104), (6, .ref 108), (0, .ref 0), (1, .int x1), (2, .int x2), (3, .int x3), (4, .int x4), (5, .int x5)], [.int (-12)], (0, 0), ks i a q r) (by rfl) ?_
                    have fi_6915 : ((0 : Int) ≤ (i 6915).toInt) ∧ ((i 6915).toInt ≤ 60) := hG.I.1 6915
                    have fi_6659 : ((0 : Int) ≤ (i 6659).toInt) ∧ ((i 6659).toInt ≤ 60) := hG.I.1 6659
                    exact ft_ret mi_k117 (by rfl) (hP (-12) _ _ _ _ hG ⟨trivial, ⟨fun s t hs ht e1 e3 => by
        have es : s = 2 := kj_at e1 (oy140 w223)
        have et : t = 0 := kj_at e3 (oy107 w224 z4.1)
        subst es
        subst et
        exact ⟨(Or.inr (Or.inl ⟨kym12, (oy137 c229 c231 ky2), (oy138 c240)⟩)), fun h => absurd h (kj_neg kym12 (by decide))⟩, fun _ => (fun u hu => match u, hu with | 0, _ => rfl | 1, _ => rfl | 2, _ => rfl | 3, _ => rfl | 4, _ => rfl | 5, _ => rfl | _ + 6, h => absurd h (by omega)), fun h => absurd (oy160 w223 z2.2 z4.1 z4.2) h⟩⟩)
            ·
              have c241 : (i 6656).toInt = (0 : Int32).toInt := kd_neF c; clear c
              first | refine fo_goL mi_k117 fz117_48_1_50 [(7, .ref 104), (6, .ref 108), (0, .ref 0), (1, .int x1), (2, .int x2), (3, .int x3), (4, .int x4), (5, .int x5)] [.int (-11)] (by rfl) ?_ | refine ft_go mi_k117 1 50 [(7, .ref 104), (6, .ref 108), (0, .ref 0), (1, .int x1), (2, .int x2), (3, .int x3), (4, .int x4), (5, .int x5)] [.int (-11)] i a q r (by rfl) ?_ | refine ko_steps mi_in117 1 _ (50, [(7, .ref 104), (6, .ref 108), (0, .ref 0), (1, .int x1), (2, .int x2), (3, .int x3), (4, .int x4), (5, .int x5)], [.int (-11)], (0, 0), ks i a q r) (by rfl) ?_
              have fi_6914 : ((0 : Int) ≤ (i 6914).toInt) ∧ ((i 6914).toInt ≤ 4) := hG.I.1 6914
              have fi_6658 : ((0 : Int) ≤ (i 6658).toInt) ∧ ((i 6658).toInt ≤ 4) := hG.I.1 6658
              have fi_6915 : ((0 : Int) ≤ (i 6915).toInt) ∧ ((i 6915).toInt ≤ 60) := hG.I.1 6915
              have fi_6659 : ((0 : Int) ≤ (i 6659).toInt) ∧ ((i 6659).toInt ≤ 60) := hG.I.1 6659
              exact ft_ret mi_k117 (by rfl) (hP (-11) _ _ _ _ hG ⟨trivial, ⟨fun s t hs ht e1 e3 => by
        have es : s = 2 := kj_at e1 (oy140 w223)
        have et : t = 0 := kj_at e3 (oy107 w224 z4.1)
        subst es
        subst et
        exact ⟨(Or.inl ⟨kym11, (oy139 c241 fi_6656.1 ky0)⟩), fun h => absurd h (kj_neg kym11 (by decide))⟩, fun _ => (fun u hu => match u, hu with | 0, _ => rfl | 1, _ => rfl | 2, _ => rfl | 3, _ => rfl | 4, _ => rfl | 5, _ => rfl | _ + 6, h => absurd h (by omega)), fun h => absurd (oy160 w223 z2.2 z4.1 z4.2) h⟩⟩)
        by_cases w242 : x3.toInt = 1
        ·
          refine ko_eq (x1 := (29, [(6, .ref 108), (0, .ref 0), (1, .int x1), (2, .int x2), (3, .int x3), (4, .int x4), (5, .int x5)], [.int 1, .ref 97], (0, 0), ks i a q r)) (by rw [(kj_eq w242 (by decide) : x3 = 1)]) ?_
          have fi_6912 : ((0 : Int) ≤ (i 6912).toInt) ∧ ((i 6912).toInt ≤ 2) := hG.I.1 6912
          first | refine ft_goL mi_k117 4 37 [(7, .ref 106), (6, .ref 108), (0, .ref 0), (1, .int x1), (2, .int x2), (3, .int x3), (4, .int x4), (5, .int x5)] [.int (i 6912)] (by rfl) ?_ | refine ft_go mi_k117 4 37 [(7, .ref 106), (6, .ref 108), (0, .ref 0), (1, .int x1), (2, .int x2), (3, .int x3), (4, .int x4), (5, .int x5)] [.int (i 6912)] i a q r (by rfl) ?_ | refine ko_steps mi_in117 4 _ (37, [(7, .ref 106), (6, .ref 108), (0, .ref 0), (1, .int x1), (2, .int x2), (3, .int x3), (4, .int x4), (5, .int x5)], [.int (i 6912)], (0, 0), ks i a q r) (by rfl) ?_
          refine ft_ifS mi_k117 ((i 6912) == 0) 48 40 [] (by rfl) (fun c => ?_) (fun c => ?_)
          ·
            have c243 : (i 6912).toInt = (0 : Int32).toInt := kd_eq c; clear c
            first | refine fo_goS mi_k117 fz117_48_1_50 [.int (-11)] (by rfl) ?_ | refine ft_go mi_k117 1 50 [(7, .ref 106), (6, .ref 108), (0, .ref 0), (1, .int x1), (2, .int x2), (3, .int x3), (4, .int x4), (5, .int x5)] [.int (-11)] i a q r (by rfl) ?_ | refine ko_steps mi_in117 1 _ (50, [(7, .ref 106), (6, .ref 108), (0, .ref 0), (1, .int x1), (2, .int x2), (3, .int x3), (4, .int x4), (5, .int x5)], [.int (-11)], (0, 0), ks i a q r) (by rfl) ?_
            have fi_6784 : ((0 : Int) ≤ (i 6784).toInt) ∧ ((i 6784).toInt ≤ 2) := hG.I.1 6784
            have fi_6914 : ((0 : Int) ≤ (i 6914).toInt) ∧ ((i 6914).toInt ≤ 4) := hG.I.1 6914
            have fi_6786 : ((0 : Int) ≤ (i 6786).toInt) ∧ ((i 6786).toInt ≤ 4) := hG.I.1 6786
            have fi_6915 : ((0 : Int) ≤ (i 6915).toInt) ∧ ((i 6915).toInt ≤ 60) := hG.I.1 6915
            have fi_6787 : ((0 : Int) ≤ (i 6787).toInt) ∧ ((i 6787).toInt ≤ 60) := hG.I.1 6787
            exact ft_ret mi_k117 (by rfl) (hP (-11) _ _ _ _ hG ⟨trivial, ⟨fun s t hs ht e1 e3 => by
        have es : s = 2 := kj_at e1 (oy140 w223)
        have et : t = 1 := kj_at e3 (oy126 w242)
        subst es
        subst et
        exact ⟨(Or.inl ⟨kym11, (oy127 c243 fi_6912.1 ky0)⟩), fun h => absurd h (kj_neg kym11 (by decide))⟩, fun _ => (fun u hu => match u, hu with | 0, _ => rfl | 1, _ => rfl | 2, _ => rfl | 3, _ => rfl | 4, _ => rfl | 5, _ => rfl | _ + 6, h => absurd h (by omega)), fun h => absurd (oy161 w223 w242 z2.2 z4.2) h⟩⟩)
          ·
            have c244 : (i 6912).toInt ≠ (0 : Int32).toInt := kd_eqF c; clear c
            have fi_6784 : ((0 : Int) ≤ (i 6784).toInt) ∧ ((i 6784).toInt ≤ 2) := hG.I.1 6784
            first | refine fo_goL mi_k117 fz117_40_2_45 [(7, .ref 106), (6, .ref 108), (0, .ref 0), (1, .int x1), (2, .int x2), (3, .int x3), (4, .int x4), (5, .int x5)] [.int (i 6784)] (by rfl) ?_ | refine ft_go mi_k117 2 45 [(7, .ref 106), (6, .ref 108), (0, .ref 0), (1, .int x1), (2, .int x2), (3, .int x3), (4, .int x4), (5, .int x5)] [.int (i 6784)] i a q r (by rfl) ?_ | refine ko_steps mi_in117 2 _ (45, [(7, .ref 106), (6, .ref 108), (0, .ref 0), (1, .int x1), (2, .int x2), (3, .int x3), (4, .int x4), (5, .int x5)], [.int (i 6784)], (0, 0), ks i a q r) (by rfl) ?_
            refine ft_ifS mi_k117 ((i 6784) != 0) 51 48 [] (by rfl) (fun c => ?_) (fun c => ?_)
            ·
              have c245 : (i 6784).toInt ≠ (0 : Int32).toInt := kd_ne c; clear c
              first | refine fo_goS mi_k117 fz117_51_3_57 [.int 2, .int (i 6912)] (by rfl) ?_ | refine ft_go mi_k117 3 57 [(7, .ref 106), (6, .ref 108), (0, .ref 0), (1, .int x1), (2, .int x2), (3, .int x3), (4, .int x4), (5, .int x5)] [.int 2, .int (i 6912)] i a q r (by rfl) ?_ | refine ko_steps mi_in117 3 _ (57, [(7, .ref 106), (6, .ref 108), (0, .ref 0), (1, .int x1), (2, .int x2), (3, .int x3), (4, .int x4), (5, .int x5)], [.int 2, .int (i 6912)], (0, 0), ks i a q r) (by rfl) ?_
              refine ft_ifS mi_k117 ((i 6912) != 2) 82 60 [] (by rfl) (fun c => ?_) (fun c => ?_)
              ·
                have c246 : (i 6912).toInt ≠ (2 : Int32).toInt := kd_ne c; clear c
                first | refine fo_goS mi_k117 fz117_82_1_84 [.int (-12)] (by rfl) ?_ | refine ft_go mi_k117 1 84 [(7, .ref 106), (6, .ref 108), (0, .ref 0), (1, .int x1), (2, .int x2), (3, .int x3), (4, .int x4), (5, .int x5)] [.int (-12)] i a q r (by rfl) ?_ | refine ko_steps mi_in117 1 _ (84, [(7, .ref 106), (6, .ref 108), (0, .ref 0), (1, .int x1), (2, .int x2), (3, .int x3), (4, .int x4), (5, .int x5)], [.int (-12)], (0, 0), ks i a q r) (by rfl) ?_
                have fi_6914 : ((0 : Int) ≤ (i 6914).toInt) ∧ ((i 6914).toInt ≤ 4) := hG.I.1 6914
                have fi_6786 : ((0 : Int) ≤ (i 6786).toInt) ∧ ((i 6786).toInt ≤ 4) := hG.I.1 6786
                have fi_6915 : ((0 : Int) ≤ (i 6915).toInt) ∧ ((i 6915).toInt ≤ 60) := hG.I.1 6915
                have fi_6787 : ((0 : Int) ≤ (i 6787).toInt) ∧ ((i 6787).toInt ≤ 60) := hG.I.1 6787
                exact ft_ret mi_k117 (by rfl) (hP (-12) _ _ _ _ hG ⟨trivial, ⟨fun s t hs ht e1 e3 => by
        have es : s = 2 := kj_at e1 (oy140 w223)
        have et : t = 1 := kj_at e3 (oy126 w242)
        subst es
        subst et
        exact ⟨(Or.inr (Or.inl ⟨kym12, (oy151 c244 c245 fi_6784.1 fi_6912.1 ky0), (oy130 c246 fi_6912.2 ky2)⟩)), fun h => absurd h (kj_neg kym12 (by decide))⟩, fun _ => (fun u hu => match u, hu with | 0, _ => rfl | 1, _ => rfl | 2, _ => rfl | 3, _ => rfl | 4, _ => rfl | 5, _ => rfl | _ + 6, h => absurd h (by omega)), fun h => absurd (oy161 w223 w242 z2.2 z4.2) h⟩⟩)
              ·
                have c247 : (i 6912).toInt = (2 : Int32).toInt := kd_neF c; clear c
                first | refine fo_goL mi_k117 fz117_60_3_66 [(7, .ref 106), (6, .ref 108), (0, .ref 0), (1, .int x1), (2, .int x2), (3, .int x3), (4, .int x4), (5, .int x5)] [.int 2, .int (i 6784)] (by rfl) ?_ | refine ft_go mi_k117 3 66 [(7, .ref 106), (6, .ref 108), (0, .ref 0), (1, .int x1), (2, .int x2), (3, .int x3), (4, .int x4), (5, .int x5)] [.int 2, .int (i 6784)] i a q r (by rfl) ?_ | refine ko_steps mi_in117 3 _ (66, [(7, .ref 106), (6, .ref 108), (0, .ref 0), (1, .int x1), (2, .int x2), (3, .int x3), (4, .int x4), (5, .int x5)], [.int 2, .int (i 6784)], (0, 0), ks i a q r) (by rfl) ?_
                refine ft_ifS mi_k117 ((i 6784) != 2) 82 69 [] (by rfl) (fun c => ?_) (fun c => ?_)
                ·
                  have c248 : (i 6784).toInt ≠ (2 : Int32).toInt := kd_ne c; clear c
                  first | refine fo_goS mi_k117 fz117_82_1_84 [.int (-12)] (by rfl) ?_ | refine ft_go mi_k117 1 84 [(7, .ref 106), (6, .ref 108), (0, .ref 0), (1, .int x1), (2, .int x2), (3, .int x3), (4, .int x4), (5, .int x5)] [.int (-12)] i a q r (by rfl) ?_ | refine ko_steps mi_in117 1 _ (84, [(7, .ref 106), (6, .ref 108), (0, .ref 0), (1, .int x1), (2, .int x2), (3, .int x3), (4, .int x4), (5, .int x5)], [.int (-12)], (0, 0), ks i a q r) (by rfl) ?_
                  have fi_6914 : ((0 : Int) ≤ (i 6914).toInt) ∧ ((i 6914).toInt ≤ 4) := hG.I.1 6914
                  have fi_6786 : ((0 : Int) ≤ (i 6786).toInt) ∧ ((i 6786).toInt ≤ 4) := hG.I.1 6786
                  have fi_6915 : ((0 : Int) ≤ (i 6915).toInt) ∧ ((i 6915).toInt ≤ 60) := hG.I.1 6915
                  have fi_6787 : ((0 : Int) ≤ (i 6787).toInt) ∧ ((i 6787).toInt ≤ 60) := hG.I.1 6787
                  exact ft_ret mi_k117 (by rfl) (hP (-12) _ _ _ _ hG ⟨trivial, ⟨fun s t hs ht e1 e3 => by
        have es : s = 2 := kj_at e1 (oy140 w223)
        have et : t = 1 := kj_at e3 (oy126 w242)
        subst es
        subst et
        exact ⟨(Or.inr (Or.inl ⟨kym12, (oy131 c245 c247 fi_6784.1 ky0 ky2), (oy132 c248 fi_6784.2 ky2)⟩)), fun h => absurd h (kj_neg kym12 (by decide))⟩, fun _ => (fun u hu => match u, hu with | 0, _ => rfl | 1, _ => rfl | 2, _ => rfl | 3, _ => rfl | 4, _ => rfl | 5, _ => rfl | _ + 6, h => absurd h (by omega)), fun h => absurd (oy161 w223 w242 z2.2 z4.2) h⟩⟩)
                ·
                  have c249 : (i 6784).toInt = (2 : Int32).toInt := kd_neF c; clear c
                  have fi_6914 : ((0 : Int) ≤ (i 6914).toInt) ∧ ((i 6914).toInt ≤ 4) := hG.I.1 6914
                  have fi_6786 : ((0 : Int) ≤ (i 6786).toInt) ∧ ((i 6786).toInt ≤ 4) := hG.I.1 6786
                  first | refine fo_goL mi_k117 fz117_69_4_79 [(7, .ref 106), (6, .ref 108), (0, .ref 0), (1, .int x1), (2, .int x2), (3, .int x3), (4, .int x4), (5, .int x5)] [.int (i 6786), .int (i 6914)] (by rfl) ?_ | refine ft_go mi_k117 4 79 [(7, .ref 106), (6, .ref 108), (0, .ref 0), (1, .int x1), (2, .int x2), (3, .int x3), (4, .int x4), (5, .int x5)] [.int (i 6786), .int (i 6914)] i a q r (by rfl) ?_ | refine ko_steps mi_in117 4 _ (79, [(7, .ref 106), (6, .ref 108), (0, .ref 0), (1, .int x1), (2, .int x2), (3, .int x3), (4, .int x4), (5, .int x5)], [.int (i 6786), .int (i 6914)], (0, 0), ks i a q r) (by rfl) ?_
                  refine ft_ifS mi_k117 ((i 6914) == (i 6786)) 85 82 [] (by rfl) (fun c => ?_) (fun c => ?_)
                  ·
                    have c250 : (i 6914).toInt = (i 6786).toInt := kd_eq c; clear c
                    first | refine fo_goS mi_k117 fz117_85_3_90 [.int x5, .int x2, .ref 108] (by rfl) ?_ | refine ft_go mi_k117 3 90 [(7, .ref 106), (6, .ref 108), (0, .ref 0), (1, .int x1), (2, .int x2), (3, .int x3), (4, .int x4), (5, .int x5)] [.int x5, .int x2, .ref 108] i a q r (by rfl) ?_ | refine ko_steps mi_in117 3 _ (90, [(7, .ref 106), (6, .ref 108), (0, .ref 0), (1, .int x1), (2, .int x2), (3, .int x3), (4, .int x4), (5, .int x5)], [.int x5, .int x2, .ref 108], (0, 0), ks i a q r) (by rfl) ?_
                    refine ko_callPI mi_k117.1 (pc := 90) (ls := [(7, .ref 106), (6, .ref 108), (0, .ref 0), (1, .int x1), (2, .int x2), (3, .int x3), (4, .int x4), (5, .int x5)]) (st := [.int x5, .int x2, .ref 108]) (h := ks i a q r) (i := (.invokevirtual 324, 3, 37, 0, 9, 0, 316)) (mi_k117.2 _ _ (by rfl)) (ft_invS mi_pq37 (by rfl)) (cy := mi_c37) mi_pq37 rfl (kc37_108 hG.I hG.R x2 x5) (by decide) ?_
                    intro vg251 hg251
                    rcases hg251 with ⟨eg251, hg251⟩ | ⟨eg251, hg251⟩
                    ·
                      subst eg251
                      have fi_6915 : ((0 : Int) ≤ (i 6915).toInt) ∧ ((i 6915).toInt ≤ 60) := hG.I.1 6915
                      have z252 : ((0 : Int) ≤ x5.toInt) ∧ (x5.toInt ≤ (i 6915).toInt) ∧ ((0 : Int) ≤ x2.toInt) ∧ ((x2.toInt + x5.toInt) ≤ (i 6915).toInt) := hg251
                      first | refine fo_goS mi_k117 fz117_93_4_102 [.int x5, .int x4, .ref 106] (by rfl) ?_ | refine ft_go mi_k117 4 102 [(7, .ref 106), (6, .ref 108), (0, .ref 0), (1, .int x1), (2, .int x2), (3, .int x3), (4, .int x4), (5, .int x5)] [.int x5, .int x4, .ref 106] i a q r (by rfl) ?_ | refine ko_steps mi_in117 4 _ (102, [(7, .ref 106), (6, .ref 108), (0, .ref 0), (1, .int x1), (2, .int x2), (3, .int x3), (4, .int x4), (5, .int x5)], [.int x5, .int x4, .ref 106], (0, 0), ks i a q r) (by rfl) ?_
                      refine ko_callPI mi_k117.1 (pc := 102) (ls := [(7, .ref 106), (6, .ref 108), (0, .ref 0), (1, .int x1), (2, .int x2), (3, .int x3), (4, .int x4), (5, .int x5)]) (st := [.int x5, .int x4, .ref 106]) (h := ks i a q r) (i := (.invokevirtual 324, 3, 37, 0, 9, 0, 316)) (mi_k117.2 _ _ (by rfl)) (ft_invS mi_pq37 (by rfl)) (cy := mi_c37) mi_pq37 rfl (kc37_106 hG.I hG.R x4 x5) (by decide) ?_
                      intro vg253 hg253
                      rcases hg253 with ⟨eg253, hg253⟩ | ⟨eg253, hg253⟩
                      ·
                        subst eg253
                        have fi_6787 : ((0 : Int) ≤ (i 6787).toInt) ∧ ((i 6787).toInt ≤ 60) := hG.I.1 6787
                        have z254 : ((0 : Int) ≤ x5.toInt) ∧ (x5.toInt ≤ (i 6787).toInt) ∧ ((0 : Int) ≤ x4.toInt) ∧ ((x4.toInt + x5.toInt) ≤ (i 6787).toInt) := hg253
                        first | refine fo_goS mi_k117 fz117_105_8_126 [.int x5, .int x4, .ref 107, .int x2, .ref 109] (by rfl) ?_ | refine ft_go mi_k117 8 126 [(7, .ref 106), (6, .ref 108), (0, .ref 0), (1, .int x1), (2, .int x2), (3, .int x3), (4, .int x4), (5, .int x5)] [.int x5, .int x4, .ref 107, .int x2, .ref 109] i a q r (by rfl) ?_ | refine ko_steps mi_in117 8 _ (126, [(7, .ref 106), (6, .ref 108), (0, .ref 0), (1, .int x1), (2, .int x2), (3, .int x3), (4, .int x4), (5, .int x5)], [.int x5, .int x4, .ref 107, .int x2, .ref 109], (0, 0), ks i a q r) (by rfl) ?_
                        have hJ255 := kG_q hG 107 rfl (z := mi_cpy (q 109) (q 107) x2.toNatClampNeg x4.toNatClampNeg x5.toNatClampNeg) (kcpy_len2 (n := 60) (c := 60) (m := 60) (b := 60) (sp := x2) (dp := x4) (n1 := x5) (hG.I.2.2.2 109) rfl (hG.I.2.2.2 107) rfl (oy3 z252.1) (oy3 z252.2.2.1) (oy3 z254.2.2.1) (oy119 fi_6915.2 z252.2.2.2) (oy119 fi_6787.2 z254.2.2.2))
                        refine ko_copyL2 mi_k117.1 (l := q 109) (g := q 107) (n := 60) (c := 60) (m := 60) (b := 60) (mi_k117.2 _ _ (by rfl)) (by rfl) (by rfl) (by rfl) (by rfl) (by rfl) (hG.I.2.2.2 109) rfl (hG.I.2.2.2 107) rfl (oy3 z252.1) (oy3 z252.2.2.1) (oy3 z254.2.2.1) (oy119 fi_6915.2 z252.2.2.2) (oy119 fi_6787.2 z254.2.2.2) (h5 := ks i a (ku q 107 (mi_cpy (q 109) (q 107) x2.toNatClampNeg x4.toNatClampNeg x5.toNatClampNeg)) r) (by rfl) ?_
                        first | refine fo_goS mi_k117 fz117_129_1_131 [.int x5] (by rfl) ?_ | refine ft_go mi_k117 1 131 [(7, .ref 106), (6, .ref 108), (0, .ref 0), (1, .int x1), (2, .int x2), (3, .int x3), (4, .int x4), (5, .int x5)] [.int x5] i a (ku q 107 (mi_cpy (q 109) (q 107) x2.toNatClampNeg x4.toNatClampNeg x5.toNatClampNeg)) r (by rfl) ?_ | refine ko_steps mi_in117 1 _ (131, [(7, .ref 106), (6, .ref 108), (0, .ref 0), (1, .int x1), (2, .int x2), (3, .int x3), (4, .int x4), (5, .int x5)], [.int x5], (0, 0), ks i a (ku q 107 (mi_cpy (q 109) (q 107) x2.toNatClampNeg x4.toNatClampNeg x5.toNatClampNeg)) r) (by rfl) ?_
                        exact ft_ret mi_k117 (by rfl) (hP x5 _ _ _ _ hJ255 ⟨trivial, ⟨fun s t hs ht e1 e3 => by
        have es : s = 2 := kj_at e1 (oy140 w223)
        have et : t = 1 := kj_at e3 (oy126 w242)
        subst es
        subst et
        exact ⟨(Or.inr (Or.inr (Or.inr ⟨rfl, (oy152 c247 c249 c250 fi_6784.2 fi_6912.2 ky2), (oy134 z252.1 z252.2.2.1 z252.2.2.2 z254.2.2.1 z254.2.2.2)⟩))), fun _ => ⟨rfl, (fun u hu ne => match u, hu, ne with | 0, _, _ => rfl | 1, _, ne => absurd rfl ne | 2, _, _ => rfl | 3, _, _ => rfl | 4, _, _ => rfl | 5, _, _ => rfl | _ + 6, h, _ => absurd h (by omega))⟩⟩, fun h => absurd h (oy26 z252.1), fun h => absurd (oy161 w223 w242 z2.2 z4.2) h⟩⟩)
                      ·
                        subst eg253
                        have fi_6787 : ((0 : Int) ≤ (i 6787).toInt) ∧ ((i 6787).toInt ≤ 60) := hG.I.1 6787
                        have z256 : ¬ (((0 : Int) ≤ x5.toInt) ∧ (x5.toInt ≤ (i 6787).toInt) ∧ ((0 : Int) ≤ x4.toInt) ∧ ((x4.toInt + x5.toInt) ≤ (i 6787).toInt)) := hg253
                        first | refine fo_goL mi_k117 fz117_93_2_110 [(7, .ref 106), (6, .ref 108), (0, .ref 0), (1, .int x1), (2, .int x2), (3, .int x3), (4, .int x4), (5, .int x5)] [.int (-13)] (by rfl) ?_ | refine fo_goL mi_k117 fz117_105_2_110 [(7, .ref 106), (6, .ref 108), (0, .ref 0), (1, .int x1), (2, .int x2), (3, .int x3), (4, .int x4), (5, .int x5)] [.int (-13)] (by rfl) ?_ | refine ft_go mi_k117 2 110 [(7, .ref 106), (6, .ref 108), (0, .ref 0), (1, .int x1), (2, .int x2), (3, .int x3), (4, .int x4), (5, .int x5)] [.int (-13)] i a q r (by rfl) ?_ | refine ko_steps mi_in117 2 _ (110, [(7, .ref 106), (6, .ref 108), (0, .ref 0), (1, .int x1), (2, .int x2), (3, .int x3), (4, .int x4), (5, .int x5)], [.int (-13)], (0, 0), ks i a q r) (by rfl) ?_
                        exact ft_ret mi_k117 (by rfl) (hP (-13) _ _ _ _ hG ⟨trivial, ⟨fun s t hs ht e1 e3 => by
        have es : s = 2 := kj_at e1 (oy140 w223)
        have et : t = 1 := kj_at e3 (oy126 w242)
        subst es
        subst et
        exact ⟨(Or.inr (Or.inr (Or.inl ⟨kym13, (oy152 c247 c249 c250 fi_6784.2 fi_6912.2 ky2), (oy135 z252.1 z256)⟩))), fun h => absurd h (kj_neg kym13 (by decide))⟩, fun _ => (fun u hu => match u, hu with | 0, _ => rfl | 1, _ => rfl | 2, _ => rfl | 3, _ => rfl | 4, _ => rfl | 5, _ => rfl | _ + 6, h => absurd h (by omega)), fun h => absurd (oy161 w223 w242 z2.2 z4.2) h⟩⟩)
                    ·
                      subst eg251
                      have fi_6915 : ((0 : Int) ≤ (i 6915).toInt) ∧ ((i 6915).toInt ≤ 60) := hG.I.1 6915
                      have z257 : ¬ (((0 : Int) ≤ x5.toInt) ∧ (x5.toInt ≤ (i 6915).toInt) ∧ ((0 : Int) ≤ x2.toInt) ∧ ((x2.toInt + x5.toInt) ≤ (i 6915).toInt)) := hg251
                      first | refine fo_goL mi_k117 fz117_93_2_110 [(7, .ref 106), (6, .ref 108), (0, .ref 0), (1, .int x1), (2, .int x2), (3, .int x3), (4, .int x4), (5, .int x5)] [.int (-13)] (by rfl) ?_ | refine fo_goL mi_k117 fz117_105_2_110 [(7, .ref 106), (6, .ref 108), (0, .ref 0), (1, .int x1), (2, .int x2), (3, .int x3), (4, .int x4), (5, .int x5)] [.int (-13)] (by rfl) ?_ | refine ft_go mi_k117 2 110 [(7, .ref 106), (6, .ref 108), (0, .ref 0), (1, .int x1), (2, .int x2), (3, .int x3), (4, .int x4), (5, .int x5)] [.int (-13)] i a q r (by rfl) ?_ | refine ko_steps mi_in117 2 _ (110, [(7, .ref 106), (6, .ref 108), (0, .ref 0), (1, .int x1), (2, .int x2), (3, .int x3), (4, .int x4), (5, .int x5)], [.int (-13)], (0, 0), ks i a q r) (by rfl) ?_
                      have fi_6787 : ((0 : Int) ≤ (i 6787).toInt) ∧ ((i 6787).toInt ≤ 60) := hG.I.1 6787
                      exact ft_ret mi_k117 (by rfl) (hP (-13) _ _ _ _ hG ⟨trivial, ⟨fun s t hs ht e1 e3 => by
        have es : s = 2 := kj_at e1 (oy140 w223)
        have et : t = 1 := kj_at e3 (oy126 w242)
        subst es
        subst et
        exact ⟨(Or.inr (Or.inr (Or.inl ⟨kym13, (oy152 c247 c249 c250 fi_6784.2 fi_6912.2 ky2), (oy136 z257)⟩))), fun h => absurd h (kj_neg kym13 (by decide))⟩, fun _ => (fun u hu => match u, hu with | 0, _ => rfl | 1, _ => rfl | 2, _ => rfl | 3, _ => rfl | 4, _ => rfl | 5, _ => rfl | _ + 6, h => absurd h (by omega)), fun h => absurd (oy161 w223 w242 z2.2 z4.2) h⟩⟩)
                  ·
                    have c258 : (i 6914).toInt ≠ (i 6786).toInt := kd_eqF c; clear c
                    first | refine fo_goL mi_k117 fz117_82_1_84 [(7, .ref 106), (6, .ref 108), (0, .ref 0), (1, .int x1), (2, .int x2), (3, .int x3), (4, .int x4), (5, .int x5)] [.int (-12)] (by rfl) ?_ | refine ft_go mi_k117 1 84 [(7, .ref 106), (6, .ref 108), (0, .ref 0), (1, .int x1), (2, .int x2), (3, .int x3), (4, .int x4), (5, .int x5)] [.int (-12)] i a q r (by rfl) ?_ | refine ko_steps mi_in117 1 _ (84, [(7, .ref 106), (6, .ref 108), (0, .ref 0), (1, .int x1), (2, .int x2), (3, .int x3), (4, .int x4), (5, .int x5)], [.int (-12)], (0, 0), ks i a q r) (by rfl) ?_
                    have fi_6915 : ((0 : Int) ≤ (i 6915).toInt) ∧ ((i 6915).toInt ≤ 60) := hG.I.1 6915
                    have fi_6787 : ((0 : Int) ≤ (i 6787).toInt) ∧ ((i 6787).toInt ≤ 60) := hG.I.1 6787
                    exact ft_ret mi_k117 (by rfl) (hP (-12) _ _ _ _ hG ⟨trivial, ⟨fun s t hs ht e1 e3 => by
        have es : s = 2 := kj_at e1 (oy140 w223)
        have et : t = 1 := kj_at e3 (oy126 w242)
        subst es
        subst et
        exact ⟨(Or.inr (Or.inl ⟨kym12, (oy137 c247 c249 ky2), (oy138 c258)⟩)), fun h => absurd h (kj_neg kym12 (by decide))⟩, fun _ => (fun u hu => match u, hu with | 0, _ => rfl | 1, _ => rfl | 2, _ => rfl | 3, _ => rfl | 4, _ => rfl | 5, _ => rfl | _ + 6, h => absurd h (by omega)), fun h => absurd (oy161 w223 w242 z2.2 z4.2) h⟩⟩)
            ·
              have c259 : (i 6784).toInt = (0 : Int32).toInt := kd_neF c; clear c
              first | refine fo_goL mi_k117 fz117_48_1_50 [(7, .ref 106), (6, .ref 108), (0, .ref 0), (1, .int x1), (2, .int x2), (3, .int x3), (4, .int x4), (5, .int x5)] [.int (-11)] (by rfl) ?_ | refine ft_go mi_k117 1 50 [(7, .ref 106), (6, .ref 108), (0, .ref 0), (1, .int x1), (2, .int x2), (3, .int x3), (4, .int x4), (5, .int x5)] [.int (-11)] i a q r (by rfl) ?_ | refine ko_steps mi_in117 1 _ (50, [(7, .ref 106), (6, .ref 108), (0, .ref 0), (1, .int x1), (2, .int x2), (3, .int x3), (4, .int x4), (5, .int x5)], [.int (-11)], (0, 0), ks i a q r) (by rfl) ?_
              have fi_6914 : ((0 : Int) ≤ (i 6914).toInt) ∧ ((i 6914).toInt ≤ 4) := hG.I.1 6914
              have fi_6786 : ((0 : Int) ≤ (i 6786).toInt) ∧ ((i 6786).toInt ≤ 4) := hG.I.1 6786
              have fi_6915 : ((0 : Int) ≤ (i 6915).toInt) ∧ ((i 6915).toInt ≤ 60) := hG.I.1 6915
              have fi_6787 : ((0 : Int) ≤ (i 6787).toInt) ∧ ((i 6787).toInt ≤ 60) := hG.I.1 6787
              exact ft_ret mi_k117 (by rfl) (hP (-11) _ _ _ _ hG ⟨trivial, ⟨fun s t hs ht e1 e3 => by
        have es : s = 2 := kj_at e1 (oy140 w223)
        have et : t = 1 := kj_at e3 (oy126 w242)
        subst es
        subst et
        exact ⟨(Or.inl ⟨kym11, (oy139 c259 fi_6784.1 ky0)⟩), fun h => absurd h (kj_neg kym11 (by decide))⟩, fun _ => (fun u hu => match u, hu with | 0, _ => rfl | 1, _ => rfl | 2, _ => rfl | 3, _ => rfl | 4, _ => rfl | 5, _ => rfl | _ + 6, h => absurd h (by omega)), fun h => absurd (oy161 w223 w242 z2.2 z4.2) h⟩⟩)
        by_cases w260 : x3.toInt = 2
        ·
          refine ko_eq (x1 := (29, [(6, .ref 108), (0, .ref 0), (1, .int x1), (2, .int x2), (3, .int x3), (4, .int x4), (5, .int x5)], [.int 2, .ref 97], (0, 0), ks i a q r)) (by rw [(kj_eq w260 (by decide) : x3 = 2)]) ?_
          have fi_6912 : ((0 : Int) ≤ (i 6912).toInt) ∧ ((i 6912).toInt ≤ 2) := hG.I.1 6912
          first | refine ft_goL mi_k117 4 37 [(7, .ref 108), (6, .ref 108), (0, .ref 0), (1, .int x1), (2, .int x2), (3, .int x3), (4, .int x4), (5, .int x5)] [.int (i 6912)] (by rfl) ?_ | refine ft_go mi_k117 4 37 [(7, .ref 108), (6, .ref 108), (0, .ref 0), (1, .int x1), (2, .int x2), (3, .int x3), (4, .int x4), (5, .int x5)] [.int (i 6912)] i a q r (by rfl) ?_ | refine ko_steps mi_in117 4 _ (37, [(7, .ref 108), (6, .ref 108), (0, .ref 0), (1, .int x1), (2, .int x2), (3, .int x3), (4, .int x4), (5, .int x5)], [.int (i 6912)], (0, 0), ks i a q r) (by rfl) ?_
          refine ft_ifS mi_k117 ((i 6912) == 0) 48 40 [] (by rfl) (fun c => ?_) (fun c => ?_)
          ·
            have c261 : (i 6912).toInt = (0 : Int32).toInt := kd_eq c; clear c
            first | refine fo_goS mi_k117 fz117_48_1_50 [.int (-11)] (by rfl) ?_ | refine ft_go mi_k117 1 50 [(7, .ref 108), (6, .ref 108), (0, .ref 0), (1, .int x1), (2, .int x2), (3, .int x3), (4, .int x4), (5, .int x5)] [.int (-11)] i a q r (by rfl) ?_ | refine ko_steps mi_in117 1 _ (50, [(7, .ref 108), (6, .ref 108), (0, .ref 0), (1, .int x1), (2, .int x2), (3, .int x3), (4, .int x4), (5, .int x5)], [.int (-11)], (0, 0), ks i a q r) (by rfl) ?_
            have fi_6914 : ((0 : Int) ≤ (i 6914).toInt) ∧ ((i 6914).toInt ≤ 4) := hG.I.1 6914
            have fi_6915 : ((0 : Int) ≤ (i 6915).toInt) ∧ ((i 6915).toInt ≤ 60) := hG.I.1 6915
            exact ft_ret mi_k117 (by rfl) (hP (-11) _ _ _ _ hG ⟨trivial, ⟨fun s t hs ht e1 e3 => by
        have es : s = 2 := kj_at e1 (oy140 w223)
        have et : t = 2 := kj_at e3 (oy140 w260)
        subst es
        subst et
        exact ⟨(Or.inl ⟨kym11, (oy108 c261 fi_6912.1 ky0)⟩), fun h => absurd h (kj_neg kym11 (by decide))⟩, fun _ => (fun u hu => match u, hu with | 0, _ => rfl | 1, _ => rfl | 2, _ => rfl | 3, _ => rfl | 4, _ => rfl | 5, _ => rfl | _ + 6, h => absurd h (by omega)), fun h => absurd (oy162 w223 w260 z2.2 z4.2) h⟩⟩)
          ·
            have c262 : (i 6912).toInt ≠ (0 : Int32).toInt := kd_eqF c; clear c
            first | refine fo_goL mi_k117 fz117_40_2_45 [(7, .ref 108), (6, .ref 108), (0, .ref 0), (1, .int x1), (2, .int x2), (3, .int x3), (4, .int x4), (5, .int x5)] [.int (i 6912)] (by rfl) ?_ | refine ft_go mi_k117 2 45 [(7, .ref 108), (6, .ref 108), (0, .ref 0), (1, .int x1), (2, .int x2), (3, .int x3), (4, .int x4), (5, .int x5)] [.int (i 6912)] i a q r (by rfl) ?_ | refine ko_steps mi_in117 2 _ (45, [(7, .ref 108), (6, .ref 108), (0, .ref 0), (1, .int x1), (2, .int x2), (3, .int x3), (4, .int x4), (5, .int x5)], [.int (i 6912)], (0, 0), ks i a q r) (by rfl) ?_
            refine ft_ifS mi_k117 ((i 6912) != 0) 51 48 [] (by rfl) (fun c => ?_) (fun c => ?_)
            ·
              have c263 : (i 6912).toInt ≠ (0 : Int32).toInt := kd_ne c; clear c
              first | refine fo_goS mi_k117 fz117_51_3_57 [.int 2, .int (i 6912)] (by rfl) ?_ | refine ft_go mi_k117 3 57 [(7, .ref 108), (6, .ref 108), (0, .ref 0), (1, .int x1), (2, .int x2), (3, .int x3), (4, .int x4), (5, .int x5)] [.int 2, .int (i 6912)] i a q r (by rfl) ?_ | refine ko_steps mi_in117 3 _ (57, [(7, .ref 108), (6, .ref 108), (0, .ref 0), (1, .int x1), (2, .int x2), (3, .int x3), (4, .int x4), (5, .int x5)], [.int 2, .int (i 6912)], (0, 0), ks i a q r) (by rfl) ?_
              refine ft_ifS mi_k117 ((i 6912) != 2) 82 60 [] (by rfl) (fun c => ?_) (fun c => ?_)
              ·
                have c264 : (i 6912).toInt ≠ (2 : Int32).toInt := kd_ne c; clear c
                first | refine fo_goS mi_k117 fz117_82_1_84 [.int (-12)] (by rfl) ?_ | refine ft_go mi_k117 1 84 [(7, .ref 108), (6, .ref 108), (0, .ref 0), (1, .int x1), (2, .int x2), (3, .int x3), (4, .int x4), (5, .int x5)] [.int (-12)] i a q r (by rfl) ?_ | refine ko_steps mi_in117 1 _ (84, [(7, .ref 108), (6, .ref 108), (0, .ref 0), (1, .int x1), (2, .int x2), (3, .int x3), (4, .int x4), (5, .int x5)], [.int (-12)], (0, 0), ks i a q r) (by rfl) ?_
                have fi_6914 : ((0 : Int) ≤ (i 6914).toInt) ∧ ((i 6914).toInt ≤ 4) := hG.I.1 6914
                have fi_6915 : ((0 : Int) ≤ (i 6915).toInt) ∧ ((i 6915).toInt ≤ 60) := hG.I.1 6915
                exact ft_ret mi_k117 (by rfl) (hP (-12) _ _ _ _ hG ⟨trivial, ⟨fun s t hs ht e1 e3 => by
        have es : s = 2 := kj_at e1 (oy140 w223)
        have et : t = 2 := kj_at e3 (oy140 w260)
        subst es
        subst et
        exact ⟨(Or.inr (Or.inl ⟨kym12, (oy109 c262 fi_6912.1 ky0), (oy110 c264 fi_6912.2 ky2)⟩)), fun h => absurd h (kj_neg kym12 (by decide))⟩, fun _ => (fun u hu => match u, hu with | 0, _ => rfl | 1, _ => rfl | 2, _ => rfl | 3, _ => rfl | 4, _ => rfl | 5, _ => rfl | _ + 6, h => absurd h (by omega)), fun h => absurd (oy162 w223 w260 z2.2 z4.2) h⟩⟩)
              ·
                have c265 : (i 6912).toInt = (2 : Int32).toInt := kd_neF c; clear c
                first | refine fo_goL mi_k117 fz117_60_3_66 [(7, .ref 108), (6, .ref 108), (0, .ref 0), (1, .int x1), (2, .int x2), (3, .int x3), (4, .int x4), (5, .int x5)] [.int 2, .int (i 6912)] (by rfl) ?_ | refine ft_go mi_k117 3 66 [(7, .ref 108), (6, .ref 108), (0, .ref 0), (1, .int x1), (2, .int x2), (3, .int x3), (4, .int x4), (5, .int x5)] [.int 2, .int (i 6912)] i a q r (by rfl) ?_ | refine ko_steps mi_in117 3 _ (66, [(7, .ref 108), (6, .ref 108), (0, .ref 0), (1, .int x1), (2, .int x2), (3, .int x3), (4, .int x4), (5, .int x5)], [.int 2, .int (i 6912)], (0, 0), ks i a q r) (by rfl) ?_
                refine ft_ifS mi_k117 ((i 6912) != 2) 82 69 [] (by rfl) (fun c => ?_) (fun c => ?_)
                ·
                  have c266 : (i 6912).toInt ≠ (2 : Int32).toInt := kd_ne c; clear c
                  exact (oy111 c265 c266 fi_6912.2 ky2).elim
                ·
                  have c267 : (i 6912).toInt = (2 : Int32).toInt := kd_neF c; clear c
                  have fi_6914 : ((0 : Int) ≤ (i 6914).toInt) ∧ ((i 6914).toInt ≤ 4) := hG.I.1 6914
                  first | refine fo_goS mi_k117 fz117_69_4_79 [.int (i 6914), .int (i 6914)] (by rfl) ?_ | refine ft_go mi_k117 4 79 [(7, .ref 108), (6, .ref 108), (0, .ref 0), (1, .int x1), (2, .int x2), (3, .int x3), (4, .int x4), (5, .int x5)] [.int (i 6914), .int (i 6914)] i a q r (by rfl) ?_ | refine ko_steps mi_in117 4 _ (79, [(7, .ref 108), (6, .ref 108), (0, .ref 0), (1, .int x1), (2, .int x2), (3, .int x3), (4, .int x4), (5, .int x5)], [.int (i 6914), .int (i 6914)], (0, 0), ks i a q r) (by rfl) ?_
                  refine ft_ifS mi_k117 ((i 6914) == (i 6914)) 85 82 [] (by rfl) (fun c => ?_) (fun c => ?_)
                  ·
                    have c268 : (i 6914).toInt = (i 6914).toInt := kd_eq c; clear c
                    first | refine fo_goS mi_k117 fz117_85_3_90 [.int x5, .int x2, .ref 108] (by rfl) ?_ | refine ft_go mi_k117 3 90 [(7, .ref 108), (6, .ref 108), (0, .ref 0), (1, .int x1), (2, .int x2), (3, .int x3), (4, .int x4), (5, .int x5)] [.int x5, .int x2, .ref 108] i a q r (by rfl) ?_ | refine ko_steps mi_in117 3 _ (90, [(7, .ref 108), (6, .ref 108), (0, .ref 0), (1, .int x1), (2, .int x2), (3, .int x3), (4, .int x4), (5, .int x5)], [.int x5, .int x2, .ref 108], (0, 0), ks i a q r) (by rfl) ?_
                    refine ko_callPI mi_k117.1 (pc := 90) (ls := [(7, .ref 108), (6, .ref 108), (0, .ref 0), (1, .int x1), (2, .int x2), (3, .int x3), (4, .int x4), (5, .int x5)]) (st := [.int x5, .int x2, .ref 108]) (h := ks i a q r) (i := (.invokevirtual 324, 3, 37, 0, 9, 0, 316)) (mi_k117.2 _ _ (by rfl)) (ft_invS mi_pq37 (by rfl)) (cy := mi_c37) mi_pq37 rfl (kc37_108 hG.I hG.R x2 x5) (by decide) ?_
                    intro vg269 hg269
                    rcases hg269 with ⟨eg269, hg269⟩ | ⟨eg269, hg269⟩
                    ·
                      subst eg269
                      have fi_6915 : ((0 : Int) ≤ (i 6915).toInt) ∧ ((i 6915).toInt ≤ 60) := hG.I.1 6915
                      have z270 : ((0 : Int) ≤ x5.toInt) ∧ (x5.toInt ≤ (i 6915).toInt) ∧ ((0 : Int) ≤ x2.toInt) ∧ ((x2.toInt + x5.toInt) ≤ (i 6915).toInt) := hg269
                      first | refine fo_goS mi_k117 fz117_93_4_102 [.int x5, .int x4, .ref 108] (by rfl) ?_ | refine ft_go mi_k117 4 102 [(7, .ref 108), (6, .ref 108), (0, .ref 0), (1, .int x1), (2, .int x2), (3, .int x3), (4, .int x4), (5, .int x5)] [.int x5, .int x4, .ref 108] i a q r (by rfl) ?_ | refine ko_steps mi_in117 4 _ (102, [(7, .ref 108), (6, .ref 108), (0, .ref 0), (1, .int x1), (2, .int x2), (3, .int x3), (4, .int x4), (5, .int x5)], [.int x5, .int x4, .ref 108], (0, 0), ks i a q r) (by rfl) ?_
                      refine ko_callPI mi_k117.1 (pc := 102) (ls := [(7, .ref 108), (6, .ref 108), (0, .ref 0), (1, .int x1), (2, .int x2), (3, .int x3), (4, .int x4), (5, .int x5)]) (st := [.int x5, .int x4, .ref 108]) (h := ks i a q r) (i := (.invokevirtual 324, 3, 37, 0, 9, 0, 316)) (mi_k117.2 _ _ (by rfl)) (ft_invS mi_pq37 (by rfl)) (cy := mi_c37) mi_pq37 rfl (kc37_108 hG.I hG.R x4 x5) (by decide) ?_
                      intro vg271 hg271
                      rcases hg271 with ⟨eg271, hg271⟩ | ⟨eg271, hg271⟩
                      ·
                        subst eg271
                        have z272 : ((0 : Int) ≤ x5.toInt) ∧ (x5.toInt ≤ (i 6915).toInt) ∧ ((0 : Int) ≤ x4.toInt) ∧ ((x4.toInt + x5.toInt) ≤ (i 6915).toInt) := hg271
                        first | refine fo_goS mi_k117 fz117_105_8_126 [.int x5, .int x4, .ref 109, .int x2, .ref 109] (by rfl) ?_ | refine ft_go mi_k117 8 126 [(7, .ref 108), (6, .ref 108), (0, .ref 0), (1, .int x1), (2, .int x2), (3, .int x3), (4, .int x4), (5, .int x5)] [.int x5, .int x4, .ref 109, .int x2, .ref 109] i a q r (by rfl) ?_ | refine ko_steps mi_in117 8 _ (126, [(7, .ref 108), (6, .ref 108), (0, .ref 0), (1, .int x1), (2, .int x2), (3, .int x3), (4, .int x4), (5, .int x5)], [.int x5, .int x4, .ref 109, .int x2, .ref 109], (0, 0), ks i a q r) (by rfl) ?_
                        have hJ273 := kG_q hG 109 rfl (z := mi_cpy (q 109) (q 109) x2.toNatClampNeg x4.toNatClampNeg x5.toNatClampNeg) (kcpy_len2 (n := 60) (c := 60) (m := 60) (b := 60) (sp := x2) (dp := x4) (n1 := x5) (hG.I.2.2.2 109) rfl (hG.I.2.2.2 109) rfl (oy3 z270.1) (oy3 z270.2.2.1) (oy3 z272.2.2.1) (oy119 fi_6915.2 z270.2.2.2) (oy119 fi_6915.2 z272.2.2.2))
                        refine ko_copyL2 mi_k117.1 (l := q 109) (g := q 109) (n := 60) (c := 60) (m := 60) (b := 60) (mi_k117.2 _ _ (by rfl)) (by rfl) (by rfl) (by rfl) (by rfl) (by rfl) (hG.I.2.2.2 109) rfl (hG.I.2.2.2 109) rfl (oy3 z270.1) (oy3 z270.2.2.1) (oy3 z272.2.2.1) (oy119 fi_6915.2 z270.2.2.2) (oy119 fi_6915.2 z272.2.2.2) (h5 := ks i a (ku q 109 (mi_cpy (q 109) (q 109) x2.toNatClampNeg x4.toNatClampNeg x5.toNatClampNeg)) r) (by rfl) ?_
                        first | refine fo_goS mi_k117 fz117_129_1_131 [.int x5] (by rfl) ?_ | refine ft_go mi_k117 1 131 [(7, .ref 108), (6, .ref 108), (0, .ref 0), (1, .int x1), (2, .int x2), (3, .int x3), (4, .int x4), (5, .int x5)] [.int x5] i a (ku q 109 (mi_cpy (q 109) (q 109) x2.toNatClampNeg x4.toNatClampNeg x5.toNatClampNeg)) r (by rfl) ?_ | refine ko_steps mi_in117 1 _ (131, [(7, .ref 108), (6, .ref 108), (0, .ref 0), (1, .int x1), (2, .int x2), (3, .int x3), (4, .int x4), (5, .int x5)], [.int x5], (0, 0), ks i a (ku q 109 (mi_cpy (q 109) (q 109) x2.toNatClampNeg x4.toNatClampNeg x5.toNatClampNeg)) r) (by rfl) ?_
                        exact ft_ret mi_k117 (by rfl) (hP x5 _ _ _ _ hJ273 ⟨trivial, ⟨fun s t hs ht e1 e3 => by
        have es : s = 2 := kj_at e1 (oy140 w223)
        have et : t = 2 := kj_at e3 (oy140 w260)
        subst es
        subst et
        exact ⟨(Or.inr (Or.inr (Or.inr ⟨rfl, (oy120 c265 fi_6912.2 ky2), (oy121 z270.1 z270.2.2.1 z270.2.2.2 z272.2.2.1 z272.2.2.2)⟩))), fun _ => ⟨rfl, (fun u hu ne => match u, hu, ne with | 0, _, _ => rfl | 1, _, _ => rfl | 2, _, ne => absurd rfl ne | 3, _, _ => rfl | 4, _, _ => rfl | 5, _, _ => rfl | _ + 6, h, _ => absurd h (by omega))⟩⟩, fun h => absurd h (oy26 z270.1), fun h => absurd (oy162 w223 w260 z2.2 z4.2) h⟩⟩)
                      ·
                        subst eg271
                        have z274 : ¬ (((0 : Int) ≤ x5.toInt) ∧ (x5.toInt ≤ (i 6915).toInt) ∧ ((0 : Int) ≤ x4.toInt) ∧ ((x4.toInt + x5.toInt) ≤ (i 6915).toInt)) := hg271
                        first | refine fo_goL mi_k117 fz117_93_2_110 [(7, .ref 108), (6, .ref 108), (0, .ref 0), (1, .int x1), (2, .int x2), (3, .int x3), (4, .int x4), (5, .int x5)] [.int (-13)] (by rfl) ?_ | refine fo_goL mi_k117 fz117_105_2_110 [(7, .ref 108), (6, .ref 108), (0, .ref 0), (1, .int x1), (2, .int x2), (3, .int x3), (4, .int x4), (5, .int x5)] [.int (-13)] (by rfl) ?_ | refine ft_go mi_k117 2 110 [(7, .ref 108), (6, .ref 108), (0, .ref 0), (1, .int x1), (2, .int x2), (3, .int x3), (4, .int x4), (5, .int x5)] [.int (-13)] i a q r (by rfl) ?_ | refine ko_steps mi_in117 2 _ (110, [(7, .ref 108), (6, .ref 108), (0, .ref 0), (1, .int x1), (2, .int x2), (3, .int x3), (4, .int x4), (5, .int x5)], [.int (-13)], (0, 0), ks i a q r) (by rfl) ?_
                        exact ft_ret mi_k117 (by rfl) (hP (-13) _ _ _ _ hG ⟨trivial, ⟨fun s t hs ht e1 e3 => by
        have es : s = 2 := kj_at e1 (oy140 w223)
        have et : t = 2 := kj_at e3 (oy140 w260)
        subst es
        subst et
        exact ⟨(Or.inr (Or.inr (Or.inl ⟨kym13, (oy120 c265 fi_6912.2 ky2), (oy122 z270.1 z270.2.1 z274)⟩))), fun h => absurd h (kj_neg kym13 (by decide))⟩, fun _ => (fun u hu => match u, hu with | 0, _ => rfl | 1, _ => rfl | 2, _ => rfl | 3, _ => rfl | 4, _ => rfl | 5, _ => rfl | _ + 6, h => absurd h (by omega)), fun h => absurd (oy162 w223 w260 z2.2 z4.2) h⟩⟩)
                    ·
                      subst eg269
                      have fi_6915 : ((0 : Int) ≤ (i 6915).toInt) ∧ ((i 6915).toInt ≤ 60) := hG.I.1 6915
                      have z275 : ¬ (((0 : Int) ≤ x5.toInt) ∧ (x5.toInt ≤ (i 6915).toInt) ∧ ((0 : Int) ≤ x2.toInt) ∧ ((x2.toInt + x5.toInt) ≤ (i 6915).toInt)) := hg269
                      first | refine fo_goL mi_k117 fz117_93_2_110 [(7, .ref 108), (6, .ref 108), (0, .ref 0), (1, .int x1), (2, .int x2), (3, .int x3), (4, .int x4), (5, .int x5)] [.int (-13)] (by rfl) ?_ | refine fo_goL mi_k117 fz117_105_2_110 [(7, .ref 108), (6, .ref 108), (0, .ref 0), (1, .int x1), (2, .int x2), (3, .int x3), (4, .int x4), (5, .int x5)] [.int (-13)] (by rfl) ?_ | refine ft_go mi_k117 2 110 [(7, .ref 108), (6, .ref 108), (0, .ref 0), (1, .int x1), (2, .int x2), (3, .int x3), (4, .int x4), (5, .int x5)] [.int (-13)] i a q r (by rfl) ?_ | refine ko_steps mi_in117 2 _ (110, [(7, .ref 108), (6, .ref 108), (0, .ref 0), (1, .int x1), (2, .int x2), (3, .int x3), (4, .int x4), (5, .int x5)], [.int (-13)], (0, 0), ks i a q r) (by rfl) ?_
                      exact ft_ret mi_k117 (by rfl) (hP (-13) _ _ _ _ hG ⟨trivial, ⟨fun s t hs ht e1 e3 => by
        have es : s = 2 := kj_at e1 (oy140 w223)
        have et : t = 2 := kj_at e3 (oy140 w260)
        subst es
        subst et
        exact ⟨(Or.inr (Or.inr (Or.inl ⟨kym13, (oy120 c265 fi_6912.2 ky2), (oy123 z275)⟩))), fun h => absurd h (kj_neg kym13 (by decide))⟩, fun _ => (fun u hu => match u, hu with | 0, _ => rfl | 1, _ => rfl | 2, _ => rfl | 3, _ => rfl | 4, _ => rfl | 5, _ => rfl | _ + 6, h => absurd h (by omega)), fun h => absurd (oy162 w223 w260 z2.2 z4.2) h⟩⟩)
                  ·
                    have c276 : (i 6914).toInt ≠ (i 6914).toInt := kd_eqF c; clear c
                    exact (oy124 c276).elim
            ·
              have c277 : (i 6912).toInt = (0 : Int32).toInt := kd_neF c; clear c
              exact (oy154 c262 c277 fi_6912.1 ky0).elim
        by_cases w278 : x3.toInt = 3
        ·
          refine ko_eq (x1 := (29, [(6, .ref 108), (0, .ref 0), (1, .int x1), (2, .int x2), (3, .int x3), (4, .int x4), (5, .int x5)], [.int 3, .ref 97], (0, 0), ks i a q r)) (by rw [(kj_eq w278 (by decide) : x3 = 3)]) ?_
          have fi_6912 : ((0 : Int) ≤ (i 6912).toInt) ∧ ((i 6912).toInt ≤ 2) := hG.I.1 6912
          first | refine ft_goL mi_k117 4 37 [(7, .ref 110), (6, .ref 108), (0, .ref 0), (1, .int x1), (2, .int x2), (3, .int x3), (4, .int x4), (5, .int x5)] [.int (i 6912)] (by rfl) ?_ | refine ft_go mi_k117 4 37 [(7, .ref 110), (6, .ref 108), (0, .ref 0), (1, .int x1), (2, .int x2), (3, .int x3), (4, .int x4), (5, .int x5)] [.int (i 6912)] i a q r (by rfl) ?_ | refine ko_steps mi_in117 4 _ (37, [(7, .ref 110), (6, .ref 108), (0, .ref 0), (1, .int x1), (2, .int x2), (3, .int x3), (4, .int x4), (5, .int x5)], [.int (i 6912)], (0, 0), ks i a q r) (by rfl) ?_
          refine ft_ifS mi_k117 ((i 6912) == 0) 48 40 [] (by rfl) (fun c => ?_) (fun c => ?_)
          ·
            have c279 : (i 6912).toInt = (0 : Int32).toInt := kd_eq c; clear c
            first | refine fo_goS mi_k117 fz117_48_1_50 [.int (-11)] (by rfl) ?_ | refine ft_go mi_k117 1 50 [(7, .ref 110), (6, .ref 108), (0, .ref 0), (1, .int x1), (2, .int x2), (3, .int x3), (4, .int x4), (5, .int x5)] [.int (-11)] i a q r (by rfl) ?_ | refine ko_steps mi_in117 1 _ (50, [(7, .ref 110), (6, .ref 108), (0, .ref 0), (1, .int x1), (2, .int x2), (3, .int x3), (4, .int x4), (5, .int x5)], [.int (-11)], (0, 0), ks i a q r) (by rfl) ?_
            have fi_7040 : ((0 : Int) ≤ (i 7040).toInt) ∧ ((i 7040).toInt ≤ 2) := hG.I.1 7040
            have fi_6914 : ((0 : Int) ≤ (i 6914).toInt) ∧ ((i 6914).toInt ≤ 4) := hG.I.1 6914
            have fi_7042 : ((0 : Int) ≤ (i 7042).toInt) ∧ ((i 7042).toInt ≤ 4) := hG.I.1 7042
            have fi_6915 : ((0 : Int) ≤ (i 6915).toInt) ∧ ((i 6915).toInt ≤ 60) := hG.I.1 6915
            have fi_7043 : ((0 : Int) ≤ (i 7043).toInt) ∧ ((i 7043).toInt ≤ 60) := hG.I.1 7043
            exact ft_ret mi_k117 (by rfl) (hP (-11) _ _ _ _ hG ⟨trivial, ⟨fun s t hs ht e1 e3 => by
        have es : s = 2 := kj_at e1 (oy140 w223)
        have et : t = 3 := kj_at e3 (oy142 w278)
        subst es
        subst et
        exact ⟨(Or.inl ⟨kym11, (oy127 c279 fi_6912.1 ky0)⟩), fun h => absurd h (kj_neg kym11 (by decide))⟩, fun _ => (fun u hu => match u, hu with | 0, _ => rfl | 1, _ => rfl | 2, _ => rfl | 3, _ => rfl | 4, _ => rfl | 5, _ => rfl | _ + 6, h => absurd h (by omega)), fun h => absurd (oy163 w223 w278 z2.2 z4.2) h⟩⟩)
          ·
            have c280 : (i 6912).toInt ≠ (0 : Int32).toInt := kd_eqF c; clear c
            have fi_7040 : ((0 : Int) ≤ (i 7040).toInt) ∧ ((i 7040).toInt ≤ 2) := hG.I.1 7040
            first | refine fo_goL mi_k117 fz117_40_2_45 [(7, .ref 110), (6, .ref 108), (0, .ref 0), (1, .int x1), (2, .int x2), (3, .int x3), (4, .int x4), (5, .int x5)] [.int (i 7040)] (by rfl) ?_ | refine ft_go mi_k117 2 45 [(7, .ref 110), (6, .ref 108), (0, .ref 0), (1, .int x1), (2, .int x2), (3, .int x3), (4, .int x4), (5, .int x5)] [.int (i 7040)] i a q r (by rfl) ?_ | refine ko_steps mi_in117 2 _ (45, [(7, .ref 110), (6, .ref 108), (0, .ref 0), (1, .int x1), (2, .int x2), (3, .int x3), (4, .int x4), (5, .int x5)], [.int (i 7040)], (0, 0), ks i a q r) (by rfl) ?_
            refine ft_ifS mi_k117 ((i 7040) != 0) 51 48 [] (by rfl) (fun c => ?_) (fun c => ?_)
            ·
              have c281 : (i 7040).toInt ≠ (0 : Int32).toInt := kd_ne c; clear c
              first | refine fo_goS mi_k117 fz117_51_3_57 [.int 2, .int (i 6912)] (by rfl) ?_ | refine ft_go mi_k117 3 57 [(7, .ref 110), (6, .ref 108), (0, .ref 0), (1, .int x1), (2, .int x2), (3, .int x3), (4, .int x4), (5, .int x5)] [.int 2, .int (i 6912)] i a q r (by rfl) ?_ | refine ko_steps mi_in117 3 _ (57, [(7, .ref 110), (6, .ref 108), (0, .ref 0), (1, .int x1), (2, .int x2), (3, .int x3), (4, .int x4), (5, .int x5)], [.int 2, .int (i 6912)], (0, 0), ks i a q r) (by rfl) ?_
              refine ft_ifS mi_k117 ((i 6912) != 2) 82 60 [] (by rfl) (fun c => ?_) (fun c => ?_)
              ·
                have c282 : (i 6912).toInt ≠ (2 : Int32).toInt := kd_ne c; clear c
                first | refine fo_goS mi_k117 fz117_82_1_84 [.int (-12)] (by rfl) ?_ | refine ft_go mi_k117 1 84 [(7, .ref 110), (6, .ref 108), (0, .ref 0), (1, .int x1), (2, .int x2), (3, .int x3), (4, .int x4), (5, .int x5)] [.int (-12)] i a q r (by rfl) ?_ | refine ko_steps mi_in117 1 _ (84, [(7, .ref 110), (6, .ref 108), (0, .ref 0), (1, .int x1), (2, .int x2), (3, .int x3), (4, .int x4), (5, .int x5)], [.int (-12)], (0, 0), ks i a q r) (by rfl) ?_
                have fi_6914 : ((0 : Int) ≤ (i 6914).toInt) ∧ ((i 6914).toInt ≤ 4) := hG.I.1 6914
                have fi_7042 : ((0 : Int) ≤ (i 7042).toInt) ∧ ((i 7042).toInt ≤ 4) := hG.I.1 7042
                have fi_6915 : ((0 : Int) ≤ (i 6915).toInt) ∧ ((i 6915).toInt ≤ 60) := hG.I.1 6915
                have fi_7043 : ((0 : Int) ≤ (i 7043).toInt) ∧ ((i 7043).toInt ≤ 60) := hG.I.1 7043
                exact ft_ret mi_k117 (by rfl) (hP (-12) _ _ _ _ hG ⟨trivial, ⟨fun s t hs ht e1 e3 => by
        have es : s = 2 := kj_at e1 (oy140 w223)
        have et : t = 3 := kj_at e3 (oy142 w278)
        subst es
        subst et
        exact ⟨(Or.inr (Or.inl ⟨kym12, (oy129 c280 c281 fi_6912.1 fi_7040.1 ky0), (oy130 c282 fi_6912.2 ky2)⟩)), fun h => absurd h (kj_neg kym12 (by decide))⟩, fun _ => (fun u hu => match u, hu with | 0, _ => rfl | 1, _ => rfl | 2, _ => rfl | 3, _ => rfl | 4, _ => rfl | 5, _ => rfl | _ + 6, h => absurd h (by omega)), fun h => absurd (oy163 w223 w278 z2.2 z4.2) h⟩⟩)
              ·
                have c283 : (i 6912).toInt = (2 : Int32).toInt := kd_neF c; clear c
                first | refine fo_goL mi_k117 fz117_60_3_66 [(7, .ref 110), (6, .ref 108), (0, .ref 0), (1, .int x1), (2, .int x2), (3, .int x3), (4, .int x4), (5, .int x5)] [.int 2, .int (i 7040)] (by rfl) ?_ | refine ft_go mi_k117 3 66 [(7, .ref 110), (6, .ref 108), (0, .ref 0), (1, .int x1), (2, .int x2), (3, .int x3), (4, .int x4), (5, .int x5)] [.int 2, .int (i 7040)] i a q r (by rfl) ?_ | refine ko_steps mi_in117 3 _ (66, [(7, .ref 110), (6, .ref 108), (0, .ref 0), (1, .int x1), (2, .int x2), (3, .int x3), (4, .int x4), (5, .int x5)], [.int 2, .int (i 7040)], (0, 0), ks i a q r) (by rfl) ?_
                refine ft_ifS mi_k117 ((i 7040) != 2) 82 69 [] (by rfl) (fun c => ?_) (fun c => ?_)
                ·
                  have c284 : (i 7040).toInt ≠ (2 : Int32).toInt := kd_ne c; clear c
                  first | refine fo_goS mi_k117 fz117_82_1_84 [.int (-12)] (by rfl) ?_ | refine ft_go mi_k117 1 84 [(7, .ref 110), (6, .ref 108), (0, .ref 0), (1, .int x1), (2, .int x2), (3, .int x3), (4, .int x4), (5, .int x5)] [.int (-12)] i a q r (by rfl) ?_ | refine ko_steps mi_in117 1 _ (84, [(7, .ref 110), (6, .ref 108), (0, .ref 0), (1, .int x1), (2, .int x2), (3, .int x3), (4, .int x4), (5, .int x5)], [.int (-12)], (0, 0), ks i a q r) (by rfl) ?_
                  have fi_6914 : ((0 : Int) ≤ (i 6914).toInt) ∧ ((i 6914).toInt ≤ 4) := hG.I.1 6914
                  have fi_7042 : ((0 : Int) ≤ (i 7042).toInt) ∧ ((i 7042).toInt ≤ 4) := hG.I.1 7042
                  have fi_6915 : ((0 : Int) ≤ (i 6915).toInt) ∧ ((i 6915).toInt ≤ 60) := hG.I.1 6915
                  have fi_7043 : ((0 : Int) ≤ (i 7043).toInt) ∧ ((i 7043).toInt ≤ 60) := hG.I.1 7043
                  exact ft_ret mi_k117 (by rfl) (hP (-12) _ _ _ _ hG ⟨trivial, ⟨fun s t hs ht e1 e3 => by
        have es : s = 2 := kj_at e1 (oy140 w223)
        have et : t = 3 := kj_at e3 (oy142 w278)
        subst es
        subst et
        exact ⟨(Or.inr (Or.inl ⟨kym12, (oy131 c281 c283 fi_7040.1 ky0 ky2), (oy132 c284 fi_7040.2 ky2)⟩)), fun h => absurd h (kj_neg kym12 (by decide))⟩, fun _ => (fun u hu => match u, hu with | 0, _ => rfl | 1, _ => rfl | 2, _ => rfl | 3, _ => rfl | 4, _ => rfl | 5, _ => rfl | _ + 6, h => absurd h (by omega)), fun h => absurd (oy163 w223 w278 z2.2 z4.2) h⟩⟩)
                ·
                  have c285 : (i 7040).toInt = (2 : Int32).toInt := kd_neF c; clear c
                  have fi_6914 : ((0 : Int) ≤ (i 6914).toInt) ∧ ((i 6914).toInt ≤ 4) := hG.I.1 6914
                  have fi_7042 : ((0 : Int) ≤ (i 7042).toInt) ∧ ((i 7042).toInt ≤ 4) := hG.I.1 7042
                  first | refine fo_goL mi_k117 fz117_69_4_79 [(7, .ref 110), (6, .ref 108), (0, .ref 0), (1, .int x1), (2, .int x2), (3, .int x3), (4, .int x4), (5, .int x5)] [.int (i 7042), .int (i 6914)] (by rfl) ?_ | refine ft_go mi_k117 4 79 [(7, .ref 110), (6, .ref 108), (0, .ref 0), (1, .int x1), (2, .int x2), (3, .int x3), (4, .int x4), (5, .int x5)] [.int (i 7042), .int (i 6914)] i a q r (by rfl) ?_ | refine ko_steps mi_in117 4 _ (79, [(7, .ref 110), (6, .ref 108), (0, .ref 0), (1, .int x1), (2, .int x2), (3, .int x3), (4, .int x4), (5, .int x5)], [.int (i 7042), .int (i 6914)], (0, 0), ks i a q r) (by rfl) ?_
                  refine ft_ifS mi_k117 ((i 6914) == (i 7042)) 85 82 [] (by rfl) (fun c => ?_) (fun c => ?_)
                  ·
                    have c286 : (i 6914).toInt = (i 7042).toInt := kd_eq c; clear c
                    first | refine fo_goS mi_k117 fz117_85_3_90 [.int x5, .int x2, .ref 108] (by rfl) ?_ | refine ft_go mi_k117 3 90 [(7, .ref 110), (6, .ref 108), (0, .ref 0), (1, .int x1), (2, .int x2), (3, .int x3), (4, .int x4), (5, .int x5)] [.int x5, .int x2, .ref 108] i a q r (by rfl) ?_ | refine ko_steps mi_in117 3 _ (90, [(7, .ref 110), (6, .ref 108), (0, .ref 0), (1, .int x1), (2, .int x2), (3, .int x3), (4, .int x4), (5, .int x5)], [.int x5, .int x2, .ref 108], (0, 0), ks i a q r) (by rfl) ?_
                    refine ko_callPI mi_k117.1 (pc := 90) (ls := [(7, .ref 110), (6, .ref 108), (0, .ref 0), (1, .int x1), (2, .int x2), (3, .int x3), (4, .int x4), (5, .int x5)]) (st := [.int x5, .int x2, .ref 108]) (h := ks i a q r) (i := (.invokevirtual 324, 3, 37, 0, 9, 0, 316)) (mi_k117.2 _ _ (by rfl)) (ft_invS mi_pq37 (by rfl)) (cy := mi_c37) mi_pq37 rfl (kc37_108 hG.I hG.R x2 x5) (by decide) ?_
                    intro vg287 hg287
                    rcases hg287 with ⟨eg287, hg287⟩ | ⟨eg287, hg287⟩
                    ·
                      subst eg287
                      have fi_6915 : ((0 : Int) ≤ (i 6915).toInt) ∧ ((i 6915).toInt ≤ 60) := hG.I.1 6915
                      have z288 : ((0 : Int) ≤ x5.toInt) ∧ (x5.toInt ≤ (i 6915).toInt) ∧ ((0 : Int) ≤ x2.toInt) ∧ ((x2.toInt + x5.toInt) ≤ (i 6915).toInt) := hg287
                      first | refine fo_goS mi_k117 fz117_93_4_102 [.int x5, .int x4, .ref 110] (by rfl) ?_ | refine ft_go mi_k117 4 102 [(7, .ref 110), (6, .ref 108), (0, .ref 0), (1, .int x1), (2, .int x2), (3, .int x3), (4, .int x4), (5, .int x5)] [.int x5, .int x4, .ref 110] i a q r (by rfl) ?_ | refine ko_steps mi_in117 4 _ (102, [(7, .ref 110), (6, .ref 108), (0, .ref 0), (1, .int x1), (2, .int x2), (3, .int x3), (4, .int x4), (5, .int x5)], [.int x5, .int x4, .ref 110], (0, 0), ks i a q r) (by rfl) ?_
                      refine ko_callPI mi_k117.1 (pc := 102) (ls := [(7, .ref 110), (6, .ref 108), (0, .ref 0), (1, .int x1), (2, .int x2), (3, .int x3), (4, .int x4), (5, .int x5)]) (st := [.int x5, .int x4, .ref 110]) (h := ks i a q r) (i := (.invokevirtual 324, 3, 37, 0, 9, 0, 316)) (mi_k117.2 _ _ (by rfl)) (ft_invS mi_pq37 (by rfl)) (cy := mi_c37) mi_pq37 rfl (kc37_110 hG.I hG.R x4 x5) (by decide) ?_
                      intro vg289 hg289
                      rcases hg289 with ⟨eg289, hg289⟩ | ⟨eg289, hg289⟩
                      ·
                        subst eg289
                        have fi_7043 : ((0 : Int) ≤ (i 7043).toInt) ∧ ((i 7043).toInt ≤ 60) := hG.I.1 7043
                        have z290 : ((0 : Int) ≤ x5.toInt) ∧ (x5.toInt ≤ (i 7043).toInt) ∧ ((0 : Int) ≤ x4.toInt) ∧ ((x4.toInt + x5.toInt) ≤ (i 7043).toInt) := hg289
                        first | refine fo_goS mi_k117 fz117_105_8_126 [.int x5, .int x4, .ref 111, .int x2, .ref 109] (by rfl) ?_ | refine ft_go mi_k117 8 126 [(7, .ref 110), (6, .ref 108), (0, .ref 0), (1, .int x1), (2, .int x2), (3, .int x3), (4, .int x4), (5, .int x5)] [.int x5, .int x4, .ref 111, .int x2, .ref 109] i a q r (by rfl) ?_ | refine ko_steps mi_in117 8 _ (126, [(7, .ref 110), (6, .ref 108), (0, .ref 0), (1, .int x1), (2, .int x2), (3, .int x3), (4, .int x4), (5, .int x5)], [.int x5, .int x4, .ref 111, .int x2, .ref 109], (0, 0), ks i a q r) (by rfl) ?_
                        have hJ291 := kG_q hG 111 rfl (z := mi_cpy (q 109) (q 111) x2.toNatClampNeg x4.toNatClampNeg x5.toNatClampNeg) (kcpy_len2 (n := 60) (c := 60) (m := 60) (b := 60) (sp := x2) (dp := x4) (n1 := x5) (hG.I.2.2.2 109) rfl (hG.I.2.2.2 111) rfl (oy3 z288.1) (oy3 z288.2.2.1) (oy3 z290.2.2.1) (oy119 fi_6915.2 z288.2.2.2) (oy119 fi_7043.2 z290.2.2.2))
                        refine ko_copyL2 mi_k117.1 (l := q 109) (g := q 111) (n := 60) (c := 60) (m := 60) (b := 60) (mi_k117.2 _ _ (by rfl)) (by rfl) (by rfl) (by rfl) (by rfl) (by rfl) (hG.I.2.2.2 109) rfl (hG.I.2.2.2 111) rfl (oy3 z288.1) (oy3 z288.2.2.1) (oy3 z290.2.2.1) (oy119 fi_6915.2 z288.2.2.2) (oy119 fi_7043.2 z290.2.2.2) (h5 := ks i a (ku q 111 (mi_cpy (q 109) (q 111) x2.toNatClampNeg x4.toNatClampNeg x5.toNatClampNeg)) r) (by rfl) ?_
                        first | refine fo_goS mi_k117 fz117_129_1_131 [.int x5] (by rfl) ?_ | refine ft_go mi_k117 1 131 [(7, .ref 110), (6, .ref 108), (0, .ref 0), (1, .int x1), (2, .int x2), (3, .int x3), (4, .int x4), (5, .int x5)] [.int x5] i a (ku q 111 (mi_cpy (q 109) (q 111) x2.toNatClampNeg x4.toNatClampNeg x5.toNatClampNeg)) r (by rfl) ?_ | refine ko_steps mi_in117 1 _ (131, [(7, .ref 110), (6, .ref 108), (0, .ref 0), (1, .int x1), (2, .int x2), (3, .int x3), (4, .int x4), (5, .int x5)], [.int x5], (0, 0), ks i a (ku q 111 (mi_cpy (q 109) (q 111) x2.toNatClampNeg x4.toNatClampNeg x5.toNatClampNeg)) r) (by rfl) ?_
                        exact ft_ret mi_k117 (by rfl) (hP x5 _ _ _ _ hJ291 ⟨trivial, ⟨fun s t hs ht e1 e3 => by
        have es : s = 2 := kj_at e1 (oy140 w223)
        have et : t = 3 := kj_at e3 (oy142 w278)
        subst es
        subst et
        exact ⟨(Or.inr (Or.inr (Or.inr ⟨rfl, (oy133 c283 c285 c286 fi_6912.2 fi_7040.2 ky2), (oy134 z288.1 z288.2.2.1 z288.2.2.2 z290.2.2.1 z290.2.2.2)⟩))), fun _ => ⟨rfl, (fun u hu ne => match u, hu, ne with | 0, _, _ => rfl | 1, _, _ => rfl | 2, _, _ => rfl | 3, _, ne => absurd rfl ne | 4, _, _ => rfl | 5, _, _ => rfl | _ + 6, h, _ => absurd h (by omega))⟩⟩, fun h => absurd h (oy26 z288.1), fun h => absurd (oy163 w223 w278 z2.2 z4.2) h⟩⟩)
                      ·
                        subst eg289
                        have fi_7043 : ((0 : Int) ≤ (i 7043).toInt) ∧ ((i 7043).toInt ≤ 60) := hG.I.1 7043
                        have z292 : ¬ (((0 : Int) ≤ x5.toInt) ∧ (x5.toInt ≤ (i 7043).toInt) ∧ ((0 : Int) ≤ x4.toInt) ∧ ((x4.toInt + x5.toInt) ≤ (i 7043).toInt)) := hg289
                        first | refine fo_goL mi_k117 fz117_93_2_110 [(7, .ref 110), (6, .ref 108), (0, .ref 0), (1, .int x1), (2, .int x2), (3, .int x3), (4, .int x4), (5, .int x5)] [.int (-13)] (by rfl) ?_ | refine fo_goL mi_k117 fz117_105_2_110 [(7, .ref 110), (6, .ref 108), (0, .ref 0), (1, .int x1), (2, .int x2), (3, .int x3), (4, .int x4), (5, .int x5)] [.int (-13)] (by rfl) ?_ | refine ft_go mi_k117 2 110 [(7, .ref 110), (6, .ref 108), (0, .ref 0), (1, .int x1), (2, .int x2), (3, .int x3), (4, .int x4), (5, .int x5)] [.int (-13)] i a q r (by rfl) ?_ | refine ko_steps mi_in117 2 _ (110, [(7, .ref 110), (6, .ref 108), (0, .ref 0), (1, .int x1), (2, .int x2), (3, .int x3), (4, .int x4), (5, .int x5)], [.int (-13)], (0, 0), ks i a q r) (by rfl) ?_
                        exact ft_ret mi_k117 (by rfl) (hP (-13) _ _ _ _ hG ⟨trivial, ⟨fun s t hs ht e1 e3 => by
        have es : s = 2 := kj_at e1 (oy140 w223)
        have et : t = 3 := kj_at e3 (oy142 w278)
        subst es
        subst et
        exact ⟨(Or.inr (Or.inr (Or.inl ⟨kym13, (oy133 c283 c285 c286 fi_6912.2 fi_7040.2 ky2), (oy135 z288.1 z292)⟩))), fun h => absurd h (kj_neg kym13 (by decide))⟩, fun _ => (fun u hu => match u, hu with | 0, _ => rfl | 1, _ => rfl | 2, _ => rfl | 3, _ => rfl | 4, _ => rfl | 5, _ => rfl | _ + 6, h => absurd h (by omega)), fun h => absurd (oy163 w223 w278 z2.2 z4.2) h⟩⟩)
                    ·
                      subst eg287
                      have fi_6915 : ((0 : Int) ≤ (i 6915).toInt) ∧ ((i 6915).toInt ≤ 60) := hG.I.1 6915
                      have z293 : ¬ (((0 : Int) ≤ x5.toInt) ∧ (x5.toInt ≤ (i 6915).toInt) ∧ ((0 : Int) ≤ x2.toInt) ∧ ((x2.toInt + x5.toInt) ≤ (i 6915).toInt)) := hg287
                      first | refine fo_goL mi_k117 fz117_93_2_110 [(7, .ref 110), (6, .ref 108), (0, .ref 0), (1, .int x1), (2, .int x2), (3, .int x3), (4, .int x4), (5, .int x5)] [.int (-13)] (by rfl) ?_ | refine fo_goL mi_k117 fz117_105_2_110 [(7, .ref 110), (6, .ref 108), (0, .ref 0), (1, .int x1), (2, .int x2), (3, .int x3), (4, .int x4), (5, .int x5)] [.int (-13)] (by rfl) ?_ | refine ft_go mi_k117 2 110 [(7, .ref 110), (6, .ref 108), (0, .ref 0), (1, .int x1), (2, .int x2), (3, .int x3), (4, .int x4), (5, .int x5)] [.int (-13)] i a q r (by rfl) ?_ | refine ko_steps mi_in117 2 _ (110, [(7, .ref 110), (6, .ref 108), (0, .ref 0), (1, .int x1), (2, .int x2), (3, .int x3), (4, .int x4), (5, .int x5)], [.int (-13)], (0, 0), ks i a q r) (by rfl) ?_
                      have fi_7043 : ((0 : Int) ≤ (i 7043).toInt) ∧ ((i 7043).toInt ≤ 60) := hG.I.1 7043
                      exact ft_ret mi_k117 (by rfl) (hP (-13) _ _ _ _ hG ⟨trivial, ⟨fun s t hs ht e1 e3 => by
        have es : s = 2 := kj_at e1 (oy140 w223)
        have et : t = 3 := kj_at e3 (oy142 w278)
        subst es
        subst et
        exact ⟨(Or.inr (Or.inr (Or.inl ⟨kym13, (oy133 c283 c285 c286 fi_6912.2 fi_7040.2 ky2), (oy136 z293)⟩))), fun h => absurd h (kj_neg kym13 (by decide))⟩, fun _ => (fun u hu => match u, hu with | 0, _ => rfl | 1, _ => rfl | 2, _ => rfl | 3, _ => rfl | 4, _ => rfl | 5, _ => rfl | _ + 6, h => absurd h (by omega)), fun h => absurd (oy163 w223 w278 z2.2 z4.2) h⟩⟩)
                  ·
                    have c294 : (i 6914).toInt ≠ (i 7042).toInt := kd_eqF c; clear c
                    first | refine fo_goL mi_k117 fz117_82_1_84 [(7, .ref 110), (6, .ref 108), (0, .ref 0), (1, .int x1), (2, .int x2), (3, .int x3), (4, .int x4), (5, .int x5)] [.int (-12)] (by rfl) ?_ | refine ft_go mi_k117 1 84 [(7, .ref 110), (6, .ref 108), (0, .ref 0), (1, .int x1), (2, .int x2), (3, .int x3), (4, .int x4), (5, .int x5)] [.int (-12)] i a q r (by rfl) ?_ | refine ko_steps mi_in117 1 _ (84, [(7, .ref 110), (6, .ref 108), (0, .ref 0), (1, .int x1), (2, .int x2), (3, .int x3), (4, .int x4), (5, .int x5)], [.int (-12)], (0, 0), ks i a q r) (by rfl) ?_
                    have fi_6915 : ((0 : Int) ≤ (i 6915).toInt) ∧ ((i 6915).toInt ≤ 60) := hG.I.1 6915
                    have fi_7043 : ((0 : Int) ≤ (i 7043).toInt) ∧ ((i 7043).toInt ≤ 60) := hG.I.1 7043
                    exact ft_ret mi_k117 (by rfl) (hP (-12) _ _ _ _ hG ⟨trivial, ⟨fun s t hs ht e1 e3 => by
        have es : s = 2 := kj_at e1 (oy140 w223)
        have et : t = 3 := kj_at e3 (oy142 w278)
        subst es
        subst et
        exact ⟨(Or.inr (Or.inl ⟨kym12, (oy137 c283 c285 ky2), (oy138 c294)⟩)), fun h => absurd h (kj_neg kym12 (by decide))⟩, fun _ => (fun u hu => match u, hu with | 0, _ => rfl | 1, _ => rfl | 2, _ => rfl | 3, _ => rfl | 4, _ => rfl | 5, _ => rfl | _ + 6, h => absurd h (by omega)), fun h => absurd (oy163 w223 w278 z2.2 z4.2) h⟩⟩)
            ·
              have c295 : (i 7040).toInt = (0 : Int32).toInt := kd_neF c; clear c
              first | refine fo_goL mi_k117 fz117_48_1_50 [(7, .ref 110), (6, .ref 108), (0, .ref 0), (1, .int x1), (2, .int x2), (3, .int x3), (4, .int x4), (5, .int x5)] [.int (-11)] (by rfl) ?_ | refine ft_go mi_k117 1 50 [(7, .ref 110), (6, .ref 108), (0, .ref 0), (1, .int x1), (2, .int x2), (3, .int x3), (4, .int x4), (5, .int x5)] [.int (-11)] i a q r (by rfl) ?_ | refine ko_steps mi_in117 1 _ (50, [(7, .ref 110), (6, .ref 108), (0, .ref 0), (1, .int x1), (2, .int x2), (3, .int x3), (4, .int x4), (5, .int x5)], [.int (-11)], (0, 0), ks i a q r) (by rfl) ?_
              have fi_6914 : ((0 : Int) ≤ (i 6914).toInt) ∧ ((i 6914).toInt ≤ 4) := hG.I.1 6914
              have fi_7042 : ((0 : Int) ≤ (i 7042).toInt) ∧ ((i 7042).toInt ≤ 4) := hG.I.1 7042
              have fi_6915 : ((0 : Int) ≤ (i 6915).toInt) ∧ ((i 6915).toInt ≤ 60) := hG.I.1 6915
              have fi_7043 : ((0 : Int) ≤ (i 7043).toInt) ∧ ((i 7043).toInt ≤ 60) := hG.I.1 7043
              exact ft_ret mi_k117 (by rfl) (hP (-11) _ _ _ _ hG ⟨trivial, ⟨fun s t hs ht e1 e3 => by
        have es : s = 2 := kj_at e1 (oy140 w223)
        have et : t = 3 := kj_at e3 (oy142 w278)
        subst es
        subst et
        exact ⟨(Or.inl ⟨kym11, (oy139 c295 fi_7040.1 ky0)⟩), fun h => absurd h (kj_neg kym11 (by decide))⟩, fun _ => (fun u hu => match u, hu with | 0, _ => rfl | 1, _ => rfl | 2, _ => rfl | 3, _ => rfl | 4, _ => rfl | 5, _ => rfl | _ + 6, h => absurd h (by omega)), fun h => absurd (oy163 w223 w278 z2.2 z4.2) h⟩⟩)
        by_cases w296 : x3.toInt = 4
        ·
          refine ko_eq (x1 := (29, [(6, .ref 108), (0, .ref 0), (1, .int x1), (2, .int x2), (3, .int x3), (4, .int x4), (5, .int x5)], [.int 4, .ref 97], (0, 0), ks i a q r)) (by rw [(kj_eq w296 (by decide) : x3 = 4)]) ?_
          have fi_6912 : ((0 : Int) ≤ (i 6912).toInt) ∧ ((i 6912).toInt ≤ 2) := hG.I.1 6912
          first | refine ft_goL mi_k117 4 37 [(7, .ref 112), (6, .ref 108), (0, .ref 0), (1, .int x1), (2, .int x2), (3, .int x3), (4, .int x4), (5, .int x5)] [.int (i 6912)] (by rfl) ?_ | refine ft_go mi_k117 4 37 [(7, .ref 112), (6, .ref 108), (0, .ref 0), (1, .int x1), (2, .int x2), (3, .int x3), (4, .int x4), (5, .int x5)] [.int (i 6912)] i a q r (by rfl) ?_ | refine ko_steps mi_in117 4 _ (37, [(7, .ref 112), (6, .ref 108), (0, .ref 0), (1, .int x1), (2, .int x2), (3, .int x3), (4, .int x4), (5, .int x5)], [.int (i 6912)], (0, 0), ks i a q r) (by rfl) ?_
          refine ft_ifS mi_k117 ((i 6912) == 0) 48 40 [] (by rfl) (fun c => ?_) (fun c => ?_)
          ·
            have c297 : (i 6912).toInt = (0 : Int32).toInt := kd_eq c; clear c
            first | refine fo_goS mi_k117 fz117_48_1_50 [.int (-11)] (by rfl) ?_ | refine ft_go mi_k117 1 50 [(7, .ref 112), (6, .ref 108), (0, .ref 0), (1, .int x1), (2, .int x2), (3, .int x3), (4, .int x4), (5, .int x5)] [.int (-11)] i a q r (by rfl) ?_ | refine ko_steps mi_in117 1 _ (50, [(7, .ref 112), (6, .ref 108), (0, .ref 0), (1, .int x1), (2, .int x2), (3, .int x3), (4, .int x4), (5, .int x5)], [.int (-11)], (0, 0), ks i a q r) (by rfl) ?_
            have fi_7168 : ((0 : Int) ≤ (i 7168).toInt) ∧ ((i 7168).toInt ≤ 2) := hG.I.1 7168
            have fi_6914 : ((0 : Int) ≤ (i 6914).toInt) ∧ ((i 6914).toInt ≤ 4) := hG.I.1 6914
            have fi_7170 : ((0 : Int) ≤ (i 7170).toInt) ∧ ((i 7170).toInt ≤ 4) := hG.I.1 7170
            have fi_6915 : ((0 : Int) ≤ (i 6915).toInt) ∧ ((i 6915).toInt ≤ 60) := hG.I.1 6915
            have fi_7171 : ((0 : Int) ≤ (i 7171).toInt) ∧ ((i 7171).toInt ≤ 60) := hG.I.1 7171
            exact ft_ret mi_k117 (by rfl) (hP (-11) _ _ _ _ hG ⟨trivial, ⟨fun s t hs ht e1 e3 => by
        have es : s = 2 := kj_at e1 (oy140 w223)
        have et : t = 4 := kj_at e3 (oy144 w296)
        subst es
        subst et
        exact ⟨(Or.inl ⟨kym11, (oy127 c297 fi_6912.1 ky0)⟩), fun h => absurd h (kj_neg kym11 (by decide))⟩, fun _ => (fun u hu => match u, hu with | 0, _ => rfl | 1, _ => rfl | 2, _ => rfl | 3, _ => rfl | 4, _ => rfl | 5, _ => rfl | _ + 6, h => absurd h (by omega)), fun h => absurd (oy164 w223 w296 z2.2 z4.2) h⟩⟩)
          ·
            have c298 : (i 6912).toInt ≠ (0 : Int32).toInt := kd_eqF c; clear c
            have fi_7168 : ((0 : Int) ≤ (i 7168).toInt) ∧ ((i 7168).toInt ≤ 2) := hG.I.1 7168
            first | refine fo_goL mi_k117 fz117_40_2_45 [(7, .ref 112), (6, .ref 108), (0, .ref 0), (1, .int x1), (2, .int x2), (3, .int x3), (4, .int x4), (5, .int x5)] [.int (i 7168)] (by rfl) ?_ | refine ft_go mi_k117 2 45 [(7, .ref 112), (6, .ref 108), (0, .ref 0), (1, .int x1), (2, .int x2), (3, .int x3), (4, .int x4), (5, .int x5)] [.int (i 7168)] i a q r (by rfl) ?_ | refine ko_steps mi_in117 2 _ (45, [(7, .ref 112), (6, .ref 108), (0, .ref 0), (1, .int x1), (2, .int x2), (3, .int x3), (4, .int x4), (5, .int x5)], [.int (i 7168)], (0, 0), ks i a q r) (by rfl) ?_
            refine ft_ifS mi_k117 ((i 7168) != 0) 51 48 [] (by rfl) (fun c => ?_) (fun c => ?_)
            ·
              have c299 : (i 7168).toInt ≠ (0 : Int32).toInt := kd_ne c; clear c
              first | refine fo_goS mi_k117 fz117_51_3_57 [.int 2, .int (i 6912)] (by rfl) ?_ | refine ft_go mi_k117 3 57 [(7, .ref 112), (6, .ref 108), (0, .ref 0), (1, .int x1), (2, .int x2), (3, .int x3), (4, .int x4), (5, .int x5)] [.int 2, .int (i 6912)] i a q r (by rfl) ?_ | refine ko_steps mi_in117 3 _ (57, [(7, .ref 112), (6, .ref 108), (0, .ref 0), (1, .int x1), (2, .int x2), (3, .int x3), (4, .int x4), (5, .int x5)], [.int 2, .int (i 6912)], (0, 0), ks i a q r) (by rfl) ?_
              refine ft_ifS mi_k117 ((i 6912) != 2) 82 60 [] (by rfl) (fun c => ?_) (fun c => ?_)
              ·
                have c300 : (i 6912).toInt ≠ (2 : Int32).toInt := kd_ne c; clear c
                first | refine fo_goS mi_k117 fz117_82_1_84 [.int (-12)] (by rfl) ?_ | refine ft_go mi_k117 1 84 [(7, .ref 112), (6, .ref 108), (0, .ref 0), (1, .int x1), (2, .int x2), (3, .int x3), (4, .int x4), (5, .int x5)] [.int (-12)] i a q r (by rfl) ?_ | refine ko_steps mi_in117 1 _ (84, [(7, .ref 112), (6, .ref 108), (0, .ref 0), (1, .int x1), (2, .int x2), (3, .int x3), (4, .int x4), (5, .int x5)], [.int (-12)], (0, 0), ks i a q r) (by rfl) ?_
                have fi_6914 : ((0 : Int) ≤ (i 6914).toInt) ∧ ((i 6914).toInt ≤ 4) := hG.I.1 6914
                have fi_7170 : ((0 : Int) ≤ (i 7170).toInt) ∧ ((i 7170).toInt ≤ 4) := hG.I.1 7170
                have fi_6915 : ((0 : Int) ≤ (i 6915).toInt) ∧ ((i 6915).toInt ≤ 60) := hG.I.1 6915
                have fi_7171 : ((0 : Int) ≤ (i 7171).toInt) ∧ ((i 7171).toInt ≤ 60) := hG.I.1 7171
                exact ft_ret mi_k117 (by rfl) (hP (-12) _ _ _ _ hG ⟨trivial, ⟨fun s t hs ht e1 e3 => by
        have es : s = 2 := kj_at e1 (oy140 w223)
        have et : t = 4 := kj_at e3 (oy144 w296)
        subst es
        subst et
        exact ⟨(Or.inr (Or.inl ⟨kym12, (oy129 c298 c299 fi_6912.1 fi_7168.1 ky0), (oy130 c300 fi_6912.2 ky2)⟩)), fun h => absurd h (kj_neg kym12 (by decide))⟩, fun _ => (fun u hu => match u, hu with | 0, _ => rfl | 1, _ => rfl | 2, _ => rfl | 3, _ => rfl | 4, _ => rfl | 5, _ => rfl | _ + 6, h => absurd h (by omega)), fun h => absurd (oy164 w223 w296 z2.2 z4.2) h⟩⟩)
              ·
                have c301 : (i 6912).toInt = (2 : Int32).toInt := kd_neF c; clear c
                first | refine fo_goL mi_k117 fz117_60_3_66 [(7, .ref 112), (6, .ref 108), (0, .ref 0), (1, .int x1), (2, .int x2), (3, .int x3), (4, .int x4), (5, .int x5)] [.int 2, .int (i 7168)] (by rfl) ?_ | refine ft_go mi_k117 3 66 [(7, .ref 112), (6, .ref 108), (0, .ref 0), (1, .int x1), (2, .int x2), (3, .int x3), (4, .int x4), (5, .int x5)] [.int 2, .int (i 7168)] i a q r (by rfl) ?_ | refine ko_steps mi_in117 3 _ (66, [(7, .ref 112), (6, .ref 108), (0, .ref 0), (1, .int x1), (2, .int x2), (3, .int x3), (4, .int x4), (5, .int x5)], [.int 2, .int (i 7168)], (0, 0), ks i a q r) (by rfl) ?_
                refine ft_ifS mi_k117 ((i 7168) != 2) 82 69 [] (by rfl) (fun c => ?_) (fun c => ?_)
                ·
                  have c302 : (i 7168).toInt ≠ (2 : Int32).toInt := kd_ne c; clear c
                  first | refine fo_goS mi_k117 fz117_82_1_84 [.int (-12)] (by rfl) ?_ | refine ft_go mi_k117 1 84 [(7, .ref 112), (6, .ref 108), (0, .ref 0), (1, .int x1), (2, .int x2), (3, .int x3), (4, .int x4), (5, .int x5)] [.int (-12)] i a q r (by rfl) ?_ | refine ko_steps mi_in117 1 _ (84, [(7, .ref 112), (6, .ref 108), (0, .ref 0), (1, .int x1), (2, .int x2), (3, .int x3), (4, .int x4), (5, .int x5)], [.int (-12)], (0, 0), ks i a q r) (by rfl) ?_
                  have fi_6914 : ((0 : Int) ≤ (i 6914).toInt) ∧ ((i 6914).toInt ≤ 4) := hG.I.1 6914
                  have fi_7170 : ((0 : Int) ≤ (i 7170).toInt) ∧ ((i 7170).toInt ≤ 4) := hG.I.1 7170
                  have fi_6915 : ((0 : Int) ≤ (i 6915).toInt) ∧ ((i 6915).toInt ≤ 60) := hG.I.1 6915
                  have fi_7171 : ((0 : Int) ≤ (i 7171).toInt) ∧ ((i 7171).toInt ≤ 60) := hG.I.1 7171
                  exact ft_ret mi_k117 (by rfl) (hP (-12) _ _ _ _ hG ⟨trivial, ⟨fun s t hs ht e1 e3 => by
        have es : s = 2 := kj_at e1 (oy140 w223)
        have et : t = 4 := kj_at e3 (oy144 w296)
        subst es
        subst et
        exact ⟨(Or.inr (Or.inl ⟨kym12, (oy131 c299 c301 fi_7168.1 ky0 ky2), (oy132 c302 fi_7168.2 ky2)⟩)), fun h => absurd h (kj_neg kym12 (by decide))⟩, fun _ => (fun u hu => match u, hu with | 0, _ => rfl | 1, _ => rfl | 2, _ => rfl | 3, _ => rfl | 4, _ => rfl | 5, _ => rfl | _ + 6, h => absurd h (by omega)), fun h => absurd (oy164 w223 w296 z2.2 z4.2) h⟩⟩)
                ·
                  have c303 : (i 7168).toInt = (2 : Int32).toInt := kd_neF c; clear c
                  have fi_6914 : ((0 : Int) ≤ (i 6914).toInt) ∧ ((i 6914).toInt ≤ 4) := hG.I.1 6914
                  have fi_7170 : ((0 : Int) ≤ (i 7170).toInt) ∧ ((i 7170).toInt ≤ 4) := hG.I.1 7170
                  first | refine fo_goL mi_k117 fz117_69_4_79 [(7, .ref 112), (6, .ref 108), (0, .ref 0), (1, .int x1), (2, .int x2), (3, .int x3), (4, .int x4), (5, .int x5)] [.int (i 7170), .int (i 6914)] (by rfl) ?_ | refine ft_go mi_k117 4 79 [(7, .ref 112), (6, .ref 108), (0, .ref 0), (1, .int x1), (2, .int x2), (3, .int x3), (4, .int x4), (5, .int x5)] [.int (i 7170), .int (i 6914)] i a q r (by rfl) ?_ | refine ko_steps mi_in117 4 _ (79, [(7, .ref 112), (6, .ref 108), (0, .ref 0), (1, .int x1), (2, .int x2), (3, .int x3), (4, .int x4), (5, .int x5)], [.int (i 7170), .int (i 6914)], (0, 0), ks i a q r) (by rfl) ?_
                  refine ft_ifS mi_k117 ((i 6914) == (i 7170)) 85 82 [] (by rfl) (fun c => ?_) (fun c => ?_)
                  ·
                    have c304 : (i 6914).toInt = (i 7170).toInt := kd_eq c; clear c
                    first | refine fo_goS mi_k117 fz117_85_3_90 [.int x5, .int x2, .ref 108] (by rfl) ?_ | refine ft_go mi_k117 3 90 [(7, .ref 112), (6, .ref 108), (0, .ref 0), (1, .int x1), (2, .int x2), (3, .int x3), (4, .int x4), (5, .int x5)] [.int x5, .int x2, .ref 108] i a q r (by rfl) ?_ | refine ko_steps mi_in117 3 _ (90, [(7, .ref 112), (6, .ref 108), (0, .ref 0), (1, .int x1), (2, .int x2), (3, .int x3), (4, .int x4), (5, .int x5)], [.int x5, .int x2, .ref 108], (0, 0), ks i a q r) (by rfl) ?_
                    refine ko_callPI mi_k117.1 (pc := 90) (ls := [(7, .ref 112), (6, .ref 108), (0, .ref 0), (1, .int x1), (2, .int x2), (3, .int x3), (4, .int x4), (5, .int x5)]) (st := [.int x5, .int x2, .ref 108]) (h := ks i a q r) (i := (.invokevirtual 324, 3, 37, 0, 9, 0, 316)) (mi_k117.2 _ _ (by rfl)) (ft_invS mi_pq37 (by rfl)) (cy := mi_c37) mi_pq37 rfl (kc37_108 hG.I hG.R x2 x5) (by decide) ?_
                    intro vg305 hg305
                    rcases hg305 with ⟨eg305, hg305⟩ | ⟨eg305, hg305⟩
                    ·
                      subst eg305
                      have fi_6915 : ((0 : Int) ≤ (i 6915).toInt) ∧ ((i 6915).toInt ≤ 60) := hG.I.1 6915
                      have z306 : ((0 : Int) ≤ x5.toInt) ∧ (x5.toInt ≤ (i 6915).toInt) ∧ ((0 : Int) ≤ x2.toInt) ∧ ((x2.toInt + x5.toInt) ≤ (i 6915).toInt) := hg305
                      first | refine fo_goS mi_k117 fz117_93_4_102 [.int x5, .int x4, .ref 112] (by rfl) ?_ | refine ft_go mi_k117 4 102 [(7, .ref 112), (6, .ref 108), (0, .ref 0), (1, .int x1), (2, .int x2), (3, .int x3), (4, .int x4), (5, .int x5)] [.int x5, .int x4, .ref 112] i a q r (by rfl) ?_ | refine ko_steps mi_in117 4 _ (102, [(7, .ref 112), (6, .ref 108), (0, .ref 0), (1, .int x1), (2, .int x2), (3, .int x3), (4, .int x4), (5, .int x5)], [.int x5, .int x4, .ref 112], (0, 0), ks i a q r) (by rfl) ?_
                      refine ko_callPI mi_k117.1 (pc := 102) (ls := [(7, .ref 112), (6, .ref 108), (0, .ref 0), (1, .int x1), (2, .int x2), (3, .int x3), (4, .int x4), (5, .int x5)]) (st := [.int x5, .int x4, .ref 112]) (h := ks i a q r) (i := (.invokevirtual 324, 3, 37, 0, 9, 0, 316)) (mi_k117.2 _ _ (by rfl)) (ft_invS mi_pq37 (by rfl)) (cy := mi_c37) mi_pq37 rfl (kc37_112 hG.I hG.R x4 x5) (by decide) ?_
                      intro vg307 hg307
                      rcases hg307 with ⟨eg307, hg307⟩ | ⟨eg307, hg307⟩
                      ·
                        subst eg307
                        have fi_7171 : ((0 : Int) ≤ (i 7171).toInt) ∧ ((i 7171).toInt ≤ 60) := hG.I.1 7171
                        have z308 : ((0 : Int) ≤ x5.toInt) ∧ (x5.toInt ≤ (i 7171).toInt) ∧ ((0 : Int) ≤ x4.toInt) ∧ ((x4.toInt + x5.toInt) ≤ (i 7171).toInt) := hg307
                        first | refine fo_goS mi_k117 fz117_105_8_126 [.int x5, .int x4, .ref 113, .int x2, .ref 109] (by rfl) ?_ | refine ft_go mi_k117 8 126 [(7, .ref 112), (6, .ref 108), (0, .ref 0), (1, .int x1), (2, .int x2), (3, .int x3), (4, .int x4), (5, .int x5)] [.int x5, .int x4, .ref 113, .int x2, .ref 109] i a q r (by rfl) ?_ | refine ko_steps mi_in117 8 _ (126, [(7, .ref 112), (6, .ref 108), (0, .ref 0), (1, .int x1), (2, .int x2), (3, .int x3), (4, .int x4), (5, .int x5)], [.int x5, .int x4, .ref 113, .int x2, .ref 109], (0, 0), ks i a q r) (by rfl) ?_
                        have hJ309 := kG_q hG 113 rfl (z := mi_cpy (q 109) (q 113) x2.toNatClampNeg x4.toNatClampNeg x5.toNatClampNeg) (kcpy_len2 (n := 60) (c := 60) (m := 60) (b := 60) (sp := x2) (dp := x4) (n1 := x5) (hG.I.2.2.2 109) rfl (hG.I.2.2.2 113) rfl (oy3 z306.1) (oy3 z306.2.2.1) (oy3 z308.2.2.1) (oy119 fi_6915.2 z306.2.2.2) (oy119 fi_7171.2 z308.2.2.2))
                        refine ko_copyL2 mi_k117.1 (l := q 109) (g := q 113) (n := 60) (c := 60) (m := 60) (b := 60) (mi_k117.2 _ _ (by rfl)) (by rfl) (by rfl) (by rfl) (by rfl) (by rfl) (hG.I.2.2.2 109) rfl (hG.I.2.2.2 113) rfl (oy3 z306.1) (oy3 z306.2.2.1) (oy3 z308.2.2.1) (oy119 fi_6915.2 z306.2.2.2) (oy119 fi_7171.2 z308.2.2.2) (h5 := ks i a (ku q 113 (mi_cpy (q 109) (q 113) x2.toNatClampNeg x4.toNatClampNeg x5.toNatClampNeg)) r) (by rfl) ?_
                        first | refine fo_goS mi_k117 fz117_129_1_131 [.int x5] (by rfl) ?_ | refine ft_go mi_k117 1 131 [(7, .ref 112), (6, .ref 108), (0, .ref 0), (1, .int x1), (2, .int x2), (3, .int x3), (4, .int x4), (5, .int x5)] [.int x5] i a (ku q 113 (mi_cpy (q 109) (q 113) x2.toNatClampNeg x4.toNatClampNeg x5.toNatClampNeg)) r (by rfl) ?_ | refine ko_steps mi_in117 1 _ (131, [(7, .ref 112), (6, .ref 108), (0, .ref 0), (1, .int x1), (2, .int x2), (3, .int x3), (4, .int x4), (5, .int x5)], [.int x5], (0, 0), ks i a (ku q 113 (mi_cpy (q 109) (q 113) x2.toNatClampNeg x4.toNatClampNeg x5.toNatClampNeg)) r) (by rfl) ?_
                        exact ft_ret mi_k117 (by rfl) (hP x5 _ _ _ _ hJ309 ⟨trivial, ⟨fun s t hs ht e1 e3 => by
        have es : s = 2 := kj_at e1 (oy140 w223)
        have et : t = 4 := kj_at e3 (oy144 w296)
        subst es
        subst et
        exact ⟨(Or.inr (Or.inr (Or.inr ⟨rfl, (oy133 c301 c303 c304 fi_6912.2 fi_7168.2 ky2), (oy134 z306.1 z306.2.2.1 z306.2.2.2 z308.2.2.1 z308.2.2.2)⟩))), fun _ => ⟨rfl, (fun u hu ne => match u, hu, ne with | 0, _, _ => rfl | 1, _, _ => rfl | 2, _, _ => rfl | 3, _, _ => rfl | 4, _, ne => absurd rfl ne | 5, _, _ => rfl | _ + 6, h, _ => absurd h (by omega))⟩⟩, fun h => absurd h (oy26 z306.1), fun h => absurd (oy164 w223 w296 z2.2 z4.2) h⟩⟩)
                      ·
                        subst eg307
                        have fi_7171 : ((0 : Int) ≤ (i 7171).toInt) ∧ ((i 7171).toInt ≤ 60) := hG.I.1 7171
                        have z310 : ¬ (((0 : Int) ≤ x5.toInt) ∧ (x5.toInt ≤ (i 7171).toInt) ∧ ((0 : Int) ≤ x4.toInt) ∧ ((x4.toInt + x5.toInt) ≤ (i 7171).toInt)) := hg307
                        first | refine fo_goL mi_k117 fz117_93_2_110 [(7, .ref 112), (6, .ref 108), (0, .ref 0), (1, .int x1), (2, .int x2), (3, .int x3), (4, .int x4), (5, .int x5)] [.int (-13)] (by rfl) ?_ | refine fo_goL mi_k117 fz117_105_2_110 [(7, .ref 112), (6, .ref 108), (0, .ref 0), (1, .int x1), (2, .int x2), (3, .int x3), (4, .int x4), (5, .int x5)] [.int (-13)] (by rfl) ?_ | refine ft_go mi_k117 2 110 [(7, .ref 112), (6, .ref 108), (0, .ref 0), (1, .int x1), (2, .int x2), (3, .int x3), (4, .int x4), (5, .int x5)] [.int (-13)] i a q r (by rfl) ?_ | refine ko_steps mi_in117 2 _ (110, [(7, .ref 112), (6, .ref 108), (0, .ref 0), (1, .int x1), (2, .int x2), (3, .int x3), (4, .int x4), (5, .int x5)], [.int (-13)], (0, 0), ks i a q r) (by rfl) ?_
                        exact ft_ret mi_k117 (by rfl) (hP (-13) _ _ _ _ hG ⟨trivial, ⟨fun s t hs ht e1 e3 => by
        have es : s = 2 := kj_at e1 (oy140 w223)
        have et : t = 4 := kj_at e3 (oy144 w296)
        subst es
        subst et
        exact ⟨(Or.inr (Or.inr (Or.inl ⟨kym13, (oy133 c301 c303 c304 fi_6912.2 fi_7168.2 ky2), (oy135 z306.1 z310)⟩))), fun h => absurd h (kj_neg kym13 (by decide))⟩, fun _ => (fun u hu => match u, hu with | 0, _ => rfl | 1, _ => rfl | 2, _ => rfl | 3, _ => rfl | 4, _ => rfl | 5, _ => rfl | _ + 6, h => absurd h (by omega)), fun h => absurd (oy164 w223 w296 z2.2 z4.2) h⟩⟩)
                    ·
                      subst eg305
                      have fi_6915 : ((0 : Int) ≤ (i 6915).toInt) ∧ ((i 6915).toInt ≤ 60) := hG.I.1 6915
                      have z311 : ¬ (((0 : Int) ≤ x5.toInt) ∧ (x5.toInt ≤ (i 6915).toInt) ∧ ((0 : Int) ≤ x2.toInt) ∧ ((x2.toInt + x5.toInt) ≤ (i 6915).toInt)) := hg305
                      first | refine fo_goL mi_k117 fz117_93_2_110 [(7, .ref 112), (6, .ref 108), (0, .ref 0), (1, .int x1), (2, .int x2), (3, .int x3), (4, .int x4), (5, .int x5)] [.int (-13)] (by rfl) ?_ | refine fo_goL mi_k117 fz117_105_2_110 [(7, .ref 112), (6, .ref 108), (0, .ref 0), (1, .int x1), (2, .int x2), (3, .int x3), (4, .int x4), (5, .int x5)] [.int (-13)] (by rfl) ?_ | refine ft_go mi_k117 2 110 [(7, .ref 112), (6, .ref 108), (0, .ref 0), (1, .int x1), (2, .int x2), (3, .int x3), (4, .int x4), (5, .int x5)] [.int (-13)] i a q r (by rfl) ?_ | refine ko_steps mi_in117 2 _ (110, [(7, .ref 112), (6, .ref 108), (0, .ref 0), (1, .int x1), (2, .int x2), (3, .int x3), (4, .int x4), (5, .int x5)], [.int (-13)], (0, 0), ks i a q r) (by rfl) ?_
                      have fi_7171 : ((0 : Int) ≤ (i 7171).toInt) ∧ ((i 7171).toInt ≤ 60) := hG.I.1 7171
                      exact ft_ret mi_k117 (by rfl) (hP (-13) _ _ _ _ hG ⟨trivial, ⟨fun s t hs ht e1 e3 => by
        have es : s = 2 := kj_at e1 (oy140 w223)
        have et : t = 4 := kj_at e3 (oy144 w296)
        subst es
        subst et
        exact ⟨(Or.inr (Or.inr (Or.inl ⟨kym13, (oy133 c301 c303 c304 fi_6912.2 fi_7168.2 ky2), (oy136 z311)⟩))), fun h => absurd h (kj_neg kym13 (by decide))⟩, fun _ => (fun u hu => match u, hu with | 0, _ => rfl | 1, _ => rfl | 2, _ => rfl | 3, _ => rfl | 4, _ => rfl | 5, _ => rfl | _ + 6, h => absurd h (by omega)), fun h => absurd (oy164 w223 w296 z2.2 z4.2) h⟩⟩)
                  ·
                    have c312 : (i 6914).toInt ≠ (i 7170).toInt := kd_eqF c; clear c
                    first | refine fo_goL mi_k117 fz117_82_1_84 [(7, .ref 112), (6, .ref 108), (0, .ref 0), (1, .int x1), (2, .int x2), (3, .int x3), (4, .int x4), (5, .int x5)] [.int (-12)] (by rfl) ?_ | refine ft_go mi_k117 1 84 [(7, .ref 112), (6, .ref 108), (0, .ref 0), (1, .int x1), (2, .int x2), (3, .int x3), (4, .int x4), (5, .int x5)] [.int (-12)] i a q r (by rfl) ?_ | refine ko_steps mi_in117 1 _ (84, [(7, .ref 112), (6, .ref 108), (0, .ref 0), (1, .int x1), (2, .int x2), (3, .int x3), (4, .int x4), (5, .int x5)], [.int (-12)], (0, 0), ks i a q r) (by rfl) ?_
                    have fi_6915 : ((0 : Int) ≤ (i 6915).toInt) ∧ ((i 6915).toInt ≤ 60) := hG.I.1 6915
                    have fi_7171 : ((0 : Int) ≤ (i 7171).toInt) ∧ ((i 7171).toInt ≤ 60) := hG.I.1 7171
                    exact ft_ret mi_k117 (by rfl) (hP (-12) _ _ _ _ hG ⟨trivial, ⟨fun s t hs ht e1 e3 => by
        have es : s = 2 := kj_at e1 (oy140 w223)
        have et : t = 4 := kj_at e3 (oy144 w296)
        subst es
        subst et
        exact ⟨(Or.inr (Or.inl ⟨kym12, (oy137 c301 c303 ky2), (oy138 c312)⟩)), fun h => absurd h (kj_neg kym12 (by decide))⟩, fun _ => (fun u hu => match u, hu with | 0, _ => rfl | 1, _ => rfl | 2, _ => rfl | 3, _ => rfl | 4, _ => rfl | 5, _ => rfl | _ + 6, h => absurd h (by omega)), fun h => absurd (oy164 w223 w296 z2.2 z4.2) h⟩⟩)
            ·
              have c313 : (i 7168).toInt = (0 : Int32).toInt := kd_neF c; clear c
              first | refine fo_goL mi_k117 fz117_48_1_50 [(7, .ref 112), (6, .ref 108), (0, .ref 0), (1, .int x1), (2, .int x2), (3, .int x3), (4, .int x4), (5, .int x5)] [.int (-11)] (by rfl) ?_ | refine ft_go mi_k117 1 50 [(7, .ref 112), (6, .ref 108), (0, .ref 0), (1, .int x1), (2, .int x2), (3, .int x3), (4, .int x4), (5, .int x5)] [.int (-11)] i a q r (by rfl) ?_ | refine ko_steps mi_in117 1 _ (50, [(7, .ref 112), (6, .ref 108), (0, .ref 0), (1, .int x1), (2, .int x2), (3, .int x3), (4, .int x4), (5, .int x5)], [.int (-11)], (0, 0), ks i a q r) (by rfl) ?_
              have fi_6914 : ((0 : Int) ≤ (i 6914).toInt) ∧ ((i 6914).toInt ≤ 4) := hG.I.1 6914
              have fi_7170 : ((0 : Int) ≤ (i 7170).toInt) ∧ ((i 7170).toInt ≤ 4) := hG.I.1 7170
              have fi_6915 : ((0 : Int) ≤ (i 6915).toInt) ∧ ((i 6915).toInt ≤ 60) := hG.I.1 6915
              have fi_7171 : ((0 : Int) ≤ (i 7171).toInt) ∧ ((i 7171).toInt ≤ 60) := hG.I.1 7171
              exact ft_ret mi_k117 (by rfl) (hP (-11) _ _ _ _ hG ⟨trivial, ⟨fun s t hs ht e1 e3 => by
        have es : s = 2 := kj_at e1 (oy140 w223)
        have et : t = 4 := kj_at e3 (oy144 w296)
        subst es
        subst et
        exact ⟨(Or.inl ⟨kym11, (oy139 c313 fi_7168.1 ky0)⟩), fun h => absurd h (kj_neg kym11 (by decide))⟩, fun _ => (fun u hu => match u, hu with | 0, _ => rfl | 1, _ => rfl | 2, _ => rfl | 3, _ => rfl | 4, _ => rfl | 5, _ => rfl | _ + 6, h => absurd h (by omega)), fun h => absurd (oy164 w223 w296 z2.2 z4.2) h⟩⟩)
        by_cases w314 : x3.toInt = 5
        ·
          refine ko_eq (x1 := (29, [(6, .ref 108), (0, .ref 0), (1, .int x1), (2, .int x2), (3, .int x3), (4, .int x4), (5, .int x5)], [.int 5, .ref 97], (0, 0), ks i a q r)) (by rw [(kj_eq w314 (by decide) : x3 = 5)]) ?_
          have fi_6912 : ((0 : Int) ≤ (i 6912).toInt) ∧ ((i 6912).toInt ≤ 2) := hG.I.1 6912
          first | refine ft_goL mi_k117 4 37 [(7, .ref 114), (6, .ref 108), (0, .ref 0), (1, .int x1), (2, .int x2), (3, .int x3), (4, .int x4), (5, .int x5)] [.int (i 6912)] (by rfl) ?_ | refine ft_go mi_k117 4 37 [(7, .ref 114), (6, .ref 108), (0, .ref 0), (1, .int x1), (2, .int x2), (3, .int x3), (4, .int x4), (5, .int x5)] [.int (i 6912)] i a q r (by rfl) ?_ | refine ko_steps mi_in117 4 _ (37, [(7, .ref 114), (6, .ref 108), (0, .ref 0), (1, .int x1), (2, .int x2), (3, .int x3), (4, .int x4), (5, .int x5)], [.int (i 6912)], (0, 0), ks i a q r) (by rfl) ?_
          refine ft_ifS mi_k117 ((i 6912) == 0) 48 40 [] (by rfl) (fun c => ?_) (fun c => ?_)
          ·
            have c315 : (i 6912).toInt = (0 : Int32).toInt := kd_eq c; clear c
            first | refine fo_goS mi_k117 fz117_48_1_50 [.int (-11)] (by rfl) ?_ | refine ft_go mi_k117 1 50 [(7, .ref 114), (6, .ref 108), (0, .ref 0), (1, .int x1), (2, .int x2), (3, .int x3), (4, .int x4), (5, .int x5)] [.int (-11)] i a q r (by rfl) ?_ | refine ko_steps mi_in117 1 _ (50, [(7, .ref 114), (6, .ref 108), (0, .ref 0), (1, .int x1), (2, .int x2), (3, .int x3), (4, .int x4), (5, .int x5)], [.int (-11)], (0, 0), ks i a q r) (by rfl) ?_
            have fi_7296 : ((0 : Int) ≤ (i 7296).toInt) ∧ ((i 7296).toInt ≤ 2) := hG.I.1 7296
            have fi_6914 : ((0 : Int) ≤ (i 6914).toInt) ∧ ((i 6914).toInt ≤ 4) := hG.I.1 6914
            have fi_7298 : ((0 : Int) ≤ (i 7298).toInt) ∧ ((i 7298).toInt ≤ 4) := hG.I.1 7298
            have fi_6915 : ((0 : Int) ≤ (i 6915).toInt) ∧ ((i 6915).toInt ≤ 60) := hG.I.1 6915
            have fi_7299 : ((0 : Int) ≤ (i 7299).toInt) ∧ ((i 7299).toInt ≤ 60) := hG.I.1 7299
            exact ft_ret mi_k117 (by rfl) (hP (-11) _ _ _ _ hG ⟨trivial, ⟨fun s t hs ht e1 e3 => by
        have es : s = 2 := kj_at e1 (oy140 w223)
        have et : t = 5 := kj_at e3 (oy146 w314 z4.2)
        subst es
        subst et
        exact ⟨(Or.inl ⟨kym11, (oy127 c315 fi_6912.1 ky0)⟩), fun h => absurd h (kj_neg kym11 (by decide))⟩, fun _ => (fun u hu => match u, hu with | 0, _ => rfl | 1, _ => rfl | 2, _ => rfl | 3, _ => rfl | 4, _ => rfl | 5, _ => rfl | _ + 6, h => absurd h (by omega)), fun h => absurd (oy165 w223 w314 z2.2 z4.2) h⟩⟩)
          ·
            have c316 : (i 6912).toInt ≠ (0 : Int32).toInt := kd_eqF c; clear c
            have fi_7296 : ((0 : Int) ≤ (i 7296).toInt) ∧ ((i 7296).toInt ≤ 2) := hG.I.1 7296
            first | refine fo_goL mi_k117 fz117_40_2_45 [(7, .ref 114), (6, .ref 108), (0, .ref 0), (1, .int x1), (2, .int x2), (3, .int x3), (4, .int x4), (5, .int x5)] [.int (i 7296)] (by rfl) ?_ | refine ft_go mi_k117 2 45 [(7, .ref 114), (6, .ref 108), (0, .ref 0), (1, .int x1), (2, .int x2), (3, .int x3), (4, .int x4), (5, .int x5)] [.int (i 7296)] i a q r (by rfl) ?_ | refine ko_steps mi_in117 2 _ (45, [(7, .ref 114), (6, .ref 108), (0, .ref 0), (1, .int x1), (2, .int x2), (3, .int x3), (4, .int x4), (5, .int x5)], [.int (i 7296)], (0, 0), ks i a q r) (by rfl) ?_
            refine ft_ifS mi_k117 ((i 7296) != 0) 51 48 [] (by rfl) (fun c => ?_) (fun c => ?_)
            ·
              have c317 : (i 7296).toInt ≠ (0 : Int32).toInt := kd_ne c; clear c
              first | refine fo_goS mi_k117 fz117_51_3_57 [.int 2, .int (i 6912)] (by rfl) ?_ | refine ft_go mi_k117 3 57 [(7, .ref 114), (6, .ref 108), (0, .ref 0), (1, .int x1), (2, .int x2), (3, .int x3), (4, .int x4), (5, .int x5)] [.int 2, .int (i 6912)] i a q r (by rfl) ?_ | refine ko_steps mi_in117 3 _ (57, [(7, .ref 114), (6, .ref 108), (0, .ref 0), (1, .int x1), (2, .int x2), (3, .int x3), (4, .int x4), (5, .int x5)], [.int 2, .int (i 6912)], (0, 0), ks i a q r) (by rfl) ?_
              refine ft_ifS mi_k117 ((i 6912) != 2) 82 60 [] (by rfl) (fun c => ?_) (fun c => ?_)
              ·
                have c318 : (i 6912).toInt ≠ (2 : Int32).toInt := kd_ne c; clear c
                first | refine fo_goS mi_k117 fz117_82_1_84 [.int (-12)] (by rfl) ?_ | refine ft_go mi_k117 1 84 [(7, .ref 114), (6, .ref 108), (0, .ref 0), (1, .int x1), (2, .int x2), (3, .int x3), (4, .int x4), (5, .int x5)] [.int (-12)] i a q r (by rfl) ?_ | refine ko_steps mi_in117 1 _ (84, [(7, .ref 114), (6, .ref 108), (0, .ref 0), (1, .int x1), (2, .int x2), (3, .int x3), (4, .int x4), (5, .int x5)], [.int (-12)], (0, 0), ks i a q r) (by rfl) ?_
                have fi_6914 : ((0 : Int) ≤ (i 6914).toInt) ∧ ((i 6914).toInt ≤ 4) := hG.I.1 6914
                have fi_7298 : ((0 : Int) ≤ (i 7298).toInt) ∧ ((i 7298).toInt ≤ 4) := hG.I.1 7298
                have fi_6915 : ((0 : Int) ≤ (i 6915).toInt) ∧ ((i 6915).toInt ≤ 60) := hG.I.1 6915
                have fi_7299 : ((0 : Int) ≤ (i 7299).toInt) ∧ ((i 7299).toInt ≤ 60) := hG.I.1 7299
                exact ft_ret mi_k117 (by rfl) (hP (-12) _ _ _ _ hG ⟨trivial, ⟨fun s t hs ht e1 e3 => by
        have es : s = 2 := kj_at e1 (oy140 w223)
        have et : t = 5 := kj_at e3 (oy146 w314 z4.2)
        subst es
        subst et
        exact ⟨(Or.inr (Or.inl ⟨kym12, (oy129 c316 c317 fi_6912.1 fi_7296.1 ky0), (oy130 c318 fi_6912.2 ky2)⟩)), fun h => absurd h (kj_neg kym12 (by decide))⟩, fun _ => (fun u hu => match u, hu with | 0, _ => rfl | 1, _ => rfl | 2, _ => rfl | 3, _ => rfl | 4, _ => rfl | 5, _ => rfl | _ + 6, h => absurd h (by omega)), fun h => absurd (oy165 w223 w314 z2.2 z4.2) h⟩⟩)
              ·
                have c319 : (i 6912).toInt = (2 : Int32).toInt := kd_neF c; clear c
                first | refine fo_goL mi_k117 fz117_60_3_66 [(7, .ref 114), (6, .ref 108), (0, .ref 0), (1, .int x1), (2, .int x2), (3, .int x3), (4, .int x4), (5, .int x5)] [.int 2, .int (i 7296)] (by rfl) ?_ | refine ft_go mi_k117 3 66 [(7, .ref 114), (6, .ref 108), (0, .ref 0), (1, .int x1), (2, .int x2), (3, .int x3), (4, .int x4), (5, .int x5)] [.int 2, .int (i 7296)] i a q r (by rfl) ?_ | refine ko_steps mi_in117 3 _ (66, [(7, .ref 114), (6, .ref 108), (0, .ref 0), (1, .int x1), (2, .int x2), (3, .int x3), (4, .int x4), (5, .int x5)], [.int 2, .int (i 7296)], (0, 0), ks i a q r) (by rfl) ?_
                refine ft_ifS mi_k117 ((i 7296) != 2) 82 69 [] (by rfl) (fun c => ?_) (fun c => ?_)
                ·
                  have c320 : (i 7296).toInt ≠ (2 : Int32).toInt := kd_ne c; clear c
                  first | refine fo_goS mi_k117 fz117_82_1_84 [.int (-12)] (by rfl) ?_ | refine ft_go mi_k117 1 84 [(7, .ref 114), (6, .ref 108), (0, .ref 0), (1, .int x1), (2, .int x2), (3, .int x3), (4, .int x4), (5, .int x5)] [.int (-12)] i a q r (by rfl) ?_ | refine ko_steps mi_in117 1 _ (84, [(7, .ref 114), (6, .ref 108), (0, .ref 0), (1, .int x1), (2, .int x2), (3, .int x3), (4, .int x4), (5, .int x5)], [.int (-12)], (0, 0), ks i a q r) (by rfl) ?_
                  have fi_6914 : ((0 : Int) ≤ (i 6914).toInt) ∧ ((i 6914).toInt ≤ 4) := hG.I.1 6914
                  have fi_7298 : ((0 : Int) ≤ (i 7298).toInt) ∧ ((i 7298).toInt ≤ 4) := hG.I.1 7298
                  have fi_6915 : ((0 : Int) ≤ (i 6915).toInt) ∧ ((i 6915).toInt ≤ 60) := hG.I.1 6915
                  have fi_7299 : ((0 : Int) ≤ (i 7299).toInt) ∧ ((i 7299).toInt ≤ 60) := hG.I.1 7299
                  exact ft_ret mi_k117 (by rfl) (hP (-12) _ _ _ _ hG ⟨trivial, ⟨fun s t hs ht e1 e3 => by
        have es : s = 2 := kj_at e1 (oy140 w223)
        have et : t = 5 := kj_at e3 (oy146 w314 z4.2)
        subst es
        subst et
        exact ⟨(Or.inr (Or.inl ⟨kym12, (oy131 c317 c319 fi_7296.1 ky0 ky2), (oy132 c320 fi_7296.2 ky2)⟩)), fun h => absurd h (kj_neg kym12 (by decide))⟩, fun _ => (fun u hu => match u, hu with | 0, _ => rfl | 1, _ => rfl | 2, _ => rfl | 3, _ => rfl | 4, _ => rfl | 5, _ => rfl | _ + 6, h => absurd h (by omega)), fun h => absurd (oy165 w223 w314 z2.2 z4.2) h⟩⟩)
                ·
                  have c321 : (i 7296).toInt = (2 : Int32).toInt := kd_neF c; clear c
                  have fi_6914 : ((0 : Int) ≤ (i 6914).toInt) ∧ ((i 6914).toInt ≤ 4) := hG.I.1 6914
                  have fi_7298 : ((0 : Int) ≤ (i 7298).toInt) ∧ ((i 7298).toInt ≤ 4) := hG.I.1 7298
                  first | refine fo_goL mi_k117 fz117_69_4_79 [(7, .ref 114), (6, .ref 108), (0, .ref 0), (1, .int x1), (2, .int x2), (3, .int x3), (4, .int x4), (5, .int x5)] [.int (i 7298), .int (i 6914)] (by rfl) ?_ | refine ft_go mi_k117 4 79 [(7, .ref 114), (6, .ref 108), (0, .ref 0), (1, .int x1), (2, .int x2), (3, .int x3), (4, .int x4), (5, .int x5)] [.int (i 7298), .int (i 6914)] i a q r (by rfl) ?_ | refine ko_steps mi_in117 4 _ (79, [(7, .ref 114), (6, .ref 108), (0, .ref 0), (1, .int x1), (2, .int x2), (3, .int x3), (4, .int x4), (5, .int x5)], [.int (i 7298), .int (i 6914)], (0, 0), ks i a q r) (by rfl) ?_
                  refine ft_ifS mi_k117 ((i 6914) == (i 7298)) 85 82 [] (by rfl) (fun c => ?_) (fun c => ?_)
                  ·
                    have c322 : (i 6914).toInt = (i 7298).toInt := kd_eq c; clear c
                    first | refine fo_goS mi_k117 fz117_85_3_90 [.int x5, .int x2, .ref 108] (by rfl) ?_ | refine ft_go mi_k117 3 90 [(7, .ref 114), (6, .ref 108), (0, .ref 0), (1, .int x1), (2, .int x2), (3, .int x3), (4, .int x4), (5, .int x5)] [.int x5, .int x2, .ref 108] i a q r (by rfl) ?_ | refine ko_steps mi_in117 3 _ (90, [(7, .ref 114), (6, .ref 108), (0, .ref 0), (1, .int x1), (2, .int x2), (3, .int x3), (4, .int x4), (5, .int x5)], [.int x5, .int x2, .ref 108], (0, 0), ks i a q r) (by rfl) ?_
                    refine ko_callPI mi_k117.1 (pc := 90) (ls := [(7, .ref 114), (6, .ref 108), (0, .ref 0), (1, .int x1), (2, .int x2), (3, .int x3), (4, .int x4), (5, .int x5)]) (st := [.int x5, .int x2, .ref 108]) (h := ks i a q r) (i := (.invokevirtual 324, 3, 37, 0, 9, 0, 316)) (mi_k117.2 _ _ (by rfl)) (ft_invS mi_pq37 (by rfl)) (cy := mi_c37) mi_pq37 rfl (kc37_108 hG.I hG.R x2 x5) (by decide) ?_
                    intro vg323 hg323
                    rcases hg323 with ⟨eg323, hg323⟩ | ⟨eg323, hg323⟩
                    ·
                      subst eg323
                      have fi_6915 : ((0 : Int) ≤ (i 6915).toInt) ∧ ((i 6915).toInt ≤ 60) := hG.I.1 6915
                      have z324 : ((0 : Int) ≤ x5.toInt) ∧ (x5.toInt ≤ (i 6915).toInt) ∧ ((0 : Int) ≤ x2.toInt) ∧ ((x2.toInt + x5.toInt) ≤ (i 6915).toInt) := hg323
                      first | refine fo_goS mi_k117 fz117_93_4_102 [.int x5, .int x4, .ref 114] (by rfl) ?_ | refine ft_go mi_k117 4 102 [(7, .ref 114), (6, .ref 108), (0, .ref 0), (1, .int x1), (2, .int x2), (3, .int x3), (4, .int x4), (5, .int x5)] [.int x5, .int x4, .ref 114] i a q r (by rfl) ?_ | refine ko_steps mi_in117 4 _ (102, [(7, .ref 114), (6, .ref 108), (0, .ref 0), (1, .int x1), (2, .int x2), (3, .int x3), (4, .int x4), (5, .int x5)], [.int x5, .int x4, .ref 114], (0, 0), ks i a q r) (by rfl) ?_
                      refine ko_callPI mi_k117.1 (pc := 102) (ls := [(7, .ref 114), (6, .ref 108), (0, .ref 0), (1, .int x1), (2, .int x2), (3, .int x3), (4, .int x4), (5, .int x5)]) (st := [.int x5, .int x4, .ref 114]) (h := ks i a q r) (i := (.invokevirtual 324, 3, 37, 0, 9, 0, 316)) (mi_k117.2 _ _ (by rfl)) (ft_invS mi_pq37 (by rfl)) (cy := mi_c37) mi_pq37 rfl (kc37_114 hG.I hG.R x4 x5) (by decide) ?_
                      intro vg325 hg325
                      rcases hg325 with ⟨eg325, hg325⟩ | ⟨eg325, hg325⟩
                      ·
                        subst eg325
                        have fi_7299 : ((0 : Int) ≤ (i 7299).toInt) ∧ ((i 7299).toInt ≤ 60) := hG.I.1 7299
                        have z326 : ((0 : Int) ≤ x5.toInt) ∧ (x5.toInt ≤ (i 7299).toInt) ∧ ((0 : Int) ≤ x4.toInt) ∧ ((x4.toInt + x5.toInt) ≤ (i 7299).toInt) := hg325
                        first | refine fo_goS mi_k117 fz117_105_8_126 [.int x5, .int x4, .ref 115, .int x2, .ref 109] (by rfl) ?_ | refine ft_go mi_k117 8 126 [(7, .ref 114), (6, .ref 108), (0, .ref 0), (1, .int x1), (2, .int x2), (3, .int x3), (4, .int x4), (5, .int x5)] [.int x5, .int x4, .ref 115, .int x2, .ref 109] i a q r (by rfl) ?_ | refine ko_steps mi_in117 8 _ (126, [(7, .ref 114), (6, .ref 108), (0, .ref 0), (1, .int x1), (2, .int x2), (3, .int x3), (4, .int x4), (5, .int x5)], [.int x5, .int x4, .ref 115, .int x2, .ref 109], (0, 0), ks i a q r) (by rfl) ?_
                        have hJ327 := kG_q hG 115 rfl (z := mi_cpy (q 109) (q 115) x2.toNatClampNeg x4.toNatClampNeg x5.toNatClampNeg) (kcpy_len2 (n := 60) (c := 60) (m := 60) (b := 60) (sp := x2) (dp := x4) (n1 := x5) (hG.I.2.2.2 109) rfl (hG.I.2.2.2 115) rfl (oy3 z324.1) (oy3 z324.2.2.1) (oy3 z326.2.2.1) (oy119 fi_6915.2 z324.2.2.2) (oy119 fi_7299.2 z326.2.2.2))
                        refine ko_copyL2 mi_k117.1 (l := q 109) (g := q 115) (n := 60) (c := 60) (m := 60) (b := 60) (mi_k117.2 _ _ (by rfl)) (by rfl) (by rfl) (by rfl) (by rfl) (by rfl) (hG.I.2.2.2 109) rfl (hG.I.2.2.2 115) rfl (oy3 z324.1) (oy3 z324.2.2.1) (oy3 z326.2.2.1) (oy119 fi_6915.2 z324.2.2.2) (oy119 fi_7299.2 z326.2.2.2) (h5 := ks i a (ku q 115 (mi_cpy (q 109) (q 115) x2.toNatClampNeg x4.toNatClampNeg x5.toNatClampNeg)) r) (by rfl) ?_
                        first | refine fo_goS mi_k117 fz117_129_1_131 [.int x5] (by rfl) ?_ | refine ft_go mi_k117 1 131 [(7, .ref 114), (6, .ref 108), (0, .ref 0), (1, .int x1), (2, .int x2), (3, .int x3), (4, .int x4), (5, .int x5)] [.int x5] i a (ku q 115 (mi_cpy (q 109) (q 115) x2.toNatClampNeg x4.toNatClampNeg x5.toNatClampNeg)) r (by rfl) ?_ | refine ko_steps mi_in117 1 _ (131, [(7, .ref 114), (6, .ref 108), (0, .ref 0), (1, .int x1), (2, .int x2), (3, .int x3), (4, .int x4), (5, .int x5)], [.int x5], (0, 0), ks i a (ku q 115 (mi_cpy (q 109) (q 115) x2.toNatClampNeg x4.toNatClampNeg x5.toNatClampNeg)) r) (by rfl) ?_
                        exact ft_ret mi_k117 (by rfl) (hP x5 _ _ _ _ hJ327 ⟨trivial, ⟨fun s t hs ht e1 e3 => by
        have es : s = 2 := kj_at e1 (oy140 w223)
        have et : t = 5 := kj_at e3 (oy146 w314 z4.2)
        subst es
        subst et
        exact ⟨(Or.inr (Or.inr (Or.inr ⟨rfl, (oy133 c319 c321 c322 fi_6912.2 fi_7296.2 ky2), (oy134 z324.1 z324.2.2.1 z324.2.2.2 z326.2.2.1 z326.2.2.2)⟩))), fun _ => ⟨rfl, (fun u hu ne => match u, hu, ne with | 0, _, _ => rfl | 1, _, _ => rfl | 2, _, _ => rfl | 3, _, _ => rfl | 4, _, _ => rfl | 5, _, ne => absurd rfl ne | _ + 6, h, _ => absurd h (by omega))⟩⟩, fun h => absurd h (oy26 z324.1), fun h => absurd (oy165 w223 w314 z2.2 z4.2) h⟩⟩)
                      ·
                        subst eg325
                        have fi_7299 : ((0 : Int) ≤ (i 7299).toInt) ∧ ((i 7299).toInt ≤ 60) := hG.I.1 7299
                        have z328 : ¬ (((0 : Int) ≤ x5.toInt) ∧ (x5.toInt ≤ (i 7299).toInt) ∧ ((0 : Int) ≤ x4.toInt) ∧ ((x4.toInt + x5.toInt) ≤ (i 7299).toInt)) := hg325
                        first | refine fo_goL mi_k117 fz117_93_2_110 [(7, .ref 114), (6, .ref 108), (0, .ref 0), (1, .int x1), (2, .int x2), (3, .int x3), (4, .int x4), (5, .int x5)] [.int (-13)] (by rfl) ?_ | refine fo_goL mi_k117 fz117_105_2_110 [(7, .ref 114), (6, .ref 108), (0, .ref 0), (1, .int x1), (2, .int x2), (3, .int x3), (4, .int x4), (5, .int x5)] [.int (-13)] (by rfl) ?_ | refine ft_go mi_k117 2 110 [(7, .ref 114), (6, .ref 108), (0, .ref 0), (1, .int x1), (2, .int x2), (3, .int x3), (4, .int x4), (5, .int x5)] [.int (-13)] i a q r (by rfl) ?_ | refine ko_steps mi_in117 2 _ (110, [(7, .ref 114), (6, .ref 108), (0, .ref 0), (1, .int x1), (2, .int x2), (3, .int x3), (4, .int x4), (5, .int x5)], [.int (-13)], (0, 0), ks i a q r) (by rfl) ?_
                        exact ft_ret mi_k117 (by rfl) (hP (-13) _ _ _ _ hG ⟨trivial, ⟨fun s t hs ht e1 e3 => by
        have es : s = 2 := kj_at e1 (oy140 w223)
        have et : t = 5 := kj_at e3 (oy146 w314 z4.2)
        subst es
        subst et
        exact ⟨(Or.inr (Or.inr (Or.inl ⟨kym13, (oy133 c319 c321 c322 fi_6912.2 fi_7296.2 ky2), (oy135 z324.1 z328)⟩))), fun h => absurd h (kj_neg kym13 (by decide))⟩, fun _ => (fun u hu => match u, hu with | 0, _ => rfl | 1, _ => rfl | 2, _ => rfl | 3, _ => rfl | 4, _ => rfl | 5, _ => rfl | _ + 6, h => absurd h (by omega)), fun h => absurd (oy165 w223 w314 z2.2 z4.2) h⟩⟩)
                    ·
                      subst eg323
                      have fi_6915 : ((0 : Int) ≤ (i 6915).toInt) ∧ ((i 6915).toInt ≤ 60) := hG.I.1 6915
                      have z329 : ¬ (((0 : Int) ≤ x5.toInt) ∧ (x5.toInt ≤ (i 6915).toInt) ∧ ((0 : Int) ≤ x2.toInt) ∧ ((x2.toInt + x5.toInt) ≤ (i 6915).toInt)) := hg323
                      first | refine fo_goL mi_k117 fz117_93_2_110 [(7, .ref 114), (6, .ref 108), (0, .ref 0), (1, .int x1), (2, .int x2), (3, .int x3), (4, .int x4), (5, .int x5)] [.int (-13)] (by rfl) ?_ | refine fo_goL mi_k117 fz117_105_2_110 [(7, .ref 114), (6, .ref 108), (0, .ref 0), (1, .int x1), (2, .int x2), (3, .int x3), (4, .int x4), (5, .int x5)] [.int (-13)] (by rfl) ?_ | refine ft_go mi_k117 2 110 [(7, .ref 114), (6, .ref 108), (0, .ref 0), (1, .int x1), (2, .int x2), (3, .int x3), (4, .int x4), (5, .int x5)] [.int (-13)] i a q r (by rfl) ?_ | refine ko_steps mi_in117 2 _ (110, [(7, .ref 114), (6, .ref 108), (0, .ref 0), (1, .int x1), (2, .int x2), (3, .int x3), (4, .int x4), (5, .int x5)], [.int (-13)], (0, 0), ks i a q r) (by rfl) ?_
                      have fi_7299 : ((0 : Int) ≤ (i 7299).toInt) ∧ ((i 7299).toInt ≤ 60) := hG.I.1 7299
                      exact ft_ret mi_k117 (by rfl) (hP (-13) _ _ _ _ hG ⟨trivial, ⟨fun s t hs ht e1 e3 => by
        have es : s = 2 := kj_at e1 (oy140 w223)
        have et : t = 5 := kj_at e3 (oy146 w314 z4.2)
        subst es
        subst et
        exact ⟨(Or.inr (Or.inr (Or.inl ⟨kym13, (oy133 c319 c321 c322 fi_6912.2 fi_7296.2 ky2), (oy136 z329)⟩))), fun h => absurd h (kj_neg kym13 (by decide))⟩, fun _ => (fun u hu => match u, hu with | 0, _ => rfl | 1, _ => rfl | 2, _ => rfl | 3, _ => rfl | 4, _ => rfl | 5, _ => rfl | _ + 6, h => absurd h (by omega)), fun h => absurd (oy165 w223 w314 z2.2 z4.2) h⟩⟩)
                  ·
                    have c330 : (i 6914).toInt ≠ (i 7298).toInt := kd_eqF c; clear c
                    first | refine fo_goL mi_k117 fz117_82_1_84 [(7, .ref 114), (6, .ref 108), (0, .ref 0), (1, .int x1), (2, .int x2), (3, .int x3), (4, .int x4), (5, .int x5)] [.int (-12)] (by rfl) ?_ | refine ft_go mi_k117 1 84 [(7, .ref 114), (6, .ref 108), (0, .ref 0), (1, .int x1), (2, .int x2), (3, .int x3), (4, .int x4), (5, .int x5)] [.int (-12)] i a q r (by rfl) ?_ | refine ko_steps mi_in117 1 _ (84, [(7, .ref 114), (6, .ref 108), (0, .ref 0), (1, .int x1), (2, .int x2), (3, .int x3), (4, .int x4), (5, .int x5)], [.int (-12)], (0, 0), ks i a q r) (by rfl) ?_
                    have fi_6915 : ((0 : Int) ≤ (i 6915).toInt) ∧ ((i 6915).toInt ≤ 60) := hG.I.1 6915
                    have fi_7299 : ((0 : Int) ≤ (i 7299).toInt) ∧ ((i 7299).toInt ≤ 60) := hG.I.1 7299
                    exact ft_ret mi_k117 (by rfl) (hP (-12) _ _ _ _ hG ⟨trivial, ⟨fun s t hs ht e1 e3 => by
        have es : s = 2 := kj_at e1 (oy140 w223)
        have et : t = 5 := kj_at e3 (oy146 w314 z4.2)
        subst es
        subst et
        exact ⟨(Or.inr (Or.inl ⟨kym12, (oy137 c319 c321 ky2), (oy138 c330)⟩)), fun h => absurd h (kj_neg kym12 (by decide))⟩, fun _ => (fun u hu => match u, hu with | 0, _ => rfl | 1, _ => rfl | 2, _ => rfl | 3, _ => rfl | 4, _ => rfl | 5, _ => rfl | _ + 6, h => absurd h (by omega)), fun h => absurd (oy165 w223 w314 z2.2 z4.2) h⟩⟩)
            ·
              have c331 : (i 7296).toInt = (0 : Int32).toInt := kd_neF c; clear c
              first | refine fo_goL mi_k117 fz117_48_1_50 [(7, .ref 114), (6, .ref 108), (0, .ref 0), (1, .int x1), (2, .int x2), (3, .int x3), (4, .int x4), (5, .int x5)] [.int (-11)] (by rfl) ?_ | refine ft_go mi_k117 1 50 [(7, .ref 114), (6, .ref 108), (0, .ref 0), (1, .int x1), (2, .int x2), (3, .int x3), (4, .int x4), (5, .int x5)] [.int (-11)] i a q r (by rfl) ?_ | refine ko_steps mi_in117 1 _ (50, [(7, .ref 114), (6, .ref 108), (0, .ref 0), (1, .int x1), (2, .int x2), (3, .int x3), (4, .int x4), (5, .int x5)], [.int (-11)], (0, 0), ks i a q r) (by rfl) ?_
              have fi_6914 : ((0 : Int) ≤ (i 6914).toInt) ∧ ((i 6914).toInt ≤ 4) := hG.I.1 6914
              have fi_7298 : ((0 : Int) ≤ (i 7298).toInt) ∧ ((i 7298).toInt ≤ 4) := hG.I.1 7298
              have fi_6915 : ((0 : Int) ≤ (i 6915).toInt) ∧ ((i 6915).toInt ≤ 60) := hG.I.1 6915
              have fi_7299 : ((0 : Int) ≤ (i 7299).toInt) ∧ ((i 7299).toInt ≤ 60) := hG.I.1 7299
              exact ft_ret mi_k117 (by rfl) (hP (-11) _ _ _ _ hG ⟨trivial, ⟨fun s t hs ht e1 e3 => by
        have es : s = 2 := kj_at e1 (oy140 w223)
        have et : t = 5 := kj_at e3 (oy146 w314 z4.2)
        subst es
        subst et
        exact ⟨(Or.inl ⟨kym11, (oy139 c331 fi_7296.1 ky0)⟩), fun h => absurd h (kj_neg kym11 (by decide))⟩, fun _ => (fun u hu => match u, hu with | 0, _ => rfl | 1, _ => rfl | 2, _ => rfl | 3, _ => rfl | 4, _ => rfl | 5, _ => rfl | _ + 6, h => absurd h (by omega)), fun h => absurd (oy165 w223 w314 z2.2 z4.2) h⟩⟩)
        exact (oy159 w224 w242 w260 w278 w296 w314 z4.1 z4.2).elim
      by_cases w332 : x1.toInt = 3
      ·
        refine ft_alx mi_k117 (pc := 21) (v := 3) (p := 97) (z := 110) (kj_eq w332 (by decide) : x1 = 3) (by decide +kernel) (by decide +kernel) ?_
        first | refine fo_goL mi_k117 fz117_22_4_29 [(6, .ref 110), (0, .ref 0), (1, .int x1), (2, .int x2), (3, .int x3), (4, .int x4), (5, .int x5)] [.int x3, .ref 97] (by rfl) ?_ | refine ft_go mi_k117 4 29 [(6, .ref 110), (0, .ref 0), (1, .int x1), (2, .int x2), (3, .int x3), (4, .int x4), (5, .int x5)] [.int x3, .ref 97] i a q r (by rfl) ?_ | refine ko_steps mi_in117 4 _ (29, [(6, .ref 110), (0, .ref 0), (1, .int x1), (2, .int x2), (3, .int x3), (4, .int x4), (5, .int x5)], [.int x3, .ref 97], (0, 0), ks i a q r) (by rfl) ?_
        by_cases w333 : x3.toInt = 0
        ·
          refine ko_eq (x1 := (29, [(6, .ref 110), (0, .ref 0), (1, .int x1), (2, .int x2), (3, .int x3), (4, .int x4), (5, .int x5)], [.int 0, .ref 97], (0, 0), ks i a q r)) (by rw [(kj_eq w333 (by decide) : x3 = 0)]) ?_
          have fi_7040 : ((0 : Int) ≤ (i 7040).toInt) ∧ ((i 7040).toInt ≤ 2) := hG.I.1 7040
          first | refine ft_goL mi_k117 4 37 [(7, .ref 104), (6, .ref 110), (0, .ref 0), (1, .int x1), (2, .int x2), (3, .int x3), (4, .int x4), (5, .int x5)] [.int (i 7040)] (by rfl) ?_ | refine ft_go mi_k117 4 37 [(7, .ref 104), (6, .ref 110), (0, .ref 0), (1, .int x1), (2, .int x2), (3, .int x3), (4, .int x4), (5, .int x5)] [.int (i 7040)] i a q r (by rfl) ?_ | refine ko_steps mi_in117 4 _ (37, [(7, .ref 104), (6, .ref 110), (0, .ref 0), (1, .int x1), (2, .int x2), (3, .int x3), (4, .int x4), (5, .int x5)], [.int (i 7040)], (0, 0), ks i a q r) (by rfl) ?_
          refine ft_ifS mi_k117 ((i 7040) == 0) 48 40 [] (by rfl) (fun c => ?_) (fun c => ?_)
          ·
            have c334 : (i 7040).toInt = (0 : Int32).toInt := kd_eq c; clear c
            first | refine fo_goS mi_k117 fz117_48_1_50 [.int (-11)] (by rfl) ?_ | refine ft_go mi_k117 1 50 [(7, .ref 104), (6, .ref 110), (0, .ref 0), (1, .int x1), (2, .int x2), (3, .int x3), (4, .int x4), (5, .int x5)] [.int (-11)] i a q r (by rfl) ?_ | refine ko_steps mi_in117 1 _ (50, [(7, .ref 104), (6, .ref 110), (0, .ref 0), (1, .int x1), (2, .int x2), (3, .int x3), (4, .int x4), (5, .int x5)], [.int (-11)], (0, 0), ks i a q r) (by rfl) ?_
            have fi_6656 : ((0 : Int) ≤ (i 6656).toInt) ∧ ((i 6656).toInt ≤ 2) := hG.I.1 6656
            have fi_7042 : ((0 : Int) ≤ (i 7042).toInt) ∧ ((i 7042).toInt ≤ 4) := hG.I.1 7042
            have fi_6658 : ((0 : Int) ≤ (i 6658).toInt) ∧ ((i 6658).toInt ≤ 4) := hG.I.1 6658
            have fi_7043 : ((0 : Int) ≤ (i 7043).toInt) ∧ ((i 7043).toInt ≤ 60) := hG.I.1 7043
            have fi_6659 : ((0 : Int) ≤ (i 6659).toInt) ∧ ((i 6659).toInt ≤ 60) := hG.I.1 6659
            exact ft_ret mi_k117 (by rfl) (hP (-11) _ _ _ _ hG ⟨trivial, ⟨fun s t hs ht e1 e3 => by
        have es : s = 3 := kj_at e1 (oy142 w332)
        have et : t = 0 := kj_at e3 (oy107 w333 z4.1)
        subst es
        subst et
        exact ⟨(Or.inl ⟨kym11, (oy127 c334 fi_7040.1 ky0)⟩), fun h => absurd h (kj_neg kym11 (by decide))⟩, fun _ => (fun u hu => match u, hu with | 0, _ => rfl | 1, _ => rfl | 2, _ => rfl | 3, _ => rfl | 4, _ => rfl | 5, _ => rfl | _ + 6, h => absurd h (by omega)), fun h => absurd (oy166 w332 z2.2 z4.1 z4.2) h⟩⟩)
          ·
            have c335 : (i 7040).toInt ≠ (0 : Int32).toInt := kd_eqF c; clear c
            have fi_6656 : ((0 : Int) ≤ (i 6656).toInt) ∧ ((i 6656).toInt ≤ 2) := hG.I.1 6656
            first | refine fo_goL mi_k117 fz117_40_2_45 [(7, .ref 104), (6, .ref 110), (0, .ref 0), (1, .int x1), (2, .int x2), (3, .int x3), (4, .int x4), (5, .int x5)] [.int (i 6656)] (by rfl) ?_ | refine ft_go mi_k117 2 45 [(7, .ref 104), (6, .ref 110), (0, .ref 0), (1, .int x1), (2, .int x2), (3, .int x3), (4, .int x4), (5, .int x5)] [.int (i 6656)] i a q r (by rfl) ?_ | refine ko_steps mi_in117 2 _ (45, [(7, .ref 104), (6, .ref 110), (0, .ref 0), (1, .int x1), (2, .int x2), (3, .int x3), (4, .int x4), (5, .int x5)], [.int (i 6656)], (0, 0), ks i a q r) (by rfl) ?_
            refine ft_ifS mi_k117 ((i 6656) != 0) 51 48 [] (by rfl) (fun c => ?_) (fun c => ?_)
            ·
              have c336 : (i 6656).toInt ≠ (0 : Int32).toInt := kd_ne c; clear c
              first | refine fo_goS mi_k117 fz117_51_3_57 [.int 2, .int (i 7040)] (by rfl) ?_ | refine ft_go mi_k117 3 57 [(7, .ref 104), (6, .ref 110), (0, .ref 0), (1, .int x1), (2, .int x2), (3, .int x3), (4, .int x4), (5, .int x5)] [.int 2, .int (i 7040)] i a q r (by rfl) ?_ | refine ko_steps mi_in117 3 _ (57, [(7, .ref 104), (6, .ref 110), (0, .ref 0), (1, .int x1), (2, .int x2), (3, .int x3), (4, .int x4), (5, .int x5)], [.int 2, .int (i 7040)], (0, 0), ks i a q r) (by rfl) ?_
              refine ft_ifS mi_k117 ((i 7040) != 2) 82 60 [] (by rfl) (fun c => ?_) (fun c => ?_)
              ·
                have c337 : (i 7040).toInt ≠ (2 : Int32).toInt := kd_ne c; clear c
                first | refine fo_goS mi_k117 fz117_82_1_84 [.int (-12)] (by rfl) ?_ | refine ft_go mi_k117 1 84 [(7, .ref 104), (6, .ref 110), (0, .ref 0), (1, .int x1), (2, .int x2), (3, .int x3), (4, .int x4), (5, .int x5)] [.int (-12)] i a q r (by rfl) ?_ | refine ko_steps mi_in117 1 _ (84, [(7, .ref 104), (6, .ref 110), (0, .ref 0), (1, .int x1), (2, .int x2), (3, .int x3), (4, .int x4), (5, .int x5)], [.int (-12)], (0, 0), ks i a q r) (by rfl) ?_
                have fi_7042 : ((0 : Int) ≤ (i 7042).toInt) ∧ ((i 7042).toInt ≤ 4) := hG.I.1 7042
                have fi_6658 : ((0 : Int) ≤ (i 6658).toInt) ∧ ((i 6658).toInt ≤ 4) := hG.I.1 6658
                have fi_7043 : ((0 : Int) ≤ (i 7043).toInt) ∧ ((i 7043).toInt ≤ 60) := hG.I.1 7043
                have fi_6659 : ((0 : Int) ≤ (i 6659).toInt) ∧ ((i 6659).toInt ≤ 60) := hG.I.1 6659
                exact ft_ret mi_k117 (by rfl) (hP (-12) _ _ _ _ hG ⟨trivial, ⟨fun s t hs ht e1 e3 => by
        have es : s = 3 := kj_at e1 (oy142 w332)
        have et : t = 0 := kj_at e3 (oy107 w333 z4.1)
        subst es
        subst et
        exact ⟨(Or.inr (Or.inl ⟨kym12, (oy151 c335 c336 fi_6656.1 fi_7040.1 ky0), (oy130 c337 fi_7040.2 ky2)⟩)), fun h => absurd h (kj_neg kym12 (by decide))⟩, fun _ => (fun u hu => match u, hu with | 0, _ => rfl | 1, _ => rfl | 2, _ => rfl | 3, _ => rfl | 4, _ => rfl | 5, _ => rfl | _ + 6, h => absurd h (by omega)), fun h => absurd (oy166 w332 z2.2 z4.1 z4.2) h⟩⟩)
              ·
                have c338 : (i 7040).toInt = (2 : Int32).toInt := kd_neF c; clear c
                first | refine fo_goL mi_k117 fz117_60_3_66 [(7, .ref 104), (6, .ref 110), (0, .ref 0), (1, .int x1), (2, .int x2), (3, .int x3), (4, .int x4), (5, .int x5)] [.int 2, .int (i 6656)] (by rfl) ?_ | refine ft_go mi_k117 3 66 [(7, .ref 104), (6, .ref 110), (0, .ref 0), (1, .int x1), (2, .int x2), (3, .int x3), (4, .int x4), (5, .int x5)] [.int 2, .int (i 6656)] i a q r (by rfl) ?_ | refine ko_steps mi_in117 3 _ (66, [(7, .ref 104), (6, .ref 110), (0, .ref 0), (1, .int x1), (2, .int x2), (3, .int x3), (4, .int x4), (5, .int x5)], [.int 2, .int (i 6656)], (0, 0), ks i a q r) (by rfl) ?_
                refine ft_ifS mi_k117 ((i 6656) != 2) 82 69 [] (by rfl) (fun c => ?_) (fun c => ?_)
                ·
                  have c339 : (i 6656).toInt ≠ (2 : Int32).toInt := kd_ne c; clear c
                  first | refine fo_goS mi_k117 fz117_82_1_84 [.int (-12)] (by rfl) ?_ | refine ft_go mi_k117 1 84 [(7, .ref 104), (6, .ref 110), (0, .ref 0), (1, .int x1), (2, .int x2), (3, .int x3), (4, .int x4), (5, .int x5)] [.int (-12)] i a q r (by rfl) ?_ | refine ko_steps mi_in117 1 _ (84, [(7, .ref 104), (6, .ref 110), (0, .ref 0), (1, .int x1), (2, .int x2), (3, .int x3), (4, .int x4), (5, .int x5)], [.int (-12)], (0, 0), ks i a q r) (by rfl) ?_
                  have fi_7042 : ((0 : Int) ≤ (i 7042).toInt) ∧ ((i 7042).toInt ≤ 4) := hG.I.1 7042
                  have fi_6658 : ((0 : Int) ≤ (i 6658).toInt) ∧ ((i 6658).toInt ≤ 4) := hG.I.1 6658
                  have fi_7043 : ((0 : Int) ≤ (i 7043).toInt) ∧ ((i 7043).toInt ≤ 60) := hG.I.1 7043
                  have fi_6659 : ((0 : Int) ≤ (i 6659).toInt) ∧ ((i 6659).toInt ≤ 60) := hG.I.1 6659
                  exact ft_ret mi_k117 (by rfl) (hP (-12) _ _ _ _ hG ⟨trivial, ⟨fun s t hs ht e1 e3 => by
        have es : s = 3 := kj_at e1 (oy142 w332)
        have et : t = 0 := kj_at e3 (oy107 w333 z4.1)
        subst es
        subst et
        exact ⟨(Or.inr (Or.inl ⟨kym12, (oy131 c336 c338 fi_6656.1 ky0 ky2), (oy132 c339 fi_6656.2 ky2)⟩)), fun h => absurd h (kj_neg kym12 (by decide))⟩, fun _ => (fun u hu => match u, hu with | 0, _ => rfl | 1, _ => rfl | 2, _ => rfl | 3, _ => rfl | 4, _ => rfl | 5, _ => rfl | _ + 6, h => absurd h (by omega)), fun h => absurd (oy166 w332 z2.2 z4.1 z4.2) h⟩⟩)
                ·
                  have c340 : (i 6656).toInt = (2 : Int32).toInt := kd_neF c; clear c
                  have fi_7042 : ((0 : Int) ≤ (i 7042).toInt) ∧ ((i 7042).toInt ≤ 4) := hG.I.1 7042
                  have fi_6658 : ((0 : Int) ≤ (i 6658).toInt) ∧ ((i 6658).toInt ≤ 4) := hG.I.1 6658
                  first | refine fo_goL mi_k117 fz117_69_4_79 [(7, .ref 104), (6, .ref 110), (0, .ref 0), (1, .int x1), (2, .int x2), (3, .int x3), (4, .int x4), (5, .int x5)] [.int (i 6658), .int (i 7042)] (by rfl) ?_ | refine ft_go mi_k117 4 79 [(7, .ref 104), (6, .ref 110), (0, .ref 0), (1, .int x1), (2, .int x2), (3, .int x3), (4, .int x4), (5, .int x5)] [.int (i 6658), .int (i 7042)] i a q r (by rfl) ?_ | refine ko_steps mi_in117 4 _ (79, [(7, .ref 104), (6, .ref 110), (0, .ref 0), (1, .int x1), (2, .int x2), (3, .int x3), (4, .int x4), (5, .int x5)], [.int (i 6658), .int (i 7042)], (0, 0), ks i a q r) (by rfl) ?_
                  refine ft_ifS mi_k117 ((i 7042) == (i 6658)) 85 82 [] (by rfl) (fun c => ?_) (fun c => ?_)
                  ·
                    have c341 : (i 7042).toInt = (i 6658).toInt := kd_eq c; clear c
                    first | refine fo_goS mi_k117 fz117_85_3_90 [.int x5, .int x2, .ref 110] (by rfl) ?_ | refine ft_go mi_k117 3 90 [(7, .ref 104), (6, .ref 110), (0, .ref 0), (1, .int x1), (2, .int x2), (3, .int x3), (4, .int x4), (5, .int x5)] [.int x5, .int x2, .ref 110] i a q r (by rfl) ?_ | refine ko_steps mi_in117 3 _ (90, [(7, .ref 104), (6, .ref 110), (0, .ref 0), (1, .int x1), (2, .int x2), (3, .int x3), (4, .int x4), (5, .int x5)], [.int x5, .int x2, .ref 110], (0, 0), ks i a q r) (by rfl) ?_
                    refine ko_callPI mi_k117.1 (pc := 90) (ls := [(7, .ref 104), (6, .ref 110), (0, .ref 0), (1, .int x1), (2, .int x2), (3, .int x3), (4, .int x4), (5, .int x5)]) (st := [.int x5, .int x2, .ref 110]) (h := ks i a q r) (i := (.invokevirtual 324, 3, 37, 0, 9, 0, 316)) (mi_k117.2 _ _ (by rfl)) (ft_invS mi_pq37 (by rfl)) (cy := mi_c37) mi_pq37 rfl (kc37_110 hG.I hG.R x2 x5) (by decide) ?_
                    intro vg342 hg342
                    rcases hg342 with ⟨eg342, hg342⟩ | ⟨eg342, hg342⟩
                    ·
                      subst eg342
                      have fi_7043 : ((0 : Int) ≤ (i 7043).toInt) ∧ ((i 7043).toInt ≤ 60) := hG.I.1 7043
                      have z343 : ((0 : Int) ≤ x5.toInt) ∧ (x5.toInt ≤ (i 7043).toInt) ∧ ((0 : Int) ≤ x2.toInt) ∧ ((x2.toInt + x5.toInt) ≤ (i 7043).toInt) := hg342
                      first | refine fo_goS mi_k117 fz117_93_4_102 [.int x5, .int x4, .ref 104] (by rfl) ?_ | refine ft_go mi_k117 4 102 [(7, .ref 104), (6, .ref 110), (0, .ref 0), (1, .int x1), (2, .int x2), (3, .int x3), (4, .int x4), (5, .int x5)] [.int x5, .int x4, .ref 104] i a q r (by rfl) ?_ | refine ko_steps mi_in117 4 _ (102, [(7, .ref 104), (6, .ref 110), (0, .ref 0), (1, .int x1), (2, .int x2), (3, .int x3), (4, .int x4), (5, .int x5)], [.int x5, .int x4, .ref 104], (0, 0), ks i a q r) (by rfl) ?_
                      refine ko_callPI mi_k117.1 (pc := 102) (ls := [(7, .ref 104), (6, .ref 110), (0, .ref 0), (1, .int x1), (2, .int x2), (3, .int x3), (4, .int x4), (5, .int x5)]) (st := [.int x5, .int x4, .ref 104]) (h := ks i a q r) (i := (.invokevirtual 324, 3, 37, 0, 9, 0, 316)) (mi_k117.2 _ _ (by rfl)) (ft_invS mi_pq37 (by rfl)) (cy := mi_c37) mi_pq37 rfl (kc37_104 hG.I hG.R x4 x5) (by decide) ?_
                      intro vg344 hg344
                      rcases hg344 with ⟨eg344, hg344⟩ | ⟨eg344, hg344⟩
                      ·
                        subst eg344
                        have fi_6659 : ((0 : Int) ≤ (i 6659).toInt) ∧ ((i 6659).toInt ≤ 60) := hG.I.1 6659
                        have z345 : ((0 : Int) ≤ x5.toInt) ∧ (x5.toInt ≤ (i 6659).toInt) ∧ ((0 : Int) ≤ x4.toInt) ∧ ((x4.toInt + x5.toInt) ≤ (i 6659).toInt) := hg344
                        first | refine fo_goS mi_k117 fz117_105_8_126 [.int x5, .int x4, .ref 105, .int x2, .ref 111] (by rfl) ?_ | refine ft_go mi_k117 8 126 [(7, .ref 104), (6, .ref 110), (0, .ref 0), (1, .int x1), (2, .int x2), (3, .int x3), (4, .int x4), (5, .int x5)] [.int x5, .int x4, .ref 105, .int x2, .ref 111] i a q r (by rfl) ?_ | refine ko_steps mi_in117 8 _ (126, [(7, .ref 104), (6, .ref 110), (0, .ref 0), (1, .int x1), (2, .int x2), (3, .int x3), (4, .int x4), (5, .int x5)], [.int x5, .int x4, .ref 105, .int x2, .ref 111], (0, 0), ks i a q r) (by rfl) ?_
                        have hJ346 := kG_q hG 105 rfl (z := mi_cpy (q 111) (q 105) x2.toNatClampNeg x4.toNatClampNeg x5.toNatClampNeg) (kcpy_len2 (n := 60) (c := 60) (m := 60) (b := 60) (sp := x2) (dp := x4) (n1 := x5) (hG.I.2.2.2 111) rfl (hG.I.2.2.2 105) rfl (oy3 z343.1) (oy3 z343.2.2.1) (oy3 z345.2.2.1) (oy119 fi_7043.2 z343.2.2.2) (oy119 fi_6659.2 z345.2.2.2))
                        refine ko_copyL2 mi_k117.1 (l := q 111) (g := q 105) (n := 60) (c := 60) (m := 60) (b := 60) (mi_k117.2 _ _ (by rfl)) (by rfl) (by rfl) (by rfl) (by rfl) (by rfl) (hG.I.2.2.2 111) rfl (hG.I.2.2.2 105) rfl (oy3 z343.1) (oy3 z343.2.2.1) (oy3 z345.2.2.1) (oy119 fi_7043.2 z343.2.2.2) (oy119 fi_6659.2 z345.2.2.2) (h5 := ks i a (ku q 105 (mi_cpy (q 111) (q 105) x2.toNatClampNeg x4.toNatClampNeg x5.toNatClampNeg)) r) (by rfl) ?_
                        first | refine fo_goS mi_k117 fz117_129_1_131 [.int x5] (by rfl) ?_ | refine ft_go mi_k117 1 131 [(7, .ref 104), (6, .ref 110), (0, .ref 0), (1, .int x1), (2, .int x2), (3, .int x3), (4, .int x4), (5, .int x5)] [.int x5] i a (ku q 105 (mi_cpy (q 111) (q 105) x2.toNatClampNeg x4.toNatClampNeg x5.toNatClampNeg)) r (by rfl) ?_ | refine ko_steps mi_in117 1 _ (131, [(7, .ref 104), (6, .ref 110), (0, .ref 0), (1, .int x1), (2, .int x2), (3, .int x3), (4, .int x4), (5, .int x5)], [.int x5], (0, 0), ks i a (ku q 105 (mi_cpy (q 111) (q 105) x2.toNatClampNeg x4.toNatClampNeg x5.toNatClampNeg)) r) (by rfl) ?_
                        exact ft_ret mi_k117 (by rfl) (hP x5 _ _ _ _ hJ346 ⟨trivial, ⟨fun s t hs ht e1 e3 => by
        have es : s = 3 := kj_at e1 (oy142 w332)
        have et : t = 0 := kj_at e3 (oy107 w333 z4.1)
        subst es
        subst et
        exact ⟨(Or.inr (Or.inr (Or.inr ⟨rfl, (oy152 c338 c340 c341 fi_6656.2 fi_7040.2 ky2), (oy134 z343.1 z343.2.2.1 z343.2.2.2 z345.2.2.1 z345.2.2.2)⟩))), fun _ => ⟨rfl, (fun u hu ne => match u, hu, ne with | 0, _, ne => absurd rfl ne | 1, _, _ => rfl | 2, _, _ => rfl | 3, _, _ => rfl | 4, _, _ => rfl | 5, _, _ => rfl | _ + 6, h, _ => absurd h (by omega))⟩⟩, fun h => absurd h (oy26 z343.1), fun h => absurd (oy166 w332 z2.2 z4.1 z4.2) h⟩⟩)
                      ·
                        subst eg344
                        have fi_6659 : ((0 : Int) ≤ (i 6659).toInt) ∧ ((i 6659).toInt ≤ 60) := hG.I.1 6659
                        have z347 : ¬ (((0 : Int) ≤ x5.toInt) ∧ (x5.toInt ≤ (i 6659).toInt) ∧ ((0 : Int) ≤ x4.toInt) ∧ ((x4.toInt + x5.toInt) ≤ (i 6659).toInt)) := hg344
                        first | refine fo_goL mi_k117 fz117_93_2_110 [(7, .ref 104), (6, .ref 110), (0, .ref 0), (1, .int x1), (2, .int x2), (3, .int x3), (4, .int x4), (5, .int x5)] [.int (-13)] (by rfl) ?_ | refine fo_goL mi_k117 fz117_105_2_110 [(7, .ref 104), (6, .ref 110), (0, .ref 0), (1, .int x1), (2, .int x2), (3, .int x3), (4, .int x4), (5, .int x5)] [.int (-13)] (by rfl) ?_ | refine ft_go mi_k117 2 110 [(7, .ref 104), (6, .ref 110), (0, .ref 0), (1, .int x1), (2, .int x2), (3, .int x3), (4, .int x4), (5, .int x5)] [.int (-13)] i a q r (by rfl) ?_ | refine ko_steps mi_in117 2 _ (110, [(7, .ref 104), (6, .ref 110), (0, .ref 0), (1, .int x1), (2, .int x2), (3, .int x3), (4, .int x4), (5, .int x5)], [.int (-13)], (0, 0), ks i a q r) (by rfl) ?_
                        exact ft_ret mi_k117 (by rfl) (hP (-13) _ _ _ _ hG ⟨trivial, ⟨fun s t hs ht e1 e3 => by
        have es : s = 3 := kj_at e1 (oy142 w332)
        have et : t = 0 := kj_at e3 (oy107 w333 z4.1)
        subst es
        subst et
        exact ⟨(Or.inr (Or.inr (Or.inl ⟨kym13, (oy152 c338 c340 c341 fi_6656.2 fi_7040.2 ky2), (oy135 z343.1 z347)⟩))), fun h => absurd h (kj_neg kym13 (by decide))⟩, fun _ => (fun u hu => match u, hu with | 0, _ => rfl | 1, _ => rfl | 2, _ => rfl | 3, _ => rfl | 4, _ => rfl | 5, _ => rfl | _ + 6, h => absurd h (by omega)), fun h => absurd (oy166 w332 z2.2 z4.1 z4.2) h⟩⟩)
                    ·
                      subst eg342
                      have fi_7043 : ((0 : Int) ≤ (i 7043).toInt) ∧ ((i 7043).toInt ≤ 60) := hG.I.1 7043
                      have z348 : ¬ (((0 : Int) ≤ x5.toInt) ∧ (x5.toInt ≤ (i 7043).toInt) ∧ ((0 : Int) ≤ x2.toInt) ∧ ((x2.toInt + x5.toInt) ≤ (i 7043).toInt)) := hg342
                      first | refine fo_goL mi_k117 fz117_93_2_110 [(7, .ref 104), (6, .ref 110), (0, .ref 0), (1, .int x1), (2, .int x2), (3, .int x3), (4, .int x4), (5, .int x5)] [.int (-13)] (by rfl) ?_ | refine fo_goL mi_k117 fz117_105_2_110 [(7, .ref 104), (6, .ref 110), (0, .ref 0), (1, .int x1), (2, .int x2), (3, .int x3), (4, .int x4), (5, .int x5)] [.int (-13)] (by rfl) ?_ | refine ft_go mi_k117 2 110 [(7, .ref 104), (6, .ref 110), (0, .ref 0), (1, .int x1), (2, .int x2), (3, .int x3), (4, .int x4), (5, .int x5)] [.int (-13)] i a q r (by rfl) ?_ | refine ko_steps mi_in117 2 _ (110, [(7, .ref 104), (6, .ref 110), (0, .ref 0), (1, .int x1), (2, .int x2), (3, .int x3), (4, .int x4), (5, .int x5)], [.int (-13)], (0, 0), ks i a q r) (by rfl) ?_
                      have fi_6659 : ((0 : Int) ≤ (i 6659).toInt) ∧ ((i 6659).toInt ≤ 60) := hG.I.1 6659
                      exact ft_ret mi_k117 (by rfl) (hP (-13) _ _ _ _ hG ⟨trivial, ⟨fun s t hs ht e1 e3 => by
        have es : s = 3 := kj_at e1 (oy142 w332)
        have et : t = 0 := kj_at e3 (oy107 w333 z4.1)
        subst es
        subst et
        exact ⟨(Or.inr (Or.inr (Or.inl ⟨kym13, (oy152 c338 c340 c341 fi_6656.2 fi_7040.2 ky2), (oy136 z348)⟩))), fun h => absurd h (kj_neg kym13 (by decide))⟩, fun _ => (fun u hu => match u, hu with | 0, _ => rfl | 1, _ => rfl | 2, _ => rfl | 3, _ => rfl | 4, _ => rfl | 5, _ => rfl | _ + 6, h => absurd h (by omega)), fun h => absurd (oy166 w332 z2.2 z4.1 z4.2) h⟩⟩)
                  ·
                    have c349 : (i 7042).toInt ≠ (i 6658).toInt := kd_eqF c; clear c
                    first | refine fo_goL mi_k117 fz117_82_1_84 [(7, .ref 104), (6, .ref 110), (0, .ref 0), (1, .int x1), (2, .int x2), (3, .int x3), (4, .int x4), (5, .int x5)] [.int (-12)] (by rfl) ?_ | refine ft_go mi_k117 1 84 [(7, .ref 104), (6, .ref 110), (0, .ref 0), (1, .int x1), (2, .int x2), (3, .int x3), (4, .int x4), (5, .int x5)] [.int (-12)] i a q r (by rfl) ?_ | refine ko_steps mi_in117 1 _ (84, [(7, .ref 104), (6, .ref 110), (0, .ref 0), (1, .int x1), (2, .int x2), (3, .int x3), (4, .int x4), (5, .int x5)], [.int (-12)], (0, 0), ks i a q r) (by rfl) ?_
                    have fi_7043 : ((0 : Int) ≤ (i 7043).toInt) ∧ ((i 7043).toInt ≤ 60) := hG.I.1 7043
                    have fi_6659 : ((0 : Int) ≤ (i 6659).toInt) ∧ ((i 6659).toInt ≤ 60) := hG.I.1 6659
                    exact ft_ret mi_k117 (by rfl) (hP (-12) _ _ _ _ hG ⟨trivial, ⟨fun s t hs ht e1 e3 => by
        have es : s = 3 := kj_at e1 (oy142 w332)
        have et : t = 0 := kj_at e3 (oy107 w333 z4.1)
        subst es
        subst et
        exact ⟨(Or.inr (Or.inl ⟨kym12, (oy137 c338 c340 ky2), (oy138 c349)⟩)), fun h => absurd h (kj_neg kym12 (by decide))⟩, fun _ => (fun u hu => match u, hu with | 0, _ => rfl | 1, _ => rfl | 2, _ => rfl | 3, _ => rfl | 4, _ => rfl | 5, _ => rfl | _ + 6, h => absurd h (by omega)), fun h => absurd (oy166 w332 z2.2 z4.1 z4.2) h⟩⟩)
            ·
              have c350 : (i 6656).toInt = (0 : Int32).toInt := kd_neF c; clear c
              first | refine fo_goL mi_k117 fz117_48_1_50 [(7, .ref 104), (6, .ref 110), (0, .ref 0), (1, .int x1), (2, .int x2), (3, .int x3), (4, .int x4), (5, .int x5)] [.int (-11)] (by rfl) ?_ | refine ft_go mi_k117 1 50 [(7, .ref 104), (6, .ref 110), (0, .ref 0), (1, .int x1), (2, .int x2), (3, .int x3), (4, .int x4), (5, .int x5)] [.int (-11)] i a q r (by rfl) ?_ | refine ko_steps mi_in117 1 _ (50, [(7, .ref 104), (6, .ref 110), (0, .ref 0), (1, .int x1), (2, .int x2), (3, .int x3), (4, .int x4), (5, .int x5)], [.int (-11)], (0, 0), ks i a q r) (by rfl) ?_
              have fi_7042 : ((0 : Int) ≤ (i 7042).toInt) ∧ ((i 7042).toInt ≤ 4) := hG.I.1 7042
              have fi_6658 : ((0 : Int) ≤ (i 6658).toInt) ∧ ((i 6658).toInt ≤ 4) := hG.I.1 6658
              have fi_7043 : ((0 : Int) ≤ (i 7043).toInt) ∧ ((i 7043).toInt ≤ 60) := hG.I.1 7043
              have fi_6659 : ((0 : Int) ≤ (i 6659).toInt) ∧ ((i 6659).toInt ≤ 60) := hG.I.1 6659
              exact ft_ret mi_k117 (by rfl) (hP (-11) _ _ _ _ hG ⟨trivial, ⟨fun s t hs ht e1 e3 => by
        have es : s = 3 := kj_at e1 (oy142 w332)
        have et : t = 0 := kj_at e3 (oy107 w333 z4.1)
        subst es
        subst et
        exact ⟨(Or.inl ⟨kym11, (oy139 c350 fi_6656.1 ky0)⟩), fun h => absurd h (kj_neg kym11 (by decide))⟩, fun _ => (fun u hu => match u, hu with | 0, _ => rfl | 1, _ => rfl | 2, _ => rfl | 3, _ => rfl | 4, _ => rfl | 5, _ => rfl | _ + 6, h => absurd h (by omega)), fun h => absurd (oy166 w332 z2.2 z4.1 z4.2) h⟩⟩)
        by_cases w351 : x3.toInt = 1
        ·
          refine ko_eq (x1 := (29, [(6, .ref 110), (0, .ref 0), (1, .int x1), (2, .int x2), (3, .int x3), (4, .int x4), (5, .int x5)], [.int 1, .ref 97], (0, 0), ks i a q r)) (by rw [(kj_eq w351 (by decide) : x3 = 1)]) ?_
          have fi_7040 : ((0 : Int) ≤ (i 7040).toInt) ∧ ((i 7040).toInt ≤ 2) := hG.I.1 7040
          first | refine ft_goL mi_k117 4 37 [(7, .ref 106), (6, .ref 110), (0, .ref 0), (1, .int x1), (2, .int x2), (3, .int x3), (4, .int x4), (5, .int x5)] [.int (i 7040)] (by rfl) ?_ | refine ft_go mi_k117 4 37 [(7, .ref 106), (6, .ref 110), (0, .ref 0), (1, .int x1), (2, .int x2), (3, .int x3), (4, .int x4), (5, .int x5)] [.int (i 7040)] i a q r (by rfl) ?_ | refine ko_steps mi_in117 4 _ (37, [(7, .ref 106), (6, .ref 110), (0, .ref 0), (1, .int x1), (2, .int x2), (3, .int x3), (4, .int x4), (5, .int x5)], [.int (i 7040)], (0, 0), ks i a q r) (by rfl) ?_
          refine ft_ifS mi_k117 ((i 7040) == 0) 48 40 [] (by rfl) (fun c => ?_) (fun c => ?_)
          ·
            have c352 : (i 7040).toInt = (0 : Int32).toInt := kd_eq c; clear c
            first | refine fo_goS mi_k117 fz117_48_1_50 [.int (-11)] (by rfl) ?_ | refine ft_go mi_k117 1 50 [(7, .ref 106), (6, .ref 110), (0, .ref 0), (1, .int x1), (2, .int x2), (3, .int x3), (4, .int x4), (5, .int x5)] [.int (-11)] i a q r (by rfl) ?_ | refine ko_steps mi_in117 1 _ (50, [(7, .ref 106), (6, .ref 110), (0, .ref 0), (1, .int x1), (2, .int x2), (3, .int x3), (4, .int x4), (5, .int x5)], [.int (-11)], (0, 0), ks i a q r) (by rfl) ?_
            have fi_6784 : ((0 : Int) ≤ (i 6784).toInt) ∧ ((i 6784).toInt ≤ 2) := hG.I.1 6784
            have fi_7042 : ((0 : Int) ≤ (i 7042).toInt) ∧ ((i 7042).toInt ≤ 4) := hG.I.1 7042
            have fi_6786 : ((0 : Int) ≤ (i 6786).toInt) ∧ ((i 6786).toInt ≤ 4) := hG.I.1 6786
            have fi_7043 : ((0 : Int) ≤ (i 7043).toInt) ∧ ((i 7043).toInt ≤ 60) := hG.I.1 7043
            have fi_6787 : ((0 : Int) ≤ (i 6787).toInt) ∧ ((i 6787).toInt ≤ 60) := hG.I.1 6787
            exact ft_ret mi_k117 (by rfl) (hP (-11) _ _ _ _ hG ⟨trivial, ⟨fun s t hs ht e1 e3 => by
        have es : s = 3 := kj_at e1 (oy142 w332)
        have et : t = 1 := kj_at e3 (oy126 w351)
        subst es
        subst et
        exact ⟨(Or.inl ⟨kym11, (oy127 c352 fi_7040.1 ky0)⟩), fun h => absurd h (kj_neg kym11 (by decide))⟩, fun _ => (fun u hu => match u, hu with | 0, _ => rfl | 1, _ => rfl | 2, _ => rfl | 3, _ => rfl | 4, _ => rfl | 5, _ => rfl | _ + 6, h => absurd h (by omega)), fun h => absurd (oy167 w332 w351 z2.2 z4.2) h⟩⟩)
          ·
            have c353 : (i 7040).toInt ≠ (0 : Int32).toInt := kd_eqF c; clear c
            have fi_6784 : ((0 : Int) ≤ (i 6784).toInt) ∧ ((i 6784).toInt ≤ 2) := hG.I.1 6784
            first | refine fo_goL mi_k117 fz117_40_2_45 [(7, .ref 106), (6, .ref 110), (0, .ref 0), (1, .int x1), (2, .int x2), (3, .int x3), (4, .int x4), (5, .int x5)] [.int (i 6784)] (by rfl) ?_ | refine ft_go mi_k117 2 45 [(7, .ref 106), (6, .ref 110), (0, .ref 0), (1, .int x1), (2, .int x2), (3, .int x3), (4, .int x4), (5, .int x5)] [.int (i 6784)] i a q r (by rfl) ?_ | refine ko_steps mi_in117 2 _ (45, [(7, .ref 106), (6, .ref 110), (0, .ref 0), (1, .int x1), (2, .int x2), (3, .int x3), (4, .int x4), (5, .int x5)], [.int (i 6784)], (0, 0), ks i a q r) (by rfl) ?_
            refine ft_ifS mi_k117 ((i 6784) != 0) 51 48 [] (by rfl) (fun c => ?_) (fun c => ?_)
            ·
              have c354 : (i 6784).toInt ≠ (0 : Int32).toInt := kd_ne c; clear c
              first | refine fo_goS mi_k117 fz117_51_3_57 [.int 2, .int (i 7040)] (by rfl) ?_ | refine ft_go mi_k117 3 57 [(7, .ref 106), (6, .ref 110), (0, .ref 0), (1, .int x1), (2, .int x2), (3, .int x3), (4, .int x4), (5, .int x5)] [.int 2, .int (i 7040)] i a q r (by rfl) ?_ | refine ko_steps mi_in117 3 _ (57, [(7, .ref 106), (6, .ref 110), (0, .ref 0), (1, .int x1), (2, .int x2), (3, .int x3), (4, .int x4), (5, .int x5)], [.int 2, .int (i 7040)], (0, 0), ks i a q r) (by rfl) ?_
              refine ft_ifS mi_k117 ((i 7040) != 2) 82 60 [] (by rfl) (fun c => ?_) (fun c => ?_)
              ·
                have c355 : (i 7040).toInt ≠ (2 : Int32).toInt := kd_ne c; clear c
                first | refine fo_goS mi_k117 fz117_82_1_84 [.int (-12)] (by rfl) ?_ | refine ft_go mi_k117 1 84 [(7, .ref 106), (6, .ref 110), (0, .ref 0), (1, .int x1), (2, .int x2), (3, .int x3), (4, .int x4), (5, .int x5)] [.int (-12)] i a q r (by rfl) ?_ | refine ko_steps mi_in117 1 _ (84, [(7, .ref 106), (6, .ref 110), (0, .ref 0), (1, .int x1), (2, .int x2), (3, .int x3), (4, .int x4), (5, .int x5)], [.int (-12)], (0, 0), ks i a q r) (by rfl) ?_
                have fi_7042 : ((0 : Int) ≤ (i 7042).toInt) ∧ ((i 7042).toInt ≤ 4) := hG.I.1 7042
                have fi_6786 : ((0 : Int) ≤ (i 6786).toInt) ∧ ((i 6786).toInt ≤ 4) := hG.I.1 6786
                have fi_7043 : ((0 : Int) ≤ (i 7043).toInt) ∧ ((i 7043).toInt ≤ 60) := hG.I.1 7043
                have fi_6787 : ((0 : Int) ≤ (i 6787).toInt) ∧ ((i 6787).toInt ≤ 60) := hG.I.1 6787
                exact ft_ret mi_k117 (by rfl) (hP (-12) _ _ _ _ hG ⟨trivial, ⟨fun s t hs ht e1 e3 => by
        have es : s = 3 := kj_at e1 (oy142 w332)
        have et : t = 1 := kj_at e3 (oy126 w351)
        subst es
        subst et
        exact ⟨(Or.inr (Or.inl ⟨kym12, (oy151 c353 c354 fi_6784.1 fi_7040.1 ky0), (oy130 c355 fi_7040.2 ky2)⟩)), fun h => absurd h (kj_neg kym12 (by decide))⟩, fun _ => (fun u hu => match u, hu with | 0, _ => rfl | 1, _ => rfl | 2, _ => rfl | 3, _ => rfl | 4, _ => rfl | 5, _ => rfl | _ + 6, h => absurd h (by omega)), fun h => absurd (oy167 w332 w351 z2.2 z4.2) h⟩⟩)
              ·
                have c356 : (i 7040).toInt = (2 : Int32).toInt := kd_neF c; clear c
                first | refine fo_goL mi_k117 fz117_60_3_66 [(7, .ref 106), (6, .ref 110), (0, .ref 0), (1, .int x1), (2, .int x2), (3, .int x3), (4, .int x4), (5, .int x5)] [.int 2, .int (i 6784)] (by rfl) ?_ | refine ft_go mi_k117 3 66 [(7, .ref 106), (6, .ref 110), (0, .ref 0), (1, .int x1), (2, .int x2), (3, .int x3), (4, .int x4), (5, .int x5)] [.int 2, .int (i 6784)] i a q r (by rfl) ?_ | refine ko_steps mi_in117 3 _ (66, [(7, .ref 106), (6, .ref 110), (0, .ref 0), (1, .int x1), (2, .int x2), (3, .int x3), (4, .int x4), (5, .int x5)], [.int 2, .int (i 6784)], (0, 0), ks i a q r) (by rfl) ?_
                refine ft_ifS mi_k117 ((i 6784) != 2) 82 69 [] (by rfl) (fun c => ?_) (fun c => ?_)
                ·
                  have c357 : (i 6784).toInt ≠ (2 : Int32).toInt := kd_ne c; clear c
                  first | refine fo_goS mi_k117 fz117_82_1_84 [.int (-12)] (by rfl) ?_ | refine ft_go mi_k117 1 84 [(7, .ref 106), (6, .ref 110), (0, .ref 0), (1, .int x1), (2, .int x2), (3, .int x3), (4, .int x4), (5, .int x5)] [.int (-12)] i a q r (by rfl) ?_ | refine ko_steps mi_in117 1 _ (84, [(7, .ref 106), (6, .ref 110), (0, .ref 0), (1, .int x1), (2, .int x2), (3, .int x3), (4, .int x4), (5, .int x5)], [.int (-12)], (0, 0), ks i a q r) (by rfl) ?_
                  have fi_7042 : ((0 : Int) ≤ (i 7042).toInt) ∧ ((i 7042).toInt ≤ 4) := hG.I.1 7042
                  have fi_6786 : ((0 : Int) ≤ (i 6786).toInt) ∧ ((i 6786).toInt ≤ 4) := hG.I.1 6786
                  have fi_7043 : ((0 : Int) ≤ (i 7043).toInt) ∧ ((i 7043).toInt ≤ 60) := hG.I.1 7043
                  have fi_6787 : ((0 : Int) ≤ (i 6787).toInt) ∧ ((i 6787).toInt ≤ 60) := hG.I.1 6787
                  exact ft_ret mi_k117 (by rfl) (hP (-12) _ _ _ _ hG ⟨trivial, ⟨fun s t hs ht e1 e3 => by
        have es : s = 3 := kj_at e1 (oy142 w332)
        have et : t = 1 := kj_at e3 (oy126 w351)
        subst es
        subst et
        exact ⟨(Or.inr (Or.inl ⟨kym12, (oy131 c354 c356 fi_6784.1 ky0 ky2), (oy132 c357 fi_6784.2 ky2)⟩)), fun h => absurd h (kj_neg kym12 (by decide))⟩, fun _ => (fun u hu => match u, hu with | 0, _ => rfl | 1, _ => rfl | 2, _ => rfl | 3, _ => rfl | 4, _ => rfl | 5, _ => rfl | _ + 6, h => absurd h (by omega)), fun h => absurd (oy167 w332 w351 z2.2 z4.2) h⟩⟩)
                ·
                  have c358 : (i 6784).toInt = (2 : Int32).toInt := kd_neF c; clear c
                  have fi_7042 : ((0 : Int) ≤ (i 7042).toInt) ∧ ((i 7042).toInt ≤ 4) := hG.I.1 7042
                  have fi_6786 : ((0 : Int) ≤ (i 6786).toInt) ∧ ((i 6786).toInt ≤ 4) := hG.I.1 6786
                  first | refine fo_goL mi_k117 fz117_69_4_79 [(7, .ref 106), (6, .ref 110), (0, .ref 0), (1, .int x1), (2, .int x2), (3, .int x3), (4, .int x4), (5, .int x5)] [.int (i 6786), .int (i 7042)] (by rfl) ?_ | refine ft_go mi_k117 4 79 [(7, .ref 106), (6, .ref 110), (0, .ref 0), (1, .int x1), (2, .int x2), (3, .int x3), (4, .int x4), (5, .int x5)] [.int (i 6786), .int (i 7042)] i a q r (by rfl) ?_ | refine ko_steps mi_in117 4 _ (79, [(7, .ref 106), (6, .ref 110), (0, .ref 0), (1, .int x1), (2, .int x2), (3, .int x3), (4, .int x4), (5, .int x5)], [.int (i 6786), .int (i 7042)], (0, 0), ks i a q r) (by rfl) ?_
                  refine ft_ifS mi_k117 ((i 7042) == (i 6786)) 85 82 [] (by rfl) (fun c => ?_) (fun c => ?_)
                  ·
                    have c359 : (i 7042).toInt = (i 6786).toInt := kd_eq c; clear c
                    first | refine fo_goS mi_k117 fz117_85_3_90 [.int x5, .int x2, .ref 110] (by rfl) ?_ | refine ft_go mi_k117 3 90 [(7, .ref 106), (6, .ref 110), (0, .ref 0), (1, .int x1), (2, .int x2), (3, .int x3), (4, .int x4), (5, .int x5)] [.int x5, .int x2, .ref 110] i a q r (by rfl) ?_ | refine ko_steps mi_in117 3 _ (90, [(7, .ref 106), (6, .ref 110), (0, .ref 0), (1, .int x1), (2, .int x2), (3, .int x3), (4, .int x4), (5, .int x5)], [.int x5, .int x2, .ref 110], (0, 0), ks i a q r) (by rfl) ?_
                    refine ko_callPI mi_k117.1 (pc := 90) (ls := [(7, .ref 106), (6, .ref 110), (0, .ref 0), (1, .int x1), (2, .int x2), (3, .int x3), (4, .int x4), (5, .int x5)]) (st := [.int x5, .int x2, .ref 110]) (h := ks i a q r) (i := (.invokevirtual 324, 3, 37, 0, 9, 0, 316)) (mi_k117.2 _ _ (by rfl)) (ft_invS mi_pq37 (by rfl)) (cy := mi_c37) mi_pq37 rfl (kc37_110 hG.I hG.R x2 x5) (by decide) ?_
                    intro vg360 hg360
                    rcases hg360 with ⟨eg360, hg360⟩ | ⟨eg360, hg360⟩
                    ·
                      subst eg360
                      have fi_7043 : ((0 : Int) ≤ (i 7043).toInt) ∧ ((i 7043).toInt ≤ 60) := hG.I.1 7043
                      have z361 : ((0 : Int) ≤ x5.toInt) ∧ (x5.toInt ≤ (i 7043).toInt) ∧ ((0 : Int) ≤ x2.toInt) ∧ ((x2.toInt + x5.toInt) ≤ (i 7043).toInt) := hg360
                      first | refine fo_goS mi_k117 fz117_93_4_102 [.int x5, .int x4, .ref 106] (by rfl) ?_ | refine ft_go mi_k117 4 102 [(7, .ref 106), (6, .ref 110), (0, .ref 0), (1, .int x1), (2, .int x2), (3, .int x3), (4, .int x4), (5, .int x5)] [.int x5, .int x4, .ref 106] i a q r (by rfl) ?_ | refine ko_steps mi_in117 4 _ (102, [(7, .ref 106), (6, .ref 110), (0, .ref 0), (1, .int x1), (2, .int x2), (3, .int x3), (4, .int x4), (5, .int x5)], [.int x5, .int x4, .ref 106], (0, 0), ks i a q r) (by rfl) ?_
                      refine ko_callPI mi_k117.1 (pc := 102) (ls := [(7, .ref 106), (6, .ref 110), (0, .ref 0), (1, .int x1), (2, .int x2), (3, .int x3), (4, .int x4), (5, .int x5)]) (st := [.int x5, .int x4, .ref 106]) (h := ks i a q r) (i := (.invokevirtual 324, 3, 37, 0, 9, 0, 316)) (mi_k117.2 _ _ (by rfl)) (ft_invS mi_pq37 (by rfl)) (cy := mi_c37) mi_pq37 rfl (kc37_106 hG.I hG.R x4 x5) (by decide) ?_
                      intro vg362 hg362
                      rcases hg362 with ⟨eg362, hg362⟩ | ⟨eg362, hg362⟩
                      ·
                        subst eg362
                        have fi_6787 : ((0 : Int) ≤ (i 6787).toInt) ∧ ((i 6787).toInt ≤ 60) := hG.I.1 6787
                        have z363 : ((0 : Int) ≤ x5.toInt) ∧ (x5.toInt ≤ (i 6787).toInt) ∧ ((0 : Int) ≤ x4.toInt) ∧ ((x4.toInt + x5.toInt) ≤ (i 6787).toInt) := hg362
                        first | refine fo_goS mi_k117 fz117_105_8_126 [.int x5, .int x4, .ref 107, .int x2, .ref 111] (by rfl) ?_ | refine ft_go mi_k117 8 126 [(7, .ref 106), (6, .ref 110), (0, .ref 0), (1, .int x1), (2, .int x2), (3, .int x3), (4, .int x4), (5, .int x5)] [.int x5, .int x4, .ref 107, .int x2, .ref 111] i a q r (by rfl) ?_ | refine ko_steps mi_in117 8 _ (126, [(7, .ref 106), (6, .ref 110), (0, .ref 0), (1, .int x1), (2, .int x2), (3, .int x3), (4, .int x4), (5, .int x5)], [.int x5, .int x4, .ref 107, .int x2, .ref 111], (0, 0), ks i a q r) (by rfl) ?_
                        have hJ364 := kG_q hG 107 rfl (z := mi_cpy (q 111) (q 107) x2.toNatClampNeg x4.toNatClampNeg x5.toNatClampNeg) (kcpy_len2 (n := 60) (c := 60) (m := 60) (b := 60) (sp := x2) (dp := x4) (n1 := x5) (hG.I.2.2.2 111) rfl (hG.I.2.2.2 107) rfl (oy3 z361.1) (oy3 z361.2.2.1) (oy3 z363.2.2.1) (oy119 fi_7043.2 z361.2.2.2) (oy119 fi_6787.2 z363.2.2.2))
                        refine ko_copyL2 mi_k117.1 (l := q 111) (g := q 107) (n := 60) (c := 60) (m := 60) (b := 60) (mi_k117.2 _ _ (by rfl)) (by rfl) (by rfl) (by rfl) (by rfl) (by rfl) (hG.I.2.2.2 111) rfl (hG.I.2.2.2 107) rfl (oy3 z361.1) (oy3 z361.2.2.1) (oy3 z363.2.2.1) (oy119 fi_7043.2 z361.2.2.2) (oy119 fi_6787.2 z363.2.2.2) (h5 := ks i a (ku q 107 (mi_cpy (q 111) (q 107) x2.toNatClampNeg x4.toNatClampNeg x5.toNatClampNeg)) r) (by rfl) ?_
                        first | refine fo_goS mi_k117 fz117_129_1_131 [.int x5] (by rfl) ?_ | refine ft_go mi_k117 1 131 [(7, .ref 106), (6, .ref 110), (0, .ref 0), (1, .int x1), (2, .int x2), (3, .int x3), (4, .int x4), (5, .int x5)] [.int x5] i a (ku q 107 (mi_cpy (q 111) (q 107) x2.toNatClampNeg x4.toNatClampNeg x5.toNatClampNeg)) r (by rfl) ?_ | refine ko_steps mi_in117 1 _ (131, [(7, .ref 106), (6, .ref 110), (0, .ref 0), (1, .int x1), (2, .int x2), (3, .int x3), (4, .int x4), (5, .int x5)], [.int x5], (0, 0), ks i a (ku q 107 (mi_cpy (q 111) (q 107) x2.toNatClampNeg x4.toNatClampNeg x5.toNatClampNeg)) r) (by rfl) ?_
                        exact ft_ret mi_k117 (by rfl) (hP x5 _ _ _ _ hJ364 ⟨trivial, ⟨fun s t hs ht e1 e3 => by
        have es : s = 3 := kj_at e1 (oy142 w332)
        have et : t = 1 := kj_at e3 (oy126 w351)
        subst es
        subst et
        exact ⟨(Or.inr (Or.inr (Or.inr ⟨rfl, (oy152 c356 c358 c359 fi_6784.2 fi_7040.2 ky2), (oy134 z361.1 z361.2.2.1 z361.2.2.2 z363.2.2.1 z363.2.2.2)⟩))), fun _ => ⟨rfl, (fun u hu ne => match u, hu, ne with | 0, _, _ => rfl | 1, _, ne => absurd rfl ne | 2, _, _ => rfl | 3, _, _ => rfl | 4, _, _ => rfl | 5, _, _ => rfl | _ + 6, h, _ => absurd h (by omega))⟩⟩, fun h => absurd h (oy26 z361.1), fun h => absurd (oy167 w332 w351 z2.2 z4.2) h⟩⟩)
                      ·
                        subst eg362
                        have fi_6787 : ((0 : Int) ≤ (i 6787).toInt) ∧ ((i 6787).toInt ≤ 60) := hG.I.1 6787
                        have z365 : ¬ (((0 : Int) ≤ x5.toInt) ∧ (x5.toInt ≤ (i 6787).toInt) ∧ ((0 : Int) ≤ x4.toInt) ∧ ((x4.toInt + x5.toInt) ≤ (i 6787).toInt)) := hg362
                        first | refine fo_goL mi_k117 fz117_93_2_110 [(7, .ref 106), (6, .ref 110), (0, .ref 0), (1, .int x1), (2, .int x2), (3, .int x3), (4, .int x4), (5, .int x5)] [.int (-13)] (by rfl) ?_ | refine fo_goL mi_k117 fz117_105_2_110 [(7, .ref 106), (6, .ref 110), (0, .ref 0), (1, .int x1), (2, .int x2), (3, .int x3), (4, .int x4), (5, .int x5)] [.int (-13)] (by rfl) ?_ | refine ft_go mi_k117 2 110 [(7, .ref 106), (6, .ref 110), (0, .ref 0), (1, .int x1), (2, .int x2), (3, .int x3), (4, .int x4), (5, .int x5)] [.int (-13)] i a q r (by rfl) ?_ | refine ko_steps mi_in117 2 _ (110, [(7, .ref 106), (6, .ref 110), (0, .ref 0), (1, .int x1), (2, .int x2), (3, .int x3), (4, .int x4), (5, .int x5)], [.int (-13)], (0, 0), ks i a q r) (by rfl) ?_
                        exact ft_ret mi_k117 (by rfl) (hP (-13) _ _ _ _ hG ⟨trivial, ⟨fun s t hs ht e1 e3 => by
        have es : s = 3 := kj_at e1 (oy142 w332)
        have et : t = 1 := kj_at e3 (oy126 w351)
        subst es
        subst et
        exact ⟨(Or.inr (Or.inr (Or.inl ⟨kym13, (oy152 c356 c358 c359 fi_6784.2 fi_7040.2 ky2), (oy135 z361.1 z365)⟩))), fun h => absurd h (kj_neg kym13 (by decide))⟩, fun _ => (fun u hu => match u, hu with | 0, _ => rfl | 1, _ => rfl | 2, _ => rfl | 3, _ => rfl | 4, _ => rfl | 5, _ => rfl | _ + 6, h => absurd h (by omega)), fun h => absurd (oy167 w332 w351 z2.2 z4.2) h⟩⟩)
                    ·
                      subst eg360
                      have fi_7043 : ((0 : Int) ≤ (i 7043).toInt) ∧ ((i 7043).toInt ≤ 60) := hG.I.1 7043
                      have z366 : ¬ (((0 : Int) ≤ x5.toInt) ∧ (x5.toInt ≤ (i 7043).toInt) ∧ ((0 : Int) ≤ x2.toInt) ∧ ((x2.toInt + x5.toInt) ≤ (i 7043).toInt)) := hg360
                      first | refine fo_goL mi_k117 fz117_93_2_110 [(7, .ref 106), (6, .ref 110), (0, .ref 0), (1, .int x1), (2, .int x2), (3, .int x3), (4, .int x4), (5, .int x5)] [.int (-13)] (by rfl) ?_ | refine fo_goL mi_k117 fz117_105_2_110 [(7, .ref 106), (6, .ref 110), (0, .ref 0), (1, .int x1), (2, .int x2), (3, .int x3), (4, .int x4), (5, .int x5)] [.int (-13)] (by rfl) ?_ | refine ft_go mi_k117 2 110 [(7, .ref 106), (6, .ref 110), (0, .ref 0), (1, .int x1), (2, .int x2), (3, .int x3), (4, .int x4), (5, .int x5)] [.int (-13)] i a q r (by rfl) ?_ | refine ko_steps mi_in117 2 _ (110, [(7, .ref 106), (6, .ref 110), (0, .ref 0), (1, .int x1), (2, .int x2), (3, .int x3), (4, .int x4), (5, .int x5)], [.int (-13)], (0, 0), ks i a q r) (by rfl) ?_
                      have fi_6787 : ((0 : Int) ≤ (i 6787).toInt) ∧ ((i 6787).toInt ≤ 60) := hG.I.1 6787
                      exact ft_ret mi_k117 (by rfl) (hP (-13) _ _ _ _ hG ⟨trivial, ⟨fun s t hs ht e1 e3 => by
        have es : s = 3 := kj_at e1 (oy142 w332)
        have et : t = 1 := kj_at e3 (oy126 w351)
        subst es
        subst et
        exact ⟨(Or.inr (Or.inr (Or.inl ⟨kym13, (oy152 c356 c358 c359 fi_6784.2 fi_7040.2 ky2), (oy136 z366)⟩))), fun h => absurd h (kj_neg kym13 (by decide))⟩, fun _ => (fun u hu => match u, hu with | 0, _ => rfl | 1, _ => rfl | 2, _ => rfl | 3, _ => rfl | 4, _ => rfl | 5, _ => rfl | _ + 6, h => absurd h (by omega)), fun h => absurd (oy167 w332 w351 z2.2 z4.2) h⟩⟩)
                  ·
                    have c367 : (i 7042).toInt ≠ (i 6786).toInt := kd_eqF c; clear c
                    first | refine fo_goL mi_k117 fz117_82_1_84 [(7, .ref 106), (6, .ref 110), (0, .ref 0), (1, .int x1), (2, .int x2), (3, .int x3), (4, .int x4), (5, .int x5)] [.int (-12)] (by rfl) ?_ | refine ft_go mi_k117 1 84 [(7, .ref 106), (6, .ref 110), (0, .ref 0), (1, .int x1), (2, .int x2), (3, .int x3), (4, .int x4), (5, .int x5)] [.int (-12)] i a q r (by rfl) ?_ | refine ko_steps mi_in117 1 _ (84, [(7, .ref 106), (6, .ref 110), (0, .ref 0), (1, .int x1), (2, .int x2), (3, .int x3), (4, .int x4), (5, .int x5)], [.int (-12)], (0, 0), ks i a q r) (by rfl) ?_
                    have fi_7043 : ((0 : Int) ≤ (i 7043).toInt) ∧ ((i 7043).toInt ≤ 60) := hG.I.1 7043
                    have fi_6787 : ((0 : Int) ≤ (i 6787).toInt) ∧ ((i 6787).toInt ≤ 60) := hG.I.1 6787
                    exact ft_ret mi_k117 (by rfl) (hP (-12) _ _ _ _ hG ⟨trivial, ⟨fun s t hs ht e1 e3 => by
        have es : s = 3 := kj_at e1 (oy142 w332)
        have et : t = 1 := kj_at e3 (oy126 w351)
        subst es
        subst et
        exact ⟨(Or.inr (Or.inl ⟨kym12, (oy137 c356 c358 ky2), (oy138 c367)⟩)), fun h => absurd h (kj_neg kym12 (by decide))⟩, fun _ => (fun u hu => match u, hu with | 0, _ => rfl | 1, _ => rfl | 2, _ => rfl | 3, _ => rfl | 4, _ => rfl | 5, _ => rfl | _ + 6, h => absurd h (by omega)), fun h => absurd (oy167 w332 w351 z2.2 z4.2) h⟩⟩)
            ·
              have c368 : (i 6784).toInt = (0 : Int32).toInt := kd_neF c; clear c
              first | refine fo_goL mi_k117 fz117_48_1_50 [(7, .ref 106), (6, .ref 110), (0, .ref 0), (1, .int x1), (2, .int x2), (3, .int x3), (4, .int x4), (5, .int x5)] [.int (-11)] (by rfl) ?_ | refine ft_go mi_k117 1 50 [(7, .ref 106), (6, .ref 110), (0, .ref 0), (1, .int x1), (2, .int x2), (3, .int x3), (4, .int x4), (5, .int x5)] [.int (-11)] i a q r (by rfl) ?_ | refine ko_steps mi_in117 1 _ (50, [(7, .ref 106), (6, .ref 110), (0, .ref 0), (1, .int x1), (2, .int x2), (3, .int x3), (4, .int x4), (5, .int x5)], [.int (-11)], (0, 0), ks i a q r) (by rfl) ?_
              have fi_7042 : ((0 : Int) ≤ (i 7042).toInt) ∧ ((i 7042).toInt ≤ 4) := hG.I.1 7042
              have fi_6786 : ((0 : Int) ≤ (i 6786).toInt) ∧ ((i 6786).toInt ≤ 4) := hG.I.1 6786
              have fi_7043 : ((0 : Int) ≤ (i 7043).toInt) ∧ ((i 7043).toInt ≤ 60) := hG.I.1 7043
              have fi_6787 : ((0 : Int) ≤ (i 6787).toInt) ∧ ((i 6787).toInt ≤ 60) := hG.I.1 6787
              exact ft_ret mi_k117 (by rfl) (hP (-11) _ _ _ _ hG ⟨trivial, ⟨fun s t hs ht e1 e3 => by
        have es : s = 3 := kj_at e1 (oy142 w332)
        have et : t = 1 := kj_at e3 (oy126 w351)
        subst es
        subst et
        exact ⟨(Or.inl ⟨kym11, (oy139 c368 fi_6784.1 ky0)⟩), fun h => absurd h (kj_neg kym11 (by decide))⟩, fun _ => (fun u hu => match u, hu with | 0, _ => rfl | 1, _ => rfl | 2, _ => rfl | 3, _ => rfl | 4, _ => rfl | 5, _ => rfl | _ + 6, h => absurd h (by omega)), fun h => absurd (oy167 w332 w351 z2.2 z4.2) h⟩⟩)
        by_cases w369 : x3.toInt = 2
        ·
          refine ko_eq (x1 := (29, [(6, .ref 110), (0, .ref 0), (1, .int x1), (2, .int x2), (3, .int x3), (4, .int x4), (5, .int x5)], [.int 2, .ref 97], (0, 0), ks i a q r)) (by rw [(kj_eq w369 (by decide) : x3 = 2)]) ?_
          have fi_7040 : ((0 : Int) ≤ (i 7040).toInt) ∧ ((i 7040).toInt ≤ 2) := hG.I.1 7040
          first | refine ft_goL mi_k117 4 37 [(7, .ref 108), (6, .ref 110), (0, .ref 0), (1, .int x1), (2, .int x2), (3, .int x3), (4, .int x4), (5, .int x5)] [.int (i 7040)] (by rfl) ?_ | refine ft_go mi_k117 4 37 [(7, .ref 108), (6, .ref 110), (0, .ref 0), (1, .int x1), (2, .int x2), (3, .int x3), (4, .int x4), (5, .int x5)] [.int (i 7040)] i a q r (by rfl) ?_ | refine ko_steps mi_in117 4 _ (37, [(7, .ref 108), (6, .ref 110), (0, .ref 0), (1, .int x1), (2, .int x2), (3, .int x3), (4, .int x4), (5, .int x5)], [.int (i 7040)], (0, 0), ks i a q r) (by rfl) ?_
          refine ft_ifS mi_k117 ((i 7040) == 0) 48 40 [] (by rfl) (fun c => ?_) (fun c => ?_)
          ·
            have c370 : (i 7040).toInt = (0 : Int32).toInt := kd_eq c; clear c
            first | refine fo_goS mi_k117 fz117_48_1_50 [.int (-11)] (by rfl) ?_ | refine ft_go mi_k117 1 50 [(7, .ref 108), (6, .ref 110), (0, .ref 0), (1, .int x1), (2, .int x2), (3, .int x3), (4, .int x4), (5, .int x5)] [.int (-11)] i a q r (by rfl) ?_ | refine ko_steps mi_in117 1 _ (50, [(7, .ref 108), (6, .ref 110), (0, .ref 0), (1, .int x1), (2, .int x2), (3, .int x3), (4, .int x4), (5, .int x5)], [.int (-11)], (0, 0), ks i a q r) (by rfl) ?_
            have fi_6912 : ((0 : Int) ≤ (i 6912).toInt) ∧ ((i 6912).toInt ≤ 2) := hG.I.1 6912
            have fi_7042 : ((0 : Int) ≤ (i 7042).toInt) ∧ ((i 7042).toInt ≤ 4) := hG.I.1 7042
            have fi_6914 : ((0 : Int) ≤ (i 6914).toInt) ∧ ((i 6914).toInt ≤ 4) := hG.I.1 6914
            have fi_7043 : ((0 : Int) ≤ (i 7043).toInt) ∧ ((i 7043).toInt ≤ 60) := hG.I.1 7043
            have fi_6915 : ((0 : Int) ≤ (i 6915).toInt) ∧ ((i 6915).toInt ≤ 60) := hG.I.1 6915
            exact ft_ret mi_k117 (by rfl) (hP (-11) _ _ _ _ hG ⟨trivial, ⟨fun s t hs ht e1 e3 => by
        have es : s = 3 := kj_at e1 (oy142 w332)
        have et : t = 2 := kj_at e3 (oy140 w369)
        subst es
        subst et
        exact ⟨(Or.inl ⟨kym11, (oy127 c370 fi_7040.1 ky0)⟩), fun h => absurd h (kj_neg kym11 (by decide))⟩, fun _ => (fun u hu => match u, hu with | 0, _ => rfl | 1, _ => rfl | 2, _ => rfl | 3, _ => rfl | 4, _ => rfl | 5, _ => rfl | _ + 6, h => absurd h (by omega)), fun h => absurd (oy168 w332 w369 z2.2 z4.2) h⟩⟩)
          ·
            have c371 : (i 7040).toInt ≠ (0 : Int32).toInt := kd_eqF c; clear c
            have fi_6912 : ((0 : Int) ≤ (i 6912).toInt) ∧ ((i 6912).toInt ≤ 2) := hG.I.1 6912
            first | refine fo_goL mi_k117 fz117_40_2_45 [(7, .ref 108), (6, .ref 110), (0, .ref 0), (1, .int x1), (2, .int x2), (3, .int x3), (4, .int x4), (5, .int x5)] [.int (i 6912)] (by rfl) ?_ | refine ft_go mi_k117 2 45 [(7, .ref 108), (6, .ref 110), (0, .ref 0), (1, .int x1), (2, .int x2), (3, .int x3), (4, .int x4), (5, .int x5)] [.int (i 6912)] i a q r (by rfl) ?_ | refine ko_steps mi_in117 2 _ (45, [(7, .ref 108), (6, .ref 110), (0, .ref 0), (1, .int x1), (2, .int x2), (3, .int x3), (4, .int x4), (5, .int x5)], [.int (i 6912)], (0, 0), ks i a q r) (by rfl) ?_
            refine ft_ifS mi_k117 ((i 6912) != 0) 51 48 [] (by rfl) (fun c => ?_) (fun c => ?_)
            ·
              have c372 : (i 6912).toInt ≠ (0 : Int32).toInt := kd_ne c; clear c
              first | refine fo_goS mi_k117 fz117_51_3_57 [.int 2, .int (i 7040)] (by rfl) ?_ | refine ft_go mi_k117 3 57 [(7, .ref 108), (6, .ref 110), (0, .ref 0), (1, .int x1), (2, .int x2), (3, .int x3), (4, .int x4), (5, .int x5)] [.int 2, .int (i 7040)] i a q r (by rfl) ?_ | refine ko_steps mi_in117 3 _ (57, [(7, .ref 108), (6, .ref 110), (0, .ref 0), (1, .int x1), (2, .int x2), (3, .int x3), (4, .int x4), (5, .int x5)], [.int 2, .int (i 7040)], (0, 0), ks i a q r) (by rfl) ?_
              refine ft_ifS mi_k117 ((i 7040) != 2) 82 60 [] (by rfl) (fun c => ?_) (fun c => ?_)
              ·
                have c373 : (i 7040).toInt ≠ (2 : Int32).toInt := kd_ne c; clear c
                first | refine fo_goS mi_k117 fz117_82_1_84 [.int (-12)] (by rfl) ?_ | refine ft_go mi_k117 1 84 [(7, .ref 108), (6, .ref 110), (0, .ref 0), (1, .int x1), (2, .int x2), (3, .int x3), (4, .int x4), (5, .int x5)] [.int (-12)] i a q r (by rfl) ?_ | refine ko_steps mi_in117 1 _ (84, [(7, .ref 108), (6, .ref 110), (0, .ref 0), (1, .int x1), (2, .int x2), (3, .int x3), (4, .int x4), (5, .int x5)], [.int (-12)], (0, 0), ks i a q r) (by rfl) ?_
                have fi_7042 : ((0 : Int) ≤ (i 7042).toInt) ∧ ((i 7042).toInt ≤ 4) := hG.I.1 7042
                have fi_6914 : ((0 : Int) ≤ (i 6914).toInt) ∧ ((i 6914).toInt ≤ 4) := hG.I.1 6914
                have fi_7043 : ((0 : Int) ≤ (i 7043).toInt) ∧ ((i 7043).toInt ≤ 60) := hG.I.1 7043
                have fi_6915 : ((0 : Int) ≤ (i 6915).toInt) ∧ ((i 6915).toInt ≤ 60) := hG.I.1 6915
                exact ft_ret mi_k117 (by rfl) (hP (-12) _ _ _ _ hG ⟨trivial, ⟨fun s t hs ht e1 e3 => by
        have es : s = 3 := kj_at e1 (oy142 w332)
        have et : t = 2 := kj_at e3 (oy140 w369)
        subst es
        subst et
        exact ⟨(Or.inr (Or.inl ⟨kym12, (oy151 c371 c372 fi_6912.1 fi_7040.1 ky0), (oy130 c373 fi_7040.2 ky2)⟩)), fun h => absurd h (kj_neg kym12 (by decide))⟩, fun _ => (fun u hu => match u, hu with | 0, _ => rfl | 1, _ => rfl | 2, _ => rfl | 3, _ => rfl | 4, _ => rfl | 5, _ => rfl | _ + 6, h => absurd h (by omega)), fun h => absurd (oy168 w332 w369 z2.2 z4.2) h⟩⟩)
              ·
                have c374 : (i 7040).toInt = (2 : Int32).toInt := kd_neF c; clear c
                first | refine fo_goL mi_k117 fz117_60_3_66 [(7, .ref 108), (6, .ref 110), (0, .ref 0), (1, .int x1), (2, .int x2), (3, .int x3), (4, .int x4), (5, .int x5)] [.int 2, .int (i 6912)] (by rfl) ?_ | refine ft_go mi_k117 3 66 [(7, .ref 108), (6, .ref 110), (0, .ref 0), (1, .int x1), (2, .int x2), (3, .int x3), (4, .int x4), (5, .int x5)] [.int 2, .int (i 6912)] i a q r (by rfl) ?_ | refine ko_steps mi_in117 3 _ (66, [(7, .ref 108), (6, .ref 110), (0, .ref 0), (1, .int x1), (2, .int x2), (3, .int x3), (4, .int x4), (5, .int x5)], [.int 2, .int (i 6912)], (0, 0), ks i a q r) (by rfl) ?_
                refine ft_ifS mi_k117 ((i 6912) != 2) 82 69 [] (by rfl) (fun c => ?_) (fun c => ?_)
                ·
                  have c375 : (i 6912).toInt ≠ (2 : Int32).toInt := kd_ne c; clear c
                  first | refine fo_goS mi_k117 fz117_82_1_84 [.int (-12)] (by rfl) ?_ | refine ft_go mi_k117 1 84 [(7, .ref 108), (6, .ref 110), (0, .ref 0), (1, .int x1), (2, .int x2), (3, .int x3), (4, .int x4), (5, .int x5)] [.int (-12)] i a q r (by rfl) ?_ | refine ko_steps mi_in117 1 _ (84, [(7, .ref 108), (6, .ref 110), (0, .ref 0), (1, .int x1), (2, .int x2), (3, .int x3), (4, .int x4), (5, .int x5)], [.int (-12)], (0, 0), ks i a q r) (by rfl) ?_
                  have fi_7042 : ((0 : Int) ≤ (i 7042).toInt) ∧ ((i 7042).toInt ≤ 4) := hG.I.1 7042
                  have fi_6914 : ((0 : Int) ≤ (i 6914).toInt) ∧ ((i 6914).toInt ≤ 4) := hG.I.1 6914
                  have fi_7043 : ((0 : Int) ≤ (i 7043).toInt) ∧ ((i 7043).toInt ≤ 60) := hG.I.1 7043
                  have fi_6915 : ((0 : Int) ≤ (i 6915).toInt) ∧ ((i 6915).toInt ≤ 60) := hG.I.1 6915
                  exact ft_ret mi_k117 (by rfl) (hP (-12) _ _ _ _ hG ⟨trivial, ⟨fun s t hs ht e1 e3 => by
        have es : s = 3 := kj_at e1 (oy142 w332)
        have et : t = 2 := kj_at e3 (oy140 w369)
        subst es
        subst et
        exact ⟨(Or.inr (Or.inl ⟨kym12, (oy131 c372 c374 fi_6912.1 ky0 ky2), (oy132 c375 fi_6912.2 ky2)⟩)), fun h => absurd h (kj_neg kym12 (by decide))⟩, fun _ => (fun u hu => match u, hu with | 0, _ => rfl | 1, _ => rfl | 2, _ => rfl | 3, _ => rfl | 4, _ => rfl | 5, _ => rfl | _ + 6, h => absurd h (by omega)), fun h => absurd (oy168 w332 w369 z2.2 z4.2) h⟩⟩)
                ·
                  have c376 : (i 6912).toInt = (2 : Int32).toInt := kd_neF c; clear c
                  have fi_7042 : ((0 : Int) ≤ (i 7042).toInt) ∧ ((i 7042).toInt ≤ 4) := hG.I.1 7042
                  have fi_6914 : ((0 : Int) ≤ (i 6914).toInt) ∧ ((i 6914).toInt ≤ 4) := hG.I.1 6914
                  first | refine fo_goL mi_k117 fz117_69_4_79 [(7, .ref 108), (6, .ref 110), (0, .ref 0), (1, .int x1), (2, .int x2), (3, .int x3), (4, .int x4), (5, .int x5)] [.int (i 6914), .int (i 7042)] (by rfl) ?_ | refine ft_go mi_k117 4 79 [(7, .ref 108), (6, .ref 110), (0, .ref 0), (1, .int x1), (2, .int x2), (3, .int x3), (4, .int x4), (5, .int x5)] [.int (i 6914), .int (i 7042)] i a q r (by rfl) ?_ | refine ko_steps mi_in117 4 _ (79, [(7, .ref 108), (6, .ref 110), (0, .ref 0), (1, .int x1), (2, .int x2), (3, .int x3), (4, .int x4), (5, .int x5)], [.int (i 6914), .int (i 7042)], (0, 0), ks i a q r) (by rfl) ?_
                  refine ft_ifS mi_k117 ((i 7042) == (i 6914)) 85 82 [] (by rfl) (fun c => ?_) (fun c => ?_)
                  ·
                    have c377 : (i 7042).toInt = (i 6914).toInt := kd_eq c; clear c
                    first | refine fo_goS mi_k117 fz117_85_3_90 [.int x5, .int x2, .ref 110] (by rfl) ?_ | refine ft_go mi_k117 3 90 [(7, .ref 108), (6, .ref 110), (0, .ref 0), (1, .int x1), (2, .int x2), (3, .int x3), (4, .int x4), (5, .int x5)] [.int x5, .int x2, .ref 110] i a q r (by rfl) ?_ | refine ko_steps mi_in117 3 _ (90, [(7, .ref 108), (6, .ref 110), (0, .ref 0), (1, .int x1), (2, .int x2), (3, .int x3), (4, .int x4), (5, .int x5)], [.int x5, .int x2, .ref 110], (0, 0), ks i a q r) (by rfl) ?_
                    refine ko_callPI mi_k117.1 (pc := 90) (ls := [(7, .ref 108), (6, .ref 110), (0, .ref 0), (1, .int x1), (2, .int x2), (3, .int x3), (4, .int x4), (5, .int x5)]) (st := [.int x5, .int x2, .ref 110]) (h := ks i a q r) (i := (.invokevirtual 324, 3, 37, 0, 9, 0, 316)) (mi_k117.2 _ _ (by rfl)) (ft_invS mi_pq37 (by rfl)) (cy := mi_c37) mi_pq37 rfl (kc37_110 hG.I hG.R x2 x5) (by decide) ?_
                    intro vg378 hg378
                    rcases hg378 with ⟨eg378, hg378⟩ | ⟨eg378, hg378⟩
                    ·
                      subst eg378
                      have fi_7043 : ((0 : Int) ≤ (i 7043).toInt) ∧ ((i 7043).toInt ≤ 60) := hG.I.1 7043
                      have z379 : ((0 : Int) ≤ x5.toInt) ∧ (x5.toInt ≤ (i 7043).toInt) ∧ ((0 : Int) ≤ x2.toInt) ∧ ((x2.toInt + x5.toInt) ≤ (i 7043).toInt) := hg378
                      first | refine fo_goS mi_k117 fz117_93_4_102 [.int x5, .int x4, .ref 108] (by rfl) ?_ | refine ft_go mi_k117 4 102 [(7, .ref 108), (6, .ref 110), (0, .ref 0), (1, .int x1), (2, .int x2), (3, .int x3), (4, .int x4), (5, .int x5)] [.int x5, .int x4, .ref 108] i a q r (by rfl) ?_ | refine ko_steps mi_in117 4 _ (102, [(7, .ref 108), (6, .ref 110), (0, .ref 0), (1, .int x1), (2, .int x2), (3, .int x3), (4, .int x4), (5, .int x5)], [.int x5, .int x4, .ref 108], (0, 0), ks i a q r) (by rfl) ?_
                      refine ko_callPI mi_k117.1 (pc := 102) (ls := [(7, .ref 108), (6, .ref 110), (0, .ref 0), (1, .int x1), (2, .int x2), (3, .int x3), (4, .int x4), (5, .int x5)]) (st := [.int x5, .int x4, .ref 108]) (h := ks i a q r) (i := (.invokevirtual 324, 3, 37, 0, 9, 0, 316)) (mi_k117.2 _ _ (by rfl)) (ft_invS mi_pq37 (by rfl)) (cy := mi_c37) mi_pq37 rfl (kc37_108 hG.I hG.R x4 x5) (by decide) ?_
                      intro vg380 hg380
                      rcases hg380 with ⟨eg380, hg380⟩ | ⟨eg380, hg380⟩
                      ·
                        subst eg380
                        have fi_6915 : ((0 : Int) ≤ (i 6915).toInt) ∧ ((i 6915).toInt ≤ 60) := hG.I.1 6915
                        have z381 : ((0 : Int) ≤ x5.toInt) ∧ (x5.toInt ≤ (i 6915).toInt) ∧ ((0 : Int) ≤ x4.toInt) ∧ ((x4.toInt + x5.toInt) ≤ (i 6915).toInt) := hg380
                        first | refine fo_goS mi_k117 fz117_105_8_126 [.int x5, .int x4, .ref 109, .int x2, .ref 111] (by rfl) ?_ | refine ft_go mi_k117 8 126 [(7, .ref 108), (6, .ref 110), (0, .ref 0), (1, .int x1), (2, .int x2), (3, .int x3), (4, .int x4), (5, .int x5)] [.int x5, .int x4, .ref 109, .int x2, .ref 111] i a q r (by rfl) ?_ | refine ko_steps mi_in117 8 _ (126, [(7, .ref 108), (6, .ref 110), (0, .ref 0), (1, .int x1), (2, .int x2), (3, .int x3), (4, .int x4), (5, .int x5)], [.int x5, .int x4, .ref 109, .int x2, .ref 111], (0, 0), ks i a q r) (by rfl) ?_
                        have hJ382 := kG_q hG 109 rfl (z := mi_cpy (q 111) (q 109) x2.toNatClampNeg x4.toNatClampNeg x5.toNatClampNeg) (kcpy_len2 (n := 60) (c := 60) (m := 60) (b := 60) (sp := x2) (dp := x4) (n1 := x5) (hG.I.2.2.2 111) rfl (hG.I.2.2.2 109) rfl (oy3 z379.1) (oy3 z379.2.2.1) (oy3 z381.2.2.1) (oy119 fi_7043.2 z379.2.2.2) (oy119 fi_6915.2 z381.2.2.2))
                        refine ko_copyL2 mi_k117.1 (l := q 111) (g := q 109) (n := 60) (c := 60) (m := 60) (b := 60) (mi_k117.2 _ _ (by rfl)) (by rfl) (by rfl) (by rfl) (by rfl) (by rfl) (hG.I.2.2.2 111) rfl (hG.I.2.2.2 109) rfl (oy3 z379.1) (oy3 z379.2.2.1) (oy3 z381.2.2.1) (oy119 fi_7043.2 z379.2.2.2) (oy119 fi_6915.2 z381.2.2.2) (h5 := ks i a (ku q 109 (mi_cpy (q 111) (q 109) x2.toNatClampNeg x4.toNatClampNeg x5.toNatClampNeg)) r) (by rfl) ?_
                        first | refine fo_goS mi_k117 fz117_129_1_131 [.int x5] (by rfl) ?_ | refine ft_go mi_k117 1 131 [(7, .ref 108), (6, .ref 110), (0, .ref 0), (1, .int x1), (2, .int x2), (3, .int x3), (4, .int x4), (5, .int x5)] [.int x5] i a (ku q 109 (mi_cpy (q 111) (q 109) x2.toNatClampNeg x4.toNatClampNeg x5.toNatClampNeg)) r (by rfl) ?_ | refine ko_steps mi_in117 1 _ (131, [(7, .ref 108), (6, .ref 110), (0, .ref 0), (1, .int x1), (2, .int x2), (3, .int x3), (4, .int x4), (5, .int x5)], [.int x5], (0, 0), ks i a (ku q 109 (mi_cpy (q 111) (q 109) x2.toNatClampNeg x4.toNatClampNeg x5.toNatClampNeg)) r) (by rfl) ?_
                        exact ft_ret mi_k117 (by rfl) (hP x5 _ _ _ _ hJ382 ⟨trivial, ⟨fun s t hs ht e1 e3 => by
        have es : s = 3 := kj_at e1 (oy142 w332)
        have et : t = 2 := kj_at e3 (oy140 w369)
        subst es
        subst et
        exact ⟨(Or.inr (Or.inr (Or.inr ⟨rfl, (oy152 c374 c376 c377 fi_6912.2 fi_7040.2 ky2), (oy134 z379.1 z379.2.2.1 z379.2.2.2 z381.2.2.1 z381.2.2.2)⟩))), fun _ => ⟨rfl, (fun u hu ne => match u, hu, ne with | 0, _, _ => rfl | 1, _, _ => rfl | 2, _, ne => absurd rfl ne | 3, _, _ => rfl | 4, _, _ => rfl | 5, _, _ => rfl | _ + 6, h, _ => absurd h (by omega))⟩⟩, fun h => absurd h (oy26 z379.1), fun h => absurd (oy168 w332 w369 z2.2 z4.2) h⟩⟩)
                      ·
                        subst eg380
                        have fi_6915 : ((0 : Int) ≤ (i 6915).toInt) ∧ ((i 6915).toInt ≤ 60) := hG.I.1 6915
                        have z383 : ¬ (((0 : Int) ≤ x5.toInt) ∧ (x5.toInt ≤ (i 6915).toInt) ∧ ((0 : Int) ≤ x4.toInt) ∧ ((x4.toInt + x5.toInt) ≤ (i 6915).toInt)) := hg380
                        first | refine fo_goL mi_k117 fz117_93_2_110 [(7, .ref 108), (6, .ref 110), (0, .ref 0), (1, .int x1), (2, .int x2), (3, .int x3), (4, .int x4), (5, .int x5)] [.int (-13)] (by rfl) ?_ | refine fo_goL mi_k117 fz117_105_2_110 [(7, .ref 108), (6, .ref 110), (0, .ref 0), (1, .int x1), (2, .int x2), (3, .int x3), (4, .int x4), (5, .int x5)] [.int (-13)] (by rfl) ?_ | refine ft_go mi_k117 2 110 [(7, .ref 108), (6, .ref 110), (0, .ref 0), (1, .int x1), (2, .int x2), (3, .int x3), (4, .int x4), (5, .int x5)] [.int (-13)] i a q r (by rfl) ?_ | refine ko_steps mi_in117 2 _ (110, [(7, .ref 108), (6, .ref 110), (0, .ref 0), (1, .int x1), (2, .int x2), (3, .int x3), (4, .int x4), (5, .int x5)], [.int (-13)], (0, 0), ks i a q r) (by rfl) ?_
                        exact ft_ret mi_k117 (by rfl) (hP (-13) _ _ _ _ hG ⟨trivial, ⟨fun s t hs ht e1 e3 => by
        have es : s = 3 := kj_at e1 (oy142 w332)
        have et : t = 2 := kj_at e3 (oy140 w369)
        subst es
        subst et
        exact ⟨(Or.inr (Or.inr (Or.inl ⟨kym13, (oy152 c374 c376 c377 fi_6912.2 fi_7040.2 ky2), (oy135 z379.1 z383)⟩))), fun h => absurd h (kj_neg kym13 (by decide))⟩, fun _ => (fun u hu => match u, hu with | 0, _ => rfl | 1, _ => rfl | 2, _ => rfl | 3, _ => rfl | 4, _ => rfl | 5, _ => rfl | _ + 6, h => absurd h (by omega)), fun h => absurd (oy168 w332 w369 z2.2 z4.2) h⟩⟩)
                    ·
                      subst eg378
                      have fi_7043 : ((0 : Int) ≤ (i 7043).toInt) ∧ ((i 7043).toInt ≤ 60) := hG.I.1 7043
                      have z384 : ¬ (((0 : Int) ≤ x5.toInt) ∧ (x5.toInt ≤ (i 7043).toInt) ∧ ((0 : Int) ≤ x2.toInt) ∧ ((x2.toInt + x5.toInt) ≤ (i 7043).toInt)) := hg378
                      first | refine fo_goL mi_k117 fz117_93_2_110 [(7, .ref 108), (6, .ref 110), (0, .ref 0), (1, .int x1), (2, .int x2), (3, .int x3), (4, .int x4), (5, .int x5)] [.int (-13)] (by rfl) ?_ | refine fo_goL mi_k117 fz117_105_2_110 [(7, .ref 108), (6, .ref 110), (0, .ref 0), (1, .int x1), (2, .int x2), (3, .int x3), (4, .int x4), (5, .int x5)] [.int (-13)] (by rfl) ?_ | refine ft_go mi_k117 2 110 [(7, .ref 108), (6, .ref 110), (0, .ref 0), (1, .int x1), (2, .int x2), (3, .int x3), (4, .int x4), (5, .int x5)] [.int (-13)] i a q r (by rfl) ?_ | refine ko_steps mi_in117 2 _ (110, [(7, .ref 108), (6, .ref 110), (0, .ref 0), (1, .int x1), (2, .int x2), (3, .int x3), (4, .int x4), (5, .int x5)], [.int (-13)], (0, 0), ks i a q r) (by rfl) ?_
                      have fi_6915 : ((0 : Int) ≤ (i 6915).toInt) ∧ ((i 6915).toInt ≤ 60) := hG.I.1 6915
                      exact ft_ret mi_k117 (by rfl) (hP (-13) _ _ _ _ hG ⟨trivial, ⟨fun s t hs ht e1 e3 => by
        have es : s = 3 := kj_at e1 (oy142 w332)
        have et : t = 2 := kj_at e3 (oy140 w369)
        subst es
        subst et
        exact ⟨(Or.inr (Or.inr (Or.inl ⟨kym13, (oy152 c374 c376 c377 fi_6912.2 fi_7040.2 ky2), (oy136 z384)⟩))), fun h => absurd h (kj_neg kym13 (by decide))⟩, fun _ => (fun u hu => match u, hu with | 0, _ => rfl | 1, _ => rfl | 2, _ => rfl | 3, _ => rfl | 4, _ => rfl | 5, _ => rfl | _ + 6, h => absurd h (by omega)), fun h => absurd (oy168 w332 w369 z2.2 z4.2) h⟩⟩)
                  ·
                    have c385 : (i 7042).toInt ≠ (i 6914).toInt := kd_eqF c; clear c
                    first | refine fo_goL mi_k117 fz117_82_1_84 [(7, .ref 108), (6, .ref 110), (0, .ref 0), (1, .int x1), (2, .int x2), (3, .int x3), (4, .int x4), (5, .int x5)] [.int (-12)] (by rfl) ?_ | refine ft_go mi_k117 1 84 [(7, .ref 108), (6, .ref 110), (0, .ref 0), (1, .int x1), (2, .int x2), (3, .int x3), (4, .int x4), (5, .int x5)] [.int (-12)] i a q r (by rfl) ?_ | refine ko_steps mi_in117 1 _ (84, [(7, .ref 108), (6, .ref 110), (0, .ref 0), (1, .int x1), (2, .int x2), (3, .int x3), (4, .int x4), (5, .int x5)], [.int (-12)], (0, 0), ks i a q r) (by rfl) ?_
                    have fi_7043 : ((0 : Int) ≤ (i 7043).toInt) ∧ ((i 7043).toInt ≤ 60) := hG.I.1 7043
                    have fi_6915 : ((0 : Int) ≤ (i 6915).toInt) ∧ ((i 6915).toInt ≤ 60) := hG.I.1 6915
                    exact ft_ret mi_k117 (by rfl) (hP (-12) _ _ _ _ hG ⟨trivial, ⟨fun s t hs ht e1 e3 => by
        have es : s = 3 := kj_at e1 (oy142 w332)
        have et : t = 2 := kj_at e3 (oy140 w369)
        subst es
        subst et
        exact ⟨(Or.inr (Or.inl ⟨kym12, (oy137 c374 c376 ky2), (oy138 c385)⟩)), fun h => absurd h (kj_neg kym12 (by decide))⟩, fun _ => (fun u hu => match u, hu with | 0, _ => rfl | 1, _ => rfl | 2, _ => rfl | 3, _ => rfl | 4, _ => rfl | 5, _ => rfl | _ + 6, h => absurd h (by omega)), fun h => absurd (oy168 w332 w369 z2.2 z4.2) h⟩⟩)
            ·
              have c386 : (i 6912).toInt = (0 : Int32).toInt := kd_neF c; clear c
              first | refine fo_goL mi_k117 fz117_48_1_50 [(7, .ref 108), (6, .ref 110), (0, .ref 0), (1, .int x1), (2, .int x2), (3, .int x3), (4, .int x4), (5, .int x5)] [.int (-11)] (by rfl) ?_ | refine ft_go mi_k117 1 50 [(7, .ref 108), (6, .ref 110), (0, .ref 0), (1, .int x1), (2, .int x2), (3, .int x3), (4, .int x4), (5, .int x5)] [.int (-11)] i a q r (by rfl) ?_ | refine ko_steps mi_in117 1 _ (50, [(7, .ref 108), (6, .ref 110), (0, .ref 0), (1, .int x1), (2, .int x2), (3, .int x3), (4, .int x4), (5, .int x5)], [.int (-11)], (0, 0), ks i a q r) (by rfl) ?_
              have fi_7042 : ((0 : Int) ≤ (i 7042).toInt) ∧ ((i 7042).toInt ≤ 4) := hG.I.1 7042
              have fi_6914 : ((0 : Int) ≤ (i 6914).toInt) ∧ ((i 6914).toInt ≤ 4) := hG.I.1 6914
              have fi_7043 : ((0 : Int) ≤ (i 7043).toInt) ∧ ((i 7043).toInt ≤ 60) := hG.I.1 7043
              have fi_6915 : ((0 : Int) ≤ (i 6915).toInt) ∧ ((i 6915).toInt ≤ 60) := hG.I.1 6915
              exact ft_ret mi_k117 (by rfl) (hP (-11) _ _ _ _ hG ⟨trivial, ⟨fun s t hs ht e1 e3 => by
        have es : s = 3 := kj_at e1 (oy142 w332)
        have et : t = 2 := kj_at e3 (oy140 w369)
        subst es
        subst et
        exact ⟨(Or.inl ⟨kym11, (oy139 c386 fi_6912.1 ky0)⟩), fun h => absurd h (kj_neg kym11 (by decide))⟩, fun _ => (fun u hu => match u, hu with | 0, _ => rfl | 1, _ => rfl | 2, _ => rfl | 3, _ => rfl | 4, _ => rfl | 5, _ => rfl | _ + 6, h => absurd h (by omega)), fun h => absurd (oy168 w332 w369 z2.2 z4.2) h⟩⟩)
        by_cases w387 : x3.toInt = 3
        ·
          refine ko_eq (x1 := (29, [(6, .ref 110), (0, .ref 0), (1, .int x1), (2, .int x2), (3, .int x3), (4, .int x4), (5, .int x5)], [.int 3, .ref 97], (0, 0), ks i a q r)) (by rw [(kj_eq w387 (by decide) : x3 = 3)]) ?_
          have fi_7040 : ((0 : Int) ≤ (i 7040).toInt) ∧ ((i 7040).toInt ≤ 2) := hG.I.1 7040
          first | refine ft_goL mi_k117 4 37 [(7, .ref 110), (6, .ref 110), (0, .ref 0), (1, .int x1), (2, .int x2), (3, .int x3), (4, .int x4), (5, .int x5)] [.int (i 7040)] (by rfl) ?_ | refine ft_go mi_k117 4 37 [(7, .ref 110), (6, .ref 110), (0, .ref 0), (1, .int x1), (2, .int x2), (3, .int x3), (4, .int x4), (5, .int x5)] [.int (i 7040)] i a q r (by rfl) ?_ | refine ko_steps mi_in117 4 _ (37, [(7, .ref 110), (6, .ref 110), (0, .ref 0), (1, .int x1), (2, .int x2), (3, .int x3), (4, .int x4), (5, .int x5)], [.int (i 7040)], (0, 0), ks i a q r) (by rfl) ?_
          refine ft_ifS mi_k117 ((i 7040) == 0) 48 40 [] (by rfl) (fun c => ?_) (fun c => ?_)
          ·
            have c388 : (i 7040).toInt = (0 : Int32).toInt := kd_eq c; clear c
            first | refine fo_goS mi_k117 fz117_48_1_50 [.int (-11)] (by rfl) ?_ | refine ft_go mi_k117 1 50 [(7, .ref 110), (6, .ref 110), (0, .ref 0), (1, .int x1), (2, .int x2), (3, .int x3), (4, .int x4), (5, .int x5)] [.int (-11)] i a q r (by rfl) ?_ | refine ko_steps mi_in117 1 _ (50, [(7, .ref 110), (6, .ref 110), (0, .ref 0), (1, .int x1), (2, .int x2), (3, .int x3), (4, .int x4), (5, .int x5)], [.int (-11)], (0, 0), ks i a q r) (by rfl) ?_
            have fi_7042 : ((0 : Int) ≤ (i 7042).toInt) ∧ ((i 7042).toInt ≤ 4) := hG.I.1 7042
            have fi_7043 : ((0 : Int) ≤ (i 7043).toInt) ∧ ((i 7043).toInt ≤ 60) := hG.I.1 7043
            exact ft_ret mi_k117 (by rfl) (hP (-11) _ _ _ _ hG ⟨trivial, ⟨fun s t hs ht e1 e3 => by
        have es : s = 3 := kj_at e1 (oy142 w332)
        have et : t = 3 := kj_at e3 (oy142 w387)
        subst es
        subst et
        exact ⟨(Or.inl ⟨kym11, (oy108 c388 fi_7040.1 ky0)⟩), fun h => absurd h (kj_neg kym11 (by decide))⟩, fun _ => (fun u hu => match u, hu with | 0, _ => rfl | 1, _ => rfl | 2, _ => rfl | 3, _ => rfl | 4, _ => rfl | 5, _ => rfl | _ + 6, h => absurd h (by omega)), fun h => absurd (oy169 w332 w387 z2.2 z4.2) h⟩⟩)
          ·
            have c389 : (i 7040).toInt ≠ (0 : Int32).toInt := kd_eqF c; clear c
            first | refine fo_goL mi_k117 fz117_40_2_45 [(7, .ref 110), (6, .ref 110), (0, .ref 0), (1, .int x1), (2, .int x2), (3, .int x3), (4, .int x4), (5, .int x5)] [.int (i 7040)] (by rfl) ?_ | refine ft_go mi_k117 2 45 [(7, .ref 110), (6, .ref 110), (0, .ref 0), (1, .int x1), (2, .int x2), (3, .int x3), (4, .int x4), (5, .int x5)] [.int (i 7040)] i a q r (by rfl) ?_ | refine ko_steps mi_in117 2 _ (45, [(7, .ref 110), (6, .ref 110), (0, .ref 0), (1, .int x1), (2, .int x2), (3, .int x3), (4, .int x4), (5, .int x5)], [.int (i 7040)], (0, 0), ks i a q r) (by rfl) ?_
            refine ft_ifS mi_k117 ((i 7040) != 0) 51 48 [] (by rfl) (fun c => ?_) (fun c => ?_)
            ·
              have c390 : (i 7040).toInt ≠ (0 : Int32).toInt := kd_ne c; clear c
              first | refine fo_goS mi_k117 fz117_51_3_57 [.int 2, .int (i 7040)] (by rfl) ?_ | refine ft_go mi_k117 3 57 [(7, .ref 110), (6, .ref 110), (0, .ref 0), (1, .int x1), (2, .int x2), (3, .int x3), (4, .int x4), (5, .int x5)] [.int 2, .int (i 7040)] i a q r (by rfl) ?_ | refine ko_steps mi_in117 3 _ (57, [(7, .ref 110), (6, .ref 110), (0, .ref 0), (1, .int x1), (2, .int x2), (3, .int x3), (4, .int x4), (5, .int x5)], [.int 2, .int (i 7040)], (0, 0), ks i a q r) (by rfl) ?_
              refine ft_ifS mi_k117 ((i 7040) != 2) 82 60 [] (by rfl) (fun c => ?_) (fun c => ?_)
              ·
                have c391 : (i 7040).toInt ≠ (2 : Int32).toInt := kd_ne c; clear c
                first | refine fo_goS mi_k117 fz117_82_1_84 [.int (-12)] (by rfl) ?_ | refine ft_go mi_k117 1 84 [(7, .ref 110), (6, .ref 110), (0, .ref 0), (1, .int x1), (2, .int x2), (3, .int x3), (4, .int x4), (5, .int x5)] [.int (-12)] i a q r (by rfl) ?_ | refine ko_steps mi_in117 1 _ (84, [(7, .ref 110), (6, .ref 110), (0, .ref 0), (1, .int x1), (2, .int x2), (3, .int x3), (4, .int x4), (5, .int x5)], [.int (-12)], (0, 0), ks i a q r) (by rfl) ?_
                have fi_7042 : ((0 : Int) ≤ (i 7042).toInt) ∧ ((i 7042).toInt ≤ 4) := hG.I.1 7042
                have fi_7043 : ((0 : Int) ≤ (i 7043).toInt) ∧ ((i 7043).toInt ≤ 60) := hG.I.1 7043
                exact ft_ret mi_k117 (by rfl) (hP (-12) _ _ _ _ hG ⟨trivial, ⟨fun s t hs ht e1 e3 => by
        have es : s = 3 := kj_at e1 (oy142 w332)
        have et : t = 3 := kj_at e3 (oy142 w387)
        subst es
        subst et
        exact ⟨(Or.inr (Or.inl ⟨kym12, (oy109 c389 fi_7040.1 ky0), (oy110 c391 fi_7040.2 ky2)⟩)), fun h => absurd h (kj_neg kym12 (by decide))⟩, fun _ => (fun u hu => match u, hu with | 0, _ => rfl | 1, _ => rfl | 2, _ => rfl | 3, _ => rfl | 4, _ => rfl | 5, _ => rfl | _ + 6, h => absurd h (by omega)), fun h => absurd (oy169 w332 w387 z2.2 z4.2) h⟩⟩)
              ·
                have c392 : (i 7040).toInt = (2 : Int32).toInt := kd_neF c; clear c
                first | refine fo_goL mi_k117 fz117_60_3_66 [(7, .ref 110), (6, .ref 110), (0, .ref 0), (1, .int x1), (2, .int x2), (3, .int x3), (4, .int x4), (5, .int x5)] [.int 2, .int (i 7040)] (by rfl) ?_ | refine ft_go mi_k117 3 66 [(7, .ref 110), (6, .ref 110), (0, .ref 0), (1, .int x1), (2, .int x2), (3, .int x3), (4, .int x4), (5, .int x5)] [.int 2, .int (i 7040)] i a q r (by rfl) ?_ | refine ko_steps mi_in117 3 _ (66, [(7, .ref 110), (6, .ref 110), (0, .ref 0), (1, .int x1), (2, .int x2), (3, .int x3), (4, .int x4), (5, .int x5)], [.int 2, .int (i 7040)], (0, 0), ks i a q r) (by rfl) ?_
                refine ft_ifS mi_k117 ((i 7040) != 2) 82 69 [] (by rfl) (fun c => ?_) (fun c => ?_)
                ·
                  have c393 : (i 7040).toInt ≠ (2 : Int32).toInt := kd_ne c; clear c
                  exact (oy111 c392 c393 fi_7040.2 ky2).elim
                ·
                  have c394 : (i 7040).toInt = (2 : Int32).toInt := kd_neF c; clear c
                  have fi_7042 : ((0 : Int) ≤ (i 7042).toInt) ∧ ((i 7042).toInt ≤ 4) := hG.I.1 7042
                  first | refine fo_goS mi_k117 fz117_69_4_79 [.int (i 7042), .int (i 7042)] (by rfl) ?_ | refine ft_go mi_k117 4 79 [(7, .ref 110), (6, .ref 110), (0, .ref 0), (1, .int x1), (2, .int x2), (3, .int x3), (4, .int x4), (5, .int x5)] [.int (i 7042), .int (i 7042)] i a q r (by rfl) ?_ | refine ko_steps mi_in117 4 _ (79, [(7, .ref 110), (6, .ref 110), (0, .ref 0), (1, .int x1), (2, .int x2), (3, .int x3), (4, .int x4), (5, .int x5)], [.int (i 7042), .int (i 7042)], (0, 0), ks i a q r) (by rfl) ?_
                  refine ft_ifS mi_k117 ((i 7042) == (i 7042)) 85 82 [] (by rfl) (fun c => ?_) (fun c => ?_)
                  ·
                    have c395 : (i 7042).toInt = (i 7042).toInt := kd_eq c; clear c
                    first | refine fo_goS mi_k117 fz117_85_3_90 [.int x5, .int x2, .ref 110] (by rfl) ?_ | refine ft_go mi_k117 3 90 [(7, .ref 110), (6, .ref 110), (0, .ref 0), (1, .int x1), (2, .int x2), (3, .int x3), (4, .int x4), (5, .int x5)] [.int x5, .int x2, .ref 110] i a q r (by rfl) ?_ | refine ko_steps mi_in117 3 _ (90, [(7, .ref 110), (6, .ref 110), (0, .ref 0), (1, .int x1), (2, .int x2), (3, .int x3), (4, .int x4), (5, .int x5)], [.int x5, .int x2, .ref 110], (0, 0), ks i a q r) (by rfl) ?_
                    refine ko_callPI mi_k117.1 (pc := 90) (ls := [(7, .ref 110), (6, .ref 110), (0, .ref 0), (1, .int x1), (2, .int x2), (3, .int x3), (4, .int x4), (5, .int x5)]) (st := [.int x5, .int x2, .ref 110]) (h := ks i a q r) (i := (.invokevirtual 324, 3, 37, 0, 9, 0, 316)) (mi_k117.2 _ _ (by rfl)) (ft_invS mi_pq37 (by rfl)) (cy := mi_c37) mi_pq37 rfl (kc37_110 hG.I hG.R x2 x5) (by decide) ?_
                    intro vg396 hg396
                    rcases hg396 with ⟨eg396, hg396⟩ | ⟨eg396, hg396⟩
                    ·
                      subst eg396
                      have fi_7043 : ((0 : Int) ≤ (i 7043).toInt) ∧ ((i 7043).toInt ≤ 60) := hG.I.1 7043
                      have z397 : ((0 : Int) ≤ x5.toInt) ∧ (x5.toInt ≤ (i 7043).toInt) ∧ ((0 : Int) ≤ x2.toInt) ∧ ((x2.toInt + x5.toInt) ≤ (i 7043).toInt) := hg396
                      first | refine fo_goS mi_k117 fz117_93_4_102 [.int x5, .int x4, .ref 110] (by rfl) ?_ | refine ft_go mi_k117 4 102 [(7, .ref 110), (6, .ref 110), (0, .ref 0), (1, .int x1), (2, .int x2), (3, .int x3), (4, .int x4), (5, .int x5)] [.int x5, .int x4, .ref 110] i a q r (by rfl) ?_ | refine ko_steps mi_in117 4 _ (102, [(7, .ref 110), (6, .ref 110), (0, .ref 0), (1, .int x1), (2, .int x2), (3, .int x3), (4, .int x4), (5, .int x5)], [.int x5, .int x4, .ref 110], (0, 0), ks i a q r) (by rfl) ?_
                      refine ko_callPI mi_k117.1 (pc := 102) (ls := [(7, .ref 110), (6, .ref 110), (0, .ref 0), (1, .int x1), (2, .int x2), (3, .int x3), (4, .int x4), (5, .int x5)]) (st := [.int x5, .int x4, .ref 110]) (h := ks i a q r) (i := (.invokevirtual 324, 3, 37, 0, 9, 0, 316)) (mi_k117.2 _ _ (by rfl)) (ft_invS mi_pq37 (by rfl)) (cy := mi_c37) mi_pq37 rfl (kc37_110 hG.I hG.R x4 x5) (by decide) ?_
                      intro vg398 hg398
                      rcases hg398 with ⟨eg398, hg398⟩ | ⟨eg398, hg398⟩
                      ·
                        subst eg398
                        have z399 : ((0 : Int) ≤ x5.toInt) ∧ (x5.toInt ≤ (i 7043).toInt) ∧ ((0 : Int) ≤ x4.toInt) ∧ ((x4.toInt + x5.toInt) ≤ (i 7043).toInt) := hg398
                        first | refine fo_goS mi_k117 fz117_105_8_126 [.int x5, .int x4, .ref 111, .int x2, .ref 111] (by rfl) ?_ | refine ft_go mi_k117 8 126 [(7, .ref 110), (6, .ref 110), (0, .ref 0), (1, .int x1), (2, .int x2), (3, .int x3), (4, .int x4), (5, .int x5)] [.int x5, .int x4, .ref 111, .int x2, .ref 111] i a q r (by rfl) ?_ | refine ko_steps mi_in117 8 _ (126, [(7, .ref 110), (6, .ref 110), (0, .ref 0), (1, .int x1), (2, .int x2), (3, .int x3), (4, .int x4), (5, .int x5)], [.int x5, .int x4, .ref 111, .int x2, .ref 111], (0, 0), ks i a q r) (by rfl) ?_
                        have hJ400 := kG_q hG 111 rfl (z := mi_cpy (q 111) (q 111) x2.toNatClampNeg x4.toNatClampNeg x5.toNatClampNeg) (kcpy_len2 (n := 60) (c := 60) (m := 60) (b := 60) (sp := x2) (dp := x4) (n1 := x5) (hG.I.2.2.2 111) rfl (hG.I.2.2.2 111) rfl (oy3 z397.1) (oy3 z397.2.2.1) (oy3 z399.2.2.1) (oy119 fi_7043.2 z397.2.2.2) (oy119 fi_7043.2 z399.2.2.2))
                        refine ko_copyL2 mi_k117.1 (l := q 111) (g := q 111) (n := 60) (c := 60) (m := 60) (b := 60) (mi_k117.2 _ _ (by rfl)) (by rfl) (by rfl) (by rfl) (by rfl) (by rfl) (hG.I.2.2.2 111) rfl (hG.I.2.2.2 111) rfl (oy3 z397.1) (oy3 z397.2.2.1) (oy3 z399.2.2.1) (oy119 fi_7043.2 z397.2.2.2) (oy119 fi_7043.2 z399.2.2.2) (h5 := ks i a (ku q 111 (mi_cpy (q 111) (q 111) x2.toNatClampNeg x4.toNatClampNeg x5.toNatClampNeg)) r) (by rfl) ?_
                        first | refine fo_goS mi_k117 fz117_129_1_131 [.int x5] (by rfl) ?_ | refine ft_go mi_k117 1 131 [(7, .ref 110), (6, .ref 110), (0, .ref 0), (1, .int x1), (2, .int x2), (3, .int x3), (4, .int x4), (5, .int x5)] [.int x5] i a (ku q 111 (mi_cpy (q 111) (q 111) x2.toNatClampNeg x4.toNatClampNeg x5.toNatClampNeg)) r (by rfl) ?_ | refine ko_steps mi_in117 1 _ (131, [(7, .ref 110), (6, .ref 110), (0, .ref 0), (1, .int x1), (2, .int x2), (3, .int x3), (4, .int x4), (5, .int x5)], [.int x5], (0, 0), ks i a (ku q 111 (mi_cpy (q 111) (q 111) x2.toNatClampNeg x4.toNatClampNeg x5.toNatClampNeg)) r) (by rfl) ?_
                        exact ft_ret mi_k117 (by rfl) (hP x5 _ _ _ _ hJ400 ⟨trivial, ⟨fun s t hs ht e1 e3 => by
        have es : s = 3 := kj_at e1 (oy142 w332)
        have et : t = 3 := kj_at e3 (oy142 w387)
        subst es
        subst et
        exact ⟨(Or.inr (Or.inr (Or.inr ⟨rfl, (oy120 c392 fi_7040.2 ky2), (oy121 z397.1 z397.2.2.1 z397.2.2.2 z399.2.2.1 z399.2.2.2)⟩))), fun _ => ⟨rfl, (fun u hu ne => match u, hu, ne with | 0, _, _ => rfl | 1, _, _ => rfl | 2, _, _ => rfl | 3, _, ne => absurd rfl ne | 4, _, _ => rfl | 5, _, _ => rfl | _ + 6, h, _ => absurd h (by omega))⟩⟩, fun h => absurd h (oy26 z397.1), fun h => absurd (oy169 w332 w387 z2.2 z4.2) h⟩⟩)
                      ·
                        subst eg398
                        have z401 : ¬ (((0 : Int) ≤ x5.toInt) ∧ (x5.toInt ≤ (i 7043).toInt) ∧ ((0 : Int) ≤ x4.toInt) ∧ ((x4.toInt + x5.toInt) ≤ (i 7043).toInt)) := hg398
                        first | refine fo_goL mi_k117 fz117_93_2_110 [(7, .ref 110), (6, .ref 110), (0, .ref 0), (1, .int x1), (2, .int x2), (3, .int x3), (4, .int x4), (5, .int x5)] [.int (-13)] (by rfl) ?_ | refine fo_goL mi_k117 fz117_105_2_110 [(7, .ref 110), (6, .ref 110), (0, .ref 0), (1, .int x1), (2, .int x2), (3, .int x3), (4, .int x4), (5, .int x5)] [.int (-13)] (by rfl) ?_ | refine ft_go mi_k117 2 110 [(7, .ref 110), (6, .ref 110), (0, .ref 0), (1, .int x1), (2, .int x2), (3, .int x3), (4, .int x4), (5, .int x5)] [.int (-13)] i a q r (by rfl) ?_ | refine ko_steps mi_in117 2 _ (110, [(7, .ref 110), (6, .ref 110), (0, .ref 0), (1, .int x1), (2, .int x2), (3, .int x3), (4, .int x4), (5, .int x5)], [.int (-13)], (0, 0), ks i a q r) (by rfl) ?_
                        exact ft_ret mi_k117 (by rfl) (hP (-13) _ _ _ _ hG ⟨trivial, ⟨fun s t hs ht e1 e3 => by
        have es : s = 3 := kj_at e1 (oy142 w332)
        have et : t = 3 := kj_at e3 (oy142 w387)
        subst es
        subst et
        exact ⟨(Or.inr (Or.inr (Or.inl ⟨kym13, (oy120 c392 fi_7040.2 ky2), (oy122 z397.1 z397.2.1 z401)⟩))), fun h => absurd h (kj_neg kym13 (by decide))⟩, fun _ => (fun u hu => match u, hu with | 0, _ => rfl | 1, _ => rfl | 2, _ => rfl | 3, _ => rfl | 4, _ => rfl | 5, _ => rfl | _ + 6, h => absurd h (by omega)), fun h => absurd (oy169 w332 w387 z2.2 z4.2) h⟩⟩)
                    ·
                      subst eg396
                      have fi_7043 : ((0 : Int) ≤ (i 7043).toInt) ∧ ((i 7043).toInt ≤ 60) := hG.I.1 7043
                      have z402 : ¬ (((0 : Int) ≤ x5.toInt) ∧ (x5.toInt ≤ (i 7043).toInt) ∧ ((0 : Int) ≤ x2.toInt) ∧ ((x2.toInt + x5.toInt) ≤ (i 7043).toInt)) := hg396
                      first | refine fo_goL mi_k117 fz117_93_2_110 [(7, .ref 110), (6, .ref 110), (0, .ref 0), (1, .int x1), (2, .int x2), (3, .int x3), (4, .int x4), (5, .int x5)] [.int (-13)] (by rfl) ?_ | refine fo_goL mi_k117 fz117_105_2_110 [(7, .ref 110), (6, .ref 110), (0, .ref 0), (1, .int x1), (2, .int x2), (3, .int x3), (4, .int x4), (5, .int x5)] [.int (-13)] (by rfl) ?_ | refine ft_go mi_k117 2 110 [(7, .ref 110), (6, .ref 110), (0, .ref 0), (1, .int x1), (2, .int x2), (3, .int x3), (4, .int x4), (5, .int x5)] [.int (-13)] i a q r (by rfl) ?_ | refine ko_steps mi_in117 2 _ (110, [(7, .ref 110), (6, .ref 110), (0, .ref 0), (1, .int x1), (2, .int x2), (3, .int x3), (4, .int x4), (5, .int x5)], [.int (-13)], (0, 0), ks i a q r) (by rfl) ?_
                      exact ft_ret mi_k117 (by rfl) (hP (-13) _ _ _ _ hG ⟨trivial, ⟨fun s t hs ht e1 e3 => by
        have es : s = 3 := kj_at e1 (oy142 w332)
        have et : t = 3 := kj_at e3 (oy142 w387)
        subst es
        subst et
        exact ⟨(Or.inr (Or.inr (Or.inl ⟨kym13, (oy120 c392 fi_7040.2 ky2), (oy123 z402)⟩))), fun h => absurd h (kj_neg kym13 (by decide))⟩, fun _ => (fun u hu => match u, hu with | 0, _ => rfl | 1, _ => rfl | 2, _ => rfl | 3, _ => rfl | 4, _ => rfl | 5, _ => rfl | _ + 6, h => absurd h (by omega)), fun h => absurd (oy169 w332 w387 z2.2 z4.2) h⟩⟩)
                  ·
                    have c403 : (i 7042).toInt ≠ (i 7042).toInt := kd_eqF c; clear c
                    exact (oy124 c403).elim
            ·
              have c404 : (i 7040).toInt = (0 : Int32).toInt := kd_neF c; clear c
              exact (oy154 c389 c404 fi_7040.1 ky0).elim
        by_cases w405 : x3.toInt = 4
        ·
          refine ko_eq (x1 := (29, [(6, .ref 110), (0, .ref 0), (1, .int x1), (2, .int x2), (3, .int x3), (4, .int x4), (5, .int x5)], [.int 4, .ref 97], (0, 0), ks i a q r)) (by rw [(kj_eq w405 (by decide) : x3 = 4)]) ?_
          have fi_7040 : ((0 : Int) ≤ (i 7040).toInt) ∧ ((i 7040).toInt ≤ 2) := hG.I.1 7040
          first | refine ft_goL mi_k117 4 37 [(7, .ref 112), (6, .ref 110), (0, .ref 0), (1, .int x1), (2, .int x2), (3, .int x3), (4, .int x4), (5, .int x5)] [.int (i 7040)] (by rfl) ?_ | refine ft_go mi_k117 4 37 [(7, .ref 112), (6, .ref 110), (0, .ref 0), (1, .int x1), (2, .int x2), (3, .int x3), (4, .int x4), (5, .int x5)] [.int (i 7040)] i a q r (by rfl) ?_ | refine ko_steps mi_in117 4 _ (37, [(7, .ref 112), (6, .ref 110), (0, .ref 0), (1, .int x1), (2, .int x2), (3, .int x3), (4, .int x4), (5, .int x5)], [.int (i 7040)], (0, 0), ks i a q r) (by rfl) ?_
          refine ft_ifS mi_k117 ((i 7040) == 0) 48 40 [] (by rfl) (fun c => ?_) (fun c => ?_)
          ·
            have c406 : (i 7040).toInt = (0 : Int32).toInt := kd_eq c; clear c
            first | refine fo_goS mi_k117 fz117_48_1_50 [.int (-11)] (by rfl) ?_ | refine ft_go mi_k117 1 50 [(7, .ref 112), (6, .ref 110), (0, .ref 0), (1, .int x1), (2, .int x2), (3, .int x3), (4, .int x4), (5, .int x5)] [.int (-11)] i a q r (by rfl) ?_ | refine ko_steps mi_in117 1 _ (50, [(7, .ref 112), (6, .ref 110), (0, .ref 0), (1, .int x1), (2, .int x2), (3, .int x3), (4, .int x4), (5, .int x5)], [.int (-11)], (0, 0), ks i a q r) (by rfl) ?_
            have fi_7168 : ((0 : Int) ≤ (i 7168).toInt) ∧ ((i 7168).toInt ≤ 2) := hG.I.1 7168
            have fi_7042 : ((0 : Int) ≤ (i 7042).toInt) ∧ ((i 7042).toInt ≤ 4) := hG.I.1 7042
            have fi_7170 : ((0 : Int) ≤ (i 7170).toInt) ∧ ((i 7170).toInt ≤ 4) := hG.I.1 7170
            have fi_7043 : ((0 : Int) ≤ (i 7043).toInt) ∧ ((i 7043).toInt ≤ 60) := hG.I.1 7043
            have fi_7171 : ((0 : Int) ≤ (i 7171).toInt) ∧ ((i 7171).toInt ≤ 60) := hG.I.1 7171
            exact ft_ret mi_k117 (by rfl) (hP (-11) _ _ _ _ hG ⟨trivial, ⟨fun s t hs ht e1 e3 => by
        have es : s = 3 := kj_at e1 (oy142 w332)
        have et : t = 4 := kj_at e3 (oy144 w405)
        subst es
        subst et
        exact ⟨(Or.inl ⟨kym11, (oy127 c406 fi_7040.1 ky0)⟩), fun h => absurd h (kj_neg kym11 (by decide))⟩, fun _ => (fun u hu => match u, hu with | 0, _ => rfl | 1, _ => rfl | 2, _ => rfl | 3, _ => rfl | 4, _ => rfl | 5, _ => rfl | _ + 6, h => absurd h (by omega)), fun h => absurd (oy170 w332 w405 z2.2 z4.2) h⟩⟩)
          ·
            have c407 : (i 7040).toInt ≠ (0 : Int32).toInt := kd_eqF c; clear c
            have fi_7168 : ((0 : Int) ≤ (i 7168).toInt) ∧ ((i 7168).toInt ≤ 2) := hG.I.1 7168
            first | refine fo_goL mi_k117 fz117_40_2_45 [(7, .ref 112), (6, .ref 110), (0, .ref 0), (1, .int x1), (2, .int x2), (3, .int x3), (4, .int x4), (5, .int x5)] [.int (i 7168)] (by rfl) ?_ | refine ft_go mi_k117 2 45 [(7, .ref 112), (6, .ref 110), (0, .ref 0), (1, .int x1), (2, .int x2), (3, .int x3), (4, .int x4), (5, .int x5)] [.int (i 7168)] i a q r (by rfl) ?_ | refine ko_steps mi_in117 2 _ (45, [(7, .ref 112), (6, .ref 110), (0, .ref 0), (1, .int x1), (2, .int x2), (3, .int x3), (4, .int x4), (5, .int x5)], [.int (i 7168)], (0, 0), ks i a q r) (by rfl) ?_
            refine ft_ifS mi_k117 ((i 7168) != 0) 51 48 [] (by rfl) (fun c => ?_) (fun c => ?_)
            ·
              have c408 : (i 7168).toInt ≠ (0 : Int32).toInt := kd_ne c; clear c
              first | refine fo_goS mi_k117 fz117_51_3_57 [.int 2, .int (i 7040)] (by rfl) ?_ | refine ft_go mi_k117 3 57 [(7, .ref 112), (6, .ref 110), (0, .ref 0), (1, .int x1), (2, .int x2), (3, .int x3), (4, .int x4), (5, .int x5)] [.int 2, .int (i 7040)] i a q r (by rfl) ?_ | refine ko_steps mi_in117 3 _ (57, [(7, .ref 112), (6, .ref 110), (0, .ref 0), (1, .int x1), (2, .int x2), (3, .int x3), (4, .int x4), (5, .int x5)], [.int 2, .int (i 7040)], (0, 0), ks i a q r) (by rfl) ?_
              refine ft_ifS mi_k117 ((i 7040) != 2) 82 60 [] (by rfl) (fun c => ?_) (fun c => ?_)
              ·
                have c409 : (i 7040).toInt ≠ (2 : Int32).toInt := kd_ne c; clear c
                first | refine fo_goS mi_k117 fz117_82_1_84 [.int (-12)] (by rfl) ?_ | refine ft_go mi_k117 1 84 [(7, .ref 112), (6, .ref 110), (0, .ref 0), (1, .int x1), (2, .int x2), (3, .int x3), (4, .int x4), (5, .int x5)] [.int (-12)] i a q r (by rfl) ?_ | refine ko_steps mi_in117 1 _ (84, [(7, .ref 112), (6, .ref 110), (0, .ref 0), (1, .int x1), (2, .int x2), (3, .int x3), (4, .int x4), (5, .int x5)], [.int (-12)], (0, 0), ks i a q r) (by rfl) ?_
                have fi_7042 : ((0 : Int) ≤ (i 7042).toInt) ∧ ((i 7042).toInt ≤ 4) := hG.I.1 7042
                have fi_7170 : ((0 : Int) ≤ (i 7170).toInt) ∧ ((i 7170).toInt ≤ 4) := hG.I.1 7170
                have fi_7043 : ((0 : Int) ≤ (i 7043).toInt) ∧ ((i 7043).toInt ≤ 60) := hG.I.1 7043
                have fi_7171 : ((0 : Int) ≤ (i 7171).toInt) ∧ ((i 7171).toInt ≤ 60) := hG.I.1 7171
                exact ft_ret mi_k117 (by rfl) (hP (-12) _ _ _ _ hG ⟨trivial, ⟨fun s t hs ht e1 e3 => by
        have es : s = 3 := kj_at e1 (oy142 w332)
        have et : t = 4 := kj_at e3 (oy144 w405)
        subst es
        subst et
        exact ⟨(Or.inr (Or.inl ⟨kym12, (oy129 c407 c408 fi_7040.1 fi_7168.1 ky0), (oy130 c409 fi_7040.2 ky2)⟩)), fun h => absurd h (kj_neg kym12 (by decide))⟩, fun _ => (fun u hu => match u, hu with | 0, _ => rfl | 1, _ => rfl | 2, _ => rfl | 3, _ => rfl | 4, _ => rfl | 5, _ => rfl | _ + 6, h => absurd h (by omega)), fun h => absurd (oy170 w332 w405 z2.2 z4.2) h⟩⟩)
              ·
                have c410 : (i 7040).toInt = (2 : Int32).toInt := kd_neF c; clear c
                first | refine fo_goL mi_k117 fz117_60_3_66 [(7, .ref 112), (6, .ref 110), (0, .ref 0), (1, .int x1), (2, .int x2), (3, .int x3), (4, .int x4), (5, .int x5)] [.int 2, .int (i 7168)] (by rfl) ?_ | refine ft_go mi_k117 3 66 [(7, .ref 112), (6, .ref 110), (0, .ref 0), (1, .int x1), (2, .int x2), (3, .int x3), (4, .int x4), (5, .int x5)] [.int 2, .int (i 7168)] i a q r (by rfl) ?_ | refine ko_steps mi_in117 3 _ (66, [(7, .ref 112), (6, .ref 110), (0, .ref 0), (1, .int x1), (2, .int x2), (3, .int x3), (4, .int x4), (5, .int x5)], [.int 2, .int (i 7168)], (0, 0), ks i a q r) (by rfl) ?_
                refine ft_ifS mi_k117 ((i 7168) != 2) 82 69 [] (by rfl) (fun c => ?_) (fun c => ?_)
                ·
                  have c411 : (i 7168).toInt ≠ (2 : Int32).toInt := kd_ne c; clear c
                  first | refine fo_goS mi_k117 fz117_82_1_84 [.int (-12)] (by rfl) ?_ | refine ft_go mi_k117 1 84 [(7, .ref 112), (6, .ref 110), (0, .ref 0), (1, .int x1), (2, .int x2), (3, .int x3), (4, .int x4), (5, .int x5)] [.int (-12)] i a q r (by rfl) ?_ | refine ko_steps mi_in117 1 _ (84, [(7, .ref 112), (6, .ref 110), (0, .ref 0), (1, .int x1), (2, .int x2), (3, .int x3), (4, .int x4), (5, .int x5)], [.int (-12)], (0, 0), ks i a q r) (by rfl) ?_
                  have fi_7042 : ((0 : Int) ≤ (i 7042).toInt) ∧ ((i 7042).toInt ≤ 4) := hG.I.1 7042
                  have fi_7170 : ((0 : Int) ≤ (i 7170).toInt) ∧ ((i 7170).toInt ≤ 4) := hG.I.1 7170
                  have fi_7043 : ((0 : Int) ≤ (i 7043).toInt) ∧ ((i 7043).toInt ≤ 60) := hG.I.1 7043
                  have fi_7171 : ((0 : Int) ≤ (i 7171).toInt) ∧ ((i 7171).toInt ≤ 60) := hG.I.1 7171
                  exact ft_ret mi_k117 (by rfl) (hP (-12) _ _ _ _ hG ⟨trivial, ⟨fun s t hs ht e1 e3 => by
        have es : s = 3 := kj_at e1 (oy142 w332)
        have et : t = 4 := kj_at e3 (oy144 w405)
        subst es
        subst et
        exact ⟨(Or.inr (Or.inl ⟨kym12, (oy131 c408 c410 fi_7168.1 ky0 ky2), (oy132 c411 fi_7168.2 ky2)⟩)), fun h => absurd h (kj_neg kym12 (by decide))⟩, fun _ => (fun u hu => match u, hu with | 0, _ => rfl | 1, _ => rfl | 2, _ => rfl | 3, _ => rfl | 4, _ => rfl | 5, _ => rfl | _ + 6, h => absurd h (by omega)), fun h => absurd (oy170 w332 w405 z2.2 z4.2) h⟩⟩)
                ·
                  have c412 : (i 7168).toInt = (2 : Int32).toInt := kd_neF c; clear c
                  have fi_7042 : ((0 : Int) ≤ (i 7042).toInt) ∧ ((i 7042).toInt ≤ 4) := hG.I.1 7042
                  have fi_7170 : ((0 : Int) ≤ (i 7170).toInt) ∧ ((i 7170).toInt ≤ 4) := hG.I.1 7170
                  first | refine fo_goL mi_k117 fz117_69_4_79 [(7, .ref 112), (6, .ref 110), (0, .ref 0), (1, .int x1), (2, .int x2), (3, .int x3), (4, .int x4), (5, .int x5)] [.int (i 7170), .int (i 7042)] (by rfl) ?_ | refine ft_go mi_k117 4 79 [(7, .ref 112), (6, .ref 110), (0, .ref 0), (1, .int x1), (2, .int x2), (3, .int x3), (4, .int x4), (5, .int x5)] [.int (i 7170), .int (i 7042)] i a q r (by rfl) ?_ | refine ko_steps mi_in117 4 _ (79, [(7, .ref 112), (6, .ref 110), (0, .ref 0), (1, .int x1), (2, .int x2), (3, .int x3), (4, .int x4), (5, .int x5)], [.int (i 7170), .int (i 7042)], (0, 0), ks i a q r) (by rfl) ?_
                  refine ft_ifS mi_k117 ((i 7042) == (i 7170)) 85 82 [] (by rfl) (fun c => ?_) (fun c => ?_)
                  ·
                    have c413 : (i 7042).toInt = (i 7170).toInt := kd_eq c; clear c
                    first | refine fo_goS mi_k117 fz117_85_3_90 [.int x5, .int x2, .ref 110] (by rfl) ?_ | refine ft_go mi_k117 3 90 [(7, .ref 112), (6, .ref 110), (0, .ref 0), (1, .int x1), (2, .int x2), (3, .int x3), (4, .int x4), (5, .int x5)] [.int x5, .int x2, .ref 110] i a q r (by rfl) ?_ | refine ko_steps mi_in117 3 _ (90, [(7, .ref 112), (6, .ref 110), (0, .ref 0), (1, .int x1), (2, .int x2), (3, .int x3), (4, .int x4), (5, .int x5)], [.int x5, .int x2, .ref 110], (0, 0), ks i a q r) (by rfl) ?_
                    refine ko_callPI mi_k117.1 (pc := 90) (ls := [(7, .ref 112), (6, .ref 110), (0, .ref 0), (1, .int x1), (2, .int x2), (3, .int x3), (4, .int x4), (5, .int x5)]) (st := [.int x5, .int x2, .ref 110]) (h := ks i a q r) (i := (.invokevirtual 324, 3, 37, 0, 9, 0, 316)) (mi_k117.2 _ _ (by rfl)) (ft_invS mi_pq37 (by rfl)) (cy := mi_c37) mi_pq37 rfl (kc37_110 hG.I hG.R x2 x5) (by decide) ?_
                    intro vg414 hg414
                    rcases hg414 with ⟨eg414, hg414⟩ | ⟨eg414, hg414⟩
                    ·
                      subst eg414
                      have fi_7043 : ((0 : Int) ≤ (i 7043).toInt) ∧ ((i 7043).toInt ≤ 60) := hG.I.1 7043
                      have z415 : ((0 : Int) ≤ x5.toInt) ∧ (x5.toInt ≤ (i 7043).toInt) ∧ ((0 : Int) ≤ x2.toInt) ∧ ((x2.toInt + x5.toInt) ≤ (i 7043).toInt) := hg414
                      first | refine fo_goS mi_k117 fz117_93_4_102 [.int x5, .int x4, .ref 112] (by rfl) ?_ | refine ft_go mi_k117 4 102 [(7, .ref 112), (6, .ref 110), (0, .ref 0), (1, .int x1), (2, .int x2), (3, .int x3), (4, .int x4), (5, .int x5)] [.int x5, .int x4, .ref 112] i a q r (by rfl) ?_ | refine ko_steps mi_in117 4 _ (102, [(7, .ref 112), (6, .ref 110), (0, .ref 0), (1, .int x1), (2, .int x2), (3, .int x3), (4, .int x4), (5, .int x5)], [.int x5, .int x4, .ref 112], (0, 0), ks i a q r) (by rfl) ?_
                      refine ko_callPI mi_k117.1 (pc := 102) (ls := [(7, .ref 112), (6, .ref 110), (0, .ref 0), (1, .int x1), (2, .int x2), (3, .int x3), (4, .int x4), (5, .int x5)]) (st := [.int x5, .int x4, .ref 112]) (h := ks i a q r) (i := (.invokevirtual 324, 3, 37, 0, 9, 0, 316)) (mi_k117.2 _ _ (by rfl)) (ft_invS mi_pq37 (by rfl)) (cy := mi_c37) mi_pq37 rfl (kc37_112 hG.I hG.R x4 x5) (by decide) ?_
                      intro vg416 hg416
                      rcases hg416 with ⟨eg416, hg416⟩ | ⟨eg416, hg416⟩
                      ·
                        subst eg416
                        have fi_7171 : ((0 : Int) ≤ (i 7171).toInt) ∧ ((i 7171).toInt ≤ 60) := hG.I.1 7171
                        have z417 : ((0 : Int) ≤ x5.toInt) ∧ (x5.toInt ≤ (i 7171).toInt) ∧ ((0 : Int) ≤ x4.toInt) ∧ ((x4.toInt + x5.toInt) ≤ (i 7171).toInt) := hg416
                        first | refine fo_goS mi_k117 fz117_105_8_126 [.int x5, .int x4, .ref 113, .int x2, .ref 111] (by rfl) ?_ | refine ft_go mi_k117 8 126 [(7, .ref 112), (6, .ref 110), (0, .ref 0), (1, .int x1), (2, .int x2), (3, .int x3), (4, .int x4), (5, .int x5)] [.int x5, .int x4, .ref 113, .int x2, .ref 111] i a q r (by rfl) ?_ | refine ko_steps mi_in117 8 _ (126, [(7, .ref 112), (6, .ref 110), (0, .ref 0), (1, .int x1), (2, .int x2), (3, .int x3), (4, .int x4), (5, .int x5)], [.int x5, .int x4, .ref 113, .int x2, .ref 111], (0, 0), ks i a q r) (by rfl) ?_
                        have hJ418 := kG_q hG 113 rfl (z := mi_cpy (q 111) (q 113) x2.toNatClampNeg x4.toNatClampNeg x5.toNatClampNeg) (kcpy_len2 (n := 60) (c := 60) (m := 60) (b := 60) (sp := x2) (dp := x4) (n1 := x5) (hG.I.2.2.2 111) rfl (hG.I.2.2.2 113) rfl (oy3 z415.1) (oy3 z415.2.2.1) (oy3 z417.2.2.1) (oy119 fi_7043.2 z415.2.2.2) (oy119 fi_7171.2 z417.2.2.2))
                        refine ko_copyL2 mi_k117.1 (l := q 111) (g := q 113) (n := 60) (c := 60) (m := 60) (b := 60) (mi_k117.2 _ _ (by rfl)) (by rfl) (by rfl) (by rfl) (by rfl) (by rfl) (hG.I.2.2.2 111) rfl (hG.I.2.2.2 113) rfl (oy3 z415.1) (oy3 z415.2.2.1) (oy3 z417.2.2.1) (oy119 fi_7043.2 z415.2.2.2) (oy119 fi_7171.2 z417.2.2.2) (h5 := ks i a (ku q 113 (mi_cpy (q 111) (q 113) x2.toNatClampNeg x4.toNatClampNeg x5.toNatClampNeg)) r) (by rfl) ?_
                        first | refine fo_goS mi_k117 fz117_129_1_131 [.int x5] (by rfl) ?_ | refine ft_go mi_k117 1 131 [(7, .ref 112), (6, .ref 110), (0, .ref 0), (1, .int x1), (2, .int x2), (3, .int x3), (4, .int x4), (5, .int x5)] [.int x5] i a (ku q 113 (mi_cpy (q 111) (q 113) x2.toNatClampNeg x4.toNatClampNeg x5.toNatClampNeg)) r (by rfl) ?_ | refine ko_steps mi_in117 1 _ (131, [(7, .ref 112), (6, .ref 110), (0, .ref 0), (1, .int x1), (2, .int x2), (3, .int x3), (4, .int x4), (5, .int x5)], [.int x5], (0, 0), ks i a (ku q 113 (mi_cpy (q 111) (q 113) x2.toNatClampNeg x4.toNatClampNeg x5.toNatClampNeg)) r) (by rfl) ?_
                        exact ft_ret mi_k117 (by rfl) (hP x5 _ _ _ _ hJ418 ⟨trivial, ⟨fun s t hs ht e1 e3 => by
        have es : s = 3 := kj_at e1 (oy142 w332)
        have et : t = 4 := kj_at e3 (oy144 w405)
        subst es
        subst et
        exact ⟨(Or.inr (Or.inr (Or.inr ⟨rfl, (oy133 c410 c412 c413 fi_7040.2 fi_7168.2 ky2), (oy134 z415.1 z415.2.2.1 z415.2.2.2 z417.2.2.1 z417.2.2.2)⟩))), fun _ => ⟨rfl, (fun u hu ne => match u, hu, ne with | 0, _, _ => rfl | 1, _, _ => rfl | 2, _, _ => rfl | 3, _, _ => rfl | 4, _, ne => absurd rfl ne | 5, _, _ => rfl | _ + 6, h, _ => absurd h (by omega))⟩⟩, fun h => absurd h (oy26 z415.1), fun h => absurd (oy170 w332 w405 z2.2 z4.2) h⟩⟩)
                      ·
                        subst eg416
                        have fi_7171 : ((0 : Int) ≤ (i 7171).toInt) ∧ ((i 7171).toInt ≤ 60) := hG.I.1 7171
                        have z419 : ¬ (((0 : Int) ≤ x5.toInt) ∧ (x5.toInt ≤ (i 7171).toInt) ∧ ((0 : Int) ≤ x4.toInt) ∧ ((x4.toInt + x5.toInt) ≤ (i 7171).toInt)) := hg416
                        first | refine fo_goL mi_k117 fz117_93_2_110 [(7, .ref 112), (6, .ref 110), (0, .ref 0), (1, .int x1), (2, .int x2), (3, .int x3), (4, .int x4), (5, .int x5)] [.int (-13)] (by rfl) ?_ | refine fo_goL mi_k117 fz117_105_2_110 [(7, .ref 112), (6, .ref 110), (0, .ref 0), (1, .int x1), (2, .int x2), (3, .int x3), (4, .int x4), (5, .int x5)] [.int (-13)] (by rfl) ?_ | refine ft_go mi_k117 2 110 [(7, .ref 112), (6, .ref 110), (0, .ref 0), (1, .int x1), (2, .int x2), (3, .int x3), (4, .int x4), (5, .int x5)] [.int (-13)] i a q r (by rfl) ?_ | refine ko_steps mi_in117 2 _ (110, [(7, .ref 112), (6, .ref 110), (0, .ref 0), (1, .int x1), (2, .int x2), (3, .int x3), (4, .int x4), (5, .int x5)], [.int (-13)], (0, 0), ks i a q r) (by rfl) ?_
                        exact ft_ret mi_k117 (by rfl) (hP (-13) _ _ _ _ hG ⟨trivial, ⟨fun s t hs ht e1 e3 => by
        have es : s = 3 := kj_at e1 (oy142 w332)
        have et : t = 4 := kj_at e3 (oy144 w405)
        subst es
        subst et
        exact ⟨(Or.inr (Or.inr (Or.inl ⟨kym13, (oy133 c410 c412 c413 fi_7040.2 fi_7168.2 ky2), (oy135 z415.1 z419)⟩))), fun h => absurd h (kj_neg kym13 (by decide))⟩, fun _ => (fun u hu => match u, hu with | 0, _ => rfl | 1, _ => rfl | 2, _ => rfl | 3, _ => rfl | 4, _ => rfl | 5, _ => rfl | _ + 6, h => absurd h (by omega)), fun h => absurd (oy170 w332 w405 z2.2 z4.2) h⟩⟩)
                    ·
                      subst eg414
                      have fi_7043 : ((0 : Int) ≤ (i 7043).toInt) ∧ ((i 7043).toInt ≤ 60) := hG.I.1 7043
                      have z420 : ¬ (((0 : Int) ≤ x5.toInt) ∧ (x5.toInt ≤ (i 7043).toInt) ∧ ((0 : Int) ≤ x2.toInt) ∧ ((x2.toInt + x5.toInt) ≤ (i 7043).toInt)) := hg414
                      first | refine fo_goL mi_k117 fz117_93_2_110 [(7, .ref 112), (6, .ref 110), (0, .ref 0), (1, .int x1), (2, .int x2), (3, .int x3), (4, .int x4), (5, .int x5)] [.int (-13)] (by rfl) ?_ | refine fo_goL mi_k117 fz117_105_2_110 [(7, .ref 112), (6, .ref 110), (0, .ref 0), (1, .int x1), (2, .int x2), (3, .int x3), (4, .int x4), (5, .int x5)] [.int (-13)] (by rfl) ?_ | refine ft_go mi_k117 2 110 [(7, .ref 112), (6, .ref 110), (0, .ref 0), (1, .int x1), (2, .int x2), (3, .int x3), (4, .int x4), (5, .int x5)] [.int (-13)] i a q r (by rfl) ?_ | refine ko_steps mi_in117 2 _ (110, [(7, .ref 112), (6, .ref 110), (0, .ref 0), (1, .int x1), (2, .int x2), (3, .int x3), (4, .int x4), (5, .int x5)], [.int (-13)], (0, 0), ks i a q r) (by rfl) ?_
                      have fi_7171 : ((0 : Int) ≤ (i 7171).toInt) ∧ ((i 7171).toInt ≤ 60) := hG.I.1 7171
                      exact ft_ret mi_k117 (by rfl) (hP (-13) _ _ _ _ hG ⟨trivial, ⟨fun s t hs ht e1 e3 => by
        have es : s = 3 := kj_at e1 (oy142 w332)
        have et : t = 4 := kj_at e3 (oy144 w405)
        subst es
        subst et
        exact ⟨(Or.inr (Or.inr (Or.inl ⟨kym13, (oy133 c410 c412 c413 fi_7040.2 fi_7168.2 ky2), (oy136 z420)⟩))), fun h => absurd h (kj_neg kym13 (by decide))⟩, fun _ => (fun u hu => match u, hu with | 0, _ => rfl | 1, _ => rfl | 2, _ => rfl | 3, _ => rfl | 4, _ => rfl | 5, _ => rfl | _ + 6, h => absurd h (by omega)), fun h => absurd (oy170 w332 w405 z2.2 z4.2) h⟩⟩)
                  ·
                    have c421 : (i 7042).toInt ≠ (i 7170).toInt := kd_eqF c; clear c
                    first | refine fo_goL mi_k117 fz117_82_1_84 [(7, .ref 112), (6, .ref 110), (0, .ref 0), (1, .int x1), (2, .int x2), (3, .int x3), (4, .int x4), (5, .int x5)] [.int (-12)] (by rfl) ?_ | refine ft_go mi_k117 1 84 [(7, .ref 112), (6, .ref 110), (0, .ref 0), (1, .int x1), (2, .int x2), (3, .int x3), (4, .int x4), (5, .int x5)] [.int (-12)] i a q r (by rfl) ?_ | refine ko_steps mi_in117 1 _ (84, [(7, .ref 112), (6, .ref 110), (0, .ref 0), (1, .int x1), (2, .int x2), (3, .int x3), (4, .int x4), (5, .int x5)], [.int (-12)], (0, 0), ks i a q r) (by rfl) ?_
                    have fi_7043 : ((0 : Int) ≤ (i 7043).toInt) ∧ ((i 7043).toInt ≤ 60) := hG.I.1 7043
                    have fi_7171 : ((0 : Int) ≤ (i 7171).toInt) ∧ ((i 7171).toInt ≤ 60) := hG.I.1 7171
                    exact ft_ret mi_k117 (by rfl) (hP (-12) _ _ _ _ hG ⟨trivial, ⟨fun s t hs ht e1 e3 => by
        have es : s = 3 := kj_at e1 (oy142 w332)
        have et : t = 4 := kj_at e3 (oy144 w405)
        subst es
        subst et
        exact ⟨(Or.inr (Or.inl ⟨kym12, (oy137 c410 c412 ky2), (oy138 c421)⟩)), fun h => absurd h (kj_neg kym12 (by decide))⟩, fun _ => (fun u hu => match u, hu with | 0, _ => rfl | 1, _ => rfl | 2, _ => rfl | 3, _ => rfl | 4, _ => rfl | 5, _ => rfl | _ + 6, h => absurd h (by omega)), fun h => absurd (oy170 w332 w405 z2.2 z4.2) h⟩⟩)
            ·
              have c422 : (i 7168).toInt = (0 : Int32).toInt := kd_neF c; clear c
              first | refine fo_goL mi_k117 fz117_48_1_50 [(7, .ref 112), (6, .ref 110), (0, .ref 0), (1, .int x1), (2, .int x2), (3, .int x3), (4, .int x4), (5, .int x5)] [.int (-11)] (by rfl) ?_ | refine ft_go mi_k117 1 50 [(7, .ref 112), (6, .ref 110), (0, .ref 0), (1, .int x1), (2, .int x2), (3, .int x3), (4, .int x4), (5, .int x5)] [.int (-11)] i a q r (by rfl) ?_ | refine ko_steps mi_in117 1 _ (50, [(7, .ref 112), (6, .ref 110), (0, .ref 0), (1, .int x1), (2, .int x2), (3, .int x3), (4, .int x4), (5, .int x5)], [.int (-11)], (0, 0), ks i a q r) (by rfl) ?_
              have fi_7042 : ((0 : Int) ≤ (i 7042).toInt) ∧ ((i 7042).toInt ≤ 4) := hG.I.1 7042
              have fi_7170 : ((0 : Int) ≤ (i 7170).toInt) ∧ ((i 7170).toInt ≤ 4) := hG.I.1 7170
              have fi_7043 : ((0 : Int) ≤ (i 7043).toInt) ∧ ((i 7043).toInt ≤ 60) := hG.I.1 7043
              have fi_7171 : ((0 : Int) ≤ (i 7171).toInt) ∧ ((i 7171).toInt ≤ 60) := hG.I.1 7171
              exact ft_ret mi_k117 (by rfl) (hP (-11) _ _ _ _ hG ⟨trivial, ⟨fun s t hs ht e1 e3 => by
        have es : s = 3 := kj_at e1 (oy142 w332)
        have et : t = 4 := kj_at e3 (oy144 w405)
        subst es
        subst et
        exact ⟨(Or.inl ⟨kym11, (oy139 c422 fi_7168.1 ky0)⟩), fun h => absurd h (kj_neg kym11 (by decide))⟩, fun _ => (fun u hu => match u, hu with | 0, _ => rfl | 1, _ => rfl | 2, _ => rfl | 3, _ => rfl | 4, _ => rfl | 5, _ => rfl | _ + 6, h => absurd h (by omega)), fun h => absurd (oy170 w332 w405 z2.2 z4.2) h⟩⟩)
        by_cases w423 : x3.toInt = 5
        ·
          refine ko_eq (x1 := (29, [(6, .ref 110), (0, .ref 0), (1, .int x1), (2, .int x2), (3, .int x3), (4, .int x4), (5, .int x5)], [.int 5, .ref 97], (0, 0), ks i a q r)) (by rw [(kj_eq w423 (by decide) : x3 = 5)]) ?_
          have fi_7040 : ((0 : Int) ≤ (i 7040).toInt) ∧ ((i 7040).toInt ≤ 2) := hG.I.1 7040
          first | refine ft_goL mi_k117 4 37 [(7, .ref 114), (6, .ref 110), (0, .ref 0), (1, .int x1), (2, .int x2), (3, .int x3), (4, .int x4), (5, .int x5)] [.int (i 7040)] (by rfl) ?_ | refine ft_go mi_k117 4 37 [(7, .ref 114), (6, .ref 110), (0, .ref 0), (1, .int x1), (2, .int x2), (3, .int x3), (4, .int x4), (5, .int x5)] [.int (i 7040)] i a q r (by rfl) ?_ | refine ko_steps mi_in117 4 _ (37, [(7, .ref 114), (6, .ref 110), (0, .ref 0), (1, .int x1), (2, .int x2), (3, .int x3), (4, .int x4), (5, .int x5)], [.int (i 7040)], (0, 0), ks i a q r) (by rfl) ?_
          refine ft_ifS mi_k117 ((i 7040) == 0) 48 40 [] (by rfl) (fun c => ?_) (fun c => ?_)
          ·
            have c424 : (i 7040).toInt = (0 : Int32).toInt := kd_eq c; clear c
            first | refine fo_goS mi_k117 fz117_48_1_50 [.int (-11)] (by rfl) ?_ | refine ft_go mi_k117 1 50 [(7, .ref 114), (6, .ref 110), (0, .ref 0), (1, .int x1), (2, .int x2), (3, .int x3), (4, .int x4), (5, .int x5)] [.int (-11)] i a q r (by rfl) ?_ | refine ko_steps mi_in117 1 _ (50, [(7, .ref 114), (6, .ref 110), (0, .ref 0), (1, .int x1), (2, .int x2), (3, .int x3), (4, .int x4), (5, .int x5)], [.int (-11)], (0, 0), ks i a q r) (by rfl) ?_
            have fi_7296 : ((0 : Int) ≤ (i 7296).toInt) ∧ ((i 7296).toInt ≤ 2) := hG.I.1 7296
            have fi_7042 : ((0 : Int) ≤ (i 7042).toInt) ∧ ((i 7042).toInt ≤ 4) := hG.I.1 7042
            have fi_7298 : ((0 : Int) ≤ (i 7298).toInt) ∧ ((i 7298).toInt ≤ 4) := hG.I.1 7298
            have fi_7043 : ((0 : Int) ≤ (i 7043).toInt) ∧ ((i 7043).toInt ≤ 60) := hG.I.1 7043
            have fi_7299 : ((0 : Int) ≤ (i 7299).toInt) ∧ ((i 7299).toInt ≤ 60) := hG.I.1 7299
            exact ft_ret mi_k117 (by rfl) (hP (-11) _ _ _ _ hG ⟨trivial, ⟨fun s t hs ht e1 e3 => by
        have es : s = 3 := kj_at e1 (oy142 w332)
        have et : t = 5 := kj_at e3 (oy146 w423 z4.2)
        subst es
        subst et
        exact ⟨(Or.inl ⟨kym11, (oy127 c424 fi_7040.1 ky0)⟩), fun h => absurd h (kj_neg kym11 (by decide))⟩, fun _ => (fun u hu => match u, hu with | 0, _ => rfl | 1, _ => rfl | 2, _ => rfl | 3, _ => rfl | 4, _ => rfl | 5, _ => rfl | _ + 6, h => absurd h (by omega)), fun h => absurd (oy171 w332 w423 z2.2 z4.2) h⟩⟩)
          ·
            have c425 : (i 7040).toInt ≠ (0 : Int32).toInt := kd_eqF c; clear c
            have fi_7296 : ((0 : Int) ≤ (i 7296).toInt) ∧ ((i 7296).toInt ≤ 2) := hG.I.1 7296
            first | refine fo_goL mi_k117 fz117_40_2_45 [(7, .ref 114), (6, .ref 110), (0, .ref 0), (1, .int x1), (2, .int x2), (3, .int x3), (4, .int x4), (5, .int x5)] [.int (i 7296)] (by rfl) ?_ | refine ft_go mi_k117 2 45 [(7, .ref 114), (6, .ref 110), (0, .ref 0), (1, .int x1), (2, .int x2), (3, .int x3), (4, .int x4), (5, .int x5)] [.int (i 7296)] i a q r (by rfl) ?_ | refine ko_steps mi_in117 2 _ (45, [(7, .ref 114), (6, .ref 110), (0, .ref 0), (1, .int x1), (2, .int x2), (3, .int x3), (4, .int x4), (5, .int x5)], [.int (i 7296)], (0, 0), ks i a q r) (by rfl) ?_
            refine ft_ifS mi_k117 ((i 7296) != 0) 51 48 [] (by rfl) (fun c => ?_) (fun c => ?_)
            ·
              have c426 : (i 7296).toInt ≠ (0 : Int32).toInt := kd_ne c; clear c
              first | refine fo_goS mi_k117 fz117_51_3_57 [.int 2, .int (i 7040)] (by rfl) ?_ | refine ft_go mi_k117 3 57 [(7, .ref 114), (6, .ref 110), (0, .ref 0), (1, .int x1), (2, .int x2), (3, .int x3), (4, .int x4), (5, .int x5)] [.int 2, .int (i 7040)] i a q r (by rfl) ?_ | refine ko_steps mi_in117 3 _ (57, [(7, .ref 114), (6, .ref 110), (0, .ref 0), (1, .int x1), (2, .int x2), (3, .int x3), (4, .int x4), (5, .int x5)], [.int 2, .int (i 7040)], (0, 0), ks i a q r) (by rfl) ?_
              refine ft_ifS mi_k117 ((i 7040) != 2) 82 60 [] (by rfl) (fun c => ?_) (fun c => ?_)
              ·
                have c427 : (i 7040).toInt ≠ (2 : Int32).toInt := kd_ne c; clear c
                first | refine fo_goS mi_k117 fz117_82_1_84 [.int (-12)] (by rfl) ?_ | refine ft_go mi_k117 1 84 [(7, .ref 114), (6, .ref 110), (0, .ref 0), (1, .int x1), (2, .int x2), (3, .int x3), (4, .int x4), (5, .int x5)] [.int (-12)] i a q r (by rfl) ?_ | refine ko_steps mi_in117 1 _ (84, [(7, .ref 114), (6, .ref 110), (0, .ref 0), (1, .int x1), (2, .int x2), (3, .int x3), (4, .int x4), (5, .int x5)], [.int (-12)], (0, 0), ks i a q r) (by rfl) ?_
                have fi_7042 : ((0 : Int) ≤ (i 7042).toInt) ∧ ((i 7042).toInt ≤ 4) := hG.I.1 7042
                have fi_7298 : ((0 : Int) ≤ (i 7298).toInt) ∧ ((i 7298).toInt ≤ 4) := hG.I.1 7298
                have fi_7043 : ((0 : Int) ≤ (i 7043).toInt) ∧ ((i 7043).toInt ≤ 60) := hG.I.1 7043
                have fi_7299 : ((0 : Int) ≤ (i 7299).toInt) ∧ ((i 7299).toInt ≤ 60) := hG.I.1 7299
                exact ft_ret mi_k117 (by rfl) (hP (-12) _ _ _ _ hG ⟨trivial, ⟨fun s t hs ht e1 e3 => by
        have es : s = 3 := kj_at e1 (oy142 w332)
        have et : t = 5 := kj_at e3 (oy146 w423 z4.2)
        subst es
        subst et
        exact ⟨(Or.inr (Or.inl ⟨kym12, (oy129 c425 c426 fi_7040.1 fi_7296.1 ky0), (oy130 c427 fi_7040.2 ky2)⟩)), fun h => absurd h (kj_neg kym12 (by decide))⟩, fun _ => (fun u hu => match u, hu with | 0, _ => rfl | 1, _ => rfl | 2, _ => rfl | 3, _ => rfl | 4, _ => rfl | 5, _ => rfl | _ + 6, h => absurd h (by omega)), fun h => absurd (oy171 w332 w423 z2.2 z4.2) h⟩⟩)
              ·
                have c428 : (i 7040).toInt = (2 : Int32).toInt := kd_neF c; clear c
                first | refine fo_goL mi_k117 fz117_60_3_66 [(7, .ref 114), (6, .ref 110), (0, .ref 0), (1, .int x1), (2, .int x2), (3, .int x3), (4, .int x4), (5, .int x5)] [.int 2, .int (i 7296)] (by rfl) ?_ | refine ft_go mi_k117 3 66 [(7, .ref 114), (6, .ref 110), (0, .ref 0), (1, .int x1), (2, .int x2), (3, .int x3), (4, .int x4), (5, .int x5)] [.int 2, .int (i 7296)] i a q r (by rfl) ?_ | refine ko_steps mi_in117 3 _ (66, [(7, .ref 114), (6, .ref 110), (0, .ref 0), (1, .int x1), (2, .int x2), (3, .int x3), (4, .int x4), (5, .int x5)], [.int 2, .int (i 7296)], (0, 0), ks i a q r) (by rfl) ?_
                refine ft_ifS mi_k117 ((i 7296) != 2) 82 69 [] (by rfl) (fun c => ?_) (fun c => ?_)
                ·
                  have c429 : (i 7296).toInt ≠ (2 : Int32).toInt := kd_ne c; clear c
                  first | refine fo_goS mi_k117 fz117_82_1_84 [.int (-12)] (by rfl) ?_ | refine ft_go mi_k117 1 84 [(7, .ref 114), (6, .ref 110), (0, .ref 0), (1, .int x1), (2, .int x2), (3, .int x3), (4, .int x4), (5, .int x5)] [.int (-12)] i a q r (by rfl) ?_ | refine ko_steps mi_in117 1 _ (84, [(7, .ref 114), (6, .ref 110), (0, .ref 0), (1, .int x1), (2, .int x2), (3, .int x3), (4, .int x4), (5, .int x5)], [.int (-12)], (0, 0), ks i a q r) (by rfl) ?_
                  have fi_7042 : ((0 : Int) ≤ (i 7042).toInt) ∧ ((i 7042).toInt ≤ 4) := hG.I.1 7042
                  have fi_7298 : ((0 : Int) ≤ (i 7298).toInt) ∧ ((i 7298).toInt ≤ 4) := hG.I.1 7298
                  have fi_7043 : ((0 : Int) ≤ (i 7043).toInt) ∧ ((i 7043).toInt ≤ 60) := hG.I.1 7043
                  have fi_7299 : ((0 : Int) ≤ (i 7299).toInt) ∧ ((i 7299).toInt ≤ 60) := hG.I.1 7299
                  exact ft_ret mi_k117 (by rfl) (hP (-12) _ _ _ _ hG ⟨trivial, ⟨fun s t hs ht e1 e3 => by
        have es : s = 3 := kj_at e1 (oy142 w332)
        have et : t = 5 := kj_at e3 (oy146 w423 z4.2)
        subst es
        subst et
        exact ⟨(Or.inr (Or.inl ⟨kym12, (oy131 c426 c428 fi_7296.1 ky0 ky2), (oy132 c429 fi_7296.2 ky2)⟩)), fun h => absurd h (kj_neg kym12 (by decide))⟩, fun _ => (fun u hu => match u, hu with | 0, _ => rfl | 1, _ => rfl | 2, _ => rfl | 3, _ => rfl | 4, _ => rfl | 5, _ => rfl | _ + 6, h => absurd h (by omega)), fun h => absurd (oy171 w332 w423 z2.2 z4.2) h⟩⟩)
                ·
                  have c430 : (i 7296).toInt = (2 : Int32).toInt := kd_neF c; clear c
                  have fi_7042 : ((0 : Int) ≤ (i 7042).toInt) ∧ ((i 7042).toInt ≤ 4) := hG.I.1 7042
                  have fi_7298 : ((0 : Int) ≤ (i 7298).toInt) ∧ ((i 7298).toInt ≤ 4) := hG.I.1 7298
                  first | refine fo_goL mi_k117 fz117_69_4_79 [(7, .ref 114), (6, .ref 110), (0, .ref 0), (1, .int x1), (2, .int x2), (3, .int x3), (4, .int x4), (5, .int x5)] [.int (i 7298), .int (i 7042)] (by rfl) ?_ | refine ft_go mi_k117 4 79 [(7, .ref 114), (6, .ref 110), (0, .ref 0), (1, .int x1), (2, .int x2), (3, .int x3), (4, .int x4), (5, .int x5)] [.int (i 7298), .int (i 7042)] i a q r (by rfl) ?_ | refine ko_steps mi_in117 4 _ (79, [(7, .ref 114), (6, .ref 110), (0, .ref 0), (1, .int x1), (2, .int x2), (3, .int x3), (4, .int x4), (5, .int x5)], [.int (i 7298), .int (i 7042)], (0, 0), ks i a q r) (by rfl) ?_
                  refine ft_ifS mi_k117 ((i 7042) == (i 7298)) 85 82 [] (by rfl) (fun c => ?_) (fun c => ?_)
                  ·
                    have c431 : (i 7042).toInt = (i 7298).toInt := kd_eq c; clear c
                    first | refine fo_goS mi_k117 fz117_85_3_90 [.int x5, .int x2, .ref 110] (by rfl) ?_ | refine ft_go mi_k117 3 90 [(7, .ref 114), (6, .ref 110), (0, .ref 0), (1, .int x1), (2, .int x2), (3, .int x3), (4, .int x4), (5, .int x5)] [.int x5, .int x2, .ref 110] i a q r (by rfl) ?_ | refine ko_steps mi_in117 3 _ (90, [(7, .ref 114), (6, .ref 110), (0, .ref 0), (1, .int x1), (2, .int x2), (3, .int x3), (4, .int x4), (5, .int x5)], [.int x5, .int x2, .ref 110], (0, 0), ks i a q r) (by rfl) ?_
                    refine ko_callPI mi_k117.1 (pc := 90) (ls := [(7, .ref 114), (6, .ref 110), (0, .ref 0), (1, .int x1), (2, .int x2), (3, .int x3), (4, .int x4), (5, .int x5)]) (st := [.int x5, .int x2, .ref 110]) (h := ks i a q r) (i := (.invokevirtual 324, 3, 37, 0, 9, 0, 316)) (mi_k117.2 _ _ (by rfl)) (ft_invS mi_pq37 (by rfl)) (cy := mi_c37) mi_pq37 rfl (kc37_110 hG.I hG.R x2 x5) (by decide) ?_
                    intro vg432 hg432
                    rcases hg432 with ⟨eg432, hg432⟩ | ⟨eg432, hg432⟩
                    ·
                      subst eg432
                      have fi_7043 : ((0 : Int) ≤ (i 7043).toInt) ∧ ((i 7043).toInt ≤ 60) := hG.I.1 7043
                      have z433 : ((0 : Int) ≤ x5.toInt) ∧ (x5.toInt ≤ (i 7043).toInt) ∧ ((0 : Int) ≤ x2.toInt) ∧ ((x2.toInt + x5.toInt) ≤ (i 7043).toInt) := hg432
                      first | refine fo_goS mi_k117 fz117_93_4_102 [.int x5, .int x4, .ref 114] (by rfl) ?_ | refine ft_go mi_k117 4 102 [(7, .ref 114), (6, .ref 110), (0, .ref 0), (1, .int x1), (2, .int x2), (3, .int x3), (4, .int x4), (5, .int x5)] [.int x5, .int x4, .ref 114] i a q r (by rfl) ?_ | refine ko_steps mi_in117 4 _ (102, [(7, .ref 114), (6, .ref 110), (0, .ref 0), (1, .int x1), (2, .int x2), (3, .int x3), (4, .int x4), (5, .int x5)], [.int x5, .int x4, .ref 114], (0, 0), ks i a q r) (by rfl) ?_
                      refine ko_callPI mi_k117.1 (pc := 102) (ls := [(7, .ref 114), (6, .ref 110), (0, .ref 0), (1, .int x1), (2, .int x2), (3, .int x3), (4, .int x4), (5, .int x5)]) (st := [.int x5, .int x4, .ref 114]) (h := ks i a q r) (i := (.invokevirtual 324, 3, 37, 0, 9, 0, 316)) (mi_k117.2 _ _ (by rfl)) (ft_invS mi_pq37 (by rfl)) (cy := mi_c37) mi_pq37 rfl (kc37_114 hG.I hG.R x4 x5) (by decide) ?_
                      intro vg434 hg434
                      rcases hg434 with ⟨eg434, hg434⟩ | ⟨eg434, hg434⟩
                      ·
                        subst eg434
                        have fi_7299 : ((0 : Int) ≤ (i 7299).toInt) ∧ ((i 7299).toInt ≤ 60) := hG.I.1 7299
                        have z435 : ((0 : Int) ≤ x5.toInt) ∧ (x5.toInt ≤ (i 7299).toInt) ∧ ((0 : Int) ≤ x4.toInt) ∧ ((x4.toInt + x5.toInt) ≤ (i 7299).toInt) := hg434
                        first | refine fo_goS mi_k117 fz117_105_8_126 [.int x5, .int x4, .ref 115, .int x2, .ref 111] (by rfl) ?_ | refine ft_go mi_k117 8 126 [(7, .ref 114), (6, .ref 110), (0, .ref 0), (1, .int x1), (2, .int x2), (3, .int x3), (4, .int x4), (5, .int x5)] [.int x5, .int x4, .ref 115, .int x2, .ref 111] i a q r (by rfl) ?_ | refine ko_steps mi_in117 8 _ (126, [(7, .ref 114), (6, .ref 110), (0, .ref 0), (1, .int x1), (2, .int x2), (3, .int x3), (4, .int x4), (5, .int x5)], [.int x5, .int x4, .ref 115, .int x2, .ref 111], (0, 0), ks i a q r) (by rfl) ?_
                        have hJ436 := kG_q hG 115 rfl (z := mi_cpy (q 111) (q 115) x2.toNatClampNeg x4.toNatClampNeg x5.toNatClampNeg) (kcpy_len2 (n := 60) (c := 60) (m := 60) (b := 60) (sp := x2) (dp := x4) (n1 := x5) (hG.I.2.2.2 111) rfl (hG.I.2.2.2 115) rfl (oy3 z433.1) (oy3 z433.2.2.1) (oy3 z435.2.2.1) (oy119 fi_7043.2 z433.2.2.2) (oy119 fi_7299.2 z435.2.2.2))
                        refine ko_copyL2 mi_k117.1 (l := q 111) (g := q 115) (n := 60) (c := 60) (m := 60) (b := 60) (mi_k117.2 _ _ (by rfl)) (by rfl) (by rfl) (by rfl) (by rfl) (by rfl) (hG.I.2.2.2 111) rfl (hG.I.2.2.2 115) rfl (oy3 z433.1) (oy3 z433.2.2.1) (oy3 z435.2.2.1) (oy119 fi_7043.2 z433.2.2.2) (oy119 fi_7299.2 z435.2.2.2) (h5 := ks i a (ku q 115 (mi_cpy (q 111) (q 115) x2.toNatClampNeg x4.toNatClampNeg x5.toNatClampNeg)) r) (by rfl) ?_
                        first | refine fo_goS mi_k117 fz117_129_1_131 [.int x5] (by rfl) ?_ | refine ft_go mi_k117 1 131 [(7, .ref 114), (6, .ref 110), (0, .ref 0), (1, .int x1), (2, .int x2), (3, .int x3), (4, .int x4), (5, .int x5)] [.int x5] i a (ku q 115 (mi_cpy (q 111) (q 115) x2.toNatClampNeg x4.toNatClampNeg x5.toNatClampNeg)) r (by rfl) ?_ | refine ko_steps mi_in117 1 _ (131, [(7, .ref 114), (6, .ref 110), (0, .ref 0), (1, .int x1), (2, .int x2), (3, .int x3), (4, .int x4), (5, .int x5)], [.int x5], (0, 0), ks i a (ku q 115 (mi_cpy (q 111) (q 115) x2.toNatClampNeg x4.toNatClampNeg x5.toNatClampNeg)) r) (by rfl) ?_
                        exact ft_ret mi_k117 (by rfl) (hP x5 _ _ _ _ hJ436 ⟨trivial, ⟨fun s t hs ht e1 e3 => by
        have es : s = 3 := kj_at e1 (oy142 w332)
        have et : t = 5 := kj_at e3 (oy146 w423 z4.2)
        subst es
        subst et
        exact ⟨(Or.inr (Or.inr (Or.inr ⟨rfl, (oy133 c428 c430 c431 fi_7040.2 fi_7296.2 ky2), (oy134 z433.1 z433.2.2.1 z433.2.2.2 z435.2.2.1 z435.2.2.2)⟩))), fun _ => ⟨rfl, (fun u hu ne => match u, hu, ne with | 0, _, _ => rfl | 1, _, _ => rfl | 2, _, _ => rfl | 3, _, _ => rfl | 4, _, _ => rfl | 5, _, ne => absurd rfl ne | _ + 6, h, _ => absurd h (by omega))⟩⟩, fun h => absurd h (oy26 z433.1), fun h => absurd (oy171 w332 w423 z2.2 z4.2) h⟩⟩)
                      ·
                        subst eg434
                        have fi_7299 : ((0 : Int) ≤ (i 7299).toInt) ∧ ((i 7299).toInt ≤ 60) := hG.I.1 7299
                        have z437 : ¬ (((0 : Int) ≤ x5.toInt) ∧ (x5.toInt ≤ (i 7299).toInt) ∧ ((0 : Int) ≤ x4.toInt) ∧ ((x4.toInt + x5.toInt) ≤ (i 7299).toInt)) := hg434
                        first | refine fo_goL mi_k117 fz117_93_2_110 [(7, .ref 114), (6, .ref 110), (0, .ref 0), (1, .int x1), (2, .int x2), (3, .int x3), (4, .int x4), (5, .int x5)] [.int (-13)] (by rfl) ?_ | refine fo_goL mi_k117 fz117_105_2_110 [(7, .ref 114), (6, .ref 110), (0, .ref 0), (1, .int x1), (2, .int x2), (3, .int x3), (4, .int x4), (5, .int x5)] [.int (-13)] (by rfl) ?_ | refine ft_go mi_k117 2 110 [(7, .ref 114), (6, .ref 110), (0, .ref 0), (1, .int x1), (2, .int x2), (3, .int x3), (4, .int x4), (5, .int x5)] [.int (-13)] i a q r (by rfl) ?_ | refine ko_steps mi_in117 2 _ (110, [(7, .ref 114), (6, .ref 110), (0, .ref 0), (1, .int x1), (2, .int x2), (3, .int x3), (4, .int x4), (5, .int x5)], [.int (-13)], (0, 0), ks i a q r) (by rfl) ?_
                        exact ft_ret mi_k117 (by rfl) (hP (-13) _ _ _ _ hG ⟨trivial, ⟨fun s t hs ht e1 e3 => by
        have es : s = 3 := kj_at e1 (oy142 w332)
        have et : t = 5 := kj_at e3 (oy146 w423 z4.2)
        subst es
        subst et
        exact ⟨(Or.inr (Or.inr (Or.inl ⟨kym13, (oy133 c428 c430 c431 fi_7040.2 fi_7296.2 ky2), (oy135 z433.1 z437)⟩))), fun h => absurd h (kj_neg kym13 (by decide))⟩, fun _ => (fun u hu => match u, hu with | 0, _ => rfl | 1, _ => rfl | 2, _ => rfl | 3, _ => rfl | 4, _ => rfl | 5, _ => rfl | _ + 6, h => absurd h (by omega)), fun h => absurd (oy171 w332 w423 z2.2 z4.2) h⟩⟩)
                    ·
                      subst eg432
                      have fi_7043 : ((0 : Int) ≤ (i 7043).toInt) ∧ ((i 7043).toInt ≤ 60) := hG.I.1 7043
                      have z438 : ¬ (((0 : Int) ≤ x5.toInt) ∧ (x5.toInt ≤ (i 7043).toInt) ∧ ((0 : Int) ≤ x2.toInt) ∧ ((x2.toInt + x5.toInt) ≤ (i 7043).toInt)) := hg432
                      first | refine fo_goL mi_k117 fz117_93_2_110 [(7, .ref 114), (6, .ref 110), (0, .ref 0), (1, .int x1), (2, .int x2), (3, .int x3), (4, .int x4), (5, .int x5)] [.int (-13)] (by rfl) ?_ | refine fo_goL mi_k117 fz117_105_2_110 [(7, .ref 114), (6, .ref 110), (0, .ref 0), (1, .int x1), (2, .int x2), (3, .int x3), (4, .int x4), (5, .int x5)] [.int (-13)] (by rfl) ?_ | refine ft_go mi_k117 2 110 [(7, .ref 114), (6, .ref 110), (0, .ref 0), (1, .int x1), (2, .int x2), (3, .int x3), (4, .int x4), (5, .int x5)] [.int (-13)] i a q r (by rfl) ?_ | refine ko_steps mi_in117 2 _ (110, [(7, .ref 114), (6, .ref 110), (0, .ref 0), (1, .int x1), (2, .int x2), (3, .int x3), (4, .int x4), (5, .int x5)], [.int (-13)], (0, 0), ks i a q r) (by rfl) ?_
                      have fi_7299 : ((0 : Int) ≤ (i 7299).toInt) ∧ ((i 7299).toInt ≤ 60) := hG.I.1 7299
                      exact ft_ret mi_k117 (by rfl) (hP (-13) _ _ _ _ hG ⟨trivial, ⟨fun s t hs ht e1 e3 => by
        have es : s = 3 := kj_at e1 (oy142 w332)
        have et : t = 5 := kj_at e3 (oy146 w423 z4.2)
        subst es
        subst et
        exact ⟨(Or.inr (Or.inr (Or.inl ⟨kym13, (oy133 c428 c430 c431 fi_7040.2 fi_7296.2 ky2), (oy136 z438)⟩))), fun h => absurd h (kj_neg kym13 (by decide))⟩, fun _ => (fun u hu => match u, hu with | 0, _ => rfl | 1, _ => rfl | 2, _ => rfl | 3, _ => rfl | 4, _ => rfl | 5, _ => rfl | _ + 6, h => absurd h (by omega)), fun h => absurd (oy171 w332 w423 z2.2 z4.2) h⟩⟩)
                  ·
                    have c439 : (i 7042).toInt ≠ (i 7298).toInt := kd_eqF c; clear c
                    first | refine fo_goL mi_k117 fz117_82_1_84 [(7, .ref 114), (6, .ref 110), (0, .ref 0), (1, .int x1), (2, .int x2), (3, .int x3), (4, .int x4), (5, .int x5)] [.int (-12)] (by rfl) ?_ | refine ft_go mi_k117 1 84 [(7, .ref 114), (6, .ref 110), (0, .ref 0), (1, .int x1), (2, .int x2), (3, .int x3), (4, .int x4), (5, .int x5)] [.int (-12)] i a q r (by rfl) ?_ | refine ko_steps mi_in117 1 _ (84, [(7, .ref 114), (6, .ref 110), (0, .ref 0), (1, .int x1), (2, .int x2), (3, .int x3), (4, .int x4), (5, .int x5)], [.int (-12)], (0, 0), ks i a q r) (by rfl) ?_
                    have fi_7043 : ((0 : Int) ≤ (i 7043).toInt) ∧ ((i 7043).toInt ≤ 60) := hG.I.1 7043
                    have fi_7299 : ((0 : Int) ≤ (i 7299).toInt) ∧ ((i 7299).toInt ≤ 60) := hG.I.1 7299
                    exact ft_ret mi_k117 (by rfl) (hP (-12) _ _ _ _ hG ⟨trivial, ⟨fun s t hs ht e1 e3 => by
        have es : s = 3 := kj_at e1 (oy142 w332)
        have et : t = 5 := kj_at e3 (oy146 w423 z4.2)
        subst es
        subst et
        exact ⟨(Or.inr (Or.inl ⟨kym12, (oy137 c428 c430 ky2), (oy138 c439)⟩)), fun h => absurd h (kj_neg kym12 (by decide))⟩, fun _ => (fun u hu => match u, hu with | 0, _ => rfl | 1, _ => rfl | 2, _ => rfl | 3, _ => rfl | 4, _ => rfl | 5, _ => rfl | _ + 6, h => absurd h (by omega)), fun h => absurd (oy171 w332 w423 z2.2 z4.2) h⟩⟩)
            ·
              have c440 : (i 7296).toInt = (0 : Int32).toInt := kd_neF c; clear c
              first | refine fo_goL mi_k117 fz117_48_1_50 [(7, .ref 114), (6, .ref 110), (0, .ref 0), (1, .int x1), (2, .int x2), (3, .int x3), (4, .int x4), (5, .int x5)] [.int (-11)] (by rfl) ?_ | refine ft_go mi_k117 1 50 [(7, .ref 114), (6, .ref 110), (0, .ref 0), (1, .int x1), (2, .int x2), (3, .int x3), (4, .int x4), (5, .int x5)] [.int (-11)] i a q r (by rfl) ?_ | refine ko_steps mi_in117 1 _ (50, [(7, .ref 114), (6, .ref 110), (0, .ref 0), (1, .int x1), (2, .int x2), (3, .int x3), (4, .int x4), (5, .int x5)], [.int (-11)], (0, 0), ks i a q r) (by rfl) ?_
              have fi_7042 : ((0 : Int) ≤ (i 7042).toInt) ∧ ((i 7042).toInt ≤ 4) := hG.I.1 7042
              have fi_7298 : ((0 : Int) ≤ (i 7298).toInt) ∧ ((i 7298).toInt ≤ 4) := hG.I.1 7298
              have fi_7043 : ((0 : Int) ≤ (i 7043).toInt) ∧ ((i 7043).toInt ≤ 60) := hG.I.1 7043
              have fi_7299 : ((0 : Int) ≤ (i 7299).toInt) ∧ ((i 7299).toInt ≤ 60) := hG.I.1 7299
              exact ft_ret mi_k117 (by rfl) (hP (-11) _ _ _ _ hG ⟨trivial, ⟨fun s t hs ht e1 e3 => by
        have es : s = 3 := kj_at e1 (oy142 w332)
        have et : t = 5 := kj_at e3 (oy146 w423 z4.2)
        subst es
        subst et
        exact ⟨(Or.inl ⟨kym11, (oy139 c440 fi_7296.1 ky0)⟩), fun h => absurd h (kj_neg kym11 (by decide))⟩, fun _ => (fun u hu => match u, hu with | 0, _ => rfl | 1, _ => rfl | 2, _ => rfl | 3, _ => rfl | 4, _ => rfl | 5, _ => rfl | _ + 6, h => absurd h (by omega)), fun h => absurd (oy171 w332 w423 z2.2 z4.2) h⟩⟩)
        exact (oy159 w333 w351 w369 w387 w405 w423 z4.1 z4.2).elim
      by_cases w441 : x1.toInt = 4
      ·
        refine ft_alx mi_k117 (pc := 21) (v := 4) (p := 97) (z := 112) (kj_eq w441 (by decide) : x1 = 4) (by decide +kernel) (by decide +kernel) ?_
        first | refine fo_goL mi_k117 fz117_22_4_29 [(6, .ref 112), (0, .ref 0), (1, .int x1), (2, .int x2), (3, .int x3), (4, .int x4), (5, .int x5)] [.int x3, .ref 97] (by rfl) ?_ | refine ft_go mi_k117 4 29 [(6, .ref 112), (0, .ref 0), (1, .int x1), (2, .int x2), (3, .int x3), (4, .int x4), (5, .int x5)] [.int x3, .ref 97] i a q r (by rfl) ?_ | refine ko_steps mi_in117 4 _ (29, [(6, .ref 112), (0, .ref 0), (1, .int x1), (2, .int x2), (3, .int x3), (4, .int x4), (5, .int x5)], [.int x3, .ref 97], (0, 0), ks i a q r) (by rfl) ?_
        by_cases w442 : x3.toInt = 0
        ·
          refine ko_eq (x1 := (29, [(6, .ref 112), (0, .ref 0), (1, .int x1), (2, .int x2), (3, .int x3), (4, .int x4), (5, .int x5)], [.int 0, .ref 97], (0, 0), ks i a q r)) (by rw [(kj_eq w442 (by decide) : x3 = 0)]) ?_
          have fi_7168 : ((0 : Int) ≤ (i 7168).toInt) ∧ ((i 7168).toInt ≤ 2) := hG.I.1 7168
          first | refine ft_goL mi_k117 4 37 [(7, .ref 104), (6, .ref 112), (0, .ref 0), (1, .int x1), (2, .int x2), (3, .int x3), (4, .int x4), (5, .int x5)] [.int (i 7168)] (by rfl) ?_ | refine ft_go mi_k117 4 37 [(7, .ref 104), (6, .ref 112), (0, .ref 0), (1, .int x1), (2, .int x2), (3, .int x3), (4, .int x4), (5, .int x5)] [.int (i 7168)] i a q r (by rfl) ?_ | refine ko_steps mi_in117 4 _ (37, [(7, .ref 104), (6, .ref 112), (0, .ref 0), (1, .int x1), (2, .int x2), (3, .int x3), (4, .int x4), (5, .int x5)], [.int (i 7168)], (0, 0), ks i a q r) (by rfl) ?_
          refine ft_ifS mi_k117 ((i 7168) == 0) 48 40 [] (by rfl) (fun c => ?_) (fun c => ?_)
          ·
            have c443 : (i 7168).toInt = (0 : Int32).toInt := kd_eq c; clear c
            first | refine fo_goS mi_k117 fz117_48_1_50 [.int (-11)] (by rfl) ?_ | refine ft_go mi_k117 1 50 [(7, .ref 104), (6, .ref 112), (0, .ref 0), (1, .int x1), (2, .int x2), (3, .int x3), (4, .int x4), (5, .int x5)] [.int (-11)] i a q r (by rfl) ?_ | refine ko_steps mi_in117 1 _ (50, [(7, .ref 104), (6, .ref 112), (0, .ref 0), (1, .int x1), (2, .int x2), (3, .int x3), (4, .int x4), (5, .int x5)], [.int (-11)], (0, 0), ks i a q r) (by rfl) ?_
            have fi_6656 : ((0 : Int) ≤ (i 6656).toInt) ∧ ((i 6656).toInt ≤ 2) := hG.I.1 6656
            have fi_7170 : ((0 : Int) ≤ (i 7170).toInt) ∧ ((i 7170).toInt ≤ 4) := hG.I.1 7170
            have fi_6658 : ((0 : Int) ≤ (i 6658).toInt) ∧ ((i 6658).toInt ≤ 4) := hG.I.1 6658
            have fi_7171 : ((0 : Int) ≤ (i 7171).toInt) ∧ ((i 7171).toInt ≤ 60) := hG.I.1 7171
            have fi_6659 : ((0 : Int) ≤ (i 6659).toInt) ∧ ((i 6659).toInt ≤ 60) := hG.I.1 6659
            exact ft_ret mi_k117 (by rfl) (hP (-11) _ _ _ _ hG ⟨trivial, ⟨fun s t hs ht e1 e3 => by
        have es : s = 4 := kj_at e1 (oy144 w441)
        have et : t = 0 := kj_at e3 (oy107 w442 z4.1)
        subst es
        subst et
        exact ⟨(Or.inl ⟨kym11, (oy127 c443 fi_7168.1 ky0)⟩), fun h => absurd h (kj_neg kym11 (by decide))⟩, fun _ => (fun u hu => match u, hu with | 0, _ => rfl | 1, _ => rfl | 2, _ => rfl | 3, _ => rfl | 4, _ => rfl | 5, _ => rfl | _ + 6, h => absurd h (by omega)), fun h => absurd (oy172 w441 z2.2 z4.1 z4.2) h⟩⟩)
          ·
            have c444 : (i 7168).toInt ≠ (0 : Int32).toInt := kd_eqF c; clear c
            have fi_6656 : ((0 : Int) ≤ (i 6656).toInt) ∧ ((i 6656).toInt ≤ 2) := hG.I.1 6656
            first | refine fo_goL mi_k117 fz117_40_2_45 [(7, .ref 104), (6, .ref 112), (0, .ref 0), (1, .int x1), (2, .int x2), (3, .int x3), (4, .int x4), (5, .int x5)] [.int (i 6656)] (by rfl) ?_ | refine ft_go mi_k117 2 45 [(7, .ref 104), (6, .ref 112), (0, .ref 0), (1, .int x1), (2, .int x2), (3, .int x3), (4, .int x4), (5, .int x5)] [.int (i 6656)] i a q r (by rfl) ?_ | refine ko_steps mi_in117 2 _ (45, [(7, .ref 104), (6, .ref 112), (0, .ref 0), (1, .int x1), (2, .int x2), (3, .int x3), (4, .int x4), (5, .int x5)], [.int (i 6656)], (0, 0), ks i a q r) (by rfl) ?_
            refine ft_ifS mi_k117 ((i 6656) != 0) 51 48 [] (by rfl) (fun c => ?_) (fun c => ?_)
            ·
              have c445 : (i 6656).toInt ≠ (0 : Int32).toInt := kd_ne c; clear c
              first | refine fo_goS mi_k117 fz117_51_3_57 [.int 2, .int (i 7168)] (by rfl) ?_ | refine ft_go mi_k117 3 57 [(7, .ref 104), (6, .ref 112), (0, .ref 0), (1, .int x1), (2, .int x2), (3, .int x3), (4, .int x4), (5, .int x5)] [.int 2, .int (i 7168)] i a q r (by rfl) ?_ | refine ko_steps mi_in117 3 _ (57, [(7, .ref 104), (6, .ref 112), (0, .ref 0), (1, .int x1), (2, .int x2), (3, .int x3), (4, .int x4), (5, .int x5)], [.int 2, .int (i 7168)], (0, 0), ks i a q r) (by rfl) ?_
              refine ft_ifS mi_k117 ((i 7168) != 2) 82 60 [] (by rfl) (fun c => ?_) (fun c => ?_)
              ·
                have c446 : (i 7168).toInt ≠ (2 : Int32).toInt := kd_ne c; clear c
                first | refine fo_goS mi_k117 fz117_82_1_84 [.int (-12)] (by rfl) ?_ | refine ft_go mi_k117 1 84 [(7, .ref 104), (6, .ref 112), (0, .ref 0), (1, .int x1), (2, .int x2), (3, .int x3), (4, .int x4), (5, .int x5)] [.int (-12)] i a q r (by rfl) ?_ | refine ko_steps mi_in117 1 _ (84, [(7, .ref 104), (6, .ref 112), (0, .ref 0), (1, .int x1), (2, .int x2), (3, .int x3), (4, .int x4), (5, .int x5)], [.int (-12)], (0, 0), ks i a q r) (by rfl) ?_
                have fi_7170 : ((0 : Int) ≤ (i 7170).toInt) ∧ ((i 7170).toInt ≤ 4) := hG.I.1 7170
                have fi_6658 : ((0 : Int) ≤ (i 6658).toInt) ∧ ((i 6658).toInt ≤ 4) := hG.I.1 6658
                have fi_7171 : ((0 : Int) ≤ (i 7171).toInt) ∧ ((i 7171).toInt ≤ 60) := hG.I.1 7171
                have fi_6659 : ((0 : Int) ≤ (i 6659).toInt) ∧ ((i 6659).toInt ≤ 60) := hG.I.1 6659
                exact ft_ret mi_k117 (by rfl) (hP (-12) _ _ _ _ hG ⟨trivial, ⟨fun s t hs ht e1 e3 => by
        have es : s = 4 := kj_at e1 (oy144 w441)
        have et : t = 0 := kj_at e3 (oy107 w442 z4.1)
        subst es
        subst et
        exact ⟨(Or.inr (Or.inl ⟨kym12, (oy151 c444 c445 fi_6656.1 fi_7168.1 ky0), (oy130 c446 fi_7168.2 ky2)⟩)), fun h => absurd h (kj_neg kym12 (by decide))⟩, fun _ => (fun u hu => match u, hu with | 0, _ => rfl | 1, _ => rfl | 2, _ => rfl | 3, _ => rfl | 4, _ => rfl | 5, _ => rfl | _ + 6, h => absurd h (by omega)), fun h => absurd (oy172 w441 z2.2 z4.1 z4.2) h⟩⟩)
              ·
                have c447 : (i 7168).toInt = (2 : Int32).toInt := kd_neF c; clear c
                first | refine fo_goL mi_k117 fz117_60_3_66 [(7, .ref 104), (6, .ref 112), (0, .ref 0), (1, .int x1), (2, .int x2), (3, .int x3), (4, .int x4), (5, .int x5)] [.int 2, .int (i 6656)] (by rfl) ?_ | refine ft_go mi_k117 3 66 [(7, .ref 104), (6, .ref 112), (0, .ref 0), (1, .int x1), (2, .int x2), (3, .int x3), (4, .int x4), (5, .int x5)] [.int 2, .int (i 6656)] i a q r (by rfl) ?_ | refine ko_steps mi_in117 3 _ (66, [(7, .ref 104), (6, .ref 112), (0, .ref 0), (1, .int x1), (2, .int x2), (3, .int x3), (4, .int x4), (5, .int x5)], [.int 2, .int (i 6656)], (0, 0), ks i a q r) (by rfl) ?_
                refine ft_ifS mi_k117 ((i 6656) != 2) 82 69 [] (by rfl) (fun c => ?_) (fun c => ?_)
                ·
                  have c448 : (i 6656).toInt ≠ (2 : Int32).toInt := kd_ne c; clear c
                  first | refine fo_goS mi_k117 fz117_82_1_84 [.int (-12)] (by rfl) ?_ | refine ft_go mi_k117 1 84 [(7, .ref 104), (6, .ref 112), (0, .ref 0), (1, .int x1), (2, .int x2), (3, .int x3), (4, .int x4), (5, .int x5)] [.int (-12)] i a q r (by rfl) ?_ | refine ko_steps mi_in117 1 _ (84, [(7, .ref 104), (6, .ref 112), (0, .ref 0), (1, .int x1), (2, .int x2), (3, .int x3), (4, .int x4), (5, .int x5)], [.int (-12)], (0, 0), ks i a q r) (by rfl) ?_
                  have fi_7170 : ((0 : Int) ≤ (i 7170).toInt) ∧ ((i 7170).toInt ≤ 4) := hG.I.1 7170
                  have fi_6658 : ((0 : Int) ≤ (i 6658).toInt) ∧ ((i 6658).toInt ≤ 4) := hG.I.1 6658
                  have fi_7171 : ((0 : Int) ≤ (i 7171).toInt) ∧ ((i 7171).toInt ≤ 60) := hG.I.1 7171
                  have fi_6659 : ((0 : Int) ≤ (i 6659).toInt) ∧ ((i 6659).toInt ≤ 60) := hG.I.1 6659
                  exact ft_ret mi_k117 (by rfl) (hP (-12) _ _ _ _ hG ⟨trivial, ⟨fun s t hs ht e1 e3 => by
        have es : s = 4 := kj_at e1 (oy144 w441)
        have et : t = 0 := kj_at e3 (oy107 w442 z4.1)
        subst es
        subst et
        exact ⟨(Or.inr (Or.inl ⟨kym12, (oy131 c445 c447 fi_6656.1 ky0 ky2), (oy132 c448 fi_6656.2 ky2)⟩)), fun h => absurd h (kj_neg kym12 (by decide))⟩, fun _ => (fun u hu => match u, hu with | 0, _ => rfl | 1, _ => rfl | 2, _ => rfl | 3, _ => rfl | 4, _ => rfl | 5, _ => rfl | _ + 6, h => absurd h (by omega)), fun h => absurd (oy172 w441 z2.2 z4.1 z4.2) h⟩⟩)
                ·
                  have c449 : (i 6656).toInt = (2 : Int32).toInt := kd_neF c; clear c
                  have fi_7170 : ((0 : Int) ≤ (i 7170).toInt) ∧ ((i 7170).toInt ≤ 4) := hG.I.1 7170
                  have fi_6658 : ((0 : Int) ≤ (i 6658).toInt) ∧ ((i 6658).toInt ≤ 4) := hG.I.1 6658
                  first | refine fo_goL mi_k117 fz117_69_4_79 [(7, .ref 104), (6, .ref 112), (0, .ref 0), (1, .int x1), (2, .int x2), (3, .int x3), (4, .int x4), (5, .int x5)] [.int (i 6658), .int (i 7170)] (by rfl) ?_ | refine ft_go mi_k117 4 79 [(7, .ref 104), (6, .ref 112), (0, .ref 0), (1, .int x1), (2, .int x2), (3, .int x3), (4, .int x4), (5, .int x5)] [.int (i 6658), .int (i 7170)] i a q r (by rfl) ?_ | refine ko_steps mi_in117 4 _ (79, [(7, .ref 104), (6, .ref 112), (0, .ref 0), (1, .int x1), (2, .int x2), (3, .int x3), (4, .int x4), (5, .int x5)], [.int (i 6658), .int (i 7170)], (0, 0), ks i a q r) (by rfl) ?_
                  refine ft_ifS mi_k117 ((i 7170) == (i 6658)) 85 82 [] (by rfl) (fun c => ?_) (fun c => ?_)
                  ·
                    have c450 : (i 7170).toInt = (i 6658).toInt := kd_eq c; clear c
                    first | refine fo_goS mi_k117 fz117_85_3_90 [.int x5, .int x2, .ref 112] (by rfl) ?_ | refine ft_go mi_k117 3 90 [(7, .ref 104), (6, .ref 112), (0, .ref 0), (1, .int x1), (2, .int x2), (3, .int x3), (4, .int x4), (5, .int x5)] [.int x5, .int x2, .ref 112] i a q r (by rfl) ?_ | refine ko_steps mi_in117 3 _ (90, [(7, .ref 104), (6, .ref 112), (0, .ref 0), (1, .int x1), (2, .int x2), (3, .int x3), (4, .int x4), (5, .int x5)], [.int x5, .int x2, .ref 112], (0, 0), ks i a q r) (by rfl) ?_
                    refine ko_callPI mi_k117.1 (pc := 90) (ls := [(7, .ref 104), (6, .ref 112), (0, .ref 0), (1, .int x1), (2, .int x2), (3, .int x3), (4, .int x4), (5, .int x5)]) (st := [.int x5, .int x2, .ref 112]) (h := ks i a q r) (i := (.invokevirtual 324, 3, 37, 0, 9, 0, 316)) (mi_k117.2 _ _ (by rfl)) (ft_invS mi_pq37 (by rfl)) (cy := mi_c37) mi_pq37 rfl (kc37_112 hG.I hG.R x2 x5) (by decide) ?_
                    intro vg451 hg451
                    rcases hg451 with ⟨eg451, hg451⟩ | ⟨eg451, hg451⟩
                    ·
                      subst eg451
                      have fi_7171 : ((0 : Int) ≤ (i 7171).toInt) ∧ ((i 7171).toInt ≤ 60) := hG.I.1 7171
                      have z452 : ((0 : Int) ≤ x5.toInt) ∧ (x5.toInt ≤ (i 7171).toInt) ∧ ((0 : Int) ≤ x2.toInt) ∧ ((x2.toInt + x5.toInt) ≤ (i 7171).toInt) := hg451
                      first | refine fo_goS mi_k117 fz117_93_4_102 [.int x5, .int x4, .ref 104] (by rfl) ?_ | refine ft_go mi_k117 4 102 [(7, .ref 104), (6, .ref 112), (0, .ref 0), (1, .int x1), (2, .int x2), (3, .int x3), (4, .int x4), (5, .int x5)] [.int x5, .int x4, .ref 104] i a q r (by rfl) ?_ | refine ko_steps mi_in117 4 _ (102, [(7, .ref 104), (6, .ref 112), (0, .ref 0), (1, .int x1), (2, .int x2), (3, .int x3), (4, .int x4), (5, .int x5)], [.int x5, .int x4, .ref 104], (0, 0), ks i a q r) (by rfl) ?_
                      refine ko_callPI mi_k117.1 (pc := 102) (ls := [(7, .ref 104), (6, .ref 112), (0, .ref 0), (1, .int x1), (2, .int x2), (3, .int x3), (4, .int x4), (5, .int x5)]) (st := [.int x5, .int x4, .ref 104]) (h := ks i a q r) (i := (.invokevirtual 324, 3, 37, 0, 9, 0, 316)) (mi_k117.2 _ _ (by rfl)) (ft_invS mi_pq37 (by rfl)) (cy := mi_c37) mi_pq37 rfl (kc37_104 hG.I hG.R x4 x5) (by decide) ?_
                      intro vg453 hg453
                      rcases hg453 with ⟨eg453, hg453⟩ | ⟨eg453, hg453⟩
                      ·
                        subst eg453
                        have fi_6659 : ((0 : Int) ≤ (i 6659).toInt) ∧ ((i 6659).toInt ≤ 60) := hG.I.1 6659
                        have z454 : ((0 : Int) ≤ x5.toInt) ∧ (x5.toInt ≤ (i 6659).toInt) ∧ ((0 : Int) ≤ x4.toInt) ∧ ((x4.toInt + x5.toInt) ≤ (i 6659).toInt) := hg453
                        first | refine fo_goS mi_k117 fz117_105_8_126 [.int x5, .int x4, .ref 105, .int x2, .ref 113] (by rfl) ?_ | refine ft_go mi_k117 8 126 [(7, .ref 104), (6, .ref 112), (0, .ref 0), (1, .int x1), (2, .int x2), (3, .int x3), (4, .int x4), (5, .int x5)] [.int x5, .int x4, .ref 105, .int x2, .ref 113] i a q r (by rfl) ?_ | refine ko_steps mi_in117 8 _ (126, [(7, .ref 104), (6, .ref 112), (0, .ref 0), (1, .int x1), (2, .int x2), (3, .int x3), (4, .int x4), (5, .int x5)], [.int x5, .int x4, .ref 105, .int x2, .ref 113], (0, 0), ks i a q r) (by rfl) ?_
                        have hJ455 := kG_q hG 105 rfl (z := mi_cpy (q 113) (q 105) x2.toNatClampNeg x4.toNatClampNeg x5.toNatClampNeg) (kcpy_len2 (n := 60) (c := 60) (m := 60) (b := 60) (sp := x2) (dp := x4) (n1 := x5) (hG.I.2.2.2 113) rfl (hG.I.2.2.2 105) rfl (oy3 z452.1) (oy3 z452.2.2.1) (oy3 z454.2.2.1) (oy119 fi_7171.2 z452.2.2.2) (oy119 fi_6659.2 z454.2.2.2))
                        refine ko_copyL2 mi_k117.1 (l := q 113) (g := q 105) (n := 60) (c := 60) (m := 60) (b := 60) (mi_k117.2 _ _ (by rfl)) (by rfl) (by rfl) (by rfl) (by rfl) (by rfl) (hG.I.2.2.2 113) rfl (hG.I.2.2.2 105) rfl (oy3 z452.1) (oy3 z452.2.2.1) (oy3 z454.2.2.1) (oy119 fi_7171.2 z452.2.2.2) (oy119 fi_6659.2 z454.2.2.2) (h5 := ks i a (ku q 105 (mi_cpy (q 113) (q 105) x2.toNatClampNeg x4.toNatClampNeg x5.toNatClampNeg)) r) (by rfl) ?_
                        first | refine fo_goS mi_k117 fz117_129_1_131 [.int x5] (by rfl) ?_ | refine ft_go mi_k117 1 131 [(7, .ref 104), (6, .ref 112), (0, .ref 0), (1, .int x1), (2, .int x2), (3, .int x3), (4, .int x4), (5, .int x5)] [.int x5] i a (ku q 105 (mi_cpy (q 113) (q 105) x2.toNatClampNeg x4.toNatClampNeg x5.toNatClampNeg)) r (by rfl) ?_ | refine ko_steps mi_in117 1 _ (131, [(7, .ref 104), (6, .ref 112), (0, .ref 0), (1, .int x1), (2, .int x2), (3, .int x3), (4, .int x4), (5, .int x5)], [.int x5], (0, 0), ks i a (ku q 105 (mi_cpy (q 113) (q 105) x2.toNatClampNeg x4.toNatClampNeg x5.toNatClampNeg)) r) (by rfl) ?_
                        exact ft_ret mi_k117 (by rfl) (hP x5 _ _ _ _ hJ455 ⟨trivial, ⟨fun s t hs ht e1 e3 => by
        have es : s = 4 := kj_at e1 (oy144 w441)
        have et : t = 0 := kj_at e3 (oy107 w442 z4.1)
        subst es
        subst et
        exact ⟨(Or.inr (Or.inr (Or.inr ⟨rfl, (oy152 c447 c449 c450 fi_6656.2 fi_7168.2 ky2), (oy134 z452.1 z452.2.2.1 z452.2.2.2 z454.2.2.1 z454.2.2.2)⟩))), fun _ => ⟨rfl, (fun u hu ne => match u, hu, ne with | 0, _, ne => absurd rfl ne | 1, _, _ => rfl | 2, _, _ => rfl | 3, _, _ => rfl | 4, _, _ => rfl | 5, _, _ => rfl | _ + 6, h, _ => absurd h (by omega))⟩⟩, fun h => absurd h (oy26 z452.1), fun h => absurd (oy172 w441 z2.2 z4.1 z4.2) h⟩⟩)
                      ·
                        subst eg453
                        have fi_6659 : ((0 : Int) ≤ (i 6659).toInt) ∧ ((i 6659).toInt ≤ 60) := hG.I.1 6659
                        have z456 : ¬ (((0 : Int) ≤ x5.toInt) ∧ (x5.toInt ≤ (i 6659).toInt) ∧ ((0 : Int) ≤ x4.toInt) ∧ ((x4.toInt + x5.toInt) ≤ (i 6659).toInt)) := hg453
                        first | refine fo_goL mi_k117 fz117_93_2_110 [(7, .ref 104), (6, .ref 112), (0, .ref 0), (1, .int x1), (2, .int x2), (3, .int x3), (4, .int x4), (5, .int x5)] [.int (-13)] (by rfl) ?_ | refine fo_goL mi_k117 fz117_105_2_110 [(7, .ref 104), (6, .ref 112), (0, .ref 0), (1, .int x1), (2, .int x2), (3, .int x3), (4, .int x4), (5, .int x5)] [.int (-13)] (by rfl) ?_ | refine ft_go mi_k117 2 110 [(7, .ref 104), (6, .ref 112), (0, .ref 0), (1, .int x1), (2, .int x2), (3, .int x3), (4, .int x4), (5, .int x5)] [.int (-13)] i a q r (by rfl) ?_ | refine ko_steps mi_in117 2 _ (110, [(7, .ref 104), (6, .ref 112), (0, .ref 0), (1, .int x1), (2, .int x2), (3, .int x3), (4, .int x4), (5, .int x5)], [.int (-13)], (0, 0), ks i a q r) (by rfl) ?_
                        exact ft_ret mi_k117 (by rfl) (hP (-13) _ _ _ _ hG ⟨trivial, ⟨fun s t hs ht e1 e3 => by
        have es : s = 4 := kj_at e1 (oy144 w441)
        have et : t = 0 := kj_at e3 (oy107 w442 z4.1)
        subst es
        subst et
        exact ⟨(Or.inr (Or.inr (Or.inl ⟨kym13, (oy152 c447 c449 c450 fi_6656.2 fi_7168.2 ky2), (oy135 z452.1 z456)⟩))), fun h => absurd h (kj_neg kym13 (by decide))⟩, fun _ => (fun u hu => match u, hu with | 0, _ => rfl | 1, _ => rfl | 2, _ => rfl | 3, _ => rfl | 4, _ => rfl | 5, _ => rfl | _ + 6, h => absurd h (by omega)), fun h => absurd (oy172 w441 z2.2 z4.1 z4.2) h⟩⟩)
                    ·
                      subst eg451
                      have fi_7171 : ((0 : Int) ≤ (i 7171).toInt) ∧ ((i 7171).toInt ≤ 60) := hG.I.1 7171
                      have z457 : ¬ (((0 : Int) ≤ x5.toInt) ∧ (x5.toInt ≤ (i 7171).toInt) ∧ ((0 : Int) ≤ x2.toInt) ∧ ((x2.toInt + x5.toInt) ≤ (i 7171).toInt)) := hg451
                      first | refine fo_goL mi_k117 fz117_93_2_110 [(7, .ref 104), (6, .ref 112), (0, .ref 0), (1, .int x1), (2, .int x2), (3, .int x3), (4, .int x4), (5, .int x5)] [.int (-13)] (by rfl) ?_ | refine fo_goL mi_k117 fz117_105_2_110 [(7, .ref 104), (6, .ref 112), (0, .ref 0), (1, .int x1), (2, .int x2), (3, .int x3), (4, .int x4), (5, .int x5)] [.int (-13)] (by rfl) ?_ | refine ft_go mi_k117 2 110 [(7, .ref 104), (6, .ref 112), (0, .ref 0), (1, .int x1), (2, .int x2), (3, .int x3), (4, .int x4), (5, .int x5)] [.int (-13)] i a q r (by rfl) ?_ | refine ko_steps mi_in117 2 _ (110, [(7, .ref 104), (6, .ref 112), (0, .ref 0), (1, .int x1), (2, .int x2), (3, .int x3), (4, .int x4), (5, .int x5)], [.int (-13)], (0, 0), ks i a q r) (by rfl) ?_
                      have fi_6659 : ((0 : Int) ≤ (i 6659).toInt) ∧ ((i 6659).toInt ≤ 60) := hG.I.1 6659
                      exact ft_ret mi_k117 (by rfl) (hP (-13) _ _ _ _ hG ⟨trivial, ⟨fun s t hs ht e1 e3 => by
        have es : s = 4 := kj_at e1 (oy144 w441)
        have et : t = 0 := kj_at e3 (oy107 w442 z4.1)
        subst es
        subst et
        exact ⟨(Or.inr (Or.inr (Or.inl ⟨kym13, (oy152 c447 c449 c450 fi_6656.2 fi_7168.2 ky2), (oy136 z457)⟩))), fun h => absurd h (kj_neg kym13 (by decide))⟩, fun _ => (fun u hu => match u, hu with | 0, _ => rfl | 1, _ => rfl | 2, _ => rfl | 3, _ => rfl | 4, _ => rfl | 5, _ => rfl | _ + 6, h => absurd h (by omega)), fun h => absurd (oy172 w441 z2.2 z4.1 z4.2) h⟩⟩)
                  ·
                    have c458 : (i 7170).toInt ≠ (i 6658).toInt := kd_eqF c; clear c
                    first | refine fo_goL mi_k117 fz117_82_1_84 [(7, .ref 104), (6, .ref 112), (0, .ref 0), (1, .int x1), (2, .int x2), (3, .int x3), (4, .int x4), (5, .int x5)] [.int (-12)] (by rfl) ?_ | refine ft_go mi_k117 1 84 [(7, .ref 104), (6, .ref 112), (0, .ref 0), (1, .int x1), (2, .int x2), (3, .int x3), (4, .int x4), (5, .int x5)] [.int (-12)] i a q r (by rfl) ?_ | refine ko_steps mi_in117 1 _ (84, [(7, .ref 104), (6, .ref 112), (0, .ref 0), (1, .int x1), (2, .int x2), (3, .int x3), (4, .int x4), (5, .int x5)], [.int (-12)], (0, 0), ks i a q r) (by rfl) ?_
                    have fi_7171 : ((0 : Int) ≤ (i 7171).toInt) ∧ ((i 7171).toInt ≤ 60) := hG.I.1 7171
                    have fi_6659 : ((0 : Int) ≤ (i 6659).toInt) ∧ ((i 6659).toInt ≤ 60) := hG.I.1 6659
                    exact ft_ret mi_k117 (by rfl) (hP (-12) _ _ _ _ hG ⟨trivial, ⟨fun s t hs ht e1 e3 => by
        have es : s = 4 := kj_at e1 (oy144 w441)
        have et : t = 0 := kj_at e3 (oy107 w442 z4.1)
        subst es
        subst et
        exact ⟨(Or.inr (Or.inl ⟨kym12, (oy137 c447 c449 ky2), (oy138 c458)⟩)), fun h => absurd h (kj_neg kym12 (by decide))⟩, fun _ => (fun u hu => match u, hu with | 0, _ => rfl | 1, _ => rfl | 2, _ => rfl | 3, _ => rfl | 4, _ => rfl | 5, _ => rfl | _ + 6, h => absurd h (by omega)), fun h => absurd (oy172 w441 z2.2 z4.1 z4.2) h⟩⟩)
            ·
              have c459 : (i 6656).toInt = (0 : Int32).toInt := kd_neF c; clear c
              first | refine fo_goL mi_k117 fz117_48_1_50 [(7, .ref 104), (6, .ref 112), (0, .ref 0), (1, .int x1), (2, .int x2), (3, .int x3), (4, .int x4), (5, .int x5)] [.int (-11)] (by rfl) ?_ | refine ft_go mi_k117 1 50 [(7, .ref 104), (6, .ref 112), (0, .ref 0), (1, .int x1), (2, .int x2), (3, .int x3), (4, .int x4), (5, .int x5)] [.int (-11)] i a q r (by rfl) ?_ | refine ko_steps mi_in117 1 _ (50, [(7, .ref 104), (6, .ref 112), (0, .ref 0), (1, .int x1), (2, .int x2), (3, .int x3), (4, .int x4), (5, .int x5)], [.int (-11)], (0, 0), ks i a q r) (by rfl) ?_
              have fi_7170 : ((0 : Int) ≤ (i 7170).toInt) ∧ ((i 7170).toInt ≤ 4) := hG.I.1 7170
              have fi_6658 : ((0 : Int) ≤ (i 6658).toInt) ∧ ((i 6658).toInt ≤ 4) := hG.I.1 6658
              have fi_7171 : ((0 : Int) ≤ (i 7171).toInt) ∧ ((i 7171).toInt ≤ 60) := hG.I.1 7171
              have fi_6659 : ((0 : Int) ≤ (i 6659).toInt) ∧ ((i 6659).toInt ≤ 60) := hG.I.1 6659
              exact ft_ret mi_k117 (by rfl) (hP (-11) _ _ _ _ hG ⟨trivial, ⟨fun s t hs ht e1 e3 => by
        have es : s = 4 := kj_at e1 (oy144 w441)
        have et : t = 0 := kj_at e3 (oy107 w442 z4.1)
        subst es
        subst et
        exact ⟨(Or.inl ⟨kym11, (oy139 c459 fi_6656.1 ky0)⟩), fun h => absurd h (kj_neg kym11 (by decide))⟩, fun _ => (fun u hu => match u, hu with | 0, _ => rfl | 1, _ => rfl | 2, _ => rfl | 3, _ => rfl | 4, _ => rfl | 5, _ => rfl | _ + 6, h => absurd h (by omega)), fun h => absurd (oy172 w441 z2.2 z4.1 z4.2) h⟩⟩)
        by_cases w460 : x3.toInt = 1
        ·
          refine ko_eq (x1 := (29, [(6, .ref 112), (0, .ref 0), (1, .int x1), (2, .int x2), (3, .int x3), (4, .int x4), (5, .int x5)], [.int 1, .ref 97], (0, 0), ks i a q r)) (by rw [(kj_eq w460 (by decide) : x3 = 1)]) ?_
          have fi_7168 : ((0 : Int) ≤ (i 7168).toInt) ∧ ((i 7168).toInt ≤ 2) := hG.I.1 7168
          first | refine ft_goL mi_k117 4 37 [(7, .ref 106), (6, .ref 112), (0, .ref 0), (1, .int x1), (2, .int x2), (3, .int x3), (4, .int x4), (5, .int x5)] [.int (i 7168)] (by rfl) ?_ | refine ft_go mi_k117 4 37 [(7, .ref 106), (6, .ref 112), (0, .ref 0), (1, .int x1), (2, .int x2), (3, .int x3), (4, .int x4), (5, .int x5)] [.int (i 7168)] i a q r (by rfl) ?_ | refine ko_steps mi_in117 4 _ (37, [(7, .ref 106), (6, .ref 112), (0, .ref 0), (1, .int x1), (2, .int x2), (3, .int x3), (4, .int x4), (5, .int x5)], [.int (i 7168)], (0, 0), ks i a q r) (by rfl) ?_
          refine ft_ifS mi_k117 ((i 7168) == 0) 48 40 [] (by rfl) (fun c => ?_) (fun c => ?_)
          ·
            have c461 : (i 7168).toInt = (0 : Int32).toInt := kd_eq c; clear c
            first | refine fo_goS mi_k117 fz117_48_1_50 [.int (-11)] (by rfl) ?_ | refine ft_go mi_k117 1 50 [(7, .ref 106), (6, .ref 112), (0, .ref 0), (1, .int x1), (2, .int x2), (3, .int x3), (4, .int x4), (5, .int x5)] [.int (-11)] i a q r (by rfl) ?_ | refine ko_steps mi_in117 1 _ (50, [(7, .ref 106), (6, .ref 112), (0, .ref 0), (1, .int x1), (2, .int x2), (3, .int x3), (4, .int x4), (5, .int x5)], [.int (-11)], (0, 0), ks i a q r) (by rfl) ?_
            have fi_6784 : ((0 : Int) ≤ (i 6784).toInt) ∧ ((i 6784).toInt ≤ 2) := hG.I.1 6784
            have fi_7170 : ((0 : Int) ≤ (i 7170).toInt) ∧ ((i 7170).toInt ≤ 4) := hG.I.1 7170
            have fi_6786 : ((0 : Int) ≤ (i 6786).toInt) ∧ ((i 6786).toInt ≤ 4) := hG.I.1 6786
            have fi_7171 : ((0 : Int) ≤ (i 7171).toInt) ∧ ((i 7171).toInt ≤ 60) := hG.I.1 7171
            have fi_6787 : ((0 : Int) ≤ (i 6787).toInt) ∧ ((i 6787).toInt ≤ 60) := hG.I.1 6787
            exact ft_ret mi_k117 (by rfl) (hP (-11) _ _ _ _ hG ⟨trivial, ⟨fun s t hs ht e1 e3 => by
        have es : s = 4 := kj_at e1 (oy144 w441)
        have et : t = 1 := kj_at e3 (oy126 w460)
        subst es
        subst et
        exact ⟨(Or.inl ⟨kym11, (oy127 c461 fi_7168.1 ky0)⟩), fun h => absurd h (kj_neg kym11 (by decide))⟩, fun _ => (fun u hu => match u, hu with | 0, _ => rfl | 1, _ => rfl | 2, _ => rfl | 3, _ => rfl | 4, _ => rfl | 5, _ => rfl | _ + 6, h => absurd h (by omega)), fun h => absurd (oy173 w441 w460 z2.2 z4.2) h⟩⟩)
          ·
            have c462 : (i 7168).toInt ≠ (0 : Int32).toInt := kd_eqF c; clear c
            have fi_6784 : ((0 : Int) ≤ (i 6784).toInt) ∧ ((i 6784).toInt ≤ 2) := hG.I.1 6784
            first | refine fo_goL mi_k117 fz117_40_2_45 [(7, .ref 106), (6, .ref 112), (0, .ref 0), (1, .int x1), (2, .int x2), (3, .int x3), (4, .int x4), (5, .int x5)] [.int (i 6784)] (by rfl) ?_ | refine ft_go mi_k117 2 45 [(7, .ref 106), (6, .ref 112), (0, .ref 0), (1, .int x1), (2, .int x2), (3, .int x3), (4, .int x4), (5, .int x5)] [.int (i 6784)] i a q r (by rfl) ?_ | refine ko_steps mi_in117 2 _ (45, [(7, .ref 106), (6, .ref 112), (0, .ref 0), (1, .int x1), (2, .int x2), (3, .int x3), (4, .int x4), (5, .int x5)], [.int (i 6784)], (0, 0), ks i a q r) (by rfl) ?_
            refine ft_ifS mi_k117 ((i 6784) != 0) 51 48 [] (by rfl) (fun c => ?_) (fun c => ?_)
            ·
              have c463 : (i 6784).toInt ≠ (0 : Int32).toInt := kd_ne c; clear c
              first | refine fo_goS mi_k117 fz117_51_3_57 [.int 2, .int (i 7168)] (by rfl) ?_ | refine ft_go mi_k117 3 57 [(7, .ref 106), (6, .ref 112), (0, .ref 0), (1, .int x1), (2, .int x2), (3, .int x3), (4, .int x4), (5, .int x5)] [.int 2, .int (i 7168)] i a q r (by rfl) ?_ | refine ko_steps mi_in117 3 _ (57, [(7, .ref 106), (6, .ref 112), (0, .ref 0), (1, .int x1), (2, .int x2), (3, .int x3), (4, .int x4), (5, .int x5)], [.int 2, .int (i 7168)], (0, 0), ks i a q r) (by rfl) ?_
              refine ft_ifS mi_k117 ((i 7168) != 2) 82 60 [] (by rfl) (fun c => ?_) (fun c => ?_)
              ·
                have c464 : (i 7168).toInt ≠ (2 : Int32).toInt := kd_ne c; clear c
                first | refine fo_goS mi_k117 fz117_82_1_84 [.int (-12)] (by rfl) ?_ | refine ft_go mi_k117 1 84 [(7, .ref 106), (6, .ref 112), (0, .ref 0), (1, .int x1), (2, .int x2), (3, .int x3), (4, .int x4), (5, .int x5)] [.int (-12)] i a q r (by rfl) ?_ | refine ko_steps mi_in117 1 _ (84, [(7, .ref 106), (6, .ref 112), (0, .ref 0), (1, .int x1), (2, .int x2), (3, .int x3), (4, .int x4), (5, .int x5)], [.int (-12)], (0, 0), ks i a q r) (by rfl) ?_
                have fi_7170 : ((0 : Int) ≤ (i 7170).toInt) ∧ ((i 7170).toInt ≤ 4) := hG.I.1 7170
                have fi_6786 : ((0 : Int) ≤ (i 6786).toInt) ∧ ((i 6786).toInt ≤ 4) := hG.I.1 6786
                have fi_7171 : ((0 : Int) ≤ (i 7171).toInt) ∧ ((i 7171).toInt ≤ 60) := hG.I.1 7171
                have fi_6787 : ((0 : Int) ≤ (i 6787).toInt) ∧ ((i 6787).toInt ≤ 60) := hG.I.1 6787
                exact ft_ret mi_k117 (by rfl) (hP (-12) _ _ _ _ hG ⟨trivial, ⟨fun s t hs ht e1 e3 => by
        have es : s = 4 := kj_at e1 (oy144 w441)
        have et : t = 1 := kj_at e3 (oy126 w460)
        subst es
        subst et
        exact ⟨(Or.inr (Or.inl ⟨kym12, (oy151 c462 c463 fi_6784.1 fi_7168.1 ky0), (oy130 c464 fi_7168.2 ky2)⟩)), fun h => absurd h (kj_neg kym12 (by decide))⟩, fun _ => (fun u hu => match u, hu with | 0, _ => rfl | 1, _ => rfl | 2, _ => rfl | 3, _ => rfl | 4, _ => rfl | 5, _ => rfl | _ + 6, h => absurd h (by omega)), fun h => absurd (oy173 w441 w460 z2.2 z4.2) h⟩⟩)
              ·
                have c465 : (i 7168).toInt = (2 : Int32).toInt := kd_neF c; clear c
                first | refine fo_goL mi_k117 fz117_60_3_66 [(7, .ref 106), (6, .ref 112), (0, .ref 0), (1, .int x1), (2, .int x2), (3, .int x3), (4, .int x4), (5, .int x5)] [.int 2, .int (i 6784)] (by rfl) ?_ | refine ft_go mi_k117 3 66 [(7, .ref 106), (6, .ref 112), (0, .ref 0), (1, .int x1), (2, .int x2), (3, .int x3), (4, .int x4), (5, .int x5)] [.int 2, .int (i 6784)] i a q r (by rfl) ?_ | refine ko_steps mi_in117 3 _ (66, [(7, .ref 106), (6, .ref 112), (0, .ref 0), (1, .int x1), (2, .int x2), (3, .int x3), (4, .int x4), (5, .int x5)], [.int 2, .int (i 6784)], (0, 0), ks i a q r) (by rfl) ?_
                refine ft_ifS mi_k117 ((i 6784) != 2) 82 69 [] (by rfl) (fun c => ?_) (fun c => ?_)
                ·
                  have c466 : (i 6784).toInt ≠ (2 : Int32).toInt := kd_ne c; clear c
                  first | refine fo_goS mi_k117 fz117_82_1_84 [.int (-12)] (by rfl) ?_ | refine ft_go mi_k117 1 84 [(7, .ref 106), (6, .ref 112), (0, .ref 0), (1, .int x1), (2, .int x2), (3, .int x3), (4, .int x4), (5, .int x5)] [.int (-12)] i a q r (by rfl) ?_ | refine ko_steps mi_in117 1 _ (84, [(7, .ref 106), (6, .ref 112), (0, .ref 0), (1, .int x1), (2, .int x2), (3, .int x3), (4, .int x4), (5, .int x5)], [.int (-12)], (0, 0), ks i a q r) (by rfl) ?_
                  have fi_7170 : ((0 : Int) ≤ (i 7170).toInt) ∧ ((i 7170).toInt ≤ 4) := hG.I.1 7170
                  have fi_6786 : ((0 : Int) ≤ (i 6786).toInt) ∧ ((i 6786).toInt ≤ 4) := hG.I.1 6786
                  have fi_7171 : ((0 : Int) ≤ (i 7171).toInt) ∧ ((i 7171).toInt ≤ 60) := hG.I.1 7171
                  have fi_6787 : ((0 : Int) ≤ (i 6787).toInt) ∧ ((i 6787).toInt ≤ 60) := hG.I.1 6787
                  exact ft_ret mi_k117 (by rfl) (hP (-12) _ _ _ _ hG ⟨trivial, ⟨fun s t hs ht e1 e3 => by
        have es : s = 4 := kj_at e1 (oy144 w441)
        have et : t = 1 := kj_at e3 (oy126 w460)
        subst es
        subst et
        exact ⟨(Or.inr (Or.inl ⟨kym12, (oy131 c463 c465 fi_6784.1 ky0 ky2), (oy132 c466 fi_6784.2 ky2)⟩)), fun h => absurd h (kj_neg kym12 (by decide))⟩, fun _ => (fun u hu => match u, hu with | 0, _ => rfl | 1, _ => rfl | 2, _ => rfl | 3, _ => rfl | 4, _ => rfl | 5, _ => rfl | _ + 6, h => absurd h (by omega)), fun h => absurd (oy173 w441 w460 z2.2 z4.2) h⟩⟩)
                ·
                  have c467 : (i 6784).toInt = (2 : Int32).toInt := kd_neF c; clear c
                  have fi_7170 : ((0 : Int) ≤ (i 7170).toInt) ∧ ((i 7170).toInt ≤ 4) := hG.I.1 7170
                  have fi_6786 : ((0 : Int) ≤ (i 6786).toInt) ∧ ((i 6786).toInt ≤ 4) := hG.I.1 6786
                  first | refine fo_goL mi_k117 fz117_69_4_79 [(7, .ref 106), (6, .ref 112), (0, .ref 0), (1, .int x1), (2, .int x2), (3, .int x3), (4, .int x4), (5, .int x5)] [.int (i 6786), .int (i 7170)] (by rfl) ?_ | refine ft_go mi_k117 4 79 [(7, .ref 106), (6, .ref 112), (0, .ref 0), (1, .int x1), (2, .int x2), (3, .int x3), (4, .int x4), (5, .int x5)] [.int (i 6786), .int (i 7170)] i a q r (by rfl) ?_ | refine ko_steps mi_in117 4 _ (79, [(7, .ref 106), (6, .ref 112), (0, .ref 0), (1, .int x1), (2, .int x2), (3, .int x3), (4, .int x4), (5, .int x5)], [.int (i 6786), .int (i 7170)], (0, 0), ks i a q r) (by rfl) ?_
                  refine ft_ifS mi_k117 ((i 7170) == (i 6786)) 85 82 [] (by rfl) (fun c => ?_) (fun c => ?_)
                  ·
                    have c468 : (i 7170).toInt = (i 6786).toInt := kd_eq c; clear c
                    first | refine fo_goS mi_k117 fz117_85_3_90 [.int x5, .int x2, .ref 112] (by rfl) ?_ | refine ft_go mi_k117 3 90 [(7, .ref 106), (6, .ref 112), (0, .ref 0), (1, .int x1), (2, .int x2), (3, .int x3), (4, .int x4), (5, .int x5)] [.int x5, .int x2, .ref 112] i a q r (by rfl) ?_ | refine ko_steps mi_in117 3 _ (90, [(7, .ref 106), (6, .ref 112), (0, .ref 0), (1, .int x1), (2, .int x2), (3, .int x3), (4, .int x4), (5, .int x5)], [.int x5, .int x2, .ref 112], (0, 0), ks i a q r) (by rfl) ?_
                    refine ko_callPI mi_k117.1 (pc := 90) (ls := [(7, .ref 106), (6, .ref 112), (0, .ref 0), (1, .int x1), (2, .int x2), (3, .int x3), (4, .int x4), (5, .int x5)]) (st := [.int x5, .int x2, .ref 112]) (h := ks i a q r) (i := (.invokevirtual 324, 3, 37, 0, 9, 0, 316)) (mi_k117.2 _ _ (by rfl)) (ft_invS mi_pq37 (by rfl)) (cy := mi_c37) mi_pq37 rfl (kc37_112 hG.I hG.R x2 x5) (by decide) ?_
                    intro vg469 hg469
                    rcases hg469 with ⟨eg469, hg469⟩ | ⟨eg469, hg469⟩
                    ·
                      subst eg469
                      have fi_7171 : ((0 : Int) ≤ (i 7171).toInt) ∧ ((i 7171).toInt ≤ 60) := hG.I.1 7171
                      have z470 : ((0 : Int) ≤ x5.toInt) ∧ (x5.toInt ≤ (i 7171).toInt) ∧ ((0 : Int) ≤ x2.toInt) ∧ ((x2.toInt + x5.toInt) ≤ (i 7171).toInt) := hg469
                      first | refine fo_goS mi_k117 fz117_93_4_102 [.int x5, .int x4, .ref 106] (by rfl) ?_ | refine ft_go mi_k117 4 102 [(7, .ref 106), (6, .ref 112), (0, .ref 0), (1, .int x1), (2, .int x2), (3, .int x3), (4, .int x4), (5, .int x5)] [.int x5, .int x4, .ref 106] i a q r (by rfl) ?_ | refine ko_steps mi_in117 4 _ (102, [(7, .ref 106), (6, .ref 112), (0, .ref 0), (1, .int x1), (2, .int x2), (3, .int x3), (4, .int x4), (5, .int x5)], [.int x5, .int x4, .ref 106], (0, 0), ks i a q r) (by rfl) ?_
                      refine ko_callPI mi_k117.1 (pc := 102) (ls := [(7, .ref 106), (6, .ref 112), (0, .ref 0), (1, .int x1), (2, .int x2), (3, .int x3), (4, .int x4), (5, .int x5)]) (st := [.int x5, .int x4, .ref 106]) (h := ks i a q r) (i := (.invokevirtual 324, 3, 37, 0, 9, 0, 316)) (mi_k117.2 _ _ (by rfl)) (ft_invS mi_pq37 (by rfl)) (cy := mi_c37) mi_pq37 rfl (kc37_106 hG.I hG.R x4 x5) (by decide) ?_
                      intro vg471 hg471
                      rcases hg471 with ⟨eg471, hg471⟩ | ⟨eg471, hg471⟩
                      ·
                        subst eg471
                        have fi_6787 : ((0 : Int) ≤ (i 6787).toInt) ∧ ((i 6787).toInt ≤ 60) := hG.I.1 6787
                        have z472 : ((0 : Int) ≤ x5.toInt) ∧ (x5.toInt ≤ (i 6787).toInt) ∧ ((0 : Int) ≤ x4.toInt) ∧ ((x4.toInt + x5.toInt) ≤ (i 6787).toInt) := hg471
                        first | refine fo_goS mi_k117 fz117_105_8_126 [.int x5, .int x4, .ref 107, .int x2, .ref 113] (by rfl) ?_ | refine ft_go mi_k117 8 126 [(7, .ref 106), (6, .ref 112), (0, .ref 0), (1, .int x1), (2, .int x2), (3, .int x3), (4, .int x4), (5, .int x5)] [.int x5, .int x4, .ref 107, .int x2, .ref 113] i a q r (by rfl) ?_ | refine ko_steps mi_in117 8 _ (126, [(7, .ref 106), (6, .ref 112), (0, .ref 0), (1, .int x1), (2, .int x2), (3, .int x3), (4, .int x4), (5, .int x5)], [.int x5, .int x4, .ref 107, .int x2, .ref 113], (0, 0), ks i a q r) (by rfl) ?_
                        have hJ473 := kG_q hG 107 rfl (z := mi_cpy (q 113) (q 107) x2.toNatClampNeg x4.toNatClampNeg x5.toNatClampNeg) (kcpy_len2 (n := 60) (c := 60) (m := 60) (b := 60) (sp := x2) (dp := x4) (n1 := x5) (hG.I.2.2.2 113) rfl (hG.I.2.2.2 107) rfl (oy3 z470.1) (oy3 z470.2.2.1) (oy3 z472.2.2.1) (oy119 fi_7171.2 z470.2.2.2) (oy119 fi_6787.2 z472.2.2.2))
                        refine ko_copyL2 mi_k117.1 (l := q 113) (g := q 107) (n := 60) (c := 60) (m := 60) (b := 60) (mi_k117.2 _ _ (by rfl)) (by rfl) (by rfl) (by rfl) (by rfl) (by rfl) (hG.I.2.2.2 113) rfl (hG.I.2.2.2 107) rfl (oy3 z470.1) (oy3 z470.2.2.1) (oy3 z472.2.2.1) (oy119 fi_7171.2 z470.2.2.2) (oy119 fi_6787.2 z472.2.2.2) (h5 := ks i a (ku q 107 (mi_cpy (q 113) (q 107) x2.toNatClampNeg x4.toNatClampNeg x5.toNatClampNeg)) r) (by rfl) ?_
                        first | refine fo_goS mi_k117 fz117_129_1_131 [.int x5] (by rfl) ?_ | refine ft_go mi_k117 1 131 [(7, .ref 106), (6, .ref 112), (0, .ref 0), (1, .int x1), (2, .int x2), (3, .int x3), (4, .int x4), (5, .int x5)] [.int x5] i a (ku q 107 (mi_cpy (q 113) (q 107) x2.toNatClampNeg x4.toNatClampNeg x5.toNatClampNeg)) r (by rfl) ?_ | refine ko_steps mi_in117 1 _ (131, [(7, .ref 106), (6, .ref 112), (0, .ref 0), (1, .int x1), (2, .int x2), (3, .int x3), (4, .int x4), (5, .int x5)], [.int x5], (0, 0), ks i a (ku q 107 (mi_cpy (q 113) (q 107) x2.toNatClampNeg x4.toNatClampNeg x5.toNatClampNeg)) r) (by rfl) ?_
                        exact ft_ret mi_k117 (by rfl) (hP x5 _ _ _ _ hJ473 ⟨trivial, ⟨fun s t hs ht e1 e3 => by
        have es : s = 4 := kj_at e1 (oy144 w441)
        have et : t = 1 := kj_at e3 (oy126 w460)
        subst es
        subst et
        exact ⟨(Or.inr (Or.inr (Or.inr ⟨rfl, (oy152 c465 c467 c468 fi_6784.2 fi_7168.2 ky2), (oy134 z470.1 z470.2.2.1 z470.2.2.2 z472.2.2.1 z472.2.2.2)⟩))), fun _ => ⟨rfl, (fun u hu ne => match u, hu, ne with | 0, _, _ => rfl | 1, _, ne => absurd rfl ne | 2, _, _ => rfl | 3, _, _ => rfl | 4, _, _ => rfl | 5, _, _ => rfl | _ + 6, h, _ => absurd h (by omega))⟩⟩, fun h => absurd h (oy26 z470.1), fun h => absurd (oy173 w441 w460 z2.2 z4.2) h⟩⟩)
                      ·
                        subst eg471
                        have fi_6787 : ((0 : Int) ≤ (i 6787).toInt) ∧ ((i 6787).toInt ≤ 60) := hG.I.1 6787
                        have z474 : ¬ (((0 : Int) ≤ x5.toInt) ∧ (x5.toInt ≤ (i 6787).toInt) ∧ ((0 : Int) ≤ x4.toInt) ∧ ((x4.toInt + x5.toInt) ≤ (i 6787).toInt)) := hg471
                        first | refine fo_goL mi_k117 fz117_93_2_110 [(7, .ref 106), (6, .ref 112), (0, .ref 0), (1, .int x1), (2, .int x2), (3, .int x3), (4, .int x4), (5, .int x5)] [.int (-13)] (by rfl) ?_ | refine fo_goL mi_k117 fz117_105_2_110 [(7, .ref 106), (6, .ref 112), (0, .ref 0), (1, .int x1), (2, .int x2), (3, .int x3), (4, .int x4), (5, .int x5)] [.int (-13)] (by rfl) ?_ | refine ft_go mi_k117 2 110 [(7, .ref 106), (6, .ref 112), (0, .ref 0), (1, .int x1), (2, .int x2), (3, .int x3), (4, .int x4), (5, .int x5)] [.int (-13)] i a q r (by rfl) ?_ | refine ko_steps mi_in117 2 _ (110, [(7, .ref 106), (6, .ref 112), (0, .ref 0), (1, .int x1), (2, .int x2), (3, .int x3), (4, .int x4), (5, .int x5)], [.int (-13)], (0, 0), ks i a q r) (by rfl) ?_
                        exact ft_ret mi_k117 (by rfl) (hP (-13) _ _ _ _ hG ⟨trivial, ⟨fun s t hs ht e1 e3 => by
        have es : s = 4 := kj_at e1 (oy144 w441)
        have et : t = 1 := kj_at e3 (oy126 w460)
        subst es
        subst et
        exact ⟨(Or.inr (Or.inr (Or.inl ⟨kym13, (oy152 c465 c467 c468 fi_6784.2 fi_7168.2 ky2), (oy135 z470.1 z474)⟩))), fun h => absurd h (kj_neg kym13 (by decide))⟩, fun _ => (fun u hu => match u, hu with | 0, _ => rfl | 1, _ => rfl | 2, _ => rfl | 3, _ => rfl | 4, _ => rfl | 5, _ => rfl | _ + 6, h => absurd h (by omega)), fun h => absurd (oy173 w441 w460 z2.2 z4.2) h⟩⟩)
                    ·
                      subst eg469
                      have fi_7171 : ((0 : Int) ≤ (i 7171).toInt) ∧ ((i 7171).toInt ≤ 60) := hG.I.1 7171
                      have z475 : ¬ (((0 : Int) ≤ x5.toInt) ∧ (x5.toInt ≤ (i 7171).toInt) ∧ ((0 : Int) ≤ x2.toInt) ∧ ((x2.toInt + x5.toInt) ≤ (i 7171).toInt)) := hg469
                      first | refine fo_goL mi_k117 fz117_93_2_110 [(7, .ref 106), (6, .ref 112), (0, .ref 0), (1, .int x1), (2, .int x2), (3, .int x3), (4, .int x4), (5, .int x5)] [.int (-13)] (by rfl) ?_ | refine fo_goL mi_k117 fz117_105_2_110 [(7, .ref 106), (6, .ref 112), (0, .ref 0), (1, .int x1), (2, .int x2), (3, .int x3), (4, .int x4), (5, .int x5)] [.int (-13)] (by rfl) ?_ | refine ft_go mi_k117 2 110 [(7, .ref 106), (6, .ref 112), (0, .ref 0), (1, .int x1), (2, .int x2), (3, .int x3), (4, .int x4), (5, .int x5)] [.int (-13)] i a q r (by rfl) ?_ | refine ko_steps mi_in117 2 _ (110, [(7, .ref 106), (6, .ref 112), (0, .ref 0), (1, .int x1), (2, .int x2), (3, .int x3), (4, .int x4), (5, .int x5)], [.int (-13)], (0, 0), ks i a q r) (by rfl) ?_
                      have fi_6787 : ((0 : Int) ≤ (i 6787).toInt) ∧ ((i 6787).toInt ≤ 60) := hG.I.1 6787
                      exact ft_ret mi_k117 (by rfl) (hP (-13) _ _ _ _ hG ⟨trivial, ⟨fun s t hs ht e1 e3 => by
        have es : s = 4 := kj_at e1 (oy144 w441)
        have et : t = 1 := kj_at e3 (oy126 w460)
        subst es
        subst et
        exact ⟨(Or.inr (Or.inr (Or.inl ⟨kym13, (oy152 c465 c467 c468 fi_6784.2 fi_7168.2 ky2), (oy136 z475)⟩))), fun h => absurd h (kj_neg kym13 (by decide))⟩, fun _ => (fun u hu => match u, hu with | 0, _ => rfl | 1, _ => rfl | 2, _ => rfl | 3, _ => rfl | 4, _ => rfl | 5, _ => rfl | _ + 6, h => absurd h (by omega)), fun h => absurd (oy173 w441 w460 z2.2 z4.2) h⟩⟩)
                  ·
                    have c476 : (i 7170).toInt ≠ (i 6786).toInt := kd_eqF c; clear c
                    first | refine fo_goL mi_k117 fz117_82_1_84 [(7, .ref 106), (6, .ref 112), (0, .ref 0), (1, .int x1), (2, .int x2), (3, .int x3), (4, .int x4), (5, .int x5)] [.int (-12)] (by rfl) ?_ | refine ft_go mi_k117 1 84 [(7, .ref 106), (6, .ref 112), (0, .ref 0), (1, .int x1), (2, .int x2), (3, .int x3), (4, .int x4), (5, .int x5)] [.int (-12)] i a q r (by rfl) ?_ | refine ko_steps mi_in117 1 _ (84, [(7, .ref 106), (6, .ref 112), (0, .ref 0), (1, .int x1), (2, .int x2), (3, .int x3), (4, .int x4), (5, .int x5)], [.int (-12)], (0, 0), ks i a q r) (by rfl) ?_
                    have fi_7171 : ((0 : Int) ≤ (i 7171).toInt) ∧ ((i 7171).toInt ≤ 60) := hG.I.1 7171
                    have fi_6787 : ((0 : Int) ≤ (i 6787).toInt) ∧ ((i 6787).toInt ≤ 60) := hG.I.1 6787
                    exact ft_ret mi_k117 (by rfl) (hP (-12) _ _ _ _ hG ⟨trivial, ⟨fun s t hs ht e1 e3 => by
        have es : s = 4 := kj_at e1 (oy144 w441)
        have et : t = 1 := kj_at e3 (oy126 w460)
        subst es
        subst et
        exact ⟨(Or.inr (Or.inl ⟨kym12, (oy137 c465 c467 ky2), (oy138 c476)⟩)), fun h => absurd h (kj_neg kym12 (by decide))⟩, fun _ => (fun u hu => match u, hu with | 0, _ => rfl | 1, _ => rfl | 2, _ => rfl | 3, _ => rfl | 4, _ => rfl | 5, _ => rfl | _ + 6, h => absurd h (by omega)), fun h => absurd (oy173 w441 w460 z2.2 z4.2) h⟩⟩)
            ·
              have c477 : (i 6784).toInt = (0 : Int32).toInt := kd_neF c; clear c
              first | refine fo_goL mi_k117 fz117_48_1_50 [(7, .ref 106), (6, .ref 112), (0, .ref 0), (1, .int x1), (2, .int x2), (3, .int x3), (4, .int x4), (5, .int x5)] [.int (-11)] (by rfl) ?_ | refine ft_go mi_k117 1 50 [(7, .ref 106), (6, .ref 112), (0, .ref 0), (1, .int x1), (2, .int x2), (3, .int x3), (4, .int x4), (5, .int x5)] [.int (-11)] i a q r (by rfl) ?_ | refine ko_steps mi_in117 1 _ (50, [(7, .ref 106), (6, .ref 112), (0, .ref 0), (1, .int x1), (2, .int x2), (3, .int x3), (4, .int x4), (5, .int x5)], [.int (-11)], (0, 0), ks i a q r) (by rfl) ?_
              have fi_7170 : ((0 : Int) ≤ (i 7170).toInt) ∧ ((i 7170).toInt ≤ 4) := hG.I.1 7170
              have fi_6786 : ((0 : Int) ≤ (i 6786).toInt) ∧ ((i 6786).toInt ≤ 4) := hG.I.1 6786
              have fi_7171 : ((0 : Int) ≤ (i 7171).toInt) ∧ ((i 7171).toInt ≤ 60) := hG.I.1 7171
              have fi_6787 : ((0 : Int) ≤ (i 6787).toInt) ∧ ((i 6787).toInt ≤ 60) := hG.I.1 6787
              exact ft_ret mi_k117 (by rfl) (hP (-11) _ _ _ _ hG ⟨trivial, ⟨fun s t hs ht e1 e3 => by
        have es : s = 4 := kj_at e1 (oy144 w441)
        have et : t = 1 := kj_at e3 (oy126 w460)
        subst es
        subst et
        exact ⟨(Or.inl ⟨kym11, (oy139 c477 fi_6784.1 ky0)⟩), fun h => absurd h (kj_neg kym11 (by decide))⟩, fun _ => (fun u hu => match u, hu with | 0, _ => rfl | 1, _ => rfl | 2, _ => rfl | 3, _ => rfl | 4, _ => rfl | 5, _ => rfl | _ + 6, h => absurd h (by omega)), fun h => absurd (oy173 w441 w460 z2.2 z4.2) h⟩⟩)
        by_cases w478 : x3.toInt = 2
        ·
          refine ko_eq (x1 := (29, [(6, .ref 112), (0, .ref 0), (1, .int x1), (2, .int x2), (3, .int x3), (4, .int x4), (5, .int x5)], [.int 2, .ref 97], (0, 0), ks i a q r)) (by rw [(kj_eq w478 (by decide) : x3 = 2)]) ?_
          have fi_7168 : ((0 : Int) ≤ (i 7168).toInt) ∧ ((i 7168).toInt ≤ 2) := hG.I.1 7168
          first | refine ft_goL mi_k117 4 37 [(7, .ref 108), (6, .ref 112), (0, .ref 0), (1, .int x1), (2, .int x2), (3, .int x3), (4, .int x4), (5, .int x5)] [.int (i 7168)] (by rfl) ?_ | refine ft_go mi_k117 4 37 [(7, .ref 108), (6, .ref 112), (0, .ref 0), (1, .int x1), (2, .int x2), (3, .int x3), (4, .int x4), (5, .int x5)] [.int (i 7168)] i a q r (by rfl) ?_ | refine ko_steps mi_in117 4 _ (37, [(7, .ref 108), (6, .ref 112), (0, .ref 0), (1, .int x1), (2, .int x2), (3, .int x3), (4, .int x4), (5, .int x5)], [.int (i 7168)], (0, 0), ks i a q r) (by rfl) ?_
          refine ft_ifS mi_k117 ((i 7168) == 0) 48 40 [] (by rfl) (fun c => ?_) (fun c => ?_)
          ·
            have c479 : (i 7168).toInt = (0 : Int32).toInt := kd_eq c; clear c
            first | refine fo_goS mi_k117 fz117_48_1_50 [.int (-11)] (by rfl) ?_ | refine ft_go mi_k117 1 50 [(7, .ref 108), (6, .ref 112), (0, .ref 0), (1, .int x1), (2, .int x2), (3, .int x3), (4, .int x4), (5, .int x5)] [.int (-11)] i a q r (by rfl) ?_ | refine ko_steps mi_in117 1 _ (50, [(7, .ref 108), (6, .ref 112), (0, .ref 0), (1, .int x1), (2, .int x2), (3, .int x3), (4, .int x4), (5, .int x5)], [.int (-11)], (0, 0), ks i a q r) (by rfl) ?_
            have fi_6912 : ((0 : Int) ≤ (i 6912).toInt) ∧ ((i 6912).toInt ≤ 2) := hG.I.1 6912
            have fi_7170 : ((0 : Int) ≤ (i 7170).toInt) ∧ ((i 7170).toInt ≤ 4) := hG.I.1 7170
            have fi_6914 : ((0 : Int) ≤ (i 6914).toInt) ∧ ((i 6914).toInt ≤ 4) := hG.I.1 6914
            have fi_7171 : ((0 : Int) ≤ (i 7171).toInt) ∧ ((i 7171).toInt ≤ 60) := hG.I.1 7171
            have fi_6915 : ((0 : Int) ≤ (i 6915).toInt) ∧ ((i 6915).toInt ≤ 60) := hG.I.1 6915
            exact ft_ret mi_k117 (by rfl) (hP (-11) _ _ _ _ hG ⟨trivial, ⟨fun s t hs ht e1 e3 => by
        have es : s = 4 := kj_at e1 (oy144 w441)
        have et : t = 2 := kj_at e3 (oy140 w478)
        subst es
        subst et
        exact ⟨(Or.inl ⟨kym11, (oy127 c479 fi_7168.1 ky0)⟩), fun h => absurd h (kj_neg kym11 (by decide))⟩, fun _ => (fun u hu => match u, hu with | 0, _ => rfl | 1, _ => rfl | 2, _ => rfl | 3, _ => rfl | 4, _ => rfl | 5, _ => rfl | _ + 6, h => absurd h (by omega)), fun h => absurd (oy174 w441 w478 z2.2 z4.2) h⟩⟩)
          ·
            have c480 : (i 7168).toInt ≠ (0 : Int32).toInt := kd_eqF c; clear c
            have fi_6912 : ((0 : Int) ≤ (i 6912).toInt) ∧ ((i 6912).toInt ≤ 2) := hG.I.1 6912
            first | refine fo_goL mi_k117 fz117_40_2_45 [(7, .ref 108), (6, .ref 112), (0, .ref 0), (1, .int x1), (2, .int x2), (3, .int x3), (4, .int x4), (5, .int x5)] [.int (i 6912)] (by rfl) ?_ | refine ft_go mi_k117 2 45 [(7, .ref 108), (6, .ref 112), (0, .ref 0), (1, .int x1), (2, .int x2), (3, .int x3), (4, .int x4), (5, .int x5)] [.int (i 6912)] i a q r (by rfl) ?_ | refine ko_steps mi_in117 2 _ (45, [(7, .ref 108), (6, .ref 112), (0, .ref 0), (1, .int x1), (2, .int x2), (3, .int x3), (4, .int x4), (5, .int x5)], [.int (i 6912)], (0, 0), ks i a q r) (by rfl) ?_
            refine ft_ifS mi_k117 ((i 6912) != 0) 51 48 [] (by rfl) (fun c => ?_) (fun c => ?_)
            ·
              have c481 : (i 6912).toInt ≠ (0 : Int32).toInt := kd_ne c; clear c
              first | refine fo_goS mi_k117 fz117_51_3_57 [.int 2, .int (i 7168)] (by rfl) ?_ | refine ft_go mi_k117 3 57 [(7, .ref 108), (6, .ref 112), (0, .ref 0), (1, .int x1), (2, .int x2), (3, .int x3), (4, .int x4), (5, .int x5)] [.int 2, .int (i 7168)] i a q r (by rfl) ?_ | refine ko_steps mi_in117 3 _ (57, [(7, .ref 108), (6, .ref 112), (0, .ref 0), (1, .int x1), (2, .int x2), (3, .int x3), (4, .int x4), (5, .int x5)], [.int 2, .int (i 7168)], (0, 0), ks i a q r) (by rfl) ?_
              refine ft_ifS mi_k117 ((i 7168) != 2) 82 60 [] (by rfl) (fun c => ?_) (fun c => ?_)
              ·
                have c482 : (i 7168).toInt ≠ (2 : Int32).toInt := kd_ne c; clear c
                first | refine fo_goS mi_k117 fz117_82_1_84 [.int (-12)] (by rfl) ?_ | refine ft_go mi_k117 1 84 [(7, .ref 108), (6, .ref 112), (0, .ref 0), (1, .int x1), (2, .int x2), (3, .int x3), (4, .int x4), (5, .int x5)] [.int (-12)] i a q r (by rfl) ?_ | refine ko_steps mi_in117 1 _ (84, [(7, .ref 108), (6, .ref 112), (0, .ref 0), (1, .int x1), (2, .int x2), (3, .int x3), (4, .int x4), (5, .int x5)], [.int (-12)], (0, 0), ks i a q r) (by rfl) ?_
                have fi_7170 : ((0 : Int) ≤ (i 7170).toInt) ∧ ((i 7170).toInt ≤ 4) := hG.I.1 7170
                have fi_6914 : ((0 : Int) ≤ (i 6914).toInt) ∧ ((i 6914).toInt ≤ 4) := hG.I.1 6914
                have fi_7171 : ((0 : Int) ≤ (i 7171).toInt) ∧ ((i 7171).toInt ≤ 60) := hG.I.1 7171
                have fi_6915 : ((0 : Int) ≤ (i 6915).toInt) ∧ ((i 6915).toInt ≤ 60) := hG.I.1 6915
                exact ft_ret mi_k117 (by rfl) (hP (-12) _ _ _ _ hG ⟨trivial, ⟨fun s t hs ht e1 e3 => by
        have es : s = 4 := kj_at e1 (oy144 w441)
        have et : t = 2 := kj_at e3 (oy140 w478)
        subst es
        subst et
        exact ⟨(Or.inr (Or.inl ⟨kym12, (oy151 c480 c481 fi_6912.1 fi_7168.1 ky0), (oy130 c482 fi_7168.2 ky2)⟩)), fun h => absurd h (kj_neg kym12 (by decide))⟩, fun _ => (fun u hu => match u, hu with | 0, _ => rfl | 1, _ => rfl | 2, _ => rfl | 3, _ => rfl | 4, _ => rfl | 5, _ => rfl | _ + 6, h => absurd h (by omega)), fun h => absurd (oy174 w441 w478 z2.2 z4.2) h⟩⟩)
              ·
                have c483 : (i 7168).toInt = (2 : Int32).toInt := kd_neF c; clear c
                first | refine fo_goL mi_k117 fz117_60_3_66 [(7, .ref 108), (6, .ref 112), (0, .ref 0), (1, .int x1), (2, .int x2), (3, .int x3), (4, .int x4), (5, .int x5)] [.int 2, .int (i 6912)] (by rfl) ?_ | refine ft_go mi_k117 3 66 [(7, .ref 108), (6, .ref 112), (0, .ref 0), (1, .int x1), (2, .int x2), (3, .int x3), (4, .int x4), (5, .int x5)] [.int 2, .int (i 6912)] i a q r (by rfl) ?_ | refine ko_steps mi_in117 3 _ (66, [(7, .ref 108), (6, .ref 112), (0, .ref 0), (1, .int x1), (2, .int x2), (3, .int x3), (4, .int x4), (5, .int x5)], [.int 2, .int (i 6912)], (0, 0), ks i a q r) (by rfl) ?_
                refine ft_ifS mi_k117 ((i 6912) != 2) 82 69 [] (by rfl) (fun c => ?_) (fun c => ?_)
                ·
                  have c484 : (i 6912).toInt ≠ (2 : Int32).toInt := kd_ne c; clear c
                  first | refine fo_goS mi_k117 fz117_82_1_84 [.int (-12)] (by rfl) ?_ | refine ft_go mi_k117 1 84 [(7, .ref 108), (6, .ref 112), (0, .ref 0), (1, .int x1), (2, .int x2), (3, .int x3), (4, .int x4), (5, .int x5)] [.int (-12)] i a q r (by rfl) ?_ | refine ko_steps mi_in117 1 _ (84, [(7, .ref 108), (6, .ref 112), (0, .ref 0), (1, .int x1), (2, .int x2), (3, .int x3), (4, .int x4), (5, .int x5)], [.int (-12)], (0, 0), ks i a q r) (by rfl) ?_
                  have fi_7170 : ((0 : Int) ≤ (i 7170).toInt) ∧ ((i 7170).toInt ≤ 4) := hG.I.1 7170
                  have fi_6914 : ((0 : Int) ≤ (i 6914).toInt) ∧ ((i 6914).toInt ≤ 4) := hG.I.1 6914
                  have fi_7171 : ((0 : Int) ≤ (i 7171).toInt) ∧ ((i 7171).toInt ≤ 60) := hG.I.1 7171
                  have fi_6915 : ((0 : Int) ≤ (i 6915).toInt) ∧ ((i 6915).toInt ≤ 60) := hG.I.1 6915
                  exact ft_ret mi_k117 (by rfl) (hP (-12) _ _ _ _ hG ⟨trivial, ⟨fun s t hs ht e1 e3 => by
        have es : s = 4 := kj_at e1 (oy144 w441)
        have et : t = 2 := kj_at e3 (oy140 w478)
        subst es
        subst et
        exact ⟨(Or.inr (Or.inl ⟨kym12, (oy131 c481 c483 fi_6912.1 ky0 ky2), (oy132 c484 fi_6912.2 ky2)⟩)), fun h => absurd h (kj_neg kym12 (by decide))⟩, fun _ => (fun u hu => match u, hu with | 0, _ => rfl | 1, _ => rfl | 2, _ => rfl | 3, _ => rfl | 4, _ => rfl | 5, _ => rfl | _ + 6, h => absurd h (by omega)), fun h => absurd (oy174 w441 w478 z2.2 z4.2) h⟩⟩)
                ·
                  have c485 : (i 6912).toInt = (2 : Int32).toInt := kd_neF c; clear c
                  have fi_7170 : ((0 : Int) ≤ (i 7170).toInt) ∧ ((i 7170).toInt ≤ 4) := hG.I.1 7170
                  have fi_6914 : ((0 : Int) ≤ (i 6914).toInt) ∧ ((i 6914).toInt ≤ 4) := hG.I.1 6914
                  first | refine fo_goL mi_k117 fz117_69_4_79 [(7, .ref 108), (6, .ref 112), (0, .ref 0), (1, .int x1), (2, .int x2), (3, .int x3), (4, .int x4), (5, .int x5)] [.int (i 6914), .int (i 7170)] (by rfl) ?_ | refine ft_go mi_k117 4 79 [(7, .ref 108), (6, .ref 112), (0, .ref 0), (1, .int x1), (2, .int x2), (3, .int x3), (4, .int x4), (5, .int x5)] [.int (i 6914), .int (i 7170)] i a q r (by rfl) ?_ | refine ko_steps mi_in117 4 _ (79, [(7, .ref 108), (6, .ref 112), (0, .ref 0), (1, .int x1), (2, .int x2), (3, .int x3), (4, .int x4), (5, .int x5)], [.int (i 6914), .int (i 7170)], (0, 0), ks i a q r) (by rfl) ?_
                  refine ft_ifS mi_k117 ((i 7170) == (i 6914)) 85 82 [] (by rfl) (fun c => ?_) (fun c => ?_)
                  ·
                    have c486 : (i 7170).toInt = (i 6914).toInt := kd_eq c; clear c
                    first | refine fo_goS mi_k117 fz117_85_3_90 [.int x5, .int x2, .ref 112] (by rfl) ?_ | refine ft_go mi_k117 3 90 [(7, .ref 108), (6, .ref 112), (0, .ref 0), (1, .int x1), (2, .int x2), (3, .int x3), (4, .int x4), (5, .int x5)] [.int x5, .int x2, .ref 112] i a q r (by rfl) ?_ | refine ko_steps mi_in117 3 _ (90, [(7, .ref 108), (6, .ref 112), (0, .ref 0), (1, .int x1), (2, .int x2), (3, .int x3), (4, .int x4), (5, .int x5)], [.int x5, .int x2, .ref 112], (0, 0), ks i a q r) (by rfl) ?_
                    refine ko_callPI mi_k117.1 (pc := 90) (ls := [(7, .ref 108), (6, .ref 112), (0, .ref 0), (1, .int x1), (2, .int x2), (3, .int x3), (4, .int x4), (5, .int x5)]) (st := [.int x5, .int x2, .ref 112]) (h := ks i a q r) (i := (.invokevirtual 324, 3, 37, 0, 9, 0, 316)) (mi_k117.2 _ _ (by rfl)) (ft_invS mi_pq37 (by rfl)) (cy := mi_c37) mi_pq37 rfl (kc37_112 hG.I hG.R x2 x5) (by decide) ?_
                    intro vg487 hg487
                    rcases hg487 with ⟨eg487, hg487⟩ | ⟨eg487, hg487⟩
                    ·
                      subst eg487
                      have fi_7171 : ((0 : Int) ≤ (i 7171).toInt) ∧ ((i 7171).toInt ≤ 60) := hG.I.1 7171
                      have z488 : ((0 : Int) ≤ x5.toInt) ∧ (x5.toInt ≤ (i 7171).toInt) ∧ ((0 : Int) ≤ x2.toInt) ∧ ((x2.toInt + x5.toInt) ≤ (i 7171).toInt) := hg487
                      first | refine fo_goS mi_k117 fz117_93_4_102 [.int x5, .int x4, .ref 108] (by rfl) ?_ | refine ft_go mi_k117 4 102 [(7, .ref 108), (6, .ref 112), (0, .ref 0), (1, .int x1), (2, .int x2), (3, .int x3), (4, .int x4), (5, .int x5)] [.int x5, .int x4, .ref 108] i a q r (by rfl) ?_ | refine ko_steps mi_in117 4 _ (102, [(7, .ref 108), (6, .ref 112), (0, .ref 0), (1, .int x1), (2, .int x2), (3, .int x3), (4, .int x4), (5, .int x5)], [.int x5, .int x4, .ref 108], (0, 0), ks i a q r) (by rfl) ?_
                      refine ko_callPI mi_k117.1 (pc := 102) (ls := [(7, .ref 108), (6, .ref 112), (0, .ref 0), (1, .int x1), (2, .int x2), (3, .int x3), (4, .int x4), (5, .int x5)]) (st := [.int x5, .int x4, .ref 108]) (h := ks i a q r) (i := (.invokevirtual 324, 3, 37, 0, 9, 0, 316)) (mi_k117.2 _ _ (by rfl)) (ft_invS mi_pq37 (by rfl)) (cy := mi_c37) mi_pq37 rfl (kc37_108 hG.I hG.R x4 x5) (by decide) ?_
                      intro vg489 hg489
                      rcases hg489 with ⟨eg489, hg489⟩ | ⟨eg489, hg489⟩
                      ·
                        subst eg489
                        have fi_6915 : ((0 : Int) ≤ (i 6915).toInt) ∧ ((i 6915).toInt ≤ 60) := hG.I.1 6915
                        have z490 : ((0 : Int) ≤ x5.toInt) ∧ (x5.toInt ≤ (i 6915).toInt) ∧ ((0 : Int) ≤ x4.toInt) ∧ ((x4.toInt + x5.toInt) ≤ (i 6915).toInt) := hg489
                        first | refine fo_goS mi_k117 fz117_105_8_126 [.int x5, .int x4, .ref 109, .int x2, .ref 113] (by rfl) ?_ | refine ft_go mi_k117 8 126 [(7, .ref 108), (6, .ref 112), (0, .ref 0), (1, .int x1), (2, .int x2), (3, .int x3), (4, .int x4), (5, .int x5)] [.int x5, .int x4, .ref 109, .int x2, .ref 113] i a q r (by rfl) ?_ | refine ko_steps mi_in117 8 _ (126, [(7, .ref 108), (6, .ref 112), (0, .ref 0), (1, .int x1), (2, .int x2), (3, .int x3), (4, .int x4), (5, .int x5)], [.int x5, .int x4, .ref 109, .int x2, .ref 113], (0, 0), ks i a q r) (by rfl) ?_
                        have hJ491 := kG_q hG 109 rfl (z := mi_cpy (q 113) (q 109) x2.toNatClampNeg x4.toNatClampNeg x5.toNatClampNeg) (kcpy_len2 (n := 60) (c := 60) (m := 60) (b := 60) (sp := x2) (dp := x4) (n1 := x5) (hG.I.2.2.2 113) rfl (hG.I.2.2.2 109) rfl (oy3 z488.1) (oy3 z488.2.2.1) (oy3 z490.2.2.1) (oy119 fi_7171.2 z488.2.2.2) (oy119 fi_6915.2 z490.2.2.2))
                        refine ko_copyL2 mi_k117.1 (l := q 113) (g := q 109) (n := 60) (c := 60) (m := 60) (b := 60) (mi_k117.2 _ _ (by rfl)) (by rfl) (by rfl) (by rfl) (by rfl) (by rfl) (hG.I.2.2.2 113) rfl (hG.I.2.2.2 109) rfl (oy3 z488.1) (oy3 z488.2.2.1) (oy3 z490.2.2.1) (oy119 fi_7171.2 z488.2.2.2) (oy119 fi_6915.2 z490.2.2.2) (h5 := ks i a (ku q 109 (mi_cpy (q 113) (q 109) x2.toNatClampNeg x4.toNatClampNeg x5.toNatClampNeg)) r) (by rfl) ?_
                        first | refine fo_goS mi_k117 fz117_129_1_131 [.int x5] (by rfl) ?_ | refine ft_go mi_k117 1 131 [(7, .ref 108), (6, .ref 112), (0, .ref 0), (1, .int x1), (2, .int x2), (3, .int x3), (4, .int x4), (5, .int x5)] [.int x5] i a (ku q 109 (mi_cpy (q 113) (q 109) x2.toNatClampNeg x4.toNatClampNeg x5.toNatClampNeg)) r (by rfl) ?_ | refine ko_steps mi_in117 1 _ (131, [(7, .ref 108), (6, .ref 112), (0, .ref 0), (1, .int x1), (2, .int x2), (3, .int x3), (4, .int x4), (5, .int x5)], [.int x5], (0, 0), ks i a (ku q 109 (mi_cpy (q 113) (q 109) x2.toNatClampNeg x4.toNatClampNeg x5.toNatClampNeg)) r) (by rfl) ?_
                        exact ft_ret mi_k117 (by rfl) (hP x5 _ _ _ _ hJ491 ⟨trivial, ⟨fun s t hs ht e1 e3 => by
        have es : s = 4 := kj_at e1 (oy144 w441)
        have et : t = 2 := kj_at e3 (oy140 w478)
        subst es
        subst et
        exact ⟨(Or.inr (Or.inr (Or.inr ⟨rfl, (oy152 c483 c485 c486 fi_6912.2 fi_7168.2 ky2), (oy134 z488.1 z488.2.2.1 z488.2.2.2 z490.2.2.1 z490.2.2.2)⟩))), fun _ => ⟨rfl, (fun u hu ne => match u, hu, ne with | 0, _, _ => rfl | 1, _, _ => rfl | 2, _, ne => absurd rfl ne | 3, _, _ => rfl | 4, _, _ => rfl | 5, _, _ => rfl | _ + 6, h, _ => absurd h (by omega))⟩⟩, fun h => absurd h (oy26 z488.1), fun h => absurd (oy174 w441 w478 z2.2 z4.2) h⟩⟩)
                      ·
                        subst eg489
                        have fi_6915 : ((0 : Int) ≤ (i 6915).toInt) ∧ ((i 6915).toInt ≤ 60) := hG.I.1 6915
                        have z492 : ¬ (((0 : Int) ≤ x5.toInt) ∧ (x5.toInt ≤ (i 6915).toInt) ∧ ((0 : Int) ≤ x4.toInt) ∧ ((x4.toInt + x5.toInt) ≤ (i 6915).toInt)) := hg489
                        first | refine fo_goL mi_k117 fz117_93_2_110 [(7, .ref 108), (6, .ref 112), (0, .ref 0), (1, .int x1), (2, .int x2), (3, .int x3), (4, .int x4), (5, .int x5)] [.int (-13)] (by rfl) ?_ | refine fo_goL mi_k117 fz117_105_2_110 [(7, .ref 108), (6, .ref 112), (0, .ref 0), (1, .int x1), (2, .int x2), (3, .int x3), (4, .int x4), (5, .int x5)] [.int (-13)] (by rfl) ?_ | refine ft_go mi_k117 2 110 [(7, .ref 108), (6, .ref 112), (0, .ref 0), (1, .int x1), (2, .int x2), (3, .int x3), (4, .int x4), (5, .int x5)] [.int (-13)] i a q r (by rfl) ?_ | refine ko_steps mi_in117 2 _ (110, [(7, .ref 108), (6, .ref 112), (0, .ref 0), (1, .int x1), (2, .int x2), (3, .int x3), (4, .int x4), (5, .int x5)], [.int (-13)], (0, 0), ks i a q r) (by rfl) ?_
                        exact ft_ret mi_k117 (by rfl) (hP (-13) _ _ _ _ hG ⟨trivial, ⟨fun s t hs ht e1 e3 => by
        have es : s = 4 := kj_at e1 (oy144 w441)
        have et : t = 2 := kj_at e3 (oy140 w478)
        subst es
        subst et
        exact ⟨(Or.inr (Or.inr (Or.inl ⟨kym13, (oy152 c483 c485 c486 fi_6912.2 fi_7168.2 ky2), (oy135 z488.1 z492)⟩))), fun h => absurd h (kj_neg kym13 (by decide))⟩, fun _ => (fun u hu => match u, hu with | 0, _ => rfl | 1, _ => rfl | 2, _ => rfl | 3, _ => rfl | 4, _ => rfl | 5, _ => rfl | _ + 6, h => absurd h (by omega)), fun h => absurd (oy174 w441 w478 z2.2 z4.2) h⟩⟩)
                    ·
                      subst eg487
                      have fi_7171 : ((0 : Int) ≤ (i 7171).toInt) ∧ ((i 7171).toInt ≤ 60) := hG.I.1 7171
                      have z493 : ¬ (((0 : Int) ≤ x5.toInt) ∧ (x5.toInt ≤ (i 7171).toInt) ∧ ((0 : Int) ≤ x2.toInt) ∧ ((x2.toInt + x5.toInt) ≤ (i 7171).toInt)) := hg487
                      first | refine fo_goL mi_k117 fz117_93_2_110 [(7, .ref 108), (6, .ref 112), (0, .ref 0), (1, .int x1), (2, .int x2), (3, .int x3), (4, .int x4), (5, .int x5)] [.int (-13)] (by rfl) ?_ | refine fo_goL mi_k117 fz117_105_2_110 [(7, .ref 108), (6, .ref 112), (0, .ref 0), (1, .int x1), (2, .int x2), (3, .int x3), (4, .int x4), (5, .int x5)] [.int (-13)] (by rfl) ?_ | refine ft_go mi_k117 2 110 [(7, .ref 108), (6, .ref 112), (0, .ref 0), (1, .int x1), (2, .int x2), (3, .int x3), (4, .int x4), (5, .int x5)] [.int (-13)] i a q r (by rfl) ?_ | refine ko_steps mi_in117 2 _ (110, [(7, .ref 108), (6, .ref 112), (0, .ref 0), (1, .int x1), (2, .int x2), (3, .int x3), (4, .int x4), (5, .int x5)], [.int (-13)], (0, 0), ks i a q r) (by rfl) ?_
                      have fi_6915 : ((0 : Int) ≤ (i 6915).toInt) ∧ ((i 6915).toInt ≤ 60) := hG.I.1 6915
                      exact ft_ret mi_k117 (by rfl) (hP (-13) _ _ _ _ hG ⟨trivial, ⟨fun s t hs ht e1 e3 => by
        have es : s = 4 := kj_at e1 (oy144 w441)
        have et : t = 2 := kj_at e3 (oy140 w478)
        subst es
        subst et
        exact ⟨(Or.inr (Or.inr (Or.inl ⟨kym13, (oy152 c483 c485 c486 fi_6912.2 fi_7168.2 ky2), (oy136 z493)⟩))), fun h => absurd h (kj_neg kym13 (by decide))⟩, fun _ => (fun u hu => match u, hu with | 0, _ => rfl | 1, _ => rfl | 2, _ => rfl | 3, _ => rfl | 4, _ => rfl | 5, _ => rfl | _ + 6, h => absurd h (by omega)), fun h => absurd (oy174 w441 w478 z2.2 z4.2) h⟩⟩)
                  ·
                    have c494 : (i 7170).toInt ≠ (i 6914).toInt := kd_eqF c; clear c
                    first | refine fo_goL mi_k117 fz117_82_1_84 [(7, .ref 108), (6, .ref 112), (0, .ref 0), (1, .int x1), (2, .int x2), (3, .int x3), (4, .int x4), (5, .int x5)] [.int (-12)] (by rfl) ?_ | refine ft_go mi_k117 1 84 [(7, .ref 108), (6, .ref 112), (0, .ref 0), (1, .int x1), (2, .int x2), (3, .int x3), (4, .int x4), (5, .int x5)] [.int (-12)] i a q r (by rfl) ?_ | refine ko_steps mi_in117 1 _ (84, [(7, .ref 108), (6, .ref 112), (0, .ref 0), (1, .int x1), (2, .int x2), (3, .int x3), (4, .int x4), (5, .int x5)], [.int (-12)], (0, 0), ks i a q r) (by rfl) ?_
                    have fi_7171 : ((0 : Int) ≤ (i 7171).toInt) ∧ ((i 7171).toInt ≤ 60) := hG.I.1 7171
                    have fi_6915 : ((0 : Int) ≤ (i 6915).toInt) ∧ ((i 6915).toInt ≤ 60) := hG.I.1 6915
                    exact ft_ret mi_k117 (by rfl) (hP (-12) _ _ _ _ hG ⟨trivial, ⟨fun s t hs ht e1 e3 => by
        have es : s = 4 := kj_at e1 (oy144 w441)
        have et : t = 2 := kj_at e3 (oy140 w478)
        subst es
        subst et
        exact ⟨(Or.inr (Or.inl ⟨kym12, (oy137 c483 c485 ky2), (oy138 c494)⟩)), fun h => absurd h (kj_neg kym12 (by decide))⟩, fun _ => (fun u hu => match u, hu with | 0, _ => rfl | 1, _ => rfl | 2, _ => rfl | 3, _ => rfl | 4, _ => rfl | 5, _ => rfl | _ + 6, h => absurd h (by omega)), fun h => absurd (oy174 w441 w478 z2.2 z4.2) h⟩⟩)
            ·
              have c495 : (i 6912).toInt = (0 : Int32).toInt := kd_neF c; clear c
              first | refine fo_goL mi_k117 fz117_48_1_50 [(7, .ref 108), (6, .ref 112), (0, .ref 0), (1, .int x1), (2, .int x2), (3, .int x3), (4, .int x4), (5, .int x5)] [.int (-11)] (by rfl) ?_ | refine ft_go mi_k117 1 50 [(7, .ref 108), (6, .ref 112), (0, .ref 0), (1, .int x1), (2, .int x2), (3, .int x3), (4, .int x4), (5, .int x5)] [.int (-11)] i a q r (by rfl) ?_ | refine ko_steps mi_in117 1 _ (50, [(7, .ref 108), (6, .ref 112), (0, .ref 0), (1, .int x1), (2, .int x2), (3, .int x3), (4, .int x4), (5, .int x5)], [.int (-11)], (0, 0), ks i a q r) (by rfl) ?_
              have fi_7170 : ((0 : Int) ≤ (i 7170).toInt) ∧ ((i 7170).toInt ≤ 4) := hG.I.1 7170
              have fi_6914 : ((0 : Int) ≤ (i 6914).toInt) ∧ ((i 6914).toInt ≤ 4) := hG.I.1 6914
              have fi_7171 : ((0 : Int) ≤ (i 7171).toInt) ∧ ((i 7171).toInt ≤ 60) := hG.I.1 7171
              have fi_6915 : ((0 : Int) ≤ (i 6915).toInt) ∧ ((i 6915).toInt ≤ 60) := hG.I.1 6915
              exact ft_ret mi_k117 (by rfl) (hP (-11) _ _ _ _ hG ⟨trivial, ⟨fun s t hs ht e1 e3 => by
        have es : s = 4 := kj_at e1 (oy144 w441)
        have et : t = 2 := kj_at e3 (oy140 w478)
        subst es
        subst et
        exact ⟨(Or.inl ⟨kym11, (oy139 c495 fi_6912.1 ky0)⟩), fun h => absurd h (kj_neg kym11 (by decide))⟩, fun _ => (fun u hu => match u, hu with | 0, _ => rfl | 1, _ => rfl | 2, _ => rfl | 3, _ => rfl | 4, _ => rfl | 5, _ => rfl | _ + 6, h => absurd h (by omega)), fun h => absurd (oy174 w441 w478 z2.2 z4.2) h⟩⟩)
        by_cases w496 : x3.toInt = 3
        ·
          refine ko_eq (x1 := (29, [(6, .ref 112), (0, .ref 0), (1, .int x1), (2, .int x2), (3, .int x3), (4, .int x4), (5, .int x5)], [.int 3, .ref 97], (0, 0), ks i a q r)) (by rw [(kj_eq w496 (by decide) : x3 = 3)]) ?_
          have fi_7168 : ((0 : Int) ≤ (i 7168).toInt) ∧ ((i 7168).toInt ≤ 2) := hG.I.1 7168
          first | refine ft_goL mi_k117 4 37 [(7, .ref 110), (6, .ref 112), (0, .ref 0), (1, .int x1), (2, .int x2), (3, .int x3), (4, .int x4), (5, .int x5)] [.int (i 7168)] (by rfl) ?_ | refine ft_go mi_k117 4 37 [(7, .ref 110), (6, .ref 112), (0, .ref 0), (1, .int x1), (2, .int x2), (3, .int x3), (4, .int x4), (5, .int x5)] [.int (i 7168)] i a q r (by rfl) ?_ | refine ko_steps mi_in117 4 _ (37, [(7, .ref 110), (6, .ref 112), (0, .ref 0), (1, .int x1), (2, .int x2), (3, .int x3), (4, .int x4), (5, .int x5)], [.int (i 7168)], (0, 0), ks i a q r) (by rfl) ?_
          refine ft_ifS mi_k117 ((i 7168) == 0) 48 40 [] (by rfl) (fun c => ?_) (fun c => ?_)
          ·
            have c497 : (i 7168).toInt = (0 : Int32).toInt := kd_eq c; clear c
            first | refine fo_goS mi_k117 fz117_48_1_50 [.int (-11)] (by rfl) ?_ | refine ft_go mi_k117 1 50 [(7, .ref 110), (6, .ref 112), (0, .ref 0), (1, .int x1), (2, .int x2), (3, .int x3), (4, .int x4), (5, .int x5)] [.int (-11)] i a q r (by rfl) ?_ | refine ko_steps mi_in117 1 _ (50, [(7, .ref 110), (6, .ref 112), (0, .ref 0), (1, .int x1), (2, .int x2), (3, .int x3), (4, .int x4), (5, .int x5)], [.int (-11)], (0, 0), ks i a q r) (by rfl) ?_
            have fi_7040 : ((0 : Int) ≤ (i 7040).toInt) ∧ ((i 7040).toInt ≤ 2) := hG.I.1 7040
            have fi_7170 : ((0 : Int) ≤ (i 7170).toInt) ∧ ((i 7170).toInt ≤ 4) := hG.I.1 7170
            have fi_7042 : ((0 : Int) ≤ (i 7042).toInt) ∧ ((i 7042).toInt ≤ 4) := hG.I.1 7042
            have fi_7171 : ((0 : Int) ≤ (i 7171).toInt) ∧ ((i 7171).toInt ≤ 60) := hG.I.1 7171
            have fi_7043 : ((0 : Int) ≤ (i 7043).toInt) ∧ ((i 7043).toInt ≤ 60) := hG.I.1 7043
            exact ft_ret mi_k117 (by rfl) (hP (-11) _ _ _ _ hG ⟨trivial, ⟨fun s t hs ht e1 e3 => by
        have es : s = 4 := kj_at e1 (oy144 w441)
        have et : t = 3 := kj_at e3 (oy142 w496)
        subst es
        subst et
        exact ⟨(Or.inl ⟨kym11, (oy127 c497 fi_7168.1 ky0)⟩), fun h => absurd h (kj_neg kym11 (by decide))⟩, fun _ => (fun u hu => match u, hu with | 0, _ => rfl | 1, _ => rfl | 2, _ => rfl | 3, _ => rfl | 4, _ => rfl | 5, _ => rfl | _ + 6, h => absurd h (by omega)), fun h => absurd (oy175 w441 w496 z2.2 z4.2) h⟩⟩)
          ·
            have c498 : (i 7168).toInt ≠ (0 : Int32).toInt := kd_eqF c; clear c
            have fi_7040 : ((0 : Int) ≤ (i 7040).toInt) ∧ ((i 7040).toInt ≤ 2) := hG.I.1 7040
            first | refine fo_goL mi_k117 fz117_40_2_45 [(7, .ref 110), (6, .ref 112), (0, .ref 0), (1, .int x1), (2, .int x2), (3, .int x3), (4, .int x4), (5, .int x5)] [.int (i 7040)] (by rfl) ?_ | refine ft_go mi_k117 2 45 [(7, .ref 110), (6, .ref 112), (0, .ref 0), (1, .int x1), (2, .int x2), (3, .int x3), (4, .int x4), (5, .int x5)] [.int (i 7040)] i a q r (by rfl) ?_ | refine ko_steps mi_in117 2 _ (45, [(7, .ref 110), (6, .ref 112), (0, .ref 0), (1, .int x1), (2, .int x2), (3, .int x3), (4, .int x4), (5, .int x5)], [.int (i 7040)], (0, 0), ks i a q r) (by rfl) ?_
            refine ft_ifS mi_k117 ((i 7040) != 0) 51 48 [] (by rfl) (fun c => ?_) (fun c => ?_)
            ·
              have c499 : (i 7040).toInt ≠ (0 : Int32).toInt := kd_ne c; clear c
              first | refine fo_goS mi_k117 fz117_51_3_57 [.int 2, .int (i 7168)] (by rfl) ?_ | refine ft_go mi_k117 3 57 [(7, .ref 110), (6, .ref 112), (0, .ref 0), (1, .int x1), (2, .int x2), (3, .int x3), (4, .int x4), (5, .int x5)] [.int 2, .int (i 7168)] i a q r (by rfl) ?_ | refine ko_steps mi_in117 3 _ (57, [(7, .ref 110), (6, .ref 112), (0, .ref 0), (1, .int x1), (2, .int x2), (3, .int x3), (4, .int x4), (5, .int x5)], [.int 2, .int (i 7168)], (0, 0), ks i a q r) (by rfl) ?_
              refine ft_ifS mi_k117 ((i 7168) != 2) 82 60 [] (by rfl) (fun c => ?_) (fun c => ?_)
              ·
                have c500 : (i 7168).toInt ≠ (2 : Int32).toInt := kd_ne c; clear c
                first | refine fo_goS mi_k117 fz117_82_1_84 [.int (-12)] (by rfl) ?_ | refine ft_go mi_k117 1 84 [(7, .ref 110), (6, .ref 112), (0, .ref 0), (1, .int x1), (2, .int x2), (3, .int x3), (4, .int x4), (5, .int x5)] [.int (-12)] i a q r (by rfl) ?_ | refine ko_steps mi_in117 1 _ (84, [(7, .ref 110), (6, .ref 112), (0, .ref 0), (1, .int x1), (2, .int x2), (3, .int x3), (4, .int x4), (5, .int x5)], [.int (-12)], (0, 0), ks i a q r) (by rfl) ?_
                have fi_7170 : ((0 : Int) ≤ (i 7170).toInt) ∧ ((i 7170).toInt ≤ 4) := hG.I.1 7170
                have fi_7042 : ((0 : Int) ≤ (i 7042).toInt) ∧ ((i 7042).toInt ≤ 4) := hG.I.1 7042
                have fi_7171 : ((0 : Int) ≤ (i 7171).toInt) ∧ ((i 7171).toInt ≤ 60) := hG.I.1 7171
                have fi_7043 : ((0 : Int) ≤ (i 7043).toInt) ∧ ((i 7043).toInt ≤ 60) := hG.I.1 7043
                exact ft_ret mi_k117 (by rfl) (hP (-12) _ _ _ _ hG ⟨trivial, ⟨fun s t hs ht e1 e3 => by
        have es : s = 4 := kj_at e1 (oy144 w441)
        have et : t = 3 := kj_at e3 (oy142 w496)
        subst es
        subst et
        exact ⟨(Or.inr (Or.inl ⟨kym12, (oy151 c498 c499 fi_7040.1 fi_7168.1 ky0), (oy130 c500 fi_7168.2 ky2)⟩)), fun h => absurd h (kj_neg kym12 (by decide))⟩, fun _ => (fun u hu => match u, hu with | 0, _ => rfl | 1, _ => rfl | 2, _ => rfl | 3, _ => rfl | 4, _ => rfl | 5, _ => rfl | _ + 6, h => absurd h (by omega)), fun h => absurd (oy175 w441 w496 z2.2 z4.2) h⟩⟩)
              ·
                have c501 : (i 7168).toInt = (2 : Int32).toInt := kd_neF c; clear c
                first | refine fo_goL mi_k117 fz117_60_3_66 [(7, .ref 110), (6, .ref 112), (0, .ref 0), (1, .int x1), (2, .int x2), (3, .int x3), (4, .int x4), (5, .int x5)] [.int 2, .int (i 7040)] (by rfl) ?_ | refine ft_go mi_k117 3 66 [(7, .ref 110), (6, .ref 112), (0, .ref 0), (1, .int x1), (2, .int x2), (3, .int x3), (4, .int x4), (5, .int x5)] [.int 2, .int (i 7040)] i a q r (by rfl) ?_ | refine ko_steps mi_in117 3 _ (66, [(7, .ref 110), (6, .ref 112), (0, .ref 0), (1, .int x1), (2, .int x2), (3, .int x3), (4, .int x4), (5, .int x5)], [.int 2, .int (i 7040)], (0, 0), ks i a q r) (by rfl) ?_
                refine ft_ifS mi_k117 ((i 7040) != 2) 82 69 [] (by rfl) (fun c => ?_) (fun c => ?_)
                ·
                  have c502 : (i 7040).toInt ≠ (2 : Int32).toInt := kd_ne c; clear c
                  first | refine fo_goS mi_k117 fz117_82_1_84 [.int (-12)] (by rfl) ?_ | refine ft_go mi_k117 1 84 [(7, .ref 110), (6, .ref 112), (0, .ref 0), (1, .int x1), (2, .int x2), (3, .int x3), (4, .int x4), (5, .int x5)] [.int (-12)] i a q r (by rfl) ?_ | refine ko_steps mi_in117 1 _ (84, [(7, .ref 110), (6, .ref 112), (0, .ref 0), (1, .int x1), (2, .int x2), (3, .int x3), (4, .int x4), (5, .int x5)], [.int (-12)], (0, 0), ks i a q r) (by rfl) ?_
                  have fi_7170 : ((0 : Int) ≤ (i 7170).toInt) ∧ ((i 7170).toInt ≤ 4) := hG.I.1 7170
                  have fi_7042 : ((0 : Int) ≤ (i 7042).toInt) ∧ ((i 7042).toInt ≤ 4) := hG.I.1 7042
                  have fi_7171 : ((0 : Int) ≤ (i 7171).toInt) ∧ ((i 7171).toInt ≤ 60) := hG.I.1 7171
                  have fi_7043 : ((0 : Int) ≤ (i 7043).toInt) ∧ ((i 7043).toInt ≤ 60) := hG.I.1 7043
                  exact ft_ret mi_k117 (by rfl) (hP (-12) _ _ _ _ hG ⟨trivial, ⟨fun s t hs ht e1 e3 => by
        have es : s = 4 := kj_at e1 (oy144 w441)
        have et : t = 3 := kj_at e3 (oy142 w496)
        subst es
        subst et
        exact ⟨(Or.inr (Or.inl ⟨kym12, (oy131 c499 c501 fi_7040.1 ky0 ky2), (oy132 c502 fi_7040.2 ky2)⟩)), fun h => absurd h (kj_neg kym12 (by decide))⟩, fun _ => (fun u hu => match u, hu with | 0, _ => rfl | 1, _ => rfl | 2, _ => rfl | 3, _ => rfl | 4, _ => rfl | 5, _ => rfl | _ + 6, h => absurd h (by omega)), fun h => absurd (oy175 w441 w496 z2.2 z4.2) h⟩⟩)
                ·
                  have c503 : (i 7040).toInt = (2 : Int32).toInt := kd_neF c; clear c
                  have fi_7170 : ((0 : Int) ≤ (i 7170).toInt) ∧ ((i 7170).toInt ≤ 4) := hG.I.1 7170
                  have fi_7042 : ((0 : Int) ≤ (i 7042).toInt) ∧ ((i 7042).toInt ≤ 4) := hG.I.1 7042
                  first | refine fo_goL mi_k117 fz117_69_4_79 [(7, .ref 110), (6, .ref 112), (0, .ref 0), (1, .int x1), (2, .int x2), (3, .int x3), (4, .int x4), (5, .int x5)] [.int (i 7042), .int (i 7170)] (by rfl) ?_ | refine ft_go mi_k117 4 79 [(7, .ref 110), (6, .ref 112), (0, .ref 0), (1, .int x1), (2, .int x2), (3, .int x3), (4, .int x4), (5, .int x5)] [.int (i 7042), .int (i 7170)] i a q r (by rfl) ?_ | refine ko_steps mi_in117 4 _ (79, [(7, .ref 110), (6, .ref 112), (0, .ref 0), (1, .int x1), (2, .int x2), (3, .int x3), (4, .int x4), (5, .int x5)], [.int (i 7042), .int (i 7170)], (0, 0), ks i a q r) (by rfl) ?_
                  refine ft_ifS mi_k117 ((i 7170) == (i 7042)) 85 82 [] (by rfl) (fun c => ?_) (fun c => ?_)
                  ·
                    have c504 : (i 7170).toInt = (i 7042).toInt := kd_eq c; clear c
                    first | refine fo_goS mi_k117 fz117_85_3_90 [.int x5, .int x2, .ref 112] (by rfl) ?_ | refine ft_go mi_k117 3 90 [(7, .ref 110), (6, .ref 112), (0, .ref 0), (1, .int x1), (2, .int x2), (3, .int x3), (4, .int x4), (5, .int x5)] [.int x5, .int x2, .ref 112] i a q r (by rfl) ?_ | refine ko_steps mi_in117 3 _ (90, [(7, .ref 110), (6, .ref 112), (0, .ref 0), (1, .int x1), (2, .int x2), (3, .int x3), (4, .int x4), (5, .int x5)], [.int x5, .int x2, .ref 112], (0, 0), ks i a q r) (by rfl) ?_
                    refine ko_callPI mi_k117.1 (pc := 90) (ls := [(7, .ref 110), (6, .ref 112), (0, .ref 0), (1, .int x1), (2, .int x2), (3, .int x3), (4, .int x4), (5, .int x5)]) (st := [.int x5, .int x2, .ref 112]) (h := ks i a q r) (i := (.invokevirtual 324, 3, 37, 0, 9, 0, 316)) (mi_k117.2 _ _ (by rfl)) (ft_invS mi_pq37 (by rfl)) (cy := mi_c37) mi_pq37 rfl (kc37_112 hG.I hG.R x2 x5) (by decide) ?_
                    intro vg505 hg505
                    rcases hg505 with ⟨eg505, hg505⟩ | ⟨eg505, hg505⟩
                    ·
                      subst eg505
                      have fi_7171 : ((0 : Int) ≤ (i 7171).toInt) ∧ ((i 7171).toInt ≤ 60) := hG.I.1 7171
                      have z506 : ((0 : Int) ≤ x5.toInt) ∧ (x5.toInt ≤ (i 7171).toInt) ∧ ((0 : Int) ≤ x2.toInt) ∧ ((x2.toInt + x5.toInt) ≤ (i 7171).toInt) := hg505
                      first | refine fo_goS mi_k117 fz117_93_4_102 [.int x5, .int x4, .ref 110] (by rfl) ?_ | refine ft_go mi_k117 4 102 [(7, .ref 110), (6, .ref 112), (0, .ref 0), (1, .int x1), (2, .int x2), (3, .int x3), (4, .int x4), (5, .int x5)] [.int x5, .int x4, .ref 110] i a q r (by rfl) ?_ | refine ko_steps mi_in117 4 _ (102, [(7, .ref 110), (6, .ref 112), (0, .ref 0), (1, .int x1), (2, .int x2), (3, .int x3), (4, .int x4), (5, .int x5)], [.int x5, .int x4, .ref 110], (0, 0), ks i a q r) (by rfl) ?_
                      refine ko_callPI mi_k117.1 (pc := 102) (ls := [(7, .ref 110), (6, .ref 112), (0, .ref 0), (1, .int x1), (2, .int x2), (3, .int x3), (4, .int x4), (5, .int x5)]) (st := [.int x5, .int x4, .ref 110]) (h := ks i a q r) (i := (.invokevirtual 324, 3, 37, 0, 9, 0, 316)) (mi_k117.2 _ _ (by rfl)) (ft_invS mi_pq37 (by rfl)) (cy := mi_c37) mi_pq37 rfl (kc37_110 hG.I hG.R x4 x5) (by decide) ?_
                      intro vg507 hg507
                      rcases hg507 with ⟨eg507, hg507⟩ | ⟨eg507, hg507⟩
                      ·
                        subst eg507
                        have fi_7043 : ((0 : Int) ≤ (i 7043).toInt) ∧ ((i 7043).toInt ≤ 60) := hG.I.1 7043
                        have z508 : ((0 : Int) ≤ x5.toInt) ∧ (x5.toInt ≤ (i 7043).toInt) ∧ ((0 : Int) ≤ x4.toInt) ∧ ((x4.toInt + x5.toInt) ≤ (i 7043).toInt) := hg507
                        first | refine fo_goS mi_k117 fz117_105_8_126 [.int x5, .int x4, .ref 111, .int x2, .ref 113] (by rfl) ?_ | refine ft_go mi_k117 8 126 [(7, .ref 110), (6, .ref 112), (0, .ref 0), (1, .int x1), (2, .int x2), (3, .int x3), (4, .int x4), (5, .int x5)] [.int x5, .int x4, .ref 111, .int x2, .ref 113] i a q r (by rfl) ?_ | refine ko_steps mi_in117 8 _ (126, [(7, .ref 110), (6, .ref 112), (0, .ref 0), (1, .int x1), (2, .int x2), (3, .int x3), (4, .int x4), (5, .int x5)], [.int x5, .int x4, .ref 111, .int x2, .ref 113], (0, 0), ks i a q r) (by rfl) ?_
                        have hJ509 := kG_q hG 111 rfl (z := mi_cpy (q 113) (q 111) x2.toNatClampNeg x4.toNatClampNeg x5.toNatClampNeg) (kcpy_len2 (n := 60) (c := 60) (m := 60) (b := 60) (sp := x2) (dp := x4) (n1 := x5) (hG.I.2.2.2 113) rfl (hG.I.2.2.2 111) rfl (oy3 z506.1) (oy3 z506.2.2.1) (oy3 z508.2.2.1) (oy119 fi_7171.2 z506.2.2.2) (oy119 fi_7043.2 z508.2.2.2))
                        refine ko_copyL2 mi_k117.1 (l := q 113) (g := q 111) (n := 60) (c := 60) (m := 60) (b := 60) (mi_k117.2 _ _ (by rfl)) (by rfl) (by rfl) (by rfl) (by rfl) (by rfl) (hG.I.2.2.2 113) rfl (hG.I.2.2.2 111) rfl (oy3 z506.1) (oy3 z506.2.2.1) (oy3 z508.2.2.1) (oy119 fi_7171.2 z506.2.2.2) (oy119 fi_7043.2 z508.2.2.2) (h5 := ks i a (ku q 111 (mi_cpy (q 113) (q 111) x2.toNatClampNeg x4.toNatClampNeg x5.toNatClampNeg)) r) (by rfl) ?_
                        first | refine fo_goS mi_k117 fz117_129_1_131 [.int x5] (by rfl) ?_ | refine ft_go mi_k117 1 131 [(7, .ref 110), (6, .ref 112), (0, .ref 0), (1, .int x1), (2, .int x2), (3, .int x3), (4, .int x4), (5, .int x5)] [.int x5] i a (ku q 111 (mi_cpy (q 113) (q 111) x2.toNatClampNeg x4.toNatClampNeg x5.toNatClampNeg)) r (by rfl) ?_ | refine ko_steps mi_in117 1 _ (131, [(7, .ref 110), (6, .ref 112), (0, .ref 0), (1, .int x1), (2, .int x2), (3, .int x3), (4, .int x4), (5, .int x5)], [.int x5], (0, 0), ks i a (ku q 111 (mi_cpy (q 113) (q 111) x2.toNatClampNeg x4.toNatClampNeg x5.toNatClampNeg)) r) (by rfl) ?_
                        exact ft_ret mi_k117 (by rfl) (hP x5 _ _ _ _ hJ509 ⟨trivial, ⟨fun s t hs ht e1 e3 => by
        have es : s = 4 := kj_at e1 (oy144 w441)
        have et : t = 3 := kj_at e3 (oy142 w496)
        subst es
        subst et
        exact ⟨(Or.inr (Or.inr (Or.inr ⟨rfl, (oy152 c501 c503 c504 fi_7040.2 fi_7168.2 ky2), (oy134 z506.1 z506.2.2.1 z506.2.2.2 z508.2.2.1 z508.2.2.2)⟩))), fun _ => ⟨rfl, (fun u hu ne => match u, hu, ne with | 0, _, _ => rfl | 1, _, _ => rfl | 2, _, _ => rfl | 3, _, ne => absurd rfl ne | 4, _, _ => rfl | 5, _, _ => rfl | _ + 6, h, _ => absurd h (by omega))⟩⟩, fun h => absurd h (oy26 z506.1), fun h => absurd (oy175 w441 w496 z2.2 z4.2) h⟩⟩)
                      ·
                        subst eg507
                        have fi_7043 : ((0 : Int) ≤ (i 7043).toInt) ∧ ((i 7043).toInt ≤ 60) := hG.I.1 7043
                        have z510 : ¬ (((0 : Int) ≤ x5.toInt) ∧ (x5.toInt ≤ (i 7043).toInt) ∧ ((0 : Int) ≤ x4.toInt) ∧ ((x4.toInt + x5.toInt) ≤ (i 7043).toInt)) := hg507
                        first | refine fo_goL mi_k117 fz117_93_2_110 [(7, .ref 110), (6, .ref 112), (0, .ref 0), (1, .int x1), (2, .int x2), (3, .int x3), (4, .int x4), (5, .int x5)] [.int (-13)] (by rfl) ?_ | refine fo_goL mi_k117 fz117_105_2_110 [(7, .ref 110), (6, .ref 112), (0, .ref 0), (1, .int x1), (2, .int x2), (3, .int x3), (4, .int x4), (5, .int x5)] [.int (-13)] (by rfl) ?_ | refine ft_go mi_k117 2 110 [(7, .ref 110), (6, .ref 112), (0, .ref 0), (1, .int x1), (2, .int x2), (3, .int x3), (4, .int x4), (5, .int x5)] [.int (-13)] i a q r (by rfl) ?_ | refine ko_steps mi_in117 2 _ (110, [(7, .ref 110), (6, .ref 112), (0, .ref 0), (1, .int x1), (2, .int x2), (3, .int x3), (4, .int x4), (5, .int x5)], [.int (-13)], (0, 0), ks i a q r) (by rfl) ?_
                        exact ft_ret mi_k117 (by rfl) (hP (-13) _ _ _ _ hG ⟨trivial, ⟨fun s t hs ht e1 e3 => by
        have es : s = 4 := kj_at e1 (oy144 w441)
        have et : t = 3 := kj_at e3 (oy142 w496)
        subst es
        subst et
        exact ⟨(Or.inr (Or.inr (Or.inl ⟨kym13, (oy152 c501 c503 c504 fi_7040.2 fi_7168.2 ky2), (oy135 z506.1 z510)⟩))), fun h => absurd h (kj_neg kym13 (by decide))⟩, fun _ => (fun u hu => match u, hu with | 0, _ => rfl | 1, _ => rfl | 2, _ => rfl | 3, _ => rfl | 4, _ => rfl | 5, _ => rfl | _ + 6, h => absurd h (by omega)), fun h => absurd (oy175 w441 w496 z2.2 z4.2) h⟩⟩)
                    ·
                      subst eg505
                      have fi_7171 : ((0 : Int) ≤ (i 7171).toInt) ∧ ((i 7171).toInt ≤ 60) := hG.I.1 7171
                      have z511 : ¬ (((0 : Int) ≤ x5.toInt) ∧ (x5.toInt ≤ (i 7171).toInt) ∧ ((0 : Int) ≤ x2.toInt) ∧ ((x2.toInt + x5.toInt) ≤ (i 7171).toInt)) := hg505
                      first | refine fo_goL mi_k117 fz117_93_2_110 [(7, .ref 110), (6, .ref 112), (0, .ref 0), (1, .int x1), (2, .int x2), (3, .int x3), (4, .int x4), (5, .int x5)] [.int (-13)] (by rfl) ?_ | refine fo_goL mi_k117 fz117_105_2_110 [(7, .ref 110), (6, .ref 112), (0, .ref 0), (1, .int x1), (2, .int x2), (3, .int x3), (4, .int x4), (5, .int x5)] [.int (-13)] (by rfl) ?_ | refine ft_go mi_k117 2 110 [(7, .ref 110), (6, .ref 112), (0, .ref 0), (1, .int x1), (2, .int x2), (3, .int x3), (4, .int x4), (5, .int x5)] [.int (-13)] i a q r (by rfl) ?_ | refine ko_steps mi_in117 2 _ (110, [(7, .ref 110), (6, .ref 112), (0, .ref 0), (1, .int x1), (2, .int x2), (3, .int x3), (4, .int x4), (5, .int x5)], [.int (-13)], (0, 0), ks i a q r) (by rfl) ?_
                      have fi_7043 : ((0 : Int) ≤ (i 7043).toInt) ∧ ((i 7043).toInt ≤ 60) := hG.I.1 7043
                      exact ft_ret mi_k117 (by rfl) (hP (-13) _ _ _ _ hG ⟨trivial, ⟨fun s t hs ht e1 e3 => by
        have es : s = 4 := kj_at e1 (oy144 w441)
        have et : t = 3 := kj_at e3 (oy142 w496)
        subst es
        subst et
        exact ⟨(Or.inr (Or.inr (Or.inl ⟨kym13, (oy152 c501 c503 c504 fi_7040.2 fi_7168.2 ky2), (oy136 z511)⟩))), fun h => absurd h (kj_neg kym13 (by decide))⟩, fun _ => (fun u hu => match u, hu with | 0, _ => rfl | 1, _ => rfl | 2, _ => rfl | 3, _ => rfl | 4, _ => rfl | 5, _ => rfl | _ + 6, h => absurd h (by omega)), fun h => absurd (oy175 w441 w496 z2.2 z4.2) h⟩⟩)
                  ·
                    have c512 : (i 7170).toInt ≠ (i 7042).toInt := kd_eqF c; clear c
                    first | refine fo_goL mi_k117 fz117_82_1_84 [(7, .ref 110), (6, .ref 112), (0, .ref 0), (1, .int x1), (2, .int x2), (3, .int x3), (4, .int x4), (5, .int x5)] [.int (-12)] (by rfl) ?_ | refine ft_go mi_k117 1 84 [(7, .ref 110), (6, .ref 112), (0, .ref 0), (1, .int x1), (2, .int x2), (3, .int x3), (4, .int x4), (5, .int x5)] [.int (-12)] i a q r (by rfl) ?_ | refine ko_steps mi_in117 1 _ (84, [(7, .ref 110), (6, .ref 112), (0, .ref 0), (1, .int x1), (2, .int x2), (3, .int x3), (4, .int x4), (5, .int x5)], [.int (-12)], (0, 0), ks i a q r) (by rfl) ?_
                    have fi_7171 : ((0 : Int) ≤ (i 7171).toInt) ∧ ((i 7171).toInt ≤ 60) := hG.I.1 7171
                    have fi_7043 : ((0 : Int) ≤ (i 7043).toInt) ∧ ((i 7043).toInt ≤ 60) := hG.I.1 7043
                    exact ft_ret mi_k117 (by rfl) (hP (-12) _ _ _ _ hG ⟨trivial, ⟨fun s t hs ht e1 e3 => by
        have es : s = 4 := kj_at e1 (oy144 w441)
        have et : t = 3 := kj_at e3 (oy142 w496)
        subst es
        subst et
        exact ⟨(Or.inr (Or.inl ⟨kym12, (oy137 c501 c503 ky2), (oy138 c512)⟩)), fun h => absurd h (kj_neg kym12 (by decide))⟩, fun _ => (fun u hu => match u, hu with | 0, _ => rfl | 1, _ => rfl | 2, _ => rfl | 3, _ => rfl | 4, _ => rfl | 5, _ => rfl | _ + 6, h => absurd h (by omega)), fun h => absurd (oy175 w441 w496 z2.2 z4.2) h⟩⟩)
            ·
              have c513 : (i 7040).toInt = (0 : Int32).toInt := kd_neF c; clear c
              first | refine fo_goL mi_k117 fz117_48_1_50 [(7, .ref 110), (6, .ref 112), (0, .ref 0), (1, .int x1), (2, .int x2), (3, .int x3), (4, .int x4), (5, .int x5)] [.int (-11)] (by rfl) ?_ | refine ft_go mi_k117 1 50 [(7, .ref 110), (6, .ref 112), (0, .ref 0), (1, .int x1), (2, .int x2), (3, .int x3), (4, .int x4), (5, .int x5)] [.int (-11)] i a q r (by rfl) ?_ | refine ko_steps mi_in117 1 _ (50, [(7, .ref 110), (6, .ref 112), (0, .ref 0), (1, .int x1), (2, .int x2), (3, .int x3), (4, .int x4), (5, .int x5)], [.int (-11)], (0, 0), ks i a q r) (by rfl) ?_
              have fi_7170 : ((0 : Int) ≤ (i 7170).toInt) ∧ ((i 7170).toInt ≤ 4) := hG.I.1 7170
              have fi_7042 : ((0 : Int) ≤ (i 7042).toInt) ∧ ((i 7042).toInt ≤ 4) := hG.I.1 7042
              have fi_7171 : ((0 : Int) ≤ (i 7171).toInt) ∧ ((i 7171).toInt ≤ 60) := hG.I.1 7171
              have fi_7043 : ((0 : Int) ≤ (i 7043).toInt) ∧ ((i 7043).toInt ≤ 60) := hG.I.1 7043
              exact ft_ret mi_k117 (by rfl) (hP (-11) _ _ _ _ hG ⟨trivial, ⟨fun s t hs ht e1 e3 => by
        have es : s = 4 := kj_at e1 (oy144 w441)
        have et : t = 3 := kj_at e3 (oy142 w496)
        subst es
        subst et
        exact ⟨(Or.inl ⟨kym11, (oy139 c513 fi_7040.1 ky0)⟩), fun h => absurd h (kj_neg kym11 (by decide))⟩, fun _ => (fun u hu => match u, hu with | 0, _ => rfl | 1, _ => rfl | 2, _ => rfl | 3, _ => rfl | 4, _ => rfl | 5, _ => rfl | _ + 6, h => absurd h (by omega)), fun h => absurd (oy175 w441 w496 z2.2 z4.2) h⟩⟩)
        by_cases w514 : x3.toInt = 4
        ·
          refine ko_eq (x1 := (29, [(6, .ref 112), (0, .ref 0), (1, .int x1), (2, .int x2), (3, .int x3), (4, .int x4), (5, .int x5)], [.int 4, .ref 97], (0, 0), ks i a q r)) (by rw [(kj_eq w514 (by decide) : x3 = 4)]) ?_
          have fi_7168 : ((0 : Int) ≤ (i 7168).toInt) ∧ ((i 7168).toInt ≤ 2) := hG.I.1 7168
          first | refine ft_goL mi_k117 4 37 [(7, .ref 112), (6, .ref 112), (0, .ref 0), (1, .int x1), (2, .int x2), (3, .int x3), (4, .int x4), (5, .int x5)] [.int (i 7168)] (by rfl) ?_ | refine ft_go mi_k117 4 37 [(7, .ref 112), (6, .ref 112), (0, .ref 0), (1, .int x1), (2, .int x2), (3, .int x3), (4, .int x4), (5, .int x5)] [.int (i 7168)] i a q r (by rfl) ?_ | refine ko_steps mi_in117 4 _ (37, [(7, .ref 112), (6, .ref 112), (0, .ref 0), (1, .int x1), (2, .int x2), (3, .int x3), (4, .int x4), (5, .int x5)], [.int (i 7168)], (0, 0), ks i a q r) (by rfl) ?_
          refine ft_ifS mi_k117 ((i 7168) == 0) 48 40 [] (by rfl) (fun c => ?_) (fun c => ?_)
          ·
            have c515 : (i 7168).toInt = (0 : Int32).toInt := kd_eq c; clear c
            first | refine fo_goS mi_k117 fz117_48_1_50 [.int (-11)] (by rfl) ?_ | refine ft_go mi_k117 1 50 [(7, .ref 112), (6, .ref 112), (0, .ref 0), (1, .int x1), (2, .int x2), (3, .int x3), (4, .int x4), (5, .int x5)] [.int (-11)] i a q r (by rfl) ?_ | refine ko_steps mi_in117 1 _ (50, [(7, .ref 112), (6, .ref 112), (0, .ref 0), (1, .int x1), (2, .int x2), (3, .int x3), (4, .int x4), (5, .int x5)], [.int (-11)], (0, 0), ks i a q r) (by rfl) ?_
            have fi_7170 : ((0 : Int) ≤ (i 7170).toInt) ∧ ((i 7170).toInt ≤ 4) := hG.I.1 7170
            have fi_7171 : ((0 : Int) ≤ (i 7171).toInt) ∧ ((i 7171).toInt ≤ 60) := hG.I.1 7171
            exact ft_ret mi_k117 (by rfl) (hP (-11) _ _ _ _ hG ⟨trivial, ⟨fun s t hs ht e1 e3 => by
        have es : s = 4 := kj_at e1 (oy144 w441)
        have et : t = 4 := kj_at e3 (oy144 w514)
        subst es
        subst et
        exact ⟨(Or.inl ⟨kym11, (oy108 c515 fi_7168.1 ky0)⟩), fun h => absurd h (kj_neg kym11 (by decide))⟩, fun _ => (fun u hu => match u, hu with | 0, _ => rfl | 1, _ => rfl | 2, _ => rfl | 3, _ => rfl | 4, _ => rfl | 5, _ => rfl | _ + 6, h => absurd h (by omega)), fun h => absurd (oy176 w441 w514 z2.2 z4.2) h⟩⟩)
          ·
            have c516 : (i 7168).toInt ≠ (0 : Int32).toInt := kd_eqF c; clear c
            first | refine fo_goL mi_k117 fz117_40_2_45 [(7, .ref 112), (6, .ref 112), (0, .ref 0), (1, .int x1), (2, .int x2), (3, .int x3), (4, .int x4), (5, .int x5)] [.int (i 7168)] (by rfl) ?_ | refine ft_go mi_k117 2 45 [(7, .ref 112), (6, .ref 112), (0, .ref 0), (1, .int x1), (2, .int x2), (3, .int x3), (4, .int x4), (5, .int x5)] [.int (i 7168)] i a q r (by rfl) ?_ | refine ko_steps mi_in117 2 _ (45, [(7, .ref 112), (6, .ref 112), (0, .ref 0), (1, .int x1), (2, .int x2), (3, .int x3), (4, .int x4), (5, .int x5)], [.int (i 7168)], (0, 0), ks i a q r) (by rfl) ?_
            refine ft_ifS mi_k117 ((i 7168) != 0) 51 48 [] (by rfl) (fun c => ?_) (fun c => ?_)
            ·
              have c517 : (i 7168).toInt ≠ (0 : Int32).toInt := kd_ne c; clear c
              first | refine fo_goS mi_k117 fz117_51_3_57 [.int 2, .int (i 7168)] (by rfl) ?_ | refine ft_go mi_k117 3 57 [(7, .ref 112), (6, .ref 112), (0, .ref 0), (1, .int x1), (2, .int x2), (3, .int x3), (4, .int x4), (5, .int x5)] [.int 2, .int (i 7168)] i a q r (by rfl) ?_ | refine ko_steps mi_in117 3 _ (57, [(7, .ref 112), (6, .ref 112), (0, .ref 0), (1, .int x1), (2, .int x2), (3, .int x3), (4, .int x4), (5, .int x5)], [.int 2, .int (i 7168)], (0, 0), ks i a q r) (by rfl) ?_
              refine ft_ifS mi_k117 ((i 7168) != 2) 82 60 [] (by rfl) (fun c => ?_) (fun c => ?_)
              ·
                have c518 : (i 7168).toInt ≠ (2 : Int32).toInt := kd_ne c; clear c
                first | refine fo_goS mi_k117 fz117_82_1_84 [.int (-12)] (by rfl) ?_ | refine ft_go mi_k117 1 84 [(7, .ref 112), (6, .ref 112), (0, .ref 0), (1, .int x1), (2, .int x2), (3, .int x3), (4, .int x4), (5, .int x5)] [.int (-12)] i a q r (by rfl) ?_ | refine ko_steps mi_in117 1 _ (84, [(7, .ref 112), (6, .ref 112), (0, .ref 0), (1, .int x1), (2, .int x2), (3, .int x3), (4, .int x4), (5, .int x5)], [.int (-12)], (0, 0), ks i a q r) (by rfl) ?_
                have fi_7170 : ((0 : Int) ≤ (i 7170).toInt) ∧ ((i 7170).toInt ≤ 4) := hG.I.1 7170
                have fi_7171 : ((0 : Int) ≤ (i 7171).toInt) ∧ ((i 7171).toInt ≤ 60) := hG.I.1 7171
                exact ft_ret mi_k117 (by rfl) (hP (-12) _ _ _ _ hG ⟨trivial, ⟨fun s t hs ht e1 e3 => by
        have es : s = 4 := kj_at e1 (oy144 w441)
        have et : t = 4 := kj_at e3 (oy144 w514)
        subst es
        subst et
        exact ⟨(Or.inr (Or.inl ⟨kym12, (oy109 c516 fi_7168.1 ky0), (oy110 c518 fi_7168.2 ky2)⟩)), fun h => absurd h (kj_neg kym12 (by decide))⟩, fun _ => (fun u hu => match u, hu with | 0, _ => rfl | 1, _ => rfl | 2, _ => rfl | 3, _ => rfl | 4, _ => rfl | 5, _ => rfl | _ + 6, h => absurd h (by omega)), fun h => absurd (oy176 w441 w514 z2.2 z4.2) h⟩⟩)
              ·
                have c519 : (i 7168).toInt = (2 : Int32).toInt := kd_neF c; clear c
                first | refine fo_goL mi_k117 fz117_60_3_66 [(7, .ref 112), (6, .ref 112), (0, .ref 0), (1, .int x1), (2, .int x2), (3, .int x3), (4, .int x4), (5, .int x5)] [.int 2, .int (i 7168)] (by rfl) ?_ | refine ft_go mi_k117 3 66 [(7, .ref 112), (6, .ref 112), (0, .ref 0), (1, .int x1), (2, .int x2), (3, .int x3), (4, .int x4), (5, .int x5)] [.int 2, .int (i 7168)] i a q r (by rfl) ?_ | refine ko_steps mi_in117 3 _ (66, [(7, .ref 112), (6, .ref 112), (0, .ref 0), (1, .int x1), (2, .int x2), (3, .int x3), (4, .int x4), (5, .int x5)], [.int 2, .int (i 7168)], (0, 0), ks i a q r) (by rfl) ?_
                refine ft_ifS mi_k117 ((i 7168) != 2) 82 69 [] (by rfl) (fun c => ?_) (fun c => ?_)
                ·
                  have c520 : (i 7168).toInt ≠ (2 : Int32).toInt := kd_ne c; clear c
                  exact (oy111 c519 c520 fi_7168.2 ky2).elim
                ·
                  have c521 : (i 7168).toInt = (2 : Int32).toInt := kd_neF c; clear c
                  have fi_7170 : ((0 : Int) ≤ (i 7170).toInt) ∧ ((i 7170).toInt ≤ 4) := hG.I.1 7170
                  first | refine fo_goS mi_k117 fz117_69_4_79 [.int (i 7170), .int (i 7170)] (by rfl) ?_ | refine ft_go mi_k117 4 79 [(7, .ref 112), (6, .ref 112), (0, .ref 0), (1, .int x1), (2, .int x2), (3, .int x3), (4, .int x4), (5, .int x5)] [.int (i 7170), .int (i 7170)] i a q r (by rfl) ?_ | refine ko_steps mi_in117 4 _ (79, [(7, .ref 112), (6, .ref 112), (0, .ref 0), (1, .int x1), (2, .int x2), (3, .int x3), (4, .int x4), (5, .int x5)], [.int (i 7170), .int (i 7170)], (0, 0), ks i a q r) (by rfl) ?_
                  refine ft_ifS mi_k117 ((i 7170) == (i 7170)) 85 82 [] (by rfl) (fun c => ?_) (fun c => ?_)
                  ·
                    have c522 : (i 7170).toInt = (i 7170).toInt := kd_eq c; clear c
                    first | refine fo_goS mi_k117 fz117_85_3_90 [.int x5, .int x2, .ref 112] (by rfl) ?_ | refine ft_go mi_k117 3 90 [(7, .ref 112), (6, .ref 112), (0, .ref 0), (1, .int x1), (2, .int x2), (3, .int x3), (4, .int x4), (5, .int x5)] [.int x5, .int x2, .ref 112] i a q r (by rfl) ?_ | refine ko_steps mi_in117 3 _ (90, [(7, .ref 112), (6, .ref 112), (0, .ref 0), (1, .int x1), (2, .int x2), (3, .int x3), (4, .int x4), (5, .int x5)], [.int x5, .int x2, .ref 112], (0, 0), ks i a q r) (by rfl) ?_
                    refine ko_callPI mi_k117.1 (pc := 90) (ls := [(7, .ref 112), (6, .ref 112), (0, .ref 0), (1, .int x1), (2, .int x2), (3, .int x3), (4, .int x4), (5, .int x5)]) (st := [.int x5, .int x2, .ref 112]) (h := ks i a q r) (i := (.invokevirtual 324, 3, 37, 0, 9, 0, 316)) (mi_k117.2 _ _ (by rfl)) (ft_invS mi_pq37 (by rfl)) (cy := mi_c37) mi_pq37 rfl (kc37_112 hG.I hG.R x2 x5) (by decide) ?_
                    intro vg523 hg523
                    rcases hg523 with ⟨eg523, hg523⟩ | ⟨eg523, hg523⟩
                    ·
                      subst eg523
                      have fi_7171 : ((0 : Int) ≤ (i 7171).toInt) ∧ ((i 7171).toInt ≤ 60) := hG.I.1 7171
                      have z524 : ((0 : Int) ≤ x5.toInt) ∧ (x5.toInt ≤ (i 7171).toInt) ∧ ((0 : Int) ≤ x2.toInt) ∧ ((x2.toInt + x5.toInt) ≤ (i 7171).toInt) := hg523
                      first | refine fo_goS mi_k117 fz117_93_4_102 [.int x5, .int x4, .ref 112] (by rfl) ?_ | refine ft_go mi_k117 4 102 [(7, .ref 112), (6, .ref 112), (0, .ref 0), (1, .int x1), (2, .int x2), (3, .int x3), (4, .int x4), (5, .int x5)] [.int x5, .int x4, .ref 112] i a q r (by rfl) ?_ | refine ko_steps mi_in117 4 _ (102, [(7, .ref 112), (6, .ref 112), (0, .ref 0), (1, .int x1), (2, .int x2), (3, .int x3), (4, .int x4), (5, .int x5)], [.int x5, .int x4, .ref 112], (0, 0), ks i a q r) (by rfl) ?_
                      refine ko_callPI mi_k117.1 (pc := 102) (ls := [(7, .ref 112), (6, .ref 112), (0, .ref 0), (1, .int x1), (2, .int x2), (3, .int x3), (4, .int x4), (5, .int x5)]) (st := [.int x5, .int x4, .ref 112]) (h := ks i a q r) (i := (.invokevirtual 324, 3, 37, 0, 9, 0, 316)) (mi_k117.2 _ _ (by rfl)) (ft_invS mi_pq37 (by rfl)) (cy := mi_c37) mi_pq37 rfl (kc37_112 hG.I hG.R x4 x5) (by decide) ?_
                      intro vg525 hg525
                      rcases hg525 with ⟨eg525, hg525⟩ | ⟨eg525, hg525⟩
                      ·
                        subst eg525
                        have z526 : ((0 : Int) ≤ x5.toInt) ∧ (x5.toInt ≤ (i 7171).toInt) ∧ ((0 : Int) ≤ x4.toInt) ∧ ((x4.toInt + x5.toInt) ≤ (i 7171).toInt) := hg525
                        first | refine fo_goS mi_k117 fz117_105_8_126 [.int x5, .int x4, .ref 113, .int x2, .ref 113] (by rfl) ?_ | refine ft_go mi_k117 8 126 [(7, .ref 112), (6, .ref 112), (0, .ref 0), (1, .int x1), (2, .int x2), (3, .int x3), (4, .int x4), (5, .int x5)] [.int x5, .int x4, .ref 113, .int x2, .ref 113] i a q r (by rfl) ?_ | refine ko_steps mi_in117 8 _ (126, [(7, .ref 112), (6, .ref 112), (0, .ref 0), (1, .int x1), (2, .int x2), (3, .int x3), (4, .int x4), (5, .int x5)], [.int x5, .int x4, .ref 113, .int x2, .ref 113], (0, 0), ks i a q r) (by rfl) ?_
                        have hJ527 := kG_q hG 113 rfl (z := mi_cpy (q 113) (q 113) x2.toNatClampNeg x4.toNatClampNeg x5.toNatClampNeg) (kcpy_len2 (n := 60) (c := 60) (m := 60) (b := 60) (sp := x2) (dp := x4) (n1 := x5) (hG.I.2.2.2 113) rfl (hG.I.2.2.2 113) rfl (oy3 z524.1) (oy3 z524.2.2.1) (oy3 z526.2.2.1) (oy119 fi_7171.2 z524.2.2.2) (oy119 fi_7171.2 z526.2.2.2))
                        refine ko_copyL2 mi_k117.1 (l := q 113) (g := q 113) (n := 60) (c := 60) (m := 60) (b := 60) (mi_k117.2 _ _ (by rfl)) (by rfl) (by rfl) (by rfl) (by rfl) (by rfl) (hG.I.2.2.2 113) rfl (hG.I.2.2.2 113) rfl (oy3 z524.1) (oy3 z524.2.2.1) (oy3 z526.2.2.1) (oy119 fi_7171.2 z524.2.2.2) (oy119 fi_7171.2 z526.2.2.2) (h5 := ks i a (ku q 113 (mi_cpy (q 113) (q 113) x2.toNatClampNeg x4.toNatClampNeg x5.toNatClampNeg)) r) (by rfl) ?_
                        first | refine fo_goS mi_k117 fz117_129_1_131 [.int x5] (by rfl) ?_ | refine ft_go mi_k117 1 131 [(7, .ref 112), (6, .ref 112), (0, .ref 0), (1, .int x1), (2, .int x2), (3, .int x3), (4, .int x4), (5, .int x5)] [.int x5] i a (ku q 113 (mi_cpy (q 113) (q 113) x2.toNatClampNeg x4.toNatClampNeg x5.toNatClampNeg)) r (by rfl) ?_ | refine ko_steps mi_in117 1 _ (131, [(7, .ref 112), (6, .ref 112), (0, .ref 0), (1, .int x1), (2, .int x2), (3, .int x3), (4, .int x4), (5, .int x5)], [.int x5], (0, 0), ks i a (ku q 113 (mi_cpy (q 113) (q 113) x2.toNatClampNeg x4.toNatClampNeg x5.toNatClampNeg)) r) (by rfl) ?_
                        exact ft_ret mi_k117 (by rfl) (hP x5 _ _ _ _ hJ527 ⟨trivial, ⟨fun s t hs ht e1 e3 => by
        have es : s = 4 := kj_at e1 (oy144 w441)
        have et : t = 4 := kj_at e3 (oy144 w514)
        subst es
        subst et
        exact ⟨(Or.inr (Or.inr (Or.inr ⟨rfl, (oy120 c519 fi_7168.2 ky2), (oy121 z524.1 z524.2.2.1 z524.2.2.2 z526.2.2.1 z526.2.2.2)⟩))), fun _ => ⟨rfl, (fun u hu ne => match u, hu, ne with | 0, _, _ => rfl | 1, _, _ => rfl | 2, _, _ => rfl | 3, _, _ => rfl | 4, _, ne => absurd rfl ne | 5, _, _ => rfl | _ + 6, h, _ => absurd h (by omega))⟩⟩, fun h => absurd h (oy26 z524.1), fun h => absurd (oy176 w441 w514 z2.2 z4.2) h⟩⟩)
                      ·
                        subst eg525
                        have z528 : ¬ (((0 : Int) ≤ x5.toInt) ∧ (x5.toInt ≤ (i 7171).toInt) ∧ ((0 : Int) ≤ x4.toInt) ∧ ((x4.toInt + x5.toInt) ≤ (i 7171).toInt)) := hg525
                        first | refine fo_goL mi_k117 fz117_93_2_110 [(7, .ref 112), (6, .ref 112), (0, .ref 0), (1, .int x1), (2, .int x2), (3, .int x3), (4, .int x4), (5, .int x5)] [.int (-13)] (by rfl) ?_ | refine fo_goL mi_k117 fz117_105_2_110 [(7, .ref 112), (6, .ref 112), (0, .ref 0), (1, .int x1), (2, .int x2), (3, .int x3), (4, .int x4), (5, .int x5)] [.int (-13)] (by rfl) ?_ | refine ft_go mi_k117 2 110 [(7, .ref 112), (6, .ref 112), (0, .ref 0), (1, .int x1), (2, .int x2), (3, .int x3), (4, .int x4), (5, .int x5)] [.int (-13)] i a q r (by rfl) ?_ | refine ko_steps mi_in117 2 _ (110, [(7, .ref 112), (6, .ref 112), (0, .ref 0), (1, .int x1), (2, .int x2), (3, .int x3), (4, .int x4), (5, .int x5)], [.int (-13)], (0, 0), ks i a q r) (by rfl) ?_
                        exact ft_ret mi_k117 (by rfl) (hP (-13) _ _ _ _ hG ⟨trivial, ⟨fun s t hs ht e1 e3 => by
        have es : s = 4 := kj_at e1 (oy144 w441)
        have et : t = 4 := kj_at e3 (oy144 w514)
        subst es
        subst et
        exact ⟨(Or.inr (Or.inr (Or.inl ⟨kym13, (oy120 c519 fi_7168.2 ky2), (oy122 z524.1 z524.2.1 z528)⟩))), fun h => absurd h (kj_neg kym13 (by decide))⟩, fun _ => (fun u hu => match u, hu with | 0, _ => rfl | 1, _ => rfl | 2, _ => rfl | 3, _ => rfl | 4, _ => rfl | 5, _ => rfl | _ + 6, h => absurd h (by omega)), fun h => absurd (oy176 w441 w514 z2.2 z4.2) h⟩⟩)
                    ·
                      subst eg523
                      have fi_7171 : ((0 : Int) ≤ (i 7171).toInt) ∧ ((i 7171).toInt ≤ 60) := hG.I.1 7171
                      have z529 : ¬ (((0 : Int) ≤ x5.toInt) ∧ (x5.toInt ≤ (i 7171).toInt) ∧ ((0 : Int) ≤ x2.toInt) ∧ ((x2.toInt + x5.toInt) ≤ (i 7171).toInt)) := hg523
                      first | refine fo_goL mi_k117 fz117_93_2_110 [(7, .ref 112), (6, .ref 112), (0, .ref 0), (1, .int x1), (2, .int x2), (3, .int x3), (4, .int x4), (5, .int x5)] [.int (-13)] (by rfl) ?_ | refine fo_goL mi_k117 fz117_105_2_110 [(7, .ref 112), (6, .ref 112), (0, .ref 0), (1, .int x1), (2, .int x2), (3, .int x3), (4, .int x4), (5, .int x5)] [.int (-13)] (by rfl) ?_ | refine ft_go mi_k117 2 110 [(7, .ref 112), (6, .ref 112), (0, .ref 0), (1, .int x1), (2, .int x2), (3, .int x3), (4, .int x4), (5, .int x5)] [.int (-13)] i a q r (by rfl) ?_ | refine ko_steps mi_in117 2 _ (110, [(7, .ref 112), (6, .ref 112), (0, .ref 0), (1, .int x1), (2, .int x2), (3, .int x3), (4, .int x4), (5, .int x5)], [.int (-13)], (0, 0), ks i a q r) (by rfl) ?_
                      exact ft_ret mi_k117 (by rfl) (hP (-13) _ _ _ _ hG ⟨trivial, ⟨fun s t hs ht e1 e3 => by
        have es : s = 4 := kj_at e1 (oy144 w441)
        have et : t = 4 := kj_at e3 (oy144 w514)
        subst es
        subst et
        exact ⟨(Or.inr (Or.inr (Or.inl ⟨kym13, (oy120 c519 fi_7168.2 ky2), (oy123 z529)⟩))), fun h => absurd h (kj_neg kym13 (by decide))⟩, fun _ => (fun u hu => match u, hu with | 0, _ => rfl | 1, _ => rfl | 2, _ => rfl | 3, _ => rfl | 4, _ => rfl | 5, _ => rfl | _ + 6, h => absurd h (by omega)), fun h => absurd (oy176 w441 w514 z2.2 z4.2) h⟩⟩)
                  ·
                    have c530 : (i 7170).toInt ≠ (i 7170).toInt := kd_eqF c; clear c
                    exact (oy124 c530).elim
            ·
              have c531 : (i 7168).toInt = (0 : Int32).toInt := kd_neF c; clear c
              exact (oy154 c516 c531 fi_7168.1 ky0).elim
        by_cases w532 : x3.toInt = 5
        ·
          refine ko_eq (x1 := (29, [(6, .ref 112), (0, .ref 0), (1, .int x1), (2, .int x2), (3, .int x3), (4, .int x4), (5, .int x5)], [.int 5, .ref 97], (0, 0), ks i a q r)) (by rw [(kj_eq w532 (by decide) : x3 = 5)]) ?_
          have fi_7168 : ((0 : Int) ≤ (i 7168).toInt) ∧ ((i 7168).toInt ≤ 2) := hG.I.1 7168
          first | refine ft_goL mi_k117 4 37 [(7, .ref 114), (6, .ref 112), (0, .ref 0), (1, .int x1), (2, .int x2), (3, .int x3), (4, .int x4), (5, .int x5)] [.int (i 7168)] (by rfl) ?_ | refine ft_go mi_k117 4 37 [(7, .ref 114), (6, .ref 112), (0, .ref 0), (1, .int x1), (2, .int x2), (3, .int x3), (4, .int x4), (5, .int x5)] [.int (i 7168)] i a q r (by rfl) ?_ | refine ko_steps mi_in117 4 _ (37, [(7, .ref 114), (6, .ref 112), (0, .ref 0), (1, .int x1), (2, .int x2), (3, .int x3), (4, .int x4), (5, .int x5)], [.int (i 7168)], (0, 0), ks i a q r) (by rfl) ?_
          refine ft_ifS mi_k117 ((i 7168) == 0) 48 40 [] (by rfl) (fun c => ?_) (fun c => ?_)
          ·
            have c533 : (i 7168).toInt = (0 : Int32).toInt := kd_eq c; clear c
            first | refine fo_goS mi_k117 fz117_48_1_50 [.int (-11)] (by rfl) ?_ | refine ft_go mi_k117 1 50 [(7, .ref 114), (6, .ref 112), (0, .ref 0), (1, .int x1), (2, .int x2), (3, .int x3), (4, .int x4), (5, .int x5)] [.int (-11)] i a q r (by rfl) ?_ | refine ko_steps mi_in117 1 _ (50, [(7, .ref 114), (6, .ref 112), (0, .ref 0), (1, .int x1), (2, .int x2), (3, .int x3), (4, .int x4), (5, .int x5)], [.int (-11)], (0, 0), ks i a q r) (by rfl) ?_
            have fi_7296 : ((0 : Int) ≤ (i 7296).toInt) ∧ ((i 7296).toInt ≤ 2) := hG.I.1 7296
            have fi_7170 : ((0 : Int) ≤ (i 7170).toInt) ∧ ((i 7170).toInt ≤ 4) := hG.I.1 7170
            have fi_7298 : ((0 : Int) ≤ (i 7298).toInt) ∧ ((i 7298).toInt ≤ 4) := hG.I.1 7298
            have fi_7171 : ((0 : Int) ≤ (i 7171).toInt) ∧ ((i 7171).toInt ≤ 60) := hG.I.1 7171
            have fi_7299 : ((0 : Int) ≤ (i 7299).toInt) ∧ ((i 7299).toInt ≤ 60) := hG.I.1 7299
            exact ft_ret mi_k117 (by rfl) (hP (-11) _ _ _ _ hG ⟨trivial, ⟨fun s t hs ht e1 e3 => by
        have es : s = 4 := kj_at e1 (oy144 w441)
        have et : t = 5 := kj_at e3 (oy146 w532 z4.2)
        subst es
        subst et
        exact ⟨(Or.inl ⟨kym11, (oy127 c533 fi_7168.1 ky0)⟩), fun h => absurd h (kj_neg kym11 (by decide))⟩, fun _ => (fun u hu => match u, hu with | 0, _ => rfl | 1, _ => rfl | 2, _ => rfl | 3, _ => rfl | 4, _ => rfl | 5, _ => rfl | _ + 6, h => absurd h (by omega)), fun h => absurd (oy177 w441 w532 z2.2 z4.2) h⟩⟩)
          ·
            have c534 : (i 7168).toInt ≠ (0 : Int32).toInt := kd_eqF c; clear c
            have fi_7296 : ((0 : Int) ≤ (i 7296).toInt) ∧ ((i 7296).toInt ≤ 2) := hG.I.1 7296
            first | refine fo_goL mi_k117 fz117_40_2_45 [(7, .ref 114), (6, .ref 112), (0, .ref 0), (1, .int x1), (2, .int x2), (3, .int x3), (4, .int x4), (5, .int x5)] [.int (i 7296)] (by rfl) ?_ | refine ft_go mi_k117 2 45 [(7, .ref 114), (6, .ref 112), (0, .ref 0), (1, .int x1), (2, .int x2), (3, .int x3), (4, .int x4), (5, .int x5)] [.int (i 7296)] i a q r (by rfl) ?_ | refine ko_steps mi_in117 2 _ (45, [(7, .ref 114), (6, .ref 112), (0, .ref 0), (1, .int x1), (2, .int x2), (3, .int x3), (4, .int x4), (5, .int x5)], [.int (i 7296)], (0, 0), ks i a q r) (by rfl) ?_
            refine ft_ifS mi_k117 ((i 7296) != 0) 51 48 [] (by rfl) (fun c => ?_) (fun c => ?_)
            ·
              have c535 : (i 7296).toInt ≠ (0 : Int32).toInt := kd_ne c; clear c
              first | refine fo_goS mi_k117 fz117_51_3_57 [.int 2, .int (i 7168)] (by rfl) ?_ | refine ft_go mi_k117 3 57 [(7, .ref 114), (6, .ref 112), (0, .ref 0), (1, .int x1), (2, .int x2), (3, .int x3), (4, .int x4), (5, .int x5)] [.int 2, .int (i 7168)] i a q r (by rfl) ?_ | refine ko_steps mi_in117 3 _ (57, [(7, .ref 114), (6, .ref 112), (0, .ref 0), (1, .int x1), (2, .int x2), (3, .int x3), (4, .int x4), (5, .int x5)], [.int 2, .int (i 7168)], (0, 0), ks i a q r) (by rfl) ?_
              refine ft_ifS mi_k117 ((i 7168) != 2) 82 60 [] (by rfl) (fun c => ?_) (fun c => ?_)
              ·
                have c536 : (i 7168).toInt ≠ (2 : Int32).toInt := kd_ne c; clear c
                first | refine fo_goS mi_k117 fz117_82_1_84 [.int (-12)] (by rfl) ?_ | refine ft_go mi_k117 1 84 [(7, .ref 114), (6, .ref 112), (0, .ref 0), (1, .int x1), (2, .int x2), (3, .int x3), (4, .int x4), (5, .int x5)] [.int (-12)] i a q r (by rfl) ?_ | refine ko_steps mi_in117 1 _ (84, [(7, .ref 114), (6, .ref 112), (0, .ref 0), (1, .int x1), (2, .int x2), (3, .int x3), (4, .int x4), (5, .int x5)], [.int (-12)], (0, 0), ks i a q r) (by rfl) ?_
                have fi_7170 : ((0 : Int) ≤ (i 7170).toInt) ∧ ((i 7170).toInt ≤ 4) := hG.I.1 7170
                have fi_7298 : ((0 : Int) ≤ (i 7298).toInt) ∧ ((i 7298).toInt ≤ 4) := hG.I.1 7298
                have fi_7171 : ((0 : Int) ≤ (i 7171).toInt) ∧ ((i 7171).toInt ≤ 60) := hG.I.1 7171
                have fi_7299 : ((0 : Int) ≤ (i 7299).toInt) ∧ ((i 7299).toInt ≤ 60) := hG.I.1 7299
                exact ft_ret mi_k117 (by rfl) (hP (-12) _ _ _ _ hG ⟨trivial, ⟨fun s t hs ht e1 e3 => by
        have es : s = 4 := kj_at e1 (oy144 w441)
        have et : t = 5 := kj_at e3 (oy146 w532 z4.2)
        subst es
        subst et
        exact ⟨(Or.inr (Or.inl ⟨kym12, (oy129 c534 c535 fi_7168.1 fi_7296.1 ky0), (oy130 c536 fi_7168.2 ky2)⟩)), fun h => absurd h (kj_neg kym12 (by decide))⟩, fun _ => (fun u hu => match u, hu with | 0, _ => rfl | 1, _ => rfl | 2, _ => rfl | 3, _ => rfl | 4, _ => rfl | 5, _ => rfl | _ + 6, h => absurd h (by omega)), fun h => absurd (oy177 w441 w532 z2.2 z4.2) h⟩⟩)
              ·
                have c537 : (i 7168).toInt = (2 : Int32).toInt := kd_neF c; clear c
                first | refine fo_goL mi_k117 fz117_60_3_66 [(7, .ref 114), (6, .ref 112), (0, .ref 0), (1, .int x1), (2, .int x2), (3, .int x3), (4, .int x4), (5, .int x5)] [.int 2, .int (i 7296)] (by rfl) ?_ | refine ft_go mi_k117 3 66 [(7, .ref 114), (6, .ref 112), (0, .ref 0), (1, .int x1), (2, .int x2), (3, .int x3), (4, .int x4), (5, .int x5)] [.int 2, .int (i 7296)] i a q r (by rfl) ?_ | refine ko_steps mi_in117 3 _ (66, [(7, .ref 114), (6, .ref 112), (0, .ref 0), (1, .int x1), (2, .int x2), (3, .int x3), (4, .int x4), (5, .int x5)], [.int 2, .int (i 7296)], (0, 0), ks i a q r) (by rfl) ?_
                refine ft_ifS mi_k117 ((i 7296) != 2) 82 69 [] (by rfl) (fun c => ?_) (fun c => ?_)
                ·
                  have c538 : (i 7296).toInt ≠ (2 : Int32).toInt := kd_ne c; clear c
                  first | refine fo_goS mi_k117 fz117_82_1_84 [.int (-12)] (by rfl) ?_ | refine ft_go mi_k117 1 84 [(7, .ref 114), (6, .ref 112), (0, .ref 0), (1, .int x1), (2, .int x2), (3, .int x3), (4, .int x4), (5, .int x5)] [.int (-12)] i a q r (by rfl) ?_ | refine ko_steps mi_in117 1 _ (84, [(7, .ref 114), (6, .ref 112), (0, .ref 0), (1, .int x1), (2, .int x2), (3, .int x3), (4, .int x4), (5, .int x5)], [.int (-12)], (0, 0), ks i a q r) (by rfl) ?_
                  have fi_7170 : ((0 : Int) ≤ (i 7170).toInt) ∧ ((i 7170).toInt ≤ 4) := hG.I.1 7170
                  have fi_7298 : ((0 : Int) ≤ (i 7298).toInt) ∧ ((i 7298).toInt ≤ 4) := hG.I.1 7298
                  have fi_7171 : ((0 : Int) ≤ (i 7171).toInt) ∧ ((i 7171).toInt ≤ 60) := hG.I.1 7171
                  have fi_7299 : ((0 : Int) ≤ (i 7299).toInt) ∧ ((i 7299).toInt ≤ 60) := hG.I.1 7299
                  exact ft_ret mi_k117 (by rfl) (hP (-12) _ _ _ _ hG ⟨trivial, ⟨fun s t hs ht e1 e3 => by
        have es : s = 4 := kj_at e1 (oy144 w441)
        have et : t = 5 := kj_at e3 (oy146 w532 z4.2)
        subst es
        subst et
        exact ⟨(Or.inr (Or.inl ⟨kym12, (oy131 c535 c537 fi_7296.1 ky0 ky2), (oy132 c538 fi_7296.2 ky2)⟩)), fun h => absurd h (kj_neg kym12 (by decide))⟩, fun _ => (fun u hu => match u, hu with | 0, _ => rfl | 1, _ => rfl | 2, _ => rfl | 3, _ => rfl | 4, _ => rfl | 5, _ => rfl | _ + 6, h => absurd h (by omega)), fun h => absurd (oy177 w441 w532 z2.2 z4.2) h⟩⟩)
                ·
                  have c539 : (i 7296).toInt = (2 : Int32).toInt := kd_neF c; clear c
                  have fi_7170 : ((0 : Int) ≤ (i 7170).toInt) ∧ ((i 7170).toInt ≤ 4) := hG.I.1 7170
                  have fi_7298 : ((0 : Int) ≤ (i 7298).toInt) ∧ ((i 7298).toInt ≤ 4) := hG.I.1 7298
                  first | refine fo_goL mi_k117 fz117_69_4_79 [(7, .ref 114), (6, .ref 112), (0, .ref 0), (1, .int x1), (2, .int x2), (3, .int x3), (4, .int x4), (5, .int x5)] [.int (i 7298), .int (i 7170)] (by rfl) ?_ | refine ft_go mi_k117 4 79 [(7, .ref 114), (6, .ref 112), (0, .ref 0), (1, .int x1), (2, .int x2), (3, .int x3), (4, .int x4), (5, .int x5)] [.int (i 7298), .int (i 7170)] i a q r (by rfl) ?_ | refine ko_steps mi_in117 4 _ (79, [(7, .ref 114), (6, .ref 112), (0, .ref 0), (1, .int x1), (2, .int x2), (3, .int x3), (4, .int x4), (5, .int x5)], [.int (i 7298), .int (i 7170)], (0, 0), ks i a q r) (by rfl) ?_
                  refine ft_ifS mi_k117 ((i 7170) == (i 7298)) 85 82 [] (by rfl) (fun c => ?_) (fun c => ?_)
                  ·
                    have c540 : (i 7170).toInt = (i 7298).toInt := kd_eq c; clear c
                    first | refine fo_goS mi_k117 fz117_85_3_90 [.int x5, .int x2, .ref 112] (by rfl) ?_ | refine ft_go mi_k117 3 90 [(7, .ref 114), (6, .ref 112), (0, .ref 0), (1, .int x1), (2, .int x2), (3, .int x3), (4, .int x4), (5, .int x5)] [.int x5, .int x2, .ref 112] i a q r (by rfl) ?_ | refine ko_steps mi_in117 3 _ (90, [(7, .ref 114), (6, .ref 112), (0, .ref 0), (1, .int x1), (2, .int x2), (3, .int x3), (4, .int x4), (5, .int x5)], [.int x5, .int x2, .ref 112], (0, 0), ks i a q r) (by rfl) ?_
                    refine ko_callPI mi_k117.1 (pc := 90) (ls := [(7, .ref 114), (6, .ref 112), (0, .ref 0), (1, .int x1), (2, .int x2), (3, .int x3), (4, .int x4), (5, .int x5)]) (st := [.int x5, .int x2, .ref 112]) (h := ks i a q r) (i := (.invokevirtual 324, 3, 37, 0, 9, 0, 316)) (mi_k117.2 _ _ (by rfl)) (ft_invS mi_pq37 (by rfl)) (cy := mi_c37) mi_pq37 rfl (kc37_112 hG.I hG.R x2 x5) (by decide) ?_
                    intro vg541 hg541
                    rcases hg541 with ⟨eg541, hg541⟩ | ⟨eg541, hg541⟩
                    ·
                      subst eg541
                      have fi_7171 : ((0 : Int) ≤ (i 7171).toInt) ∧ ((i 7171).toInt ≤ 60) := hG.I.1 7171
                      have z542 : ((0 : Int) ≤ x5.toInt) ∧ (x5.toInt ≤ (i 7171).toInt) ∧ ((0 : Int) ≤ x2.toInt) ∧ ((x2.toInt + x5.toInt) ≤ (i 7171).toInt) := hg541
                      first | refine fo_goS mi_k117 fz117_93_4_102 [.int x5, .int x4, .ref 114] (by rfl) ?_ | refine ft_go mi_k117 4 102 [(7, .ref 114), (6, .ref 112), (0, .ref 0), (1, .int x1), (2, .int x2), (3, .int x3), (4, .int x4), (5, .int x5)] [.int x5, .int x4, .ref 114] i a q r (by rfl) ?_ | refine ko_steps mi_in117 4 _ (102, [(7, .ref 114), (6, .ref 112), (0, .ref 0), (1, .int x1), (2, .int x2), (3, .int x3), (4, .int x4), (5, .int x5)], [.int x5, .int x4, .ref 114], (0, 0), ks i a q r) (by rfl) ?_
                      refine ko_callPI mi_k117.1 (pc := 102) (ls := [(7, .ref 114), (6, .ref 112), (0, .ref 0), (1, .int x1), (2, .int x2), (3, .int x3), (4, .int x4), (5, .int x5)]) (st := [.int x5, .int x4, .ref 114]) (h := ks i a q r) (i := (.invokevirtual 324, 3, 37, 0, 9, 0, 316)) (mi_k117.2 _ _ (by rfl)) (ft_invS mi_pq37 (by rfl)) (cy := mi_c37) mi_pq37 rfl (kc37_114 hG.I hG.R x4 x5) (by decide) ?_
                      intro vg543 hg543
                      rcases hg543 with ⟨eg543, hg543⟩ | ⟨eg543, hg543⟩
                      ·
                        subst eg543
                        have fi_7299 : ((0 : Int) ≤ (i 7299).toInt) ∧ ((i 7299).toInt ≤ 60) := hG.I.1 7299
                        have z544 : ((0 : Int) ≤ x5.toInt) ∧ (x5.toInt ≤ (i 7299).toInt) ∧ ((0 : Int) ≤ x4.toInt) ∧ ((x4.toInt + x5.toInt) ≤ (i 7299).toInt) := hg543
                        first | refine fo_goS mi_k117 fz117_105_8_126 [.int x5, .int x4, .ref 115, .int x2, .ref 113] (by rfl) ?_ | refine ft_go mi_k117 8 126 [(7, .ref 114), (6, .ref 112), (0, .ref 0), (1, .int x1), (2, .int x2), (3, .int x3), (4, .int x4), (5, .int x5)] [.int x5, .int x4, .ref 115, .int x2, .ref 113] i a q r (by rfl) ?_ | refine ko_steps mi_in117 8 _ (126, [(7, .ref 114), (6, .ref 112), (0, .ref 0), (1, .int x1), (2, .int x2), (3, .int x3), (4, .int x4), (5, .int x5)], [.int x5, .int x4, .ref 115, .int x2, .ref 113], (0, 0), ks i a q r) (by rfl) ?_
                        have hJ545 := kG_q hG 115 rfl (z := mi_cpy (q 113) (q 115) x2.toNatClampNeg x4.toNatClampNeg x5.toNatClampNeg) (kcpy_len2 (n := 60) (c := 60) (m := 60) (b := 60) (sp := x2) (dp := x4) (n1 := x5) (hG.I.2.2.2 113) rfl (hG.I.2.2.2 115) rfl (oy3 z542.1) (oy3 z542.2.2.1) (oy3 z544.2.2.1) (oy119 fi_7171.2 z542.2.2.2) (oy119 fi_7299.2 z544.2.2.2))
                        refine ko_copyL2 mi_k117.1 (l := q 113) (g := q 115) (n := 60) (c := 60) (m := 60) (b := 60) (mi_k117.2 _ _ (by rfl)) (by rfl) (by rfl) (by rfl) (by rfl) (by rfl) (hG.I.2.2.2 113) rfl (hG.I.2.2.2 115) rfl (oy3 z542.1) (oy3 z542.2.2.1) (oy3 z544.2.2.1) (oy119 fi_7171.2 z542.2.2.2) (oy119 fi_7299.2 z544.2.2.2) (h5 := ks i a (ku q 115 (mi_cpy (q 113) (q 115) x2.toNatClampNeg x4.toNatClampNeg x5.toNatClampNeg)) r) (by rfl) ?_
                        first | refine fo_goS mi_k117 fz117_129_1_131 [.int x5] (by rfl) ?_ | refine ft_go mi_k117 1 131 [(7, .ref 114), (6, .ref 112), (0, .ref 0), (1, .int x1), (2, .int x2), (3, .int x3), (4, .int x4), (5, .int x5)] [.int x5] i a (ku q 115 (mi_cpy (q 113) (q 115) x2.toNatClampNeg x4.toNatClampNeg x5.toNatClampNeg)) r (by rfl) ?_ | refine ko_steps mi_in117 1 _ (131, [(7, .ref 114), (6, .ref 112), (0, .ref 0), (1, .int x1), (2, .int x2), (3, .int x3), (4, .int x4), (5, .int x5)], [.int x5], (0, 0), ks i a (ku q 115 (mi_cpy (q 113) (q 115) x2.toNatClampNeg x4.toNatClampNeg x5.toNatClampNeg)) r) (by rfl) ?_
                        exact ft_ret mi_k117 (by rfl) (hP x5 _ _ _ _ hJ545 ⟨trivial, ⟨fun s t hs ht e1 e3 => by
        have es : s = 4 := kj_at e1 (oy144 w441)
        have et : t = 5 := kj_at e3 (oy146 w532 z4.2)
        subst es
        subst et
        exact ⟨(Or.inr (Or.inr (Or.inr ⟨rfl, (oy133 c537 c539 c540 fi_7168.2 fi_7296.2 ky2), (oy134 z542.1 z542.2.2.1 z542.2.2.2 z544.2.2.1 z544.2.2.2)⟩))), fun _ => ⟨rfl, (fun u hu ne => match u, hu, ne with | 0, _, _ => rfl | 1, _, _ => rfl | 2, _, _ => rfl | 3, _, _ => rfl | 4, _, _ => rfl | 5, _, ne => absurd rfl ne | _ + 6, h, _ => absurd h (by omega))⟩⟩, fun h => absurd h (oy26 z542.1), fun h => absurd (oy177 w441 w532 z2.2 z4.2) h⟩⟩)
                      ·
                        subst eg543
                        have fi_7299 : ((0 : Int) ≤ (i 7299).toInt) ∧ ((i 7299).toInt ≤ 60) := hG.I.1 7299
                        have z546 : ¬ (((0 : Int) ≤ x5.toInt) ∧ (x5.toInt ≤ (i 7299).toInt) ∧ ((0 : Int) ≤ x4.toInt) ∧ ((x4.toInt + x5.toInt) ≤ (i 7299).toInt)) := hg543
                        first | refine fo_goL mi_k117 fz117_93_2_110 [(7, .ref 114), (6, .ref 112), (0, .ref 0), (1, .int x1), (2, .int x2), (3, .int x3), (4, .int x4), (5, .int x5)] [.int (-13)] (by rfl) ?_ | refine fo_goL mi_k117 fz117_105_2_110 [(7, .ref 114), (6, .ref 112), (0, .ref 0), (1, .int x1), (2, .int x2), (3, .int x3), (4, .int x4), (5, .int x5)] [.int (-13)] (by rfl) ?_ | refine ft_go mi_k117 2 110 [(7, .ref 114), (6, .ref 112), (0, .ref 0), (1, .int x1), (2, .int x2), (3, .int x3), (4, .int x4), (5, .int x5)] [.int (-13)] i a q r (by rfl) ?_ | refine ko_steps mi_in117 2 _ (110, [(7, .ref 114), (6, .ref 112), (0, .ref 0), (1, .int x1), (2, .int x2), (3, .int x3), (4, .int x4), (5, .int x5)], [.int (-13)], (0, 0), ks i a q r) (by rfl) ?_
                        exact ft_ret mi_k117 (by rfl) (hP (-13) _ _ _ _ hG ⟨trivial, ⟨fun s t hs ht e1 e3 => by
        have es : s = 4 := kj_at e1 (oy144 w441)
        have et : t = 5 := kj_at e3 (oy146 w532 z4.2)
        subst es
        subst et
        exact ⟨(Or.inr (Or.inr (Or.inl ⟨kym13, (oy133 c537 c539 c540 fi_7168.2 fi_7296.2 ky2), (oy135 z542.1 z546)⟩))), fun h => absurd h (kj_neg kym13 (by decide))⟩, fun _ => (fun u hu => match u, hu with | 0, _ => rfl | 1, _ => rfl | 2, _ => rfl | 3, _ => rfl | 4, _ => rfl | 5, _ => rfl | _ + 6, h => absurd h (by omega)), fun h => absurd (oy177 w441 w532 z2.2 z4.2) h⟩⟩)
                    ·
                      subst eg541
                      have fi_7171 : ((0 : Int) ≤ (i 7171).toInt) ∧ ((i 7171).toInt ≤ 60) := hG.I.1 7171
                      have z547 : ¬ (((0 : Int) ≤ x5.toInt) ∧ (x5.toInt ≤ (i 7171).toInt) ∧ ((0 : Int) ≤ x2.toInt) ∧ ((x2.toInt + x5.toInt) ≤ (i 7171).toInt)) := hg541
                      first | refine fo_goL mi_k117 fz117_93_2_110 [(7, .ref 114), (6, .ref 112), (0, .ref 0), (1, .int x1), (2, .int x2), (3, .int x3), (4, .int x4), (5, .int x5)] [.int (-13)] (by rfl) ?_ | refine fo_goL mi_k117 fz117_105_2_110 [(7, .ref 114), (6, .ref 112), (0, .ref 0), (1, .int x1), (2, .int x2), (3, .int x3), (4, .int x4), (5, .int x5)] [.int (-13)] (by rfl) ?_ | refine ft_go mi_k117 2 110 [(7, .ref 114), (6, .ref 112), (0, .ref 0), (1, .int x1), (2, .int x2), (3, .int x3), (4, .int x4), (5, .int x5)] [.int (-13)] i a q r (by rfl) ?_ | refine ko_steps mi_in117 2 _ (110, [(7, .ref 114), (6, .ref 112), (0, .ref 0), (1, .int x1), (2, .int x2), (3, .int x3), (4, .int x4), (5, .int x5)], [.int (-13)], (0, 0), ks i a q r) (by rfl) ?_
                      have fi_7299 : ((0 : Int) ≤ (i 7299).toInt) ∧ ((i 7299).toInt ≤ 60) := hG.I.1 7299
                      exact ft_ret mi_k117 (by rfl) (hP (-13) _ _ _ _ hG ⟨trivial, ⟨fun s t hs ht e1 e3 => by
        have es : s = 4 := kj_at e1 (oy144 w441)
        have et : t = 5 := kj_at e3 (oy146 w532 z4.2)
        subst es
        subst et
        exact ⟨(Or.inr (Or.inr (Or.inl ⟨kym13, (oy133 c537 c539 c540 fi_7168.2 fi_7296.2 ky2), (oy136 z547)⟩))), fun h => absurd h (kj_neg kym13 (by decide))⟩, fun _ => (fun u hu => match u, hu with | 0, _ => rfl | 1, _ => rfl | 2, _ => rfl | 3, _ => rfl | 4, _ => rfl | 5, _ => rfl | _ + 6, h => absurd h (by omega)), fun h => absurd (oy177 w441 w532 z2.2 z4.2) h⟩⟩)
                  ·
                    have c548 : (i 7170).toInt ≠ (i 7298).toInt := kd_eqF c; clear c
                    first | refine fo_goL mi_k117 fz117_82_1_84 [(7, .ref 114), (6, .ref 112), (0, .ref 0), (1, .int x1), (2, .int x2), (3, .int x3), (4, .int x4), (5, .int x5)] [.int (-12)] (by rfl) ?_ | refine ft_go mi_k117 1 84 [(7, .ref 114), (6, .ref 112), (0, .ref 0), (1, .int x1), (2, .int x2), (3, .int x3), (4, .int x4), (5, .int x5)] [.int (-12)] i a q r (by rfl) ?_ | refine ko_steps mi_in117 1 _ (84, [(7, .ref 114), (6, .ref 112), (0, .ref 0), (1, .int x1), (2, .int x2), (3, .int x3), (4, .int x4), (5, .int x5)], [.int (-12)], (0, 0), ks i a q r) (by rfl) ?_
                    have fi_7171 : ((0 : Int) ≤ (i 7171).toInt) ∧ ((i 7171).toInt ≤ 60) := hG.I.1 7171
                    have fi_7299 : ((0 : Int) ≤ (i 7299).toInt) ∧ ((i 7299).toInt ≤ 60) := hG.I.1 7299
                    exact ft_ret mi_k117 (by rfl) (hP (-12) _ _ _ _ hG ⟨trivial, ⟨fun s t hs ht e1 e3 => by
        have es : s = 4 := kj_at e1 (oy144 w441)
        have et : t = 5 := kj_at e3 (oy146 w532 z4.2)
        subst es
        subst et
        exact ⟨(Or.inr (Or.inl ⟨kym12, (oy137 c537 c539 ky2), (oy138 c548)⟩)), fun h => absurd h (kj_neg kym12 (by decide))⟩, fun _ => (fun u hu => match u, hu with | 0, _ => rfl | 1, _ => rfl | 2, _ => rfl | 3, _ => rfl | 4, _ => rfl | 5, _ => rfl | _ + 6, h => absurd h (by omega)), fun h => absurd (oy177 w441 w532 z2.2 z4.2) h⟩⟩)
            ·
              have c549 : (i 7296).toInt = (0 : Int32).toInt := kd_neF c; clear c
              first | refine fo_goL mi_k117 fz117_48_1_50 [(7, .ref 114), (6, .ref 112), (0, .ref 0), (1, .int x1), (2, .int x2), (3, .int x3), (4, .int x4), (5, .int x5)] [.int (-11)] (by rfl) ?_ | refine ft_go mi_k117 1 50 [(7, .ref 114), (6, .ref 112), (0, .ref 0), (1, .int x1), (2, .int x2), (3, .int x3), (4, .int x4), (5, .int x5)] [.int (-11)] i a q r (by rfl) ?_ | refine ko_steps mi_in117 1 _ (50, [(7, .ref 114), (6, .ref 112), (0, .ref 0), (1, .int x1), (2, .int x2), (3, .int x3), (4, .int x4), (5, .int x5)], [.int (-11)], (0, 0), ks i a q r) (by rfl) ?_
              have fi_7170 : ((0 : Int) ≤ (i 7170).toInt) ∧ ((i 7170).toInt ≤ 4) := hG.I.1 7170
              have fi_7298 : ((0 : Int) ≤ (i 7298).toInt) ∧ ((i 7298).toInt ≤ 4) := hG.I.1 7298
              have fi_7171 : ((0 : Int) ≤ (i 7171).toInt) ∧ ((i 7171).toInt ≤ 60) := hG.I.1 7171
              have fi_7299 : ((0 : Int) ≤ (i 7299).toInt) ∧ ((i 7299).toInt ≤ 60) := hG.I.1 7299
              exact ft_ret mi_k117 (by rfl) (hP (-11) _ _ _ _ hG ⟨trivial, ⟨fun s t hs ht e1 e3 => by
        have es : s = 4 := kj_at e1 (oy144 w441)
        have et : t = 5 := kj_at e3 (oy146 w532 z4.2)
        subst es
        subst et
        exact ⟨(Or.inl ⟨kym11, (oy139 c549 fi_7296.1 ky0)⟩), fun h => absurd h (kj_neg kym11 (by decide))⟩, fun _ => (fun u hu => match u, hu with | 0, _ => rfl | 1, _ => rfl | 2, _ => rfl | 3, _ => rfl | 4, _ => rfl | 5, _ => rfl | _ + 6, h => absurd h (by omega)), fun h => absurd (oy177 w441 w532 z2.2 z4.2) h⟩⟩)
        exact (oy159 w442 w460 w478 w496 w514 w532 z4.1 z4.2).elim
      by_cases w550 : x1.toInt = 5
      ·
        refine ft_alx mi_k117 (pc := 21) (v := 5) (p := 97) (z := 114) (kj_eq w550 (by decide) : x1 = 5) (by decide +kernel) (by decide +kernel) ?_
        first | refine fo_goL mi_k117 fz117_22_4_29 [(6, .ref 114), (0, .ref 0), (1, .int x1), (2, .int x2), (3, .int x3), (4, .int x4), (5, .int x5)] [.int x3, .ref 97] (by rfl) ?_ | refine ft_go mi_k117 4 29 [(6, .ref 114), (0, .ref 0), (1, .int x1), (2, .int x2), (3, .int x3), (4, .int x4), (5, .int x5)] [.int x3, .ref 97] i a q r (by rfl) ?_ | refine ko_steps mi_in117 4 _ (29, [(6, .ref 114), (0, .ref 0), (1, .int x1), (2, .int x2), (3, .int x3), (4, .int x4), (5, .int x5)], [.int x3, .ref 97], (0, 0), ks i a q r) (by rfl) ?_
        by_cases w551 : x3.toInt = 0
        ·
          refine ko_eq (x1 := (29, [(6, .ref 114), (0, .ref 0), (1, .int x1), (2, .int x2), (3, .int x3), (4, .int x4), (5, .int x5)], [.int 0, .ref 97], (0, 0), ks i a q r)) (by rw [(kj_eq w551 (by decide) : x3 = 0)]) ?_
          have fi_7296 : ((0 : Int) ≤ (i 7296).toInt) ∧ ((i 7296).toInt ≤ 2) := hG.I.1 7296
          first | refine ft_goL mi_k117 4 37 [(7, .ref 104), (6, .ref 114), (0, .ref 0), (1, .int x1), (2, .int x2), (3, .int x3), (4, .int x4), (5, .int x5)] [.int (i 7296)] (by rfl) ?_ | refine ft_go mi_k117 4 37 [(7, .ref 104), (6, .ref 114), (0, .ref 0), (1, .int x1), (2, .int x2), (3, .int x3), (4, .int x4), (5, .int x5)] [.int (i 7296)] i a q r (by rfl) ?_ | refine ko_steps mi_in117 4 _ (37, [(7, .ref 104), (6, .ref 114), (0, .ref 0), (1, .int x1), (2, .int x2), (3, .int x3), (4, .int x4), (5, .int x5)], [.int (i 7296)], (0, 0), ks i a q r) (by rfl) ?_
          refine ft_ifS mi_k117 ((i 7296) == 0) 48 40 [] (by rfl) (fun c => ?_) (fun c => ?_)
          ·
            have c552 : (i 7296).toInt = (0 : Int32).toInt := kd_eq c; clear c
            first | refine fo_goS mi_k117 fz117_48_1_50 [.int (-11)] (by rfl) ?_ | refine ft_go mi_k117 1 50 [(7, .ref 104), (6, .ref 114), (0, .ref 0), (1, .int x1), (2, .int x2), (3, .int x3), (4, .int x4), (5, .int x5)] [.int (-11)] i a q r (by rfl) ?_ | refine ko_steps mi_in117 1 _ (50, [(7, .ref 104), (6, .ref 114), (0, .ref 0), (1, .int x1), (2, .int x2), (3, .int x3), (4, .int x4), (5, .int x5)], [.int (-11)], (0, 0), ks i a q r) (by rfl) ?_
            have fi_6656 : ((0 : Int) ≤ (i 6656).toInt) ∧ ((i 6656).toInt ≤ 2) := hG.I.1 6656
            have fi_7298 : ((0 : Int) ≤ (i 7298).toInt) ∧ ((i 7298).toInt ≤ 4) := hG.I.1 7298
            have fi_6658 : ((0 : Int) ≤ (i 6658).toInt) ∧ ((i 6658).toInt ≤ 4) := hG.I.1 6658
            have fi_7299 : ((0 : Int) ≤ (i 7299).toInt) ∧ ((i 7299).toInt ≤ 60) := hG.I.1 7299
            have fi_6659 : ((0 : Int) ≤ (i 6659).toInt) ∧ ((i 6659).toInt ≤ 60) := hG.I.1 6659
            exact ft_ret mi_k117 (by rfl) (hP (-11) _ _ _ _ hG ⟨trivial, ⟨fun s t hs ht e1 e3 => by
        have es : s = 5 := kj_at e1 (oy146 w550 z2.2)
        have et : t = 0 := kj_at e3 (oy107 w551 z4.1)
        subst es
        subst et
        exact ⟨(Or.inl ⟨kym11, (oy127 c552 fi_7296.1 ky0)⟩), fun h => absurd h (kj_neg kym11 (by decide))⟩, fun _ => (fun u hu => match u, hu with | 0, _ => rfl | 1, _ => rfl | 2, _ => rfl | 3, _ => rfl | 4, _ => rfl | 5, _ => rfl | _ + 6, h => absurd h (by omega)), fun h => absurd (oy178 w550 z2.2 z4.1 z4.2) h⟩⟩)
          ·
            have c553 : (i 7296).toInt ≠ (0 : Int32).toInt := kd_eqF c; clear c
            have fi_6656 : ((0 : Int) ≤ (i 6656).toInt) ∧ ((i 6656).toInt ≤ 2) := hG.I.1 6656
            first | refine fo_goL mi_k117 fz117_40_2_45 [(7, .ref 104), (6, .ref 114), (0, .ref 0), (1, .int x1), (2, .int x2), (3, .int x3), (4, .int x4), (5, .int x5)] [.int (i 6656)] (by rfl) ?_ | refine ft_go mi_k117 2 45 [(7, .ref 104), (6, .ref 114), (0, .ref 0), (1, .int x1), (2, .int x2), (3, .int x3), (4, .int x4), (5, .int x5)] [.int (i 6656)] i a q r (by rfl) ?_ | refine ko_steps mi_in117 2 _ (45, [(7, .ref 104), (6, .ref 114), (0, .ref 0), (1, .int x1), (2, .int x2), (3, .int x3), (4, .int x4), (5, .int x5)], [.int (i 6656)], (0, 0), ks i a q r) (by rfl) ?_
            refine ft_ifS mi_k117 ((i 6656) != 0) 51 48 [] (by rfl) (fun c => ?_) (fun c => ?_)
            ·
              have c554 : (i 6656).toInt ≠ (0 : Int32).toInt := kd_ne c; clear c
              first | refine fo_goS mi_k117 fz117_51_3_57 [.int 2, .int (i 7296)] (by rfl) ?_ | refine ft_go mi_k117 3 57 [(7, .ref 104), (6, .ref 114), (0, .ref 0), (1, .int x1), (2, .int x2), (3, .int x3), (4, .int x4), (5, .int x5)] [.int 2, .int (i 7296)] i a q r (by rfl) ?_ | refine ko_steps mi_in117 3 _ (57, [(7, .ref 104), (6, .ref 114), (0, .ref 0), (1, .int x1), (2, .int x2), (3, .int x3), (4, .int x4), (5, .int x5)], [.int 2, .int (i 7296)], (0, 0), ks i a q r) (by rfl) ?_
              refine ft_ifS mi_k117 ((i 7296) != 2) 82 60 [] (by rfl) (fun c => ?_) (fun c => ?_)
              ·
                have c555 : (i 7296).toInt ≠ (2 : Int32).toInt := kd_ne c; clear c
                first | refine fo_goS mi_k117 fz117_82_1_84 [.int (-12)] (by rfl) ?_ | refine ft_go mi_k117 1 84 [(7, .ref 104), (6, .ref 114), (0, .ref 0), (1, .int x1), (2, .int x2), (3, .int x3), (4, .int x4), (5, .int x5)] [.int (-12)] i a q r (by rfl) ?_ | refine ko_steps mi_in117 1 _ (84, [(7, .ref 104), (6, .ref 114), (0, .ref 0), (1, .int x1), (2, .int x2), (3, .int x3), (4, .int x4), (5, .int x5)], [.int (-12)], (0, 0), ks i a q r) (by rfl) ?_
                have fi_7298 : ((0 : Int) ≤ (i 7298).toInt) ∧ ((i 7298).toInt ≤ 4) := hG.I.1 7298
                have fi_6658 : ((0 : Int) ≤ (i 6658).toInt) ∧ ((i 6658).toInt ≤ 4) := hG.I.1 6658
                have fi_7299 : ((0 : Int) ≤ (i 7299).toInt) ∧ ((i 7299).toInt ≤ 60) := hG.I.1 7299
                have fi_6659 : ((0 : Int) ≤ (i 6659).toInt) ∧ ((i 6659).toInt ≤ 60) := hG.I.1 6659
                exact ft_ret mi_k117 (by rfl) (hP (-12) _ _ _ _ hG ⟨trivial, ⟨fun s t hs ht e1 e3 => by
        have es : s = 5 := kj_at e1 (oy146 w550 z2.2)
        have et : t = 0 := kj_at e3 (oy107 w551 z4.1)
        subst es
        subst et
        exact ⟨(Or.inr (Or.inl ⟨kym12, (oy151 c553 c554 fi_6656.1 fi_7296.1 ky0), (oy130 c555 fi_7296.2 ky2)⟩)), fun h => absurd h (kj_neg kym12 (by decide))⟩, fun _ => (fun u hu => match u, hu with | 0, _ => rfl | 1, _ => rfl | 2, _ => rfl | 3, _ => rfl | 4, _ => rfl | 5, _ => rfl | _ + 6, h => absurd h (by omega)), fun h => absurd (oy178 w550 z2.2 z4.1 z4.2) h⟩⟩)
              ·
                have c556 : (i 7296).toInt = (2 : Int32).toInt := kd_neF c; clear c
                first | refine fo_goL mi_k117 fz117_60_3_66 [(7, .ref 104), (6, .ref 114), (0, .ref 0), (1, .int x1), (2, .int x2), (3, .int x3), (4, .int x4), (5, .int x5)] [.int 2, .int (i 6656)] (by rfl) ?_ | refine ft_go mi_k117 3 66 [(7, .ref 104), (6, .ref 114), (0, .ref 0), (1, .int x1), (2, .int x2), (3, .int x3), (4, .int x4), (5, .int x5)] [.int 2, .int (i 6656)] i a q r (by rfl) ?_ | refine ko_steps mi_in117 3 _ (66, [(7, .ref 104), (6, .ref 114), (0, .ref 0), (1, .int x1), (2, .int x2), (3, .int x3), (4, .int x4), (5, .int x5)], [.int 2, .int (i 6656)], (0, 0), ks i a q r) (by rfl) ?_
                refine ft_ifS mi_k117 ((i 6656) != 2) 82 69 [] (by rfl) (fun c => ?_) (fun c => ?_)
                ·
                  have c557 : (i 6656).toInt ≠ (2 : Int32).toInt := kd_ne c; clear c
                  first | refine fo_goS mi_k117 fz117_82_1_84 [.int (-12)] (by rfl) ?_ | refine ft_go mi_k117 1 84 [(7, .ref 104), (6, .ref 114), (0, .ref 0), (1, .int x1), (2, .int x2), (3, .int x3), (4, .int x4), (5, .int x5)] [.int (-12)] i a q r (by rfl) ?_ | refine ko_steps mi_in117 1 _ (84, [(7, .ref 104), (6, .ref 114), (0, .ref 0), (1, .int x1), (2, .int x2), (3, .int x3), (4, .int x4), (5, .int x5)], [.int (-12)], (0, 0), ks i a q r) (by rfl) ?_
                  have fi_7298 : ((0 : Int) ≤ (i 7298).toInt) ∧ ((i 7298).toInt ≤ 4) := hG.I.1 7298
                  have fi_6658 : ((0 : Int) ≤ (i 6658).toInt) ∧ ((i 6658).toInt ≤ 4) := hG.I.1 6658
                  have fi_7299 : ((0 : Int) ≤ (i 7299).toInt) ∧ ((i 7299).toInt ≤ 60) := hG.I.1 7299
                  have fi_6659 : ((0 : Int) ≤ (i 6659).toInt) ∧ ((i 6659).toInt ≤ 60) := hG.I.1 6659
                  exact ft_ret mi_k117 (by rfl) (hP (-12) _ _ _ _ hG ⟨trivial, ⟨fun s t hs ht e1 e3 => by
        have es : s = 5 := kj_at e1 (oy146 w550 z2.2)
        have et : t = 0 := kj_at e3 (oy107 w551 z4.1)
        subst es
        subst et
        exact ⟨(Or.inr (Or.inl ⟨kym12, (oy131 c554 c556 fi_6656.1 ky0 ky2), (oy132 c557 fi_6656.2 ky2)⟩)), fun h => absurd h (kj_neg kym12 (by decide))⟩, fun _ => (fun u hu => match u, hu with | 0, _ => rfl | 1, _ => rfl | 2, _ => rfl | 3, _ => rfl | 4, _ => rfl | 5, _ => rfl | _ + 6, h => absurd h (by omega)), fun h => absurd (oy178 w550 z2.2 z4.1 z4.2) h⟩⟩)
                ·
                  have c558 : (i 6656).toInt = (2 : Int32).toInt := kd_neF c; clear c
                  have fi_7298 : ((0 : Int) ≤ (i 7298).toInt) ∧ ((i 7298).toInt ≤ 4) := hG.I.1 7298
                  have fi_6658 : ((0 : Int) ≤ (i 6658).toInt) ∧ ((i 6658).toInt ≤ 4) := hG.I.1 6658
                  first | refine fo_goL mi_k117 fz117_69_4_79 [(7, .ref 104), (6, .ref 114), (0, .ref 0), (1, .int x1), (2, .int x2), (3, .int x3), (4, .int x4), (5, .int x5)] [.int (i 6658), .int (i 7298)] (by rfl) ?_ | refine ft_go mi_k117 4 79 [(7, .ref 104), (6, .ref 114), (0, .ref 0), (1, .int x1), (2, .int x2), (3, .int x3), (4, .int x4), (5, .int x5)] [.int (i 6658), .int (i 7298)] i a q r (by rfl) ?_ | refine ko_steps mi_in117 4 _ (79, [(7, .ref 104), (6, .ref 114), (0, .ref 0), (1, .int x1), (2, .int x2), (3, .int x3), (4, .int x4), (5, .int x5)], [.int (i 6658), .int (i 7298)], (0, 0), ks i a q r) (by rfl) ?_
                  refine ft_ifS mi_k117 ((i 7298) == (i 6658)) 85 82 [] (by rfl) (fun c => ?_) (fun c => ?_)
                  ·
                    have c559 : (i 7298).toInt = (i 6658).toInt := kd_eq c; clear c
                    first | refine fo_goS mi_k117 fz117_85_3_90 [.int x5, .int x2, .ref 114] (by rfl) ?_ | refine ft_go mi_k117 3 90 [(7, .ref 104), (6, .ref 114), (0, .ref 0), (1, .int x1), (2, .int x2), (3, .int x3), (4, .int x4), (5, .int x5)] [.int x5, .int x2, .ref 114] i a q r (by rfl) ?_ | refine ko_steps mi_in117 3 _ (90, [(7, .ref 104), (6, .ref 114), (0, .ref 0), (1, .int x1), (2, .int x2), (3, .int x3), (4, .int x4), (5, .int x5)], [.int x5, .int x2, .ref 114], (0, 0), ks i a q r) (by rfl) ?_
                    refine ko_callPI mi_k117.1 (pc := 90) (ls := [(7, .ref 104), (6, .ref 114), (0, .ref 0), (1, .int x1), (2, .int x2), (3, .int x3), (4, .int x4), (5, .int x5)]) (st := [.int x5, .int x2, .ref 114]) (h := ks i a q r) (i := (.invokevirtual 324, 3, 37, 0, 9, 0, 316)) (mi_k117.2 _ _ (by rfl)) (ft_invS mi_pq37 (by rfl)) (cy := mi_c37) mi_pq37 rfl (kc37_114 hG.I hG.R x2 x5) (by decide) ?_
                    intro vg560 hg560
                    rcases hg560 with ⟨eg560, hg560⟩ | ⟨eg560, hg560⟩
                    ·
                      subst eg560
                      have fi_7299 : ((0 : Int) ≤ (i 7299).toInt) ∧ ((i 7299).toInt ≤ 60) := hG.I.1 7299
                      have z561 : ((0 : Int) ≤ x5.toInt) ∧ (x5.toInt ≤ (i 7299).toInt) ∧ ((0 : Int) ≤ x2.toInt) ∧ ((x2.toInt + x5.toInt) ≤ (i 7299).toInt) := hg560
                      first | refine fo_goS mi_k117 fz117_93_4_102 [.int x5, .int x4, .ref 104] (by rfl) ?_ | refine ft_go mi_k117 4 102 [(7, .ref 104), (6, .ref 114), (0, .ref 0), (1, .int x1), (2, .int x2), (3, .int x3), (4, .int x4), (5, .int x5)] [.int x5, .int x4, .ref 104] i a q r (by rfl) ?_ | refine ko_steps mi_in117 4 _ (102, [(7, .ref 104), (6, .ref 114), (0, .ref 0), (1, .int x1), (2, .int x2), (3, .int x3), (4, .int x4), (5, .int x5)], [.int x5, .int x4, .ref 104], (0, 0), ks i a q r) (by rfl) ?_
                      refine ko_callPI mi_k117.1 (pc := 102) (ls := [(7, .ref 104), (6, .ref 114), (0, .ref 0), (1, .int x1), (2, .int x2), (3, .int x3), (4, .int x4), (5, .int x5)]) (st := [.int x5, .int x4, .ref 104]) (h := ks i a q r) (i := (.invokevirtual 324, 3, 37, 0, 9, 0, 316)) (mi_k117.2 _ _ (by rfl)) (ft_invS mi_pq37 (by rfl)) (cy := mi_c37) mi_pq37 rfl (kc37_104 hG.I hG.R x4 x5) (by decide) ?_
                      intro vg562 hg562
                      rcases hg562 with ⟨eg562, hg562⟩ | ⟨eg562, hg562⟩
                      ·
                        subst eg562
                        have fi_6659 : ((0 : Int) ≤ (i 6659).toInt) ∧ ((i 6659).toInt ≤ 60) := hG.I.1 6659
                        have z563 : ((0 : Int) ≤ x5.toInt) ∧ (x5.toInt ≤ (i 6659).toInt) ∧ ((0 : Int) ≤ x4.toInt) ∧ ((x4.toInt + x5.toInt) ≤ (i 6659).toInt) := hg562
                        first | refine fo_goS mi_k117 fz117_105_8_126 [.int x5, .int x4, .ref 105, .int x2, .ref 115] (by rfl) ?_ | refine ft_go mi_k117 8 126 [(7, .ref 104), (6, .ref 114), (0, .ref 0), (1, .int x1), (2, .int x2), (3, .int x3), (4, .int x4), (5, .int x5)] [.int x5, .int x4, .ref 105, .int x2, .ref 115] i a q r (by rfl) ?_ | refine ko_steps mi_in117 8 _ (126, [(7, .ref 104), (6, .ref 114), (0, .ref 0), (1, .int x1), (2, .int x2), (3, .int x3), (4, .int x4), (5, .int x5)], [.int x5, .int x4, .ref 105, .int x2, .ref 115], (0, 0), ks i a q r) (by rfl) ?_
                        have hJ564 := kG_q hG 105 rfl (z := mi_cpy (q 115) (q 105) x2.toNatClampNeg x4.toNatClampNeg x5.toNatClampNeg) (kcpy_len2 (n := 60) (c := 60) (m := 60) (b := 60) (sp := x2) (dp := x4) (n1 := x5) (hG.I.2.2.2 115) rfl (hG.I.2.2.2 105) rfl (oy3 z561.1) (oy3 z561.2.2.1) (oy3 z563.2.2.1) (oy119 fi_7299.2 z561.2.2.2) (oy119 fi_6659.2 z563.2.2.2))
                        refine ko_copyL2 mi_k117.1 (l := q 115) (g := q 105) (n := 60) (c := 60) (m := 60) (b := 60) (mi_k117.2 _ _ (by rfl)) (by rfl) (by rfl) (by rfl) (by rfl) (by rfl) (hG.I.2.2.2 115) rfl (hG.I.2.2.2 105) rfl (oy3 z561.1) (oy3 z561.2.2.1) (oy3 z563.2.2.1) (oy119 fi_7299.2 z561.2.2.2) (oy119 fi_6659.2 z563.2.2.2) (h5 := ks i a (ku q 105 (mi_cpy (q 115) (q 105) x2.toNatClampNeg x4.toNatClampNeg x5.toNatClampNeg)) r) (by rfl) ?_
                        first | refine fo_goS mi_k117 fz117_129_1_131 [.int x5] (by rfl) ?_ | refine ft_go mi_k117 1 131 [(7, .ref 104), (6, .ref 114), (0, .ref 0), (1, .int x1), (2, .int x2), (3, .int x3), (4, .int x4), (5, .int x5)] [.int x5] i a (ku q 105 (mi_cpy (q 115) (q 105) x2.toNatClampNeg x4.toNatClampNeg x5.toNatClampNeg)) r (by rfl) ?_ | refine ko_steps mi_in117 1 _ (131, [(7, .ref 104), (6, .ref 114), (0, .ref 0), (1, .int x1), (2, .int x2), (3, .int x3), (4, .int x4), (5, .int x5)], [.int x5], (0, 0), ks i a (ku q 105 (mi_cpy (q 115) (q 105) x2.toNatClampNeg x4.toNatClampNeg x5.toNatClampNeg)) r) (by rfl) ?_
                        exact ft_ret mi_k117 (by rfl) (hP x5 _ _ _ _ hJ564 ⟨trivial, ⟨fun s t hs ht e1 e3 => by
        have es : s = 5 := kj_at e1 (oy146 w550 z2.2)
        have et : t = 0 := kj_at e3 (oy107 w551 z4.1)
        subst es
        subst et
        exact ⟨(Or.inr (Or.inr (Or.inr ⟨rfl, (oy152 c556 c558 c559 fi_6656.2 fi_7296.2 ky2), (oy134 z561.1 z561.2.2.1 z561.2.2.2 z563.2.2.1 z563.2.2.2)⟩))), fun _ => ⟨rfl, (fun u hu ne => match u, hu, ne with | 0, _, ne => absurd rfl ne | 1, _, _ => rfl | 2, _, _ => rfl | 3, _, _ => rfl | 4, _, _ => rfl | 5, _, _ => rfl | _ + 6, h, _ => absurd h (by omega))⟩⟩, fun h => absurd h (oy26 z561.1), fun h => absurd (oy178 w550 z2.2 z4.1 z4.2) h⟩⟩)
                      ·
                        subst eg562
                        have fi_6659 : ((0 : Int) ≤ (i 6659).toInt) ∧ ((i 6659).toInt ≤ 60) := hG.I.1 6659
                        have z565 : ¬ (((0 : Int) ≤ x5.toInt) ∧ (x5.toInt ≤ (i 6659).toInt) ∧ ((0 : Int) ≤ x4.toInt) ∧ ((x4.toInt + x5.toInt) ≤ (i 6659).toInt)) := hg562
                        first | refine fo_goL mi_k117 fz117_93_2_110 [(7, .ref 104), (6, .ref 114), (0, .ref 0), (1, .int x1), (2, .int x2), (3, .int x3), (4, .int x4), (5, .int x5)] [.int (-13)] (by rfl) ?_ | refine fo_goL mi_k117 fz117_105_2_110 [(7, .ref 104), (6, .ref 114), (0, .ref 0), (1, .int x1), (2, .int x2), (3, .int x3), (4, .int x4), (5, .int x5)] [.int (-13)] (by rfl) ?_ | refine ft_go mi_k117 2 110 [(7, .ref 104), (6, .ref 114), (0, .ref 0), (1, .int x1), (2, .int x2), (3, .int x3), (4, .int x4), (5, .int x5)] [.int (-13)] i a q r (by rfl) ?_ | refine ko_steps mi_in117 2 _ (110, [(7, .ref 104), (6, .ref 114), (0, .ref 0), (1, .int x1), (2, .int x2), (3, .int x3), (4, .int x4), (5, .int x5)], [.int (-13)], (0, 0), ks i a q r) (by rfl) ?_
                        exact ft_ret mi_k117 (by rfl) (hP (-13) _ _ _ _ hG ⟨trivial, ⟨fun s t hs ht e1 e3 => by
        have es : s = 5 := kj_at e1 (oy146 w550 z2.2)
        have et : t = 0 := kj_at e3 (oy107 w551 z4.1)
        subst es
        subst et
        exact ⟨(Or.inr (Or.inr (Or.inl ⟨kym13, (oy152 c556 c558 c559 fi_6656.2 fi_7296.2 ky2), (oy135 z561.1 z565)⟩))), fun h => absurd h (kj_neg kym13 (by decide))⟩, fun _ => (fun u hu => match u, hu with | 0, _ => rfl | 1, _ => rfl | 2, _ => rfl | 3, _ => rfl | 4, _ => rfl | 5, _ => rfl | _ + 6, h => absurd h (by omega)), fun h => absurd (oy178 w550 z2.2 z4.1 z4.2) h⟩⟩)
                    ·
                      subst eg560
                      have fi_7299 : ((0 : Int) ≤ (i 7299).toInt) ∧ ((i 7299).toInt ≤ 60) := hG.I.1 7299
                      have z566 : ¬ (((0 : Int) ≤ x5.toInt) ∧ (x5.toInt ≤ (i 7299).toInt) ∧ ((0 : Int) ≤ x2.toInt) ∧ ((x2.toInt + x5.toInt) ≤ (i 7299).toInt)) := hg560
                      first | refine fo_goL mi_k117 fz117_93_2_110 [(7, .ref 104), (6, .ref 114), (0, .ref 0), (1, .int x1), (2, .int x2), (3, .int x3), (4, .int x4), (5, .int x5)] [.int (-13)] (by rfl) ?_ | refine fo_goL mi_k117 fz117_105_2_110 [(7, .ref 104), (6, .ref 114), (0, .ref 0), (1, .int x1), (2, .int x2), (3, .int x3), (4, .int x4), (5, .int x5)] [.int (-13)] (by rfl) ?_ | refine ft_go mi_k117 2 110 [(7, .ref 104), (6, .ref 114), (0, .ref 0), (1, .int x1), (2, .int x2), (3, .int x3), (4, .int x4), (5, .int x5)] [.int (-13)] i a q r (by rfl) ?_ | refine ko_steps mi_in117 2 _ (110, [(7, .ref 104), (6, .ref 114), (0, .ref 0), (1, .int x1), (2, .int x2), (3, .int x3), (4, .int x4), (5, .int x5)], [.int (-13)], (0, 0), ks i a q r) (by rfl) ?_
                      have fi_6659 : ((0 : Int) ≤ (i 6659).toInt) ∧ ((i 6659).toInt ≤ 60) := hG.I.1 6659
                      exact ft_ret mi_k117 (by rfl) (hP (-13) _ _ _ _ hG ⟨trivial, ⟨fun s t hs ht e1 e3 => by
        have es : s = 5 := kj_at e1 (oy146 w550 z2.2)
        have et : t = 0 := kj_at e3 (oy107 w551 z4.1)
        subst es
        subst et
        exact ⟨(Or.inr (Or.inr (Or.inl ⟨kym13, (oy152 c556 c558 c559 fi_6656.2 fi_7296.2 ky2), (oy136 z566)⟩))), fun h => absurd h (kj_neg kym13 (by decide))⟩, fun _ => (fun u hu => match u, hu with | 0, _ => rfl | 1, _ => rfl | 2, _ => rfl | 3, _ => rfl | 4, _ => rfl | 5, _ => rfl | _ + 6, h => absurd h (by omega)), fun h => absurd (oy178 w550 z2.2 z4.1 z4.2) h⟩⟩)
                  ·
                    have c567 : (i 7298).toInt ≠ (i 6658).toInt := kd_eqF c; clear c
                    first | refine fo_goL mi_k117 fz117_82_1_84 [(7, .ref 104), (6, .ref 114), (0, .ref 0), (1, .int x1), (2, .int x2), (3, .int x3), (4, .int x4), (5, .int x5)] [.int (-12)] (by rfl) ?_ | refine ft_go mi_k117 1 84 [(7, .ref 104), (6, .ref 114), (0, .ref 0), (1, .int x1), (2, .int x2), (3, .int x3), (4, .int x4), (5, .int x5)] [.int (-12)] i a q r (by rfl) ?_ | refine ko_steps mi_in117 1 _ (84, [(7, .ref 104), (6, .ref 114), (0, .ref 0), (1, .int x1), (2, .int x2), (3, .int x3), (4, .int x4), (5, .int x5)], [.int (-12)], (0, 0), ks i a q r) (by rfl) ?_
                    have fi_7299 : ((0 : Int) ≤ (i 7299).toInt) ∧ ((i 7299).toInt ≤ 60) := hG.I.1 7299
                    have fi_6659 : ((0 : Int) ≤ (i 6659).toInt) ∧ ((i 6659).toInt ≤ 60) := hG.I.1 6659
                    exact ft_ret mi_k117 (by rfl) (hP (-12) _ _ _ _ hG ⟨trivial, ⟨fun s t hs ht e1 e3 => by
        have es : s = 5 := kj_at e1 (oy146 w550 z2.2)
        have et : t = 0 := kj_at e3 (oy107 w551 z4.1)
        subst es
        subst et
        exact ⟨(Or.inr (Or.inl ⟨kym12, (oy137 c556 c558 ky2), (oy138 c567)⟩)), fun h => absurd h (kj_neg kym12 (by decide))⟩, fun _ => (fun u hu => match u, hu with | 0, _ => rfl | 1, _ => rfl | 2, _ => rfl | 3, _ => rfl | 4, _ => rfl | 5, _ => rfl | _ + 6, h => absurd h (by omega)), fun h => absurd (oy178 w550 z2.2 z4.1 z4.2) h⟩⟩)
            ·
              have c568 : (i 6656).toInt = (0 : Int32).toInt := kd_neF c; clear c
              first | refine fo_goL mi_k117 fz117_48_1_50 [(7, .ref 104), (6, .ref 114), (0, .ref 0), (1, .int x1), (2, .int x2), (3, .int x3), (4, .int x4), (5, .int x5)] [.int (-11)] (by rfl) ?_ | refine ft_go mi_k117 1 50 [(7, .ref 104), (6, .ref 114), (0, .ref 0), (1, .int x1), (2, .int x2), (3, .int x3), (4, .int x4), (5, .int x5)] [.int (-11)] i a q r (by rfl) ?_ | refine ko_steps mi_in117 1 _ (50, [(7, .ref 104), (6, .ref 114), (0, .ref 0), (1, .int x1), (2, .int x2), (3, .int x3), (4, .int x4), (5, .int x5)], [.int (-11)], (0, 0), ks i a q r) (by rfl) ?_
              have fi_7298 : ((0 : Int) ≤ (i 7298).toInt) ∧ ((i 7298).toInt ≤ 4) := hG.I.1 7298
              have fi_6658 : ((0 : Int) ≤ (i 6658).toInt) ∧ ((i 6658).toInt ≤ 4) := hG.I.1 6658
              have fi_7299 : ((0 : Int) ≤ (i 7299).toInt) ∧ ((i 7299).toInt ≤ 60) := hG.I.1 7299
              have fi_6659 : ((0 : Int) ≤ (i 6659).toInt) ∧ ((i 6659).toInt ≤ 60) := hG.I.1 6659
              exact ft_ret mi_k117 (by rfl) (hP (-11) _ _ _ _ hG ⟨trivial, ⟨fun s t hs ht e1 e3 => by
        have es : s = 5 := kj_at e1 (oy146 w550 z2.2)
        have et : t = 0 := kj_at e3 (oy107 w551 z4.1)
        subst es
        subst et
        exact ⟨(Or.inl ⟨kym11, (oy139 c568 fi_6656.1 ky0)⟩), fun h => absurd h (kj_neg kym11 (by decide))⟩, fun _ => (fun u hu => match u, hu with | 0, _ => rfl | 1, _ => rfl | 2, _ => rfl | 3, _ => rfl | 4, _ => rfl | 5, _ => rfl | _ + 6, h => absurd h (by omega)), fun h => absurd (oy178 w550 z2.2 z4.1 z4.2) h⟩⟩)
        by_cases w569 : x3.toInt = 1
        ·
          refine ko_eq (x1 := (29, [(6, .ref 114), (0, .ref 0), (1, .int x1), (2, .int x2), (3, .int x3), (4, .int x4), (5, .int x5)], [.int 1, .ref 97], (0, 0), ks i a q r)) (by rw [(kj_eq w569 (by decide) : x3 = 1)]) ?_
          have fi_7296 : ((0 : Int) ≤ (i 7296).toInt) ∧ ((i 7296).toInt ≤ 2) := hG.I.1 7296
          first | refine ft_goL mi_k117 4 37 [(7, .ref 106), (6, .ref 114), (0, .ref 0), (1, .int x1), (2, .int x2), (3, .int x3), (4, .int x4), (5, .int x5)] [.int (i 7296)] (by rfl) ?_ | refine ft_go mi_k117 4 37 [(7, .ref 106), (6, .ref 114), (0, .ref 0), (1, .int x1), (2, .int x2), (3, .int x3), (4, .int x4), (5, .int x5)] [.int (i 7296)] i a q r (by rfl) ?_ | refine ko_steps mi_in117 4 _ (37, [(7, .ref 106), (6, .ref 114), (0, .ref 0), (1, .int x1), (2, .int x2), (3, .int x3), (4, .int x4), (5, .int x5)], [.int (i 7296)], (0, 0), ks i a q r) (by rfl) ?_
          refine ft_ifS mi_k117 ((i 7296) == 0) 48 40 [] (by rfl) (fun c => ?_) (fun c => ?_)
          ·
            have c570 : (i 7296).toInt = (0 : Int32).toInt := kd_eq c; clear c
            first | refine fo_goS mi_k117 fz117_48_1_50 [.int (-11)] (by rfl) ?_ | refine ft_go mi_k117 1 50 [(7, .ref 106), (6, .ref 114), (0, .ref 0), (1, .int x1), (2, .int x2), (3, .int x3), (4, .int x4), (5, .int x5)] [.int (-11)] i a q r (by rfl) ?_ | refine ko_steps mi_in117 1 _ (50, [(7, .ref 106), (6, .ref 114), (0, .ref 0), (1, .int x1), (2, .int x2), (3, .int x3), (4, .int x4), (5, .int x5)], [.int (-11)], (0, 0), ks i a q r) (by rfl) ?_
            have fi_6784 : ((0 : Int) ≤ (i 6784).toInt) ∧ ((i 6784).toInt ≤ 2) := hG.I.1 6784
            have fi_7298 : ((0 : Int) ≤ (i 7298).toInt) ∧ ((i 7298).toInt ≤ 4) := hG.I.1 7298
            have fi_6786 : ((0 : Int) ≤ (i 6786).toInt) ∧ ((i 6786).toInt ≤ 4) := hG.I.1 6786
            have fi_7299 : ((0 : Int) ≤ (i 7299).toInt) ∧ ((i 7299).toInt ≤ 60) := hG.I.1 7299
            have fi_6787 : ((0 : Int) ≤ (i 6787).toInt) ∧ ((i 6787).toInt ≤ 60) := hG.I.1 6787
            exact ft_ret mi_k117 (by rfl) (hP (-11) _ _ _ _ hG ⟨trivial, ⟨fun s t hs ht e1 e3 => by
        have es : s = 5 := kj_at e1 (oy146 w550 z2.2)
        have et : t = 1 := kj_at e3 (oy126 w569)
        subst es
        subst et
        exact ⟨(Or.inl ⟨kym11, (oy127 c570 fi_7296.1 ky0)⟩), fun h => absurd h (kj_neg kym11 (by decide))⟩, fun _ => (fun u hu => match u, hu with | 0, _ => rfl | 1, _ => rfl | 2, _ => rfl | 3, _ => rfl | 4, _ => rfl | 5, _ => rfl | _ + 6, h => absurd h (by omega)), fun h => absurd (oy179 w550 w569 z2.2 z4.2) h⟩⟩)
          ·
            have c571 : (i 7296).toInt ≠ (0 : Int32).toInt := kd_eqF c; clear c
            have fi_6784 : ((0 : Int) ≤ (i 6784).toInt) ∧ ((i 6784).toInt ≤ 2) := hG.I.1 6784
            first | refine fo_goL mi_k117 fz117_40_2_45 [(7, .ref 106), (6, .ref 114), (0, .ref 0), (1, .int x1), (2, .int x2), (3, .int x3), (4, .int x4), (5, .int x5)] [.int (i 6784)] (by rfl) ?_ | refine ft_go mi_k117 2 45 [(7, .ref 106), (6, .ref 114), (0, .ref 0), (1, .int x1), (2, .int x2), (3, .int x3), (4, .int x4), (5, .int x5)] [.int (i 6784)] i a q r (by rfl) ?_ | refine ko_steps mi_in117 2 _ (45, [(7, .ref 106), (6, .ref 114), (0, .ref 0), (1, .int x1), (2, .int x2), (3, .int x3), (4, .int x4), (5, .int x5)], [.int (i 6784)], (0, 0), ks i a q r) (by rfl) ?_
            refine ft_ifS mi_k117 ((i 6784) != 0) 51 48 [] (by rfl) (fun c => ?_) (fun c => ?_)
            ·
              have c572 : (i 6784).toInt ≠ (0 : Int32).toInt := kd_ne c; clear c
              first | refine fo_goS mi_k117 fz117_51_3_57 [.int 2, .int (i 7296)] (by rfl) ?_ | refine ft_go mi_k117 3 57 [(7, .ref 106), (6, .ref 114), (0, .ref 0), (1, .int x1), (2, .int x2), (3, .int x3), (4, .int x4), (5, .int x5)] [.int 2, .int (i 7296)] i a q r (by rfl) ?_ | refine ko_steps mi_in117 3 _ (57, [(7, .ref 106), (6, .ref 114), (0, .ref 0), (1, .int x1), (2, .int x2), (3, .int x3), (4, .int x4), (5, .int x5)], [.int 2, .int (i 7296)], (0, 0), ks i a q r) (by rfl) ?_
              refine ft_ifS mi_k117 ((i 7296) != 2) 82 60 [] (by rfl) (fun c => ?_) (fun c => ?_)
              ·
                have c573 : (i 7296).toInt ≠ (2 : Int32).toInt := kd_ne c; clear c
                first | refine fo_goS mi_k117 fz117_82_1_84 [.int (-12)] (by rfl) ?_ | refine ft_go mi_k117 1 84 [(7, .ref 106), (6, .ref 114), (0, .ref 0), (1, .int x1), (2, .int x2), (3, .int x3), (4, .int x4), (5, .int x5)] [.int (-12)] i a q r (by rfl) ?_ | refine ko_steps mi_in117 1 _ (84, [(7, .ref 106), (6, .ref 114), (0, .ref 0), (1, .int x1), (2, .int x2), (3, .int x3), (4, .int x4), (5, .int x5)], [.int (-12)], (0, 0), ks i a q r) (by rfl) ?_
                have fi_7298 : ((0 : Int) ≤ (i 7298).toInt) ∧ ((i 7298).toInt ≤ 4) := hG.I.1 7298
                have fi_6786 : ((0 : Int) ≤ (i 6786).toInt) ∧ ((i 6786).toInt ≤ 4) := hG.I.1 6786
                have fi_7299 : ((0 : Int) ≤ (i 7299).toInt) ∧ ((i 7299).toInt ≤ 60) := hG.I.1 7299
                have fi_6787 : ((0 : Int) ≤ (i 6787).toInt) ∧ ((i 6787).toInt ≤ 60) := hG.I.1 6787
                exact ft_ret mi_k117 (by rfl) (hP (-12) _ _ _ _ hG ⟨trivial, ⟨fun s t hs ht e1 e3 => by
        have es : s = 5 := kj_at e1 (oy146 w550 z2.2)
        have et : t = 1 := kj_at e3 (oy126 w569)
        subst es
        subst et
        exact ⟨(Or.inr (Or.inl ⟨kym12, (oy151 c571 c572 fi_6784.1 fi_7296.1 ky0), (oy130 c573 fi_7296.2 ky2)⟩)), fun h => absurd h (kj_neg kym12 (by decide))⟩, fun _ => (fun u hu => match u, hu with | 0, _ => rfl | 1, _ => rfl | 2, _ => rfl | 3, _ => rfl | 4, _ => rfl | 5, _ => rfl | _ + 6, h => absurd h (by omega)), fun h => absurd (oy179 w550 w569 z2.2 z4.2) h⟩⟩)
              ·
                have c574 : (i 7296).toInt = (2 : Int32).toInt := kd_neF c; clear c
                first | refine fo_goL mi_k117 fz117_60_3_66 [(7, .ref 106), (6, .ref 114), (0, .ref 0), (1, .int x1), (2, .int x2), (3, .int x3), (4, .int x4), (5, .int x5)] [.int 2, .int (i 6784)] (by rfl) ?_ | refine ft_go mi_k117 3 66 [(7, .ref 106), (6, .ref 114), (0, .ref 0), (1, .int x1), (2, .int x2), (3, .int x3), (4, .int x4), (5, .int x5)] [.int 2, .int (i 6784)] i a q r (by rfl) ?_ | refine ko_steps mi_in117 3 _ (66, [(7, .ref 106), (6, .ref 114), (0, .ref 0), (1, .int x1), (2, .int x2), (3, .int x3), (4, .int x4), (5, .int x5)], [.int 2, .int (i 6784)], (0, 0), ks i a q r) (by rfl) ?_
                refine ft_ifS mi_k117 ((i 6784) != 2) 82 69 [] (by rfl) (fun c => ?_) (fun c => ?_)
                ·
                  have c575 : (i 6784).toInt ≠ (2 : Int32).toInt := kd_ne c; clear c
                  first | refine fo_goS mi_k117 fz117_82_1_84 [.int (-12)] (by rfl) ?_ | refine ft_go mi_k117 1 84 [(7, .ref 106), (6, .ref 114), (0, .ref 0), (1, .int x1), (2, .int x2), (3, .int x3), (4, .int x4), (5, .int x5)] [.int (-12)] i a q r (by rfl) ?_ | refine ko_steps mi_in117 1 _ (84, [(7, .ref 106), (6, .ref 114), (0, .ref 0), (1, .int x1), (2, .int x2), (3, .int x3), (4, .int x4), (5, .int x5)], [.int (-12)], (0, 0), ks i a q r) (by rfl) ?_
                  have fi_7298 : ((0 : Int) ≤ (i 7298).toInt) ∧ ((i 7298).toInt ≤ 4) := hG.I.1 7298
                  have fi_6786 : ((0 : Int) ≤ (i 6786).toInt) ∧ ((i 6786).toInt ≤ 4) := hG.I.1 6786
                  have fi_7299 : ((0 : Int) ≤ (i 7299).toInt) ∧ ((i 7299).toInt ≤ 60) := hG.I.1 7299
                  have fi_6787 : ((0 : Int) ≤ (i 6787).toInt) ∧ ((i 6787).toInt ≤ 60) := hG.I.1 6787
                  exact ft_ret mi_k117 (by rfl) (hP (-12) _ _ _ _ hG ⟨trivial, ⟨fun s t hs ht e1 e3 => by
        have es : s = 5 := kj_at e1 (oy146 w550 z2.2)
        have et : t = 1 := kj_at e3 (oy126 w569)
        subst es
        subst et
        exact ⟨(Or.inr (Or.inl ⟨kym12, (oy131 c572 c574 fi_6784.1 ky0 ky2), (oy132 c575 fi_6784.2 ky2)⟩)), fun h => absurd h (kj_neg kym12 (by decide))⟩, fun _ => (fun u hu => match u, hu with | 0, _ => rfl | 1, _ => rfl | 2, _ => rfl | 3, _ => rfl | 4, _ => rfl | 5, _ => rfl | _ + 6, h => absurd h (by omega)), fun h => absurd (oy179 w550 w569 z2.2 z4.2) h⟩⟩)
                ·
                  have c576 : (i 6784).toInt = (2 : Int32).toInt := kd_neF c; clear c
                  have fi_7298 : ((0 : Int) ≤ (i 7298).toInt) ∧ ((i 7298).toInt ≤ 4) := hG.I.1 7298
                  have fi_6786 : ((0 : Int) ≤ (i 6786).toInt) ∧ ((i 6786).toInt ≤ 4) := hG.I.1 6786
                  first | refine fo_goL mi_k117 fz117_69_4_79 [(7, .ref 106), (6, .ref 114), (0, .ref 0), (1, .int x1), (2, .int x2), (3, .int x3), (4, .int x4), (5, .int x5)] [.int (i 6786), .int (i 7298)] (by rfl) ?_ | refine ft_go mi_k117 4 79 [(7, .ref 106), (6, .ref 114), (0, .ref 0), (1, .int x1), (2, .int x2), (3, .int x3), (4, .int x4), (5, .int x5)] [.int (i 6786), .int (i 7298)] i a q r (by rfl) ?_ | refine ko_steps mi_in117 4 _ (79, [(7, .ref 106), (6, .ref 114), (0, .ref 0), (1, .int x1), (2, .int x2), (3, .int x3), (4, .int x4), (5, .int x5)], [.int (i 6786), .int (i 7298)], (0, 0), ks i a q r) (by rfl) ?_
                  refine ft_ifS mi_k117 ((i 7298) == (i 6786)) 85 82 [] (by rfl) (fun c => ?_) (fun c => ?_)
                  ·
                    have c577 : (i 7298).toInt = (i 6786).toInt := kd_eq c; clear c
                    first | refine fo_goS mi_k117 fz117_85_3_90 [.int x5, .int x2, .ref 114] (by rfl) ?_ | refine ft_go mi_k117 3 90 [(7, .ref 106), (6, .ref 114), (0, .ref 0), (1, .int x1), (2, .int x2), (3, .int x3), (4, .int x4), (5, .int x5)] [.int x5, .int x2, .ref 114] i a q r (by rfl) ?_ | refine ko_steps mi_in117 3 _ (90, [(7, .ref 106), (6, .ref 114), (0, .ref 0), (1, .int x1), (2, .int x2), (3, .int x3), (4, .int x4), (5, .int x5)], [.int x5, .int x2, .ref 114], (0, 0), ks i a q r) (by rfl) ?_
                    refine ko_callPI mi_k117.1 (pc := 90) (ls := [(7, .ref 106), (6, .ref 114), (0, .ref 0), (1, .int x1), (2, .int x2), (3, .int x3), (4, .int x4), (5, .int x5)]) (st := [.int x5, .int x2, .ref 114]) (h := ks i a q r) (i := (.invokevirtual 324, 3, 37, 0, 9, 0, 316)) (mi_k117.2 _ _ (by rfl)) (ft_invS mi_pq37 (by rfl)) (cy := mi_c37) mi_pq37 rfl (kc37_114 hG.I hG.R x2 x5) (by decide) ?_
                    intro vg578 hg578
                    rcases hg578 with ⟨eg578, hg578⟩ | ⟨eg578, hg578⟩
                    ·
                      subst eg578
                      have fi_7299 : ((0 : Int) ≤ (i 7299).toInt) ∧ ((i 7299).toInt ≤ 60) := hG.I.1 7299
                      have z579 : ((0 : Int) ≤ x5.toInt) ∧ (x5.toInt ≤ (i 7299).toInt) ∧ ((0 : Int) ≤ x2.toInt) ∧ ((x2.toInt + x5.toInt) ≤ (i 7299).toInt) := hg578
                      first | refine fo_goS mi_k117 fz117_93_4_102 [.int x5, .int x4, .ref 106] (by rfl) ?_ | refine ft_go mi_k117 4 102 [(7, .ref 106), (6, .ref 114), (0, .ref 0), (1, .int x1), (2, .int x2), (3, .int x3), (4, .int x4), (5, .int x5)] [.int x5, .int x4, .ref 106] i a q r (by rfl) ?_ | refine ko_steps mi_in117 4 _ (102, [(7, .ref 106), (6, .ref 114), (0, .ref 0), (1, .int x1), (2, .int x2), (3, .int x3), (4, .int x4), (5, .int x5)], [.int x5, .int x4, .ref 106], (0, 0), ks i a q r) (by rfl) ?_
                      refine ko_callPI mi_k117.1 (pc := 102) (ls := [(7, .ref 106), (6, .ref 114), (0, .ref 0), (1, .int x1), (2, .int x2), (3, .int x3), (4, .int x4), (5, .int x5)]) (st := [.int x5, .int x4, .ref 106]) (h := ks i a q r) (i := (.invokevirtual 324, 3, 37, 0, 9, 0, 316)) (mi_k117.2 _ _ (by rfl)) (ft_invS mi_pq37 (by rfl)) (cy := mi_c37) mi_pq37 rfl (kc37_106 hG.I hG.R x4 x5) (by decide) ?_
                      intro vg580 hg580
                      rcases hg580 with ⟨eg580, hg580⟩ | ⟨eg580, hg580⟩
                      ·
                        subst eg580
                        have fi_6787 : ((0 : Int) ≤ (i 6787).toInt) ∧ ((i 6787).toInt ≤ 60) := hG.I.1 6787
                        have z581 : ((0 : Int) ≤ x5.toInt) ∧ (x5.toInt ≤ (i 6787).toInt) ∧ ((0 : Int) ≤ x4.toInt) ∧ ((x4.toInt + x5.toInt) ≤ (i 6787).toInt) := hg580
                        first | refine fo_goS mi_k117 fz117_105_8_126 [.int x5, .int x4, .ref 107, .int x2, .ref 115] (by rfl) ?_ | refine ft_go mi_k117 8 126 [(7, .ref 106), (6, .ref 114), (0, .ref 0), (1, .int x1), (2, .int x2), (3, .int x3), (4, .int x4), (5, .int x5)] [.int x5, .int x4, .ref 107, .int x2, .ref 115] i a q r (by rfl) ?_ | refine ko_steps mi_in117 8 _ (126, [(7, .ref 106), (6, .ref 114), (0, .ref 0), (1, .int x1), (2, .int x2), (3, .int x3), (4, .int x4), (5, .int x5)], [.int x5, .int x4, .ref 107, .int x2, .ref 115], (0, 0), ks i a q r) (by rfl) ?_
                        have hJ582 := kG_q hG 107 rfl (z := mi_cpy (q 115) (q 107) x2.toNatClampNeg x4.toNatClampNeg x5.toNatClampNeg) (kcpy_len2 (n := 60) (c := 60) (m := 60) (b := 60) (sp := x2) (dp := x4) (n1 := x5) (hG.I.2.2.2 115) rfl (hG.I.2.2.2 107) rfl (oy3 z579.1) (oy3 z579.2.2.1) (oy3 z581.2.2.1) (oy119 fi_7299.2 z579.2.2.2) (oy119 fi_6787.2 z581.2.2.2))
                        refine ko_copyL2 mi_k117.1 (l := q 115) (g := q 107) (n := 60) (c := 60) (m := 60) (b := 60) (mi_k117.2 _ _ (by rfl)) (by rfl) (by rfl) (by rfl) (by rfl) (by rfl) (hG.I.2.2.2 115) rfl (hG.I.2.2.2 107) rfl (oy3 z579.1) (oy3 z579.2.2.1) (oy3 z581.2.2.1) (oy119 fi_7299.2 z579.2.2.2) (oy119 fi_6787.2 z581.2.2.2) (h5 := ks i a (ku q 107 (mi_cpy (q 115) (q 107) x2.toNatClampNeg x4.toNatClampNeg x5.toNatClampNeg)) r) (by rfl) ?_
                        first | refine fo_goS mi_k117 fz117_129_1_131 [.int x5] (by rfl) ?_ | refine ft_go mi_k117 1 131 [(7, .ref 106), (6, .ref 114), (0, .ref 0), (1, .int x1), (2, .int x2), (3, .int x3), (4, .int x4), (5, .int x5)] [.int x5] i a (ku q 107 (mi_cpy (q 115) (q 107) x2.toNatClampNeg x4.toNatClampNeg x5.toNatClampNeg)) r (by rfl) ?_ | refine ko_steps mi_in117 1 _ (131, [(7, .ref 106), (6, .ref 114), (0, .ref 0), (1, .int x1), (2, .int x2), (3, .int x3), (4, .int x4), (5, .int x5)], [.int x5], (0, 0), ks i a (ku q 107 (mi_cpy (q 115) (q 107) x2.toNatClampNeg x4.toNatClampNeg x5.toNatClampNeg)) r) (by rfl) ?_
                        exact ft_ret mi_k117 (by rfl) (hP x5 _ _ _ _ hJ582 ⟨trivial, ⟨fun s t hs ht e1 e3 => by
        have es : s = 5 := kj_at e1 (oy146 w550 z2.2)
        have et : t = 1 := kj_at e3 (oy126 w569)
        subst es
        subst et
        exact ⟨(Or.inr (Or.inr (Or.inr ⟨rfl, (oy152 c574 c576 c577 fi_6784.2 fi_7296.2 ky2), (oy134 z579.1 z579.2.2.1 z579.2.2.2 z581.2.2.1 z581.2.2.2)⟩))), fun _ => ⟨rfl, (fun u hu ne => match u, hu, ne with | 0, _, _ => rfl | 1, _, ne => absurd rfl ne | 2, _, _ => rfl | 3, _, _ => rfl | 4, _, _ => rfl | 5, _, _ => rfl | _ + 6, h, _ => absurd h (by omega))⟩⟩, fun h => absurd h (oy26 z579.1), fun h => absurd (oy179 w550 w569 z2.2 z4.2) h⟩⟩)
                      ·
                        subst eg580
                        have fi_6787 : ((0 : Int) ≤ (i 6787).toInt) ∧ ((i 6787).toInt ≤ 60) := hG.I.1 6787
                        have z583 : ¬ (((0 : Int) ≤ x5.toInt) ∧ (x5.toInt ≤ (i 6787).toInt) ∧ ((0 : Int) ≤ x4.toInt) ∧ ((x4.toInt + x5.toInt) ≤ (i 6787).toInt)) := hg580
                        first | refine fo_goL mi_k117 fz117_93_2_110 [(7, .ref 106), (6, .ref 114), (0, .ref 0), (1, .int x1), (2, .int x2), (3, .int x3), (4, .int x4), (5, .int x5)] [.int (-13)] (by rfl) ?_ | refine fo_goL mi_k117 fz117_105_2_110 [(7, .ref 106), (6, .ref 114), (0, .ref 0), (1, .int x1), (2, .int x2), (3, .int x3), (4, .int x4), (5, .int x5)] [.int (-13)] (by rfl) ?_ | refine ft_go mi_k117 2 110 [(7, .ref 106), (6, .ref 114), (0, .ref 0), (1, .int x1), (2, .int x2), (3, .int x3), (4, .int x4), (5, .int x5)] [.int (-13)] i a q r (by rfl) ?_ | refine ko_steps mi_in117 2 _ (110, [(7, .ref 106), (6, .ref 114), (0, .ref 0), (1, .int x1), (2, .int x2), (3, .int x3), (4, .int x4), (5, .int x5)], [.int (-13)], (0, 0), ks i a q r) (by rfl) ?_
                        exact ft_ret mi_k117 (by rfl) (hP (-13) _ _ _ _ hG ⟨trivial, ⟨fun s t hs ht e1 e3 => by
        have es : s = 5 := kj_at e1 (oy146 w550 z2.2)
        have et : t = 1 := kj_at e3 (oy126 w569)
        subst es
        subst et
        exact ⟨(Or.inr (Or.inr (Or.inl ⟨kym13, (oy152 c574 c576 c577 fi_6784.2 fi_7296.2 ky2), (oy135 z579.1 z583)⟩))), fun h => absurd h (kj_neg kym13 (by decide))⟩, fun _ => (fun u hu => match u, hu with | 0, _ => rfl | 1, _ => rfl | 2, _ => rfl | 3, _ => rfl | 4, _ => rfl | 5, _ => rfl | _ + 6, h => absurd h (by omega)), fun h => absurd (oy179 w550 w569 z2.2 z4.2) h⟩⟩)
                    ·
                      subst eg578
                      have fi_7299 : ((0 : Int) ≤ (i 7299).toInt) ∧ ((i 7299).toInt ≤ 60) := hG.I.1 7299
                      have z584 : ¬ (((0 : Int) ≤ x5.toInt) ∧ (x5.toInt ≤ (i 7299).toInt) ∧ ((0 : Int) ≤ x2.toInt) ∧ ((x2.toInt + x5.toInt) ≤ (i 7299).toInt)) := hg578
                      first | refine fo_goL mi_k117 fz117_93_2_110 [(7, .ref 106), (6, .ref 114), (0, .ref 0), (1, .int x1), (2, .int x2), (3, .int x3), (4, .int x4), (5, .int x5)] [.int (-13)] (by rfl) ?_ | refine fo_goL mi_k117 fz117_105_2_110 [(7, .ref 106), (6, .ref 114), (0, .ref 0), (1, .int x1), (2, .int x2), (3, .int x3), (4, .int x4), (5, .int x5)] [.int (-13)] (by rfl) ?_ | refine ft_go mi_k117 2 110 [(7, .ref 106), (6, .ref 114), (0, .ref 0), (1, .int x1), (2, .int x2), (3, .int x3), (4, .int x4), (5, .int x5)] [.int (-13)] i a q r (by rfl) ?_ | refine ko_steps mi_in117 2 _ (110, [(7, .ref 106), (6, .ref 114), (0, .ref 0), (1, .int x1), (2, .int x2), (3, .int x3), (4, .int x4), (5, .int x5)], [.int (-13)], (0, 0), ks i a q r) (by rfl) ?_
                      have fi_6787 : ((0 : Int) ≤ (i 6787).toInt) ∧ ((i 6787).toInt ≤ 60) := hG.I.1 6787
                      exact ft_ret mi_k117 (by rfl) (hP (-13) _ _ _ _ hG ⟨trivial, ⟨fun s t hs ht e1 e3 => by
        have es : s = 5 := kj_at e1 (oy146 w550 z2.2)
        have et : t = 1 := kj_at e3 (oy126 w569)
        subst es
        subst et
        exact ⟨(Or.inr (Or.inr (Or.inl ⟨kym13, (oy152 c574 c576 c577 fi_6784.2 fi_7296.2 ky2), (oy136 z584)⟩))), fun h => absurd h (kj_neg kym13 (by decide))⟩, fun _ => (fun u hu => match u, hu with | 0, _ => rfl | 1, _ => rfl | 2, _ => rfl | 3, _ => rfl | 4, _ => rfl | 5, _ => rfl | _ + 6, h => absurd h (by omega)), fun h => absurd (oy179 w550 w569 z2.2 z4.2) h⟩⟩)
                  ·
                    have c585 : (i 7298).toInt ≠ (i 6786).toInt := kd_eqF c; clear c
                    first | refine fo_goL mi_k117 fz117_82_1_84 [(7, .ref 106), (6, .ref 114), (0, .ref 0), (1, .int x1), (2, .int x2), (3, .int x3), (4, .int x4), (5, .int x5)] [.int (-12)] (by rfl) ?_ | refine ft_go mi_k117 1 84 [(7, .ref 106), (6, .ref 114), (0, .ref 0), (1, .int x1), (2, .int x2), (3, .int x3), (4, .int x4), (5, .int x5)] [.int (-12)] i a q r (by rfl) ?_ | refine ko_steps mi_in117 1 _ (84, [(7, .ref 106), (6, .ref 114), (0, .ref 0), (1, .int x1), (2, .int x2), (3, .int x3), (4, .int x4), (5, .int x5)], [.int (-12)], (0, 0), ks i a q r) (by rfl) ?_
                    have fi_7299 : ((0 : Int) ≤ (i 7299).toInt) ∧ ((i 7299).toInt ≤ 60) := hG.I.1 7299
                    have fi_6787 : ((0 : Int) ≤ (i 6787).toInt) ∧ ((i 6787).toInt ≤ 60) := hG.I.1 6787
                    exact ft_ret mi_k117 (by rfl) (hP (-12) _ _ _ _ hG ⟨trivial, ⟨fun s t hs ht e1 e3 => by
        have es : s = 5 := kj_at e1 (oy146 w550 z2.2)
        have et : t = 1 := kj_at e3 (oy126 w569)
        subst es
        subst et
        exact ⟨(Or.inr (Or.inl ⟨kym12, (oy137 c574 c576 ky2), (oy138 c585)⟩)), fun h => absurd h (kj_neg kym12 (by decide))⟩, fun _ => (fun u hu => match u, hu with | 0, _ => rfl | 1, _ => rfl | 2, _ => rfl | 3, _ => rfl | 4, _ => rfl | 5, _ => rfl | _ + 6, h => absurd h (by omega)), fun h => absurd (oy179 w550 w569 z2.2 z4.2) h⟩⟩)
            ·
              have c586 : (i 6784).toInt = (0 : Int32).toInt := kd_neF c; clear c
              first | refine fo_goL mi_k117 fz117_48_1_50 [(7, .ref 106), (6, .ref 114), (0, .ref 0), (1, .int x1), (2, .int x2), (3, .int x3), (4, .int x4), (5, .int x5)] [.int (-11)] (by rfl) ?_ | refine ft_go mi_k117 1 50 [(7, .ref 106), (6, .ref 114), (0, .ref 0), (1, .int x1), (2, .int x2), (3, .int x3), (4, .int x4), (5, .int x5)] [.int (-11)] i a q r (by rfl) ?_ | refine ko_steps mi_in117 1 _ (50, [(7, .ref 106), (6, .ref 114), (0, .ref 0), (1, .int x1), (2, .int x2), (3, .int x3), (4, .int x4), (5, .int x5)], [.int (-11)], (0, 0), ks i a q r) (by rfl) ?_
              have fi_7298 : ((0 : Int) ≤ (i 7298).toInt) ∧ ((i 7298).toInt ≤ 4) := hG.I.1 7298
              have fi_6786 : ((0 : Int) ≤ (i 6786).toInt) ∧ ((i 6786).toInt ≤ 4) := hG.I.1 6786
              have fi_7299 : ((0 : Int) ≤ (i 7299).toInt) ∧ ((i 7299).toInt ≤ 60) := hG.I.1 7299
              have fi_6787 : ((0 : Int) ≤ (i 6787).toInt) ∧ ((i 6787).toInt ≤ 60) := hG.I.1 6787
              exact ft_ret mi_k117 (by rfl) (hP (-11) _ _ _ _ hG ⟨trivial, ⟨fun s t hs ht e1 e3 => by
        have es : s = 5 := kj_at e1 (oy146 w550 z2.2)
        have et : t = 1 := kj_at e3 (oy126 w569)
        subst es
        subst et
        exact ⟨(Or.inl ⟨kym11, (oy139 c586 fi_6784.1 ky0)⟩), fun h => absurd h (kj_neg kym11 (by decide))⟩, fun _ => (fun u hu => match u, hu with | 0, _ => rfl | 1, _ => rfl | 2, _ => rfl | 3, _ => rfl | 4, _ => rfl | 5, _ => rfl | _ + 6, h => absurd h (by omega)), fun h => absurd (oy179 w550 w569 z2.2 z4.2) h⟩⟩)
        by_cases w587 : x3.toInt = 2
        ·
          refine ko_eq (x1 := (29, [(6, .ref 114), (0, .ref 0), (1, .int x1), (2, .int x2), (3, .int x3), (4, .int x4), (5, .int x5)], [.int 2, .ref 97], (0, 0), ks i a q r)) (by rw [(kj_eq w587 (by decide) : x3 = 2)]) ?_
          have fi_7296 : ((0 : Int) ≤ (i 7296).toInt) ∧ ((i 7296).toInt ≤ 2) := hG.I.1 7296
          first | refine ft_goL mi_k117 4 37 [(7, .ref 108), (6, .ref 114), (0, .ref 0), (1, .int x1), (2, .int x2), (3, .int x3), (4, .int x4), (5, .int x5)] [.int (i 7296)] (by rfl) ?_ | refine ft_go mi_k117 4 37 [(7, .ref 108), (6, .ref 114), (0, .ref 0), (1, .int x1), (2, .int x2), (3, .int x3), (4, .int x4), (5, .int x5)] [.int (i 7296)] i a q r (by rfl) ?_ | refine ko_steps mi_in117 4 _ (37, [(7, .ref 108), (6, .ref 114), (0, .ref 0), (1, .int x1), (2, .int x2), (3, .int x3), (4, .int x4), (5, .int x5)], [.int (i 7296)], (0, 0), ks i a q r) (by rfl) ?_
          refine ft_ifS mi_k117 ((i 7296) == 0) 48 40 [] (by rfl) (fun c => ?_) (fun c => ?_)
          ·
            have c588 : (i 7296).toInt = (0 : Int32).toInt := kd_eq c; clear c
            first | refine fo_goS mi_k117 fz117_48_1_50 [.int (-11)] (by rfl) ?_ | refine ft_go mi_k117 1 50 [(7, .ref 108), (6, .ref 114), (0, .ref 0), (1, .int x1), (2, .int x2), (3, .int x3), (4, .int x4), (5, .int x5)] [.int (-11)] i a q r (by rfl) ?_ | refine ko_steps mi_in117 1 _ (50, [(7, .ref 108), (6, .ref 114), (0, .ref 0), (1, .int x1), (2, .int x2), (3, .int x3), (4, .int x4), (5, .int x5)], [.int (-11)], (0, 0), ks i a q r) (by rfl) ?_
            have fi_6912 : ((0 : Int) ≤ (i 6912).toInt) ∧ ((i 6912).toInt ≤ 2) := hG.I.1 6912
            have fi_7298 : ((0 : Int) ≤ (i 7298).toInt) ∧ ((i 7298).toInt ≤ 4) := hG.I.1 7298
            have fi_6914 : ((0 : Int) ≤ (i 6914).toInt) ∧ ((i 6914).toInt ≤ 4) := hG.I.1 6914
            have fi_7299 : ((0 : Int) ≤ (i 7299).toInt) ∧ ((i 7299).toInt ≤ 60) := hG.I.1 7299
            have fi_6915 : ((0 : Int) ≤ (i 6915).toInt) ∧ ((i 6915).toInt ≤ 60) := hG.I.1 6915
            exact ft_ret mi_k117 (by rfl) (hP (-11) _ _ _ _ hG ⟨trivial, ⟨fun s t hs ht e1 e3 => by
        have es : s = 5 := kj_at e1 (oy146 w550 z2.2)
        have et : t = 2 := kj_at e3 (oy140 w587)
        subst es
        subst et
        exact ⟨(Or.inl ⟨kym11, (oy127 c588 fi_7296.1 ky0)⟩), fun h => absurd h (kj_neg kym11 (by decide))⟩, fun _ => (fun u hu => match u, hu with | 0, _ => rfl | 1, _ => rfl | 2, _ => rfl | 3, _ => rfl | 4, _ => rfl | 5, _ => rfl | _ + 6, h => absurd h (by omega)), fun h => absurd (oy180 w550 w587 z2.2 z4.2) h⟩⟩)
          ·
            have c589 : (i 7296).toInt ≠ (0 : Int32).toInt := kd_eqF c; clear c
            have fi_6912 : ((0 : Int) ≤ (i 6912).toInt) ∧ ((i 6912).toInt ≤ 2) := hG.I.1 6912
            first | refine fo_goL mi_k117 fz117_40_2_45 [(7, .ref 108), (6, .ref 114), (0, .ref 0), (1, .int x1), (2, .int x2), (3, .int x3), (4, .int x4), (5, .int x5)] [.int (i 6912)] (by rfl) ?_ | refine ft_go mi_k117 2 45 [(7, .ref 108), (6, .ref 114), (0, .ref 0), (1, .int x1), (2, .int x2), (3, .int x3), (4, .int x4), (5, .int x5)] [.int (i 6912)] i a q r (by rfl) ?_ | refine ko_steps mi_in117 2 _ (45, [(7, .ref 108), (6, .ref 114), (0, .ref 0), (1, .int x1), (2, .int x2), (3, .int x3), (4, .int x4), (5, .int x5)], [.int (i 6912)], (0, 0), ks i a q r) (by rfl) ?_
            refine ft_ifS mi_k117 ((i 6912) != 0) 51 48 [] (by rfl) (fun c => ?_) (fun c => ?_)
            ·
              have c590 : (i 6912).toInt ≠ (0 : Int32).toInt := kd_ne c; clear c
              first | refine fo_goS mi_k117 fz117_51_3_57 [.int 2, .int (i 7296)] (by rfl) ?_ | refine ft_go mi_k117 3 57 [(7, .ref 108), (6, .ref 114), (0, .ref 0), (1, .int x1), (2, .int x2), (3, .int x3), (4, .int x4), (5, .int x5)] [.int 2, .int (i 7296)] i a q r (by rfl) ?_ | refine ko_steps mi_in117 3 _ (57, [(7, .ref 108), (6, .ref 114), (0, .ref 0), (1, .int x1), (2, .int x2), (3, .int x3), (4, .int x4), (5, .int x5)], [.int 2, .int (i 7296)], (0, 0), ks i a q r) (by rfl) ?_
              refine ft_ifS mi_k117 ((i 7296) != 2) 82 60 [] (by rfl) (fun c => ?_) (fun c => ?_)
              ·
                have c591 : (i 7296).toInt ≠ (2 : Int32).toInt := kd_ne c; clear c
                first | refine fo_goS mi_k117 fz117_82_1_84 [.int (-12)] (by rfl) ?_ | refine ft_go mi_k117 1 84 [(7, .ref 108), (6, .ref 114), (0, .ref 0), (1, .int x1), (2, .int x2), (3, .int x3), (4, .int x4), (5, .int x5)] [.int (-12)] i a q r (by rfl) ?_ | refine ko_steps mi_in117 1 _ (84, [(7, .ref 108), (6, .ref 114), (0, .ref 0), (1, .int x1), (2, .int x2), (3, .int x3), (4, .int x4), (5, .int x5)], [.int (-12)], (0, 0), ks i a q r) (by rfl) ?_
                have fi_7298 : ((0 : Int) ≤ (i 7298).toInt) ∧ ((i 7298).toInt ≤ 4) := hG.I.1 7298
                have fi_6914 : ((0 : Int) ≤ (i 6914).toInt) ∧ ((i 6914).toInt ≤ 4) := hG.I.1 6914
                have fi_7299 : ((0 : Int) ≤ (i 7299).toInt) ∧ ((i 7299).toInt ≤ 60) := hG.I.1 7299
                have fi_6915 : ((0 : Int) ≤ (i 6915).toInt) ∧ ((i 6915).toInt ≤ 60) := hG.I.1 6915
                exact ft_ret mi_k117 (by rfl) (hP (-12) _ _ _ _ hG ⟨trivial, ⟨fun s t hs ht e1 e3 => by
        have es : s = 5 := kj_at e1 (oy146 w550 z2.2)
        have et : t = 2 := kj_at e3 (oy140 w587)
        subst es
        subst et
        exact ⟨(Or.inr (Or.inl ⟨kym12, (oy151 c589 c590 fi_6912.1 fi_7296.1 ky0), (oy130 c591 fi_7296.2 ky2)⟩)), fun h => absurd h (kj_neg kym12 (by decide))⟩, fun _ => (fun u hu => match u, hu with | 0, _ => rfl | 1, _ => rfl | 2, _ => rfl | 3, _ => rfl | 4, _ => rfl | 5, _ => rfl | _ + 6, h => absurd h (by omega)), fun h => absurd (oy180 w550 w587 z2.2 z4.2) h⟩⟩)
              ·
                have c592 : (i 7296).toInt = (2 : Int32).toInt := kd_neF c; clear c
                first | refine fo_goL mi_k117 fz117_60_3_66 [(7, .ref 108), (6, .ref 114), (0, .ref 0), (1, .int x1), (2, .int x2), (3, .int x3), (4, .int x4), (5, .int x5)] [.int 2, .int (i 6912)] (by rfl) ?_ | refine ft_go mi_k117 3 66 [(7, .ref 108), (6, .ref 114), (0, .ref 0), (1, .int x1), (2, .int x2), (3, .int x3), (4, .int x4), (5, .int x5)] [.int 2, .int (i 6912)] i a q r (by rfl) ?_ | refine ko_steps mi_in117 3 _ (66, [(7, .ref 108), (6, .ref 114), (0, .ref 0), (1, .int x1), (2, .int x2), (3, .int x3), (4, .int x4), (5, .int x5)], [.int 2, .int (i 6912)], (0, 0), ks i a q r) (by rfl) ?_
                refine ft_ifS mi_k117 ((i 6912) != 2) 82 69 [] (by rfl) (fun c => ?_) (fun c => ?_)
                ·
                  have c593 : (i 6912).toInt ≠ (2 : Int32).toInt := kd_ne c; clear c
                  first | refine fo_goS mi_k117 fz117_82_1_84 [.int (-12)] (by rfl) ?_ | refine ft_go mi_k117 1 84 [(7, .ref 108), (6, .ref 114), (0, .ref 0), (1, .int x1), (2, .int x2), (3, .int x3), (4, .int x4), (5, .int x5)] [.int (-12)] i a q r (by rfl) ?_ | refine ko_steps mi_in117 1 _ (84, [(7, .ref 108), (6, .ref 114), (0, .ref 0), (1, .int x1), (2, .int x2), (3, .int x3), (4, .int x4), (5, .int x5)], [.int (-12)], (0, 0), ks i a q r) (by rfl) ?_
                  have fi_7298 : ((0 : Int) ≤ (i 7298).toInt) ∧ ((i 7298).toInt ≤ 4) := hG.I.1 7298
                  have fi_6914 : ((0 : Int) ≤ (i 6914).toInt) ∧ ((i 6914).toInt ≤ 4) := hG.I.1 6914
                  have fi_7299 : ((0 : Int) ≤ (i 7299).toInt) ∧ ((i 7299).toInt ≤ 60) := hG.I.1 7299
                  have fi_6915 : ((0 : Int) ≤ (i 6915).toInt) ∧ ((i 6915).toInt ≤ 60) := hG.I.1 6915
                  exact ft_ret mi_k117 (by rfl) (hP (-12) _ _ _ _ hG ⟨trivial, ⟨fun s t hs ht e1 e3 => by
        have es : s = 5 := kj_at e1 (oy146 w550 z2.2)
        have et : t = 2 := kj_at e3 (oy140 w587)
        subst es
        subst et
        exact ⟨(Or.inr (Or.inl ⟨kym12, (oy131 c590 c592 fi_6912.1 ky0 ky2), (oy132 c593 fi_6912.2 ky2)⟩)), fun h => absurd h (kj_neg kym12 (by decide))⟩, fun _ => (fun u hu => match u, hu with | 0, _ => rfl | 1, _ => rfl | 2, _ => rfl | 3, _ => rfl | 4, _ => rfl | 5, _ => rfl | _ + 6, h => absurd h (by omega)), fun h => absurd (oy180 w550 w587 z2.2 z4.2) h⟩⟩)
                ·
                  have c594 : (i 6912).toInt = (2 : Int32).toInt := kd_neF c; clear c
                  have fi_7298 : ((0 : Int) ≤ (i 7298).toInt) ∧ ((i 7298).toInt ≤ 4) := hG.I.1 7298
                  have fi_6914 : ((0 : Int) ≤ (i 6914).toInt) ∧ ((i 6914).toInt ≤ 4) := hG.I.1 6914
                  first | refine fo_goL mi_k117 fz117_69_4_79 [(7, .ref 108), (6, .ref 114), (0, .ref 0), (1, .int x1), (2, .int x2), (3, .int x3), (4, .int x4), (5, .int x5)] [.int (i 6914), .int (i 7298)] (by rfl) ?_ | refine ft_go mi_k117 4 79 [(7, .ref 108), (6, .ref 114), (0, .ref 0), (1, .int x1), (2, .int x2), (3, .int x3), (4, .int x4), (5, .int x5)] [.int (i 6914), .int (i 7298)] i a q r (by rfl) ?_ | refine ko_steps mi_in117 4 _ (79, [(7, .ref 108), (6, .ref 114), (0, .ref 0), (1, .int x1), (2, .int x2), (3, .int x3), (4, .int x4), (5, .int x5)], [.int (i 6914), .int (i 7298)], (0, 0), ks i a q r) (by rfl) ?_
                  refine ft_ifS mi_k117 ((i 7298) == (i 6914)) 85 82 [] (by rfl) (fun c => ?_) (fun c => ?_)
                  ·
                    have c595 : (i 7298).toInt = (i 6914).toInt := kd_eq c; clear c
                    first | refine fo_goS mi_k117 fz117_85_3_90 [.int x5, .int x2, .ref 114] (by rfl) ?_ | refine ft_go mi_k117 3 90 [(7, .ref 108), (6, .ref 114), (0, .ref 0), (1, .int x1), (2, .int x2), (3, .int x3), (4, .int x4), (5, .int x5)] [.int x5, .int x2, .ref 114] i a q r (by rfl) ?_ | refine ko_steps mi_in117 3 _ (90, [(7, .ref 108), (6, .ref 114), (0, .ref 0), (1, .int x1), (2, .int x2), (3, .int x3), (4, .int x4), (5, .int x5)], [.int x5, .int x2, .ref 114], (0, 0), ks i a q r) (by rfl) ?_
                    refine ko_callPI mi_k117.1 (pc := 90) (ls := [(7, .ref 108), (6, .ref 114), (0, .ref 0), (1, .int x1), (2, .int x2), (3, .int x3), (4, .int x4), (5, .int x5)]) (st := [.int x5, .int x2, .ref 114]) (h := ks i a q r) (i := (.invokevirtual 324, 3, 37, 0, 9, 0, 316)) (mi_k117.2 _ _ (by rfl)) (ft_invS mi_pq37 (by rfl)) (cy := mi_c37) mi_pq37 rfl (kc37_114 hG.I hG.R x2 x5) (by decide) ?_
                    intro vg596 hg596
                    rcases hg596 with ⟨eg596, hg596⟩ | ⟨eg596, hg596⟩
                    ·
                      subst eg596
                      have fi_7299 : ((0 : Int) ≤ (i 7299).toInt) ∧ ((i 7299).toInt ≤ 60) := hG.I.1 7299
                      have z597 : ((0 : Int) ≤ x5.toInt) ∧ (x5.toInt ≤ (i 7299).toInt) ∧ ((0 : Int) ≤ x2.toInt) ∧ ((x2.toInt + x5.toInt) ≤ (i 7299).toInt) := hg596
                      first | refine fo_goS mi_k117 fz117_93_4_102 [.int x5, .int x4, .ref 108] (by rfl) ?_ | refine ft_go mi_k117 4 102 [(7, .ref 108), (6, .ref 114), (0, .ref 0), (1, .int x1), (2, .int x2), (3, .int x3), (4, .int x4), (5, .int x5)] [.int x5, .int x4, .ref 108] i a q r (by rfl) ?_ | refine ko_steps mi_in117 4 _ (102, [(7, .ref 108), (6, .ref 114), (0, .ref 0), (1, .int x1), (2, .int x2), (3, .int x3), (4, .int x4), (5, .int x5)], [.int x5, .int x4, .ref 108], (0, 0), ks i a q r) (by rfl) ?_
                      refine ko_callPI mi_k117.1 (pc := 102) (ls := [(7, .ref 108), (6, .ref 114), (0, .ref 0), (1, .int x1), (2, .int x2), (3, .int x3), (4, .int x4), (5, .int x5)]) (st := [.int x5, .int x4, .ref 108]) (h := ks i a q r) (i := (.invokevirtual 324, 3, 37, 0, 9, 0, 316)) (mi_k117.2 _ _ (by rfl)) (ft_invS mi_pq37 (by rfl)) (cy := mi_c37) mi_pq37 rfl (kc37_108 hG.I hG.R x4 x5) (by decide) ?_
                      intro vg598 hg598
                      rcases hg598 with ⟨eg598, hg598⟩ | ⟨eg598, hg598⟩
                      ·
                        subst eg598
                        have fi_6915 : ((0 : Int) ≤ (i 6915).toInt) ∧ ((i 6915).toInt ≤ 60) := hG.I.1 6915
                        have z599 : ((0 : Int) ≤ x5.toInt) ∧ (x5.toInt ≤ (i 6915).toInt) ∧ ((0 : Int) ≤ x4.toInt) ∧ ((x4.toInt + x5.toInt) ≤ (i 6915).toInt) := hg598
                        first | refine fo_goS mi_k117 fz117_105_8_126 [.int x5, .int x4, .ref 109, .int x2, .ref 115] (by rfl) ?_ | refine ft_go mi_k117 8 126 [(7, .ref 108), (6, .ref 114), (0, .ref 0), (1, .int x1), (2, .int x2), (3, .int x3), (4, .int x4), (5, .int x5)] [.int x5, .int x4, .ref 109, .int x2, .ref 115] i a q r (by rfl) ?_ | refine ko_steps mi_in117 8 _ (126, [(7, .ref 108), (6, .ref 114), (0, .ref 0), (1, .int x1), (2, .int x2), (3, .int x3), (4, .int x4), (5, .int x5)], [.int x5, .int x4, .ref 109, .int x2, .ref 115], (0, 0), ks i a q r) (by rfl) ?_
                        have hJ600 := kG_q hG 109 rfl (z := mi_cpy (q 115) (q 109) x2.toNatClampNeg x4.toNatClampNeg x5.toNatClampNeg) (kcpy_len2 (n := 60) (c := 60) (m := 60) (b := 60) (sp := x2) (dp := x4) (n1 := x5) (hG.I.2.2.2 115) rfl (hG.I.2.2.2 109) rfl (oy3 z597.1) (oy3 z597.2.2.1) (oy3 z599.2.2.1) (oy119 fi_7299.2 z597.2.2.2) (oy119 fi_6915.2 z599.2.2.2))
                        refine ko_copyL2 mi_k117.1 (l := q 115) (g := q 109) (n := 60) (c := 60) (m := 60) (b := 60) (mi_k117.2 _ _ (by rfl)) (by rfl) (by rfl) (by rfl) (by rfl) (by rfl) (hG.I.2.2.2 115) rfl (hG.I.2.2.2 109) rfl (oy3 z597.1) (oy3 z597.2.2.1) (oy3 z599.2.2.1) (oy119 fi_7299.2 z597.2.2.2) (oy119 fi_6915.2 z599.2.2.2) (h5 := ks i a (ku q 109 (mi_cpy (q 115) (q 109) x2.toNatClampNeg x4.toNatClampNeg x5.toNatClampNeg)) r) (by rfl) ?_
                        first | refine fo_goS mi_k117 fz117_129_1_131 [.int x5] (by rfl) ?_ | refine ft_go mi_k117 1 131 [(7, .ref 108), (6, .ref 114), (0, .ref 0), (1, .int x1), (2, .int x2), (3, .int x3), (4, .int x4), (5, .int x5)] [.int x5] i a (ku q 109 (mi_cpy (q 115) (q 109) x2.toNatClampNeg x4.toNatClampNeg x5.toNatClampNeg)) r (by rfl) ?_ | refine ko_steps mi_in117 1 _ (131, [(7, .ref 108), (6, .ref 114), (0, .ref 0), (1, .int x1), (2, .int x2), (3, .int x3), (4, .int x4), (5, .int x5)], [.int x5], (0, 0), ks i a (ku q 109 (mi_cpy (q 115) (q 109) x2.toNatClampNeg x4.toNatClampNeg x5.toNatClampNeg)) r) (by rfl) ?_
                        exact ft_ret mi_k117 (by rfl) (hP x5 _ _ _ _ hJ600 ⟨trivial, ⟨fun s t hs ht e1 e3 => by
        have es : s = 5 := kj_at e1 (oy146 w550 z2.2)
        have et : t = 2 := kj_at e3 (oy140 w587)
        subst es
        subst et
        exact ⟨(Or.inr (Or.inr (Or.inr ⟨rfl, (oy152 c592 c594 c595 fi_6912.2 fi_7296.2 ky2), (oy134 z597.1 z597.2.2.1 z597.2.2.2 z599.2.2.1 z599.2.2.2)⟩))), fun _ => ⟨rfl, (fun u hu ne => match u, hu, ne with | 0, _, _ => rfl | 1, _, _ => rfl | 2, _, ne => absurd rfl ne | 3, _, _ => rfl | 4, _, _ => rfl | 5, _, _ => rfl | _ + 6, h, _ => absurd h (by omega))⟩⟩, fun h => absurd h (oy26 z597.1), fun h => absurd (oy180 w550 w587 z2.2 z4.2) h⟩⟩)
                      ·
                        subst eg598
                        have fi_6915 : ((0 : Int) ≤ (i 6915).toInt) ∧ ((i 6915).toInt ≤ 60) := hG.I.1 6915
                        have z601 : ¬ (((0 : Int) ≤ x5.toInt) ∧ (x5.toInt ≤ (i 6915).toInt) ∧ ((0 : Int) ≤ x4.toInt) ∧ ((x4.toInt + x5.toInt) ≤ (i 6915).toInt)) := hg598
                        first | refine fo_goL mi_k117 fz117_93_2_110 [(7, .ref 108), (6, .ref 114), (0, .ref 0), (1, .int x1), (2, .int x2), (3, .int x3), (4, .int x4), (5, .int x5)] [.int (-13)] (by rfl) ?_ | refine fo_goL mi_k117 fz117_105_2_110 [(7, .ref 108), (6, .ref 114), (0, .ref 0), (1, .int x1), (2, .int x2), (3, .int x3), (4, .int x4), (5, .int x5)] [.int (-13)] (by rfl) ?_ | refine ft_go mi_k117 2 110 [(7, .ref 108), (6, .ref 114), (0, .ref 0), (1, .int x1), (2, .int x2), (3, .int x3), (4, .int x4), (5, .int x5)] [.int (-13)] i a q r (by rfl) ?_ | refine ko_steps mi_in117 2 _ (110, [(7, .ref 108), (6, .ref 114), (0, .ref 0), (1, .int x1), (2, .int x2), (3, .int x3), (4, .int x4), (5, .int x5)], [.int (-13)], (0, 0), ks i a q r) (by rfl) ?_
                        exact ft_ret mi_k117 (by rfl) (hP (-13) _ _ _ _ hG ⟨trivial, ⟨fun s t hs ht e1 e3 => by
        have es : s = 5 := kj_at e1 (oy146 w550 z2.2)
        have et : t = 2 := kj_at e3 (oy140 w587)
        subst es
        subst et
        exact ⟨(Or.inr (Or.inr (Or.inl ⟨kym13, (oy152 c592 c594 c595 fi_6912.2 fi_7296.2 ky2), (oy135 z597.1 z601)⟩))), fun h => absurd h (kj_neg kym13 (by decide))⟩, fun _ => (fun u hu => match u, hu with | 0, _ => rfl | 1, _ => rfl | 2, _ => rfl | 3, _ => rfl | 4, _ => rfl | 5, _ => rfl | _ + 6, h => absurd h (by omega)), fun h => absurd (oy180 w550 w587 z2.2 z4.2) h⟩⟩)
                    ·
                      subst eg596
                      have fi_7299 : ((0 : Int) ≤ (i 7299).toInt) ∧ ((i 7299).toInt ≤ 60) := hG.I.1 7299
                      have z602 : ¬ (((0 : Int) ≤ x5.toInt) ∧ (x5.toInt ≤ (i 7299).toInt) ∧ ((0 : Int) ≤ x2.toInt) ∧ ((x2.toInt + x5.toInt) ≤ (i 7299).toInt)) := hg596
                      first | refine fo_goL mi_k117 fz117_93_2_110 [(7, .ref 108), (6, .ref 114), (0, .ref 0), (1, .int x1), (2, .int x2), (3, .int x3), (4, .int x4), (5, .int x5)] [.int (-13)] (by rfl) ?_ | refine fo_goL mi_k117 fz117_105_2_110 [(7, .ref 108), (6, .ref 114), (0, .ref 0), (1, .int x1), (2, .int x2), (3, .int x3), (4, .int x4), (5, .int x5)] [.int (-13)] (by rfl) ?_ | refine ft_go mi_k117 2 110 [(7, .ref 108), (6, .ref 114), (0, .ref 0), (1, .int x1), (2, .int x2), (3, .int x3), (4, .int x4), (5, .int x5)] [.int (-13)] i a q r (by rfl) ?_ | refine ko_steps mi_in117 2 _ (110, [(7, .ref 108), (6, .ref 114), (0, .ref 0), (1, .int x1), (2, .int x2), (3, .int x3), (4, .int x4), (5, .int x5)], [.int (-13)], (0, 0), ks i a q r) (by rfl) ?_
                      have fi_6915 : ((0 : Int) ≤ (i 6915).toInt) ∧ ((i 6915).toInt ≤ 60) := hG.I.1 6915
                      exact ft_ret mi_k117 (by rfl) (hP (-13) _ _ _ _ hG ⟨trivial, ⟨fun s t hs ht e1 e3 => by
        have es : s = 5 := kj_at e1 (oy146 w550 z2.2)
        have et : t = 2 := kj_at e3 (oy140 w587)
        subst es
        subst et
        exact ⟨(Or.inr (Or.inr (Or.inl ⟨kym13, (oy152 c592 c594 c595 fi_6912.2 fi_7296.2 ky2), (oy136 z602)⟩))), fun h => absurd h (kj_neg kym13 (by decide))⟩, fun _ => (fun u hu => match u, hu with | 0, _ => rfl | 1, _ => rfl | 2, _ => rfl | 3, _ => rfl | 4, _ => rfl | 5, _ => rfl | _ + 6, h => absurd h (by omega)), fun h => absurd (oy180 w550 w587 z2.2 z4.2) h⟩⟩)
                  ·
                    have c603 : (i 7298).toInt ≠ (i 6914).toInt := kd_eqF c; clear c
                    first | refine fo_goL mi_k117 fz117_82_1_84 [(7, .ref 108), (6, .ref 114), (0, .ref 0), (1, .int x1), (2, .int x2), (3, .int x3), (4, .int x4), (5, .int x5)] [.int (-12)] (by rfl) ?_ | refine ft_go mi_k117 1 84 [(7, .ref 108), (6, .ref 114), (0, .ref 0), (1, .int x1), (2, .int x2), (3, .int x3), (4, .int x4), (5, .int x5)] [.int (-12)] i a q r (by rfl) ?_ | refine ko_steps mi_in117 1 _ (84, [(7, .ref 108), (6, .ref 114), (0, .ref 0), (1, .int x1), (2, .int x2), (3, .int x3), (4, .int x4), (5, .int x5)], [.int (-12)], (0, 0), ks i a q r) (by rfl) ?_
                    have fi_7299 : ((0 : Int) ≤ (i 7299).toInt) ∧ ((i 7299).toInt ≤ 60) := hG.I.1 7299
                    have fi_6915 : ((0 : Int) ≤ (i 6915).toInt) ∧ ((i 6915).toInt ≤ 60) := hG.I.1 6915
                    exact ft_ret mi_k117 (by rfl) (hP (-12) _ _ _ _ hG ⟨trivial, ⟨fun s t hs ht e1 e3 => by
        have es : s = 5 := kj_at e1 (oy146 w550 z2.2)
        have et : t = 2 := kj_at e3 (oy140 w587)
        subst es
        subst et
        exact ⟨(Or.inr (Or.inl ⟨kym12, (oy137 c592 c594 ky2), (oy138 c603)⟩)), fun h => absurd h (kj_neg kym12 (by decide))⟩, fun _ => (fun u hu => match u, hu with | 0, _ => rfl | 1, _ => rfl | 2, _ => rfl | 3, _ => rfl | 4, _ => rfl | 5, _ => rfl | _ + 6, h => absurd h (by omega)), fun h => absurd (oy180 w550 w587 z2.2 z4.2) h⟩⟩)
            ·
              have c604 : (i 6912).toInt = (0 : Int32).toInt := kd_neF c; clear c
              first | refine fo_goL mi_k117 fz117_48_1_50 [(7, .ref 108), (6, .ref 114), (0, .ref 0), (1, .int x1), (2, .int x2), (3, .int x3), (4, .int x4), (5, .int x5)] [.int (-11)] (by rfl) ?_ | refine ft_go mi_k117 1 50 [(7, .ref 108), (6, .ref 114), (0, .ref 0), (1, .int x1), (2, .int x2), (3, .int x3), (4, .int x4), (5, .int x5)] [.int (-11)] i a q r (by rfl) ?_ | refine ko_steps mi_in117 1 _ (50, [(7, .ref 108), (6, .ref 114), (0, .ref 0), (1, .int x1), (2, .int x2), (3, .int x3), (4, .int x4), (5, .int x5)], [.int (-11)], (0, 0), ks i a q r) (by rfl) ?_
              have fi_7298 : ((0 : Int) ≤ (i 7298).toInt) ∧ ((i 7298).toInt ≤ 4) := hG.I.1 7298
              have fi_6914 : ((0 : Int) ≤ (i 6914).toInt) ∧ ((i 6914).toInt ≤ 4) := hG.I.1 6914
              have fi_7299 : ((0 : Int) ≤ (i 7299).toInt) ∧ ((i 7299).toInt ≤ 60) := hG.I.1 7299
              have fi_6915 : ((0 : Int) ≤ (i 6915).toInt) ∧ ((i 6915).toInt ≤ 60) := hG.I.1 6915
              exact ft_ret mi_k117 (by rfl) (hP (-11) _ _ _ _ hG ⟨trivial, ⟨fun s t hs ht e1 e3 => by
        have es : s = 5 := kj_at e1 (oy146 w550 z2.2)
        have et : t = 2 := kj_at e3 (oy140 w587)
        subst es
        subst et
        exact ⟨(Or.inl ⟨kym11, (oy139 c604 fi_6912.1 ky0)⟩), fun h => absurd h (kj_neg kym11 (by decide))⟩, fun _ => (fun u hu => match u, hu with | 0, _ => rfl | 1, _ => rfl | 2, _ => rfl | 3, _ => rfl | 4, _ => rfl | 5, _ => rfl | _ + 6, h => absurd h (by omega)), fun h => absurd (oy180 w550 w587 z2.2 z4.2) h⟩⟩)
        by_cases w605 : x3.toInt = 3
        ·
          refine ko_eq (x1 := (29, [(6, .ref 114), (0, .ref 0), (1, .int x1), (2, .int x2), (3, .int x3), (4, .int x4), (5, .int x5)], [.int 3, .ref 97], (0, 0), ks i a q r)) (by rw [(kj_eq w605 (by decide) : x3 = 3)]) ?_
          have fi_7296 : ((0 : Int) ≤ (i 7296).toInt) ∧ ((i 7296).toInt ≤ 2) := hG.I.1 7296
          first | refine ft_goL mi_k117 4 37 [(7, .ref 110), (6, .ref 114), (0, .ref 0), (1, .int x1), (2, .int x2), (3, .int x3), (4, .int x4), (5, .int x5)] [.int (i 7296)] (by rfl) ?_ | refine ft_go mi_k117 4 37 [(7, .ref 110), (6, .ref 114), (0, .ref 0), (1, .int x1), (2, .int x2), (3, .int x3), (4, .int x4), (5, .int x5)] [.int (i 7296)] i a q r (by rfl) ?_ | refine ko_steps mi_in117 4 _ (37, [(7, .ref 110), (6, .ref 114), (0, .ref 0), (1, .int x1), (2, .int x2), (3, .int x3), (4, .int x4), (5, .int x5)], [.int (i 7296)], (0, 0), ks i a q r) (by rfl) ?_
          refine ft_ifS mi_k117 ((i 7296) == 0) 48 40 [] (by rfl) (fun c => ?_) (fun c => ?_)
          ·
            have c606 : (i 7296).toInt = (0 : Int32).toInt := kd_eq c; clear c
            first | refine fo_goS mi_k117 fz117_48_1_50 [.int (-11)] (by rfl) ?_ | refine ft_go mi_k117 1 50 [(7, .ref 110), (6, .ref 114), (0, .ref 0), (1, .int x1), (2, .int x2), (3, .int x3), (4, .int x4), (5, .int x5)] [.int (-11)] i a q r (by rfl) ?_ | refine ko_steps mi_in117 1 _ (50, [(7, .ref 110), (6, .ref 114), (0, .ref 0), (1, .int x1), (2, .int x2), (3, .int x3), (4, .int x4), (5, .int x5)], [.int (-11)], (0, 0), ks i a q r) (by rfl) ?_
            have fi_7040 : ((0 : Int) ≤ (i 7040).toInt) ∧ ((i 7040).toInt ≤ 2) := hG.I.1 7040
            have fi_7298 : ((0 : Int) ≤ (i 7298).toInt) ∧ ((i 7298).toInt ≤ 4) := hG.I.1 7298
            have fi_7042 : ((0 : Int) ≤ (i 7042).toInt) ∧ ((i 7042).toInt ≤ 4) := hG.I.1 7042
            have fi_7299 : ((0 : Int) ≤ (i 7299).toInt) ∧ ((i 7299).toInt ≤ 60) := hG.I.1 7299
            have fi_7043 : ((0 : Int) ≤ (i 7043).toInt) ∧ ((i 7043).toInt ≤ 60) := hG.I.1 7043
            exact ft_ret mi_k117 (by rfl) (hP (-11) _ _ _ _ hG ⟨trivial, ⟨fun s t hs ht e1 e3 => by
        have es : s = 5 := kj_at e1 (oy146 w550 z2.2)
        have et : t = 3 := kj_at e3 (oy142 w605)
        subst es
        subst et
        exact ⟨(Or.inl ⟨kym11, (oy127 c606 fi_7296.1 ky0)⟩), fun h => absurd h (kj_neg kym11 (by decide))⟩, fun _ => (fun u hu => match u, hu with | 0, _ => rfl | 1, _ => rfl | 2, _ => rfl | 3, _ => rfl | 4, _ => rfl | 5, _ => rfl | _ + 6, h => absurd h (by omega)), fun h => absurd (oy181 w550 w605 z2.2 z4.2) h⟩⟩)
          ·
            have c607 : (i 7296).toInt ≠ (0 : Int32).toInt := kd_eqF c; clear c
            have fi_7040 : ((0 : Int) ≤ (i 7040).toInt) ∧ ((i 7040).toInt ≤ 2) := hG.I.1 7040
            first | refine fo_goL mi_k117 fz117_40_2_45 [(7, .ref 110), (6, .ref 114), (0, .ref 0), (1, .int x1), (2, .int x2), (3, .int x3), (4, .int x4), (5, .int x5)] [.int (i 7040)] (by rfl) ?_ | refine ft_go mi_k117 2 45 [(7, .ref 110), (6, .ref 114), (0, .ref 0), (1, .int x1), (2, .int x2), (3, .int x3), (4, .int x4), (5, .int x5)] [.int (i 7040)] i a q r (by rfl) ?_ | refine ko_steps mi_in117 2 _ (45, [(7, .ref 110), (6, .ref 114), (0, .ref 0), (1, .int x1), (2, .int x2), (3, .int x3), (4, .int x4), (5, .int x5)], [.int (i 7040)], (0, 0), ks i a q r) (by rfl) ?_
            refine ft_ifS mi_k117 ((i 7040) != 0) 51 48 [] (by rfl) (fun c => ?_) (fun c => ?_)
            ·
              have c608 : (i 7040).toInt ≠ (0 : Int32).toInt := kd_ne c; clear c
              first | refine fo_goS mi_k117 fz117_51_3_57 [.int 2, .int (i 7296)] (by rfl) ?_ | refine ft_go mi_k117 3 57 [(7, .ref 110), (6, .ref 114), (0, .ref 0), (1, .int x1), (2, .int x2), (3, .int x3), (4, .int x4), (5, .int x5)] [.int 2, .int (i 7296)] i a q r (by rfl) ?_ | refine ko_steps mi_in117 3 _ (57, [(7, .ref 110), (6, .ref 114), (0, .ref 0), (1, .int x1), (2, .int x2), (3, .int x3), (4, .int x4), (5, .int x5)], [.int 2, .int (i 7296)], (0, 0), ks i a q r) (by rfl) ?_
              refine ft_ifS mi_k117 ((i 7296) != 2) 82 60 [] (by rfl) (fun c => ?_) (fun c => ?_)
              ·
                have c609 : (i 7296).toInt ≠ (2 : Int32).toInt := kd_ne c; clear c
                first | refine fo_goS mi_k117 fz117_82_1_84 [.int (-12)] (by rfl) ?_ | refine ft_go mi_k117 1 84 [(7, .ref 110), (6, .ref 114), (0, .ref 0), (1, .int x1), (2, .int x2), (3, .int x3), (4, .int x4), (5, .int x5)] [.int (-12)] i a q r (by rfl) ?_ | refine ko_steps mi_in117 1 _ (84, [(7, .ref 110), (6, .ref 114), (0, .ref 0), (1, .int x1), (2, .int x2), (3, .int x3), (4, .int x4), (5, .int x5)], [.int (-12)], (0, 0), ks i a q r) (by rfl) ?_
                have fi_7298 : ((0 : Int) ≤ (i 7298).toInt) ∧ ((i 7298).toInt ≤ 4) := hG.I.1 7298
                have fi_7042 : ((0 : Int) ≤ (i 7042).toInt) ∧ ((i 7042).toInt ≤ 4) := hG.I.1 7042
                have fi_7299 : ((0 : Int) ≤ (i 7299).toInt) ∧ ((i 7299).toInt ≤ 60) := hG.I.1 7299
                have fi_7043 : ((0 : Int) ≤ (i 7043).toInt) ∧ ((i 7043).toInt ≤ 60) := hG.I.1 7043
                exact ft_ret mi_k117 (by rfl) (hP (-12) _ _ _ _ hG ⟨trivial, ⟨fun s t hs ht e1 e3 => by
        have es : s = 5 := kj_at e1 (oy146 w550 z2.2)
        have et : t = 3 := kj_at e3 (oy142 w605)
        subst es
        subst et
        exact ⟨(Or.inr (Or.inl ⟨kym12, (oy151 c607 c608 fi_7040.1 fi_7296.1 ky0), (oy130 c609 fi_7296.2 ky2)⟩)), fun h => absurd h (kj_neg kym12 (by decide))⟩, fun _ => (fun u hu => match u, hu with | 0, _ => rfl | 1, _ => rfl | 2, _ => rfl | 3, _ => rfl | 4, _ => rfl | 5, _ => rfl | _ + 6, h => absurd h (by omega)), fun h => absurd (oy181 w550 w605 z2.2 z4.2) h⟩⟩)
              ·
                have c610 : (i 7296).toInt = (2 : Int32).toInt := kd_neF c; clear c
                first | refine fo_goL mi_k117 fz117_60_3_66 [(7, .ref 110), (6, .ref 114), (0, .ref 0), (1, .int x1), (2, .int x2), (3, .int x3), (4, .int x4), (5, .int x5)] [.int 2, .int (i 7040)] (by rfl) ?_ | refine ft_go mi_k117 3 66 [(7, .ref 110), (6, .ref 114), (0, .ref 0), (1, .int x1), (2, .int x2), (3, .int x3), (4, .int x4), (5, .int x5)] [.int 2, .int (i 7040)] i a q r (by rfl) ?_ | refine ko_steps mi_in117 3 _ (66, [(7, .ref 110), (6, .ref 114), (0, .ref 0), (1, .int x1), (2, .int x2), (3, .int x3), (4, .int x4), (5, .int x5)], [.int 2, .int (i 7040)], (0, 0), ks i a q r) (by rfl) ?_
                refine ft_ifS mi_k117 ((i 7040) != 2) 82 69 [] (by rfl) (fun c => ?_) (fun c => ?_)
                ·
                  have c611 : (i 7040).toInt ≠ (2 : Int32).toInt := kd_ne c; clear c
                  first | refine fo_goS mi_k117 fz117_82_1_84 [.int (-12)] (by rfl) ?_ | refine ft_go mi_k117 1 84 [(7, .ref 110), (6, .ref 114), (0, .ref 0), (1, .int x1), (2, .int x2), (3, .int x3), (4, .int x4), (5, .int x5)] [.int (-12)] i a q r (by rfl) ?_ | refine ko_steps mi_in117 1 _ (84, [(7, .ref 110), (6, .ref 114), (0, .ref 0), (1, .int x1), (2, .int x2), (3, .int x3), (4, .int x4), (5, .int x5)], [.int (-12)], (0, 0), ks i a q r) (by rfl) ?_
                  have fi_7298 : ((0 : Int) ≤ (i 7298).toInt) ∧ ((i 7298).toInt ≤ 4) := hG.I.1 7298
                  have fi_7042 : ((0 : Int) ≤ (i 7042).toInt) ∧ ((i 7042).toInt ≤ 4) := hG.I.1 7042
                  have fi_7299 : ((0 : Int) ≤ (i 7299).toInt) ∧ ((i 7299).toInt ≤ 60) := hG.I.1 7299
                  have fi_7043 : ((0 : Int) ≤ (i 7043).toInt) ∧ ((i 7043).toInt ≤ 60) := hG.I.1 7043
                  exact ft_ret mi_k117 (by rfl) (hP (-12) _ _ _ _ hG ⟨trivial, ⟨fun s t hs ht e1 e3 => by
        have es : s = 5 := kj_at e1 (oy146 w550 z2.2)
        have et : t = 3 := kj_at e3 (oy142 w605)
        subst es
        subst et
        exact ⟨(Or.inr (Or.inl ⟨kym12, (oy131 c608 c610 fi_7040.1 ky0 ky2), (oy132 c611 fi_7040.2 ky2)⟩)), fun h => absurd h (kj_neg kym12 (by decide))⟩, fun _ => (fun u hu => match u, hu with | 0, _ => rfl | 1, _ => rfl | 2, _ => rfl | 3, _ => rfl | 4, _ => rfl | 5, _ => rfl | _ + 6, h => absurd h (by omega)), fun h => absurd (oy181 w550 w605 z2.2 z4.2) h⟩⟩)
                ·
                  have c612 : (i 7040).toInt = (2 : Int32).toInt := kd_neF c; clear c
                  have fi_7298 : ((0 : Int) ≤ (i 7298).toInt) ∧ ((i 7298).toInt ≤ 4) := hG.I.1 7298
                  have fi_7042 : ((0 : Int) ≤ (i 7042).toInt) ∧ ((i 7042).toInt ≤ 4) := hG.I.1 7042
                  first | refine fo_goL mi_k117 fz117_69_4_79 [(7, .ref 110), (6, .ref 114), (0, .ref 0), (1, .int x1), (2, .int x2), (3, .int x3), (4, .int x4), (5, .int x5)] [.int (i 7042), .int (i 7298)] (by rfl) ?_ | refine ft_go mi_k117 4 79 [(7, .ref 110), (6, .ref 114), (0, .ref 0), (1, .int x1), (2, .int x2), (3, .int x3), (4, .int x4), (5, .int x5)] [.int (i 7042), .int (i 7298)] i a q r (by rfl) ?_ | refine ko_steps mi_in117 4 _ (79, [(7, .ref 110), (6, .ref 114), (0, .ref 0), (1, .int x1), (2, .int x2), (3, .int x3), (4, .int x4), (5, .int x5)], [.int (i 7042), .int (i 7298)], (0, 0), ks i a q r) (by rfl) ?_
                  refine ft_ifS mi_k117 ((i 7298) == (i 7042)) 85 82 [] (by rfl) (fun c => ?_) (fun c => ?_)
                  ·
                    have c613 : (i 7298).toInt = (i 7042).toInt := kd_eq c; clear c
                    first | refine fo_goS mi_k117 fz117_85_3_90 [.int x5, .int x2, .ref 114] (by rfl) ?_ | refine ft_go mi_k117 3 90 [(7, .ref 110), (6, .ref 114), (0, .ref 0), (1, .int x1), (2, .int x2), (3, .int x3), (4, .int x4), (5, .int x5)] [.int x5, .int x2, .ref 114] i a q r (by rfl) ?_ | refine ko_steps mi_in117 3 _ (90, [(7, .ref 110), (6, .ref 114), (0, .ref 0), (1, .int x1), (2, .int x2), (3, .int x3), (4, .int x4), (5, .int x5)], [.int x5, .int x2, .ref 114], (0, 0), ks i a q r) (by rfl) ?_
                    refine ko_callPI mi_k117.1 (pc := 90) (ls := [(7, .ref 110), (6, .ref 114), (0, .ref 0), (1, .int x1), (2, .int x2), (3, .int x3), (4, .int x4), (5, .int x5)]) (st := [.int x5, .int x2, .ref 114]) (h := ks i a q r) (i := (.invokevirtual 324, 3, 37, 0, 9, 0, 316)) (mi_k117.2 _ _ (by rfl)) (ft_invS mi_pq37 (by rfl)) (cy := mi_c37) mi_pq37 rfl (kc37_114 hG.I hG.R x2 x5) (by decide) ?_
                    intro vg614 hg614
                    rcases hg614 with ⟨eg614, hg614⟩ | ⟨eg614, hg614⟩
                    ·
                      subst eg614
                      have fi_7299 : ((0 : Int) ≤ (i 7299).toInt) ∧ ((i 7299).toInt ≤ 60) := hG.I.1 7299
                      have z615 : ((0 : Int) ≤ x5.toInt) ∧ (x5.toInt ≤ (i 7299).toInt) ∧ ((0 : Int) ≤ x2.toInt) ∧ ((x2.toInt + x5.toInt) ≤ (i 7299).toInt) := hg614
                      first | refine fo_goS mi_k117 fz117_93_4_102 [.int x5, .int x4, .ref 110] (by rfl) ?_ | refine ft_go mi_k117 4 102 [(7, .ref 110), (6, .ref 114), (0, .ref 0), (1, .int x1), (2, .int x2), (3, .int x3), (4, .int x4), (5, .int x5)] [.int x5, .int x4, .ref 110] i a q r (by rfl) ?_ | refine ko_steps mi_in117 4 _ (102, [(7, .ref 110), (6, .ref 114), (0, .ref 0), (1, .int x1), (2, .int x2), (3, .int x3), (4, .int x4), (5, .int x5)], [.int x5, .int x4, .ref 110], (0, 0), ks i a q r) (by rfl) ?_
                      refine ko_callPI mi_k117.1 (pc := 102) (ls := [(7, .ref 110), (6, .ref 114), (0, .ref 0), (1, .int x1), (2, .int x2), (3, .int x3), (4, .int x4), (5, .int x5)]) (st := [.int x5, .int x4, .ref 110]) (h := ks i a q r) (i := (.invokevirtual 324, 3, 37, 0, 9, 0, 316)) (mi_k117.2 _ _ (by rfl)) (ft_invS mi_pq37 (by rfl)) (cy := mi_c37) mi_pq37 rfl (kc37_110 hG.I hG.R x4 x5) (by decide) ?_
                      intro vg616 hg616
                      rcases hg616 with ⟨eg616, hg616⟩ | ⟨eg616, hg616⟩
                      ·
                        subst eg616
                        have fi_7043 : ((0 : Int) ≤ (i 7043).toInt) ∧ ((i 7043).toInt ≤ 60) := hG.I.1 7043
                        have z617 : ((0 : Int) ≤ x5.toInt) ∧ (x5.toInt ≤ (i 7043).toInt) ∧ ((0 : Int) ≤ x4.toInt) ∧ ((x4.toInt + x5.toInt) ≤ (i 7043).toInt) := hg616
                        first | refine fo_goS mi_k117 fz117_105_8_126 [.int x5, .int x4, .ref 111, .int x2, .ref 115] (by rfl) ?_ | refine ft_go mi_k117 8 126 [(7, .ref 110), (6, .ref 114), (0, .ref 0), (1, .int x1), (2, .int x2), (3, .int x3), (4, .int x4), (5, .int x5)] [.int x5, .int x4, .ref 111, .int x2, .ref 115] i a q r (by rfl) ?_ | refine ko_steps mi_in117 8 _ (126, [(7, .ref 110), (6, .ref 114), (0, .ref 0), (1, .int x1), (2, .int x2), (3, .int x3), (4, .int x4), (5, .int x5)], [.int x5, .int x4, .ref 111, .int x2, .ref 115], (0, 0), ks i a q r) (by rfl) ?_
                        have hJ618 := kG_q hG 111 rfl (z := mi_cpy (q 115) (q 111) x2.toNatClampNeg x4.toNatClampNeg x5.toNatClampNeg) (kcpy_len2 (n := 60) (c := 60) (m := 60) (b := 60) (sp := x2) (dp := x4) (n1 := x5) (hG.I.2.2.2 115) rfl (hG.I.2.2.2 111) rfl (oy3 z615.1) (oy3 z615.2.2.1) (oy3 z617.2.2.1) (oy119 fi_7299.2 z615.2.2.2) (oy119 fi_7043.2 z617.2.2.2))
                        refine ko_copyL2 mi_k117.1 (l := q 115) (g := q 111) (n := 60) (c := 60) (m := 60) (b := 60) (mi_k117.2 _ _ (by rfl)) (by rfl) (by rfl) (by rfl) (by rfl) (by rfl) (hG.I.2.2.2 115) rfl (hG.I.2.2.2 111) rfl (oy3 z615.1) (oy3 z615.2.2.1) (oy3 z617.2.2.1) (oy119 fi_7299.2 z615.2.2.2) (oy119 fi_7043.2 z617.2.2.2) (h5 := ks i a (ku q 111 (mi_cpy (q 115) (q 111) x2.toNatClampNeg x4.toNatClampNeg x5.toNatClampNeg)) r) (by rfl) ?_
                        first | refine fo_goS mi_k117 fz117_129_1_131 [.int x5] (by rfl) ?_ | refine ft_go mi_k117 1 131 [(7, .ref 110), (6, .ref 114), (0, .ref 0), (1, .int x1), (2, .int x2), (3, .int x3), (4, .int x4), (5, .int x5)] [.int x5] i a (ku q 111 (mi_cpy (q 115) (q 111) x2.toNatClampNeg x4.toNatClampNeg x5.toNatClampNeg)) r (by rfl) ?_ | refine ko_steps mi_in117 1 _ (131, [(7, .ref 110), (6, .ref 114), (0, .ref 0), (1, .int x1), (2, .int x2), (3, .int x3), (4, .int x4), (5, .int x5)], [.int x5], (0, 0), ks i a (ku q 111 (mi_cpy (q 115) (q 111) x2.toNatClampNeg x4.toNatClampNeg x5.toNatClampNeg)) r) (by rfl) ?_
                        exact ft_ret mi_k117 (by rfl) (hP x5 _ _ _ _ hJ618 ⟨trivial, ⟨fun s t hs ht e1 e3 => by
        have es : s = 5 := kj_at e1 (oy146 w550 z2.2)
        have et : t = 3 := kj_at e3 (oy142 w605)
        subst es
        subst et
        exact ⟨(Or.inr (Or.inr (Or.inr ⟨rfl, (oy152 c610 c612 c613 fi_7040.2 fi_7296.2 ky2), (oy134 z615.1 z615.2.2.1 z615.2.2.2 z617.2.2.1 z617.2.2.2)⟩))), fun _ => ⟨rfl, (fun u hu ne => match u, hu, ne with | 0, _, _ => rfl | 1, _, _ => rfl | 2, _, _ => rfl | 3, _, ne => absurd rfl ne | 4, _, _ => rfl | 5, _, _ => rfl | _ + 6, h, _ => absurd h (by omega))⟩⟩, fun h => absurd h (oy26 z615.1), fun h => absurd (oy181 w550 w605 z2.2 z4.2) h⟩⟩)
                      ·
                        subst eg616
                        have fi_7043 : ((0 : Int) ≤ (i 7043).toInt) ∧ ((i 7043).toInt ≤ 60) := hG.I.1 7043
                        have z619 : ¬ (((0 : Int) ≤ x5.toInt) ∧ (x5.toInt ≤ (i 7043).toInt) ∧ ((0 : Int) ≤ x4.toInt) ∧ ((x4.toInt + x5.toInt) ≤ (i 7043).toInt)) := hg616
                        first | refine fo_goL mi_k117 fz117_93_2_110 [(7, .ref 110), (6, .ref 114), (0, .ref 0), (1, .int x1), (2, .int x2), (3, .int x3), (4, .int x4), (5, .int x5)] [.int (-13)] (by rfl) ?_ | refine fo_goL mi_k117 fz117_105_2_110 [(7, .ref 110), (6, .ref 114), (0, .ref 0), (1, .int x1), (2, .int x2), (3, .int x3), (4, .int x4), (5, .int x5)] [.int (-13)] (by rfl) ?_ | refine ft_go mi_k117 2 110 [(7, .ref 110), (6, .ref 114), (0, .ref 0), (1, .int x1), (2, .int x2), (3, .int x3), (4, .int x4), (5, .int x5)] [.int (-13)] i a q r (by rfl) ?_ | refine ko_steps mi_in117 2 _ (110, [(7, .ref 110), (6, .ref 114), (0, .ref 0), (1, .int x1), (2, .int x2), (3, .int x3), (4, .int x4), (5, .int x5)], [.int (-13)], (0, 0), ks i a q r) (by rfl) ?_
                        exact ft_ret mi_k117 (by rfl) (hP (-13) _ _ _ _ hG ⟨trivial, ⟨fun s t hs ht e1 e3 => by
        have es : s = 5 := kj_at e1 (oy146 w550 z2.2)
        have et : t = 3 := kj_at e3 (oy142 w605)
        subst es
        subst et
        exact ⟨(Or.inr (Or.inr (Or.inl ⟨kym13, (oy152 c610 c612 c613 fi_7040.2 fi_7296.2 ky2), (oy135 z615.1 z619)⟩))), fun h => absurd h (kj_neg kym13 (by decide))⟩, fun _ => (fun u hu => match u, hu with | 0, _ => rfl | 1, _ => rfl | 2, _ => rfl | 3, _ => rfl | 4, _ => rfl | 5, _ => rfl | _ + 6, h => absurd h (by omega)), fun h => absurd (oy181 w550 w605 z2.2 z4.2) h⟩⟩)
                    ·
                      subst eg614
                      have fi_7299 : ((0 : Int) ≤ (i 7299).toInt) ∧ ((i 7299).toInt ≤ 60) := hG.I.1 7299
                      have z620 : ¬ (((0 : Int) ≤ x5.toInt) ∧ (x5.toInt ≤ (i 7299).toInt) ∧ ((0 : Int) ≤ x2.toInt) ∧ ((x2.toInt + x5.toInt) ≤ (i 7299).toInt)) := hg614
                      first | refine fo_goL mi_k117 fz117_93_2_110 [(7, .ref 110), (6, .ref 114), (0, .ref 0), (1, .int x1), (2, .int x2), (3, .int x3), (4, .int x4), (5, .int x5)] [.int (-13)] (by rfl) ?_ | refine fo_goL mi_k117 fz117_105_2_110 [(7, .ref 110), (6, .ref 114), (0, .ref 0), (1, .int x1), (2, .int x2), (3, .int x3), (4, .int x4), (5, .int x5)] [.int (-13)] (by rfl) ?_ | refine ft_go mi_k117 2 110 [(7, .ref 110), (6, .ref 114), (0, .ref 0), (1, .int x1), (2, .int x2), (3, .int x3), (4, .int x4), (5, .int x5)] [.int (-13)] i a q r (by rfl) ?_ | refine ko_steps mi_in117 2 _ (110, [(7, .ref 110), (6, .ref 114), (0, .ref 0), (1, .int x1), (2, .int x2), (3, .int x3), (4, .int x4), (5, .int x5)], [.int (-13)], (0, 0), ks i a q r) (by rfl) ?_
                      have fi_7043 : ((0 : Int) ≤ (i 7043).toInt) ∧ ((i 7043).toInt ≤ 60) := hG.I.1 7043
                      exact ft_ret mi_k117 (by rfl) (hP (-13) _ _ _ _ hG ⟨trivial, ⟨fun s t hs ht e1 e3 => by
        have es : s = 5 := kj_at e1 (oy146 w550 z2.2)
        have et : t = 3 := kj_at e3 (oy142 w605)
        subst es
        subst et
        exact ⟨(Or.inr (Or.inr (Or.inl ⟨kym13, (oy152 c610 c612 c613 fi_7040.2 fi_7296.2 ky2), (oy136 z620)⟩))), fun h => absurd h (kj_neg kym13 (by decide))⟩, fun _ => (fun u hu => match u, hu with | 0, _ => rfl | 1, _ => rfl | 2, _ => rfl | 3, _ => rfl | 4, _ => rfl | 5, _ => rfl | _ + 6, h => absurd h (by omega)), fun h => absurd (oy181 w550 w605 z2.2 z4.2) h⟩⟩)
                  ·
                    have c621 : (i 7298).toInt ≠ (i 7042).toInt := kd_eqF c; clear c
                    first | refine fo_goL mi_k117 fz117_82_1_84 [(7, .ref 110), (6, .ref 114), (0, .ref 0), (1, .int x1), (2, .int x2), (3, .int x3), (4, .int x4), (5, .int x5)] [.int (-12)] (by rfl) ?_ | refine ft_go mi_k117 1 84 [(7, .ref 110), (6, .ref 114), (0, .ref 0), (1, .int x1), (2, .int x2), (3, .int x3), (4, .int x4), (5, .int x5)] [.int (-12)] i a q r (by rfl) ?_ | refine ko_steps mi_in117 1 _ (84, [(7, .ref 110), (6, .ref 114), (0, .ref 0), (1, .int x1), (2, .int x2), (3, .int x3), (4, .int x4), (5, .int x5)], [.int (-12)], (0, 0), ks i a q r) (by rfl) ?_
                    have fi_7299 : ((0 : Int) ≤ (i 7299).toInt) ∧ ((i 7299).toInt ≤ 60) := hG.I.1 7299
                    have fi_7043 : ((0 : Int) ≤ (i 7043).toInt) ∧ ((i 7043).toInt ≤ 60) := hG.I.1 7043
                    exact ft_ret mi_k117 (by rfl) (hP (-12) _ _ _ _ hG ⟨trivial, ⟨fun s t hs ht e1 e3 => by
        have es : s = 5 := kj_at e1 (oy146 w550 z2.2)
        have et : t = 3 := kj_at e3 (oy142 w605)
        subst es
        subst et
        exact ⟨(Or.inr (Or.inl ⟨kym12, (oy137 c610 c612 ky2), (oy138 c621)⟩)), fun h => absurd h (kj_neg kym12 (by decide))⟩, fun _ => (fun u hu => match u, hu with | 0, _ => rfl | 1, _ => rfl | 2, _ => rfl | 3, _ => rfl | 4, _ => rfl | 5, _ => rfl | _ + 6, h => absurd h (by omega)), fun h => absurd (oy181 w550 w605 z2.2 z4.2) h⟩⟩)
            ·
              have c622 : (i 7040).toInt = (0 : Int32).toInt := kd_neF c; clear c
              first | refine fo_goL mi_k117 fz117_48_1_50 [(7, .ref 110), (6, .ref 114), (0, .ref 0), (1, .int x1), (2, .int x2), (3, .int x3), (4, .int x4), (5, .int x5)] [.int (-11)] (by rfl) ?_ | refine ft_go mi_k117 1 50 [(7, .ref 110), (6, .ref 114), (0, .ref 0), (1, .int x1), (2, .int x2), (3, .int x3), (4, .int x4), (5, .int x5)] [.int (-11)] i a q r (by rfl) ?_ | refine ko_steps mi_in117 1 _ (50, [(7, .ref 110), (6, .ref 114), (0, .ref 0), (1, .int x1), (2, .int x2), (3, .int x3), (4, .int x4), (5, .int x5)], [.int (-11)], (0, 0), ks i a q r) (by rfl) ?_
              have fi_7298 : ((0 : Int) ≤ (i 7298).toInt) ∧ ((i 7298).toInt ≤ 4) := hG.I.1 7298
              have fi_7042 : ((0 : Int) ≤ (i 7042).toInt) ∧ ((i 7042).toInt ≤ 4) := hG.I.1 7042
              have fi_7299 : ((0 : Int) ≤ (i 7299).toInt) ∧ ((i 7299).toInt ≤ 60) := hG.I.1 7299
              have fi_7043 : ((0 : Int) ≤ (i 7043).toInt) ∧ ((i 7043).toInt ≤ 60) := hG.I.1 7043
              exact ft_ret mi_k117 (by rfl) (hP (-11) _ _ _ _ hG ⟨trivial, ⟨fun s t hs ht e1 e3 => by
        have es : s = 5 := kj_at e1 (oy146 w550 z2.2)
        have et : t = 3 := kj_at e3 (oy142 w605)
        subst es
        subst et
        exact ⟨(Or.inl ⟨kym11, (oy139 c622 fi_7040.1 ky0)⟩), fun h => absurd h (kj_neg kym11 (by decide))⟩, fun _ => (fun u hu => match u, hu with | 0, _ => rfl | 1, _ => rfl | 2, _ => rfl | 3, _ => rfl | 4, _ => rfl | 5, _ => rfl | _ + 6, h => absurd h (by omega)), fun h => absurd (oy181 w550 w605 z2.2 z4.2) h⟩⟩)
        by_cases w623 : x3.toInt = 4
        ·
          refine ko_eq (x1 := (29, [(6, .ref 114), (0, .ref 0), (1, .int x1), (2, .int x2), (3, .int x3), (4, .int x4), (5, .int x5)], [.int 4, .ref 97], (0, 0), ks i a q r)) (by rw [(kj_eq w623 (by decide) : x3 = 4)]) ?_
          have fi_7296 : ((0 : Int) ≤ (i 7296).toInt) ∧ ((i 7296).toInt ≤ 2) := hG.I.1 7296
          first | refine ft_goL mi_k117 4 37 [(7, .ref 112), (6, .ref 114), (0, .ref 0), (1, .int x1), (2, .int x2), (3, .int x3), (4, .int x4), (5, .int x5)] [.int (i 7296)] (by rfl) ?_ | refine ft_go mi_k117 4 37 [(7, .ref 112), (6, .ref 114), (0, .ref 0), (1, .int x1), (2, .int x2), (3, .int x3), (4, .int x4), (5, .int x5)] [.int (i 7296)] i a q r (by rfl) ?_ | refine ko_steps mi_in117 4 _ (37, [(7, .ref 112), (6, .ref 114), (0, .ref 0), (1, .int x1), (2, .int x2), (3, .int x3), (4, .int x4), (5, .int x5)], [.int (i 7296)], (0, 0), ks i a q r) (by rfl) ?_
          refine ft_ifS mi_k117 ((i 7296) == 0) 48 40 [] (by rfl) (fun c => ?_) (fun c => ?_)
          ·
            have c624 : (i 7296).toInt = (0 : Int32).toInt := kd_eq c; clear c
            first | refine fo_goS mi_k117 fz117_48_1_50 [.int (-11)] (by rfl) ?_ | refine ft_go mi_k117 1 50 [(7, .ref 112), (6, .ref 114), (0, .ref 0), (1, .int x1), (2, .int x2), (3, .int x3), (4, .int x4), (5, .int x5)] [.int (-11)] i a q r (by rfl) ?_ | refine ko_steps mi_in117 1 _ (50, [(7, .ref 112), (6, .ref 114), (0, .ref 0), (1, .int x1), (2, .int x2), (3, .int x3), (4, .int x4), (5, .int x5)], [.int (-11)], (0, 0), ks i a q r) (by rfl) ?_
            have fi_7168 : ((0 : Int) ≤ (i 7168).toInt) ∧ ((i 7168).toInt ≤ 2) := hG.I.1 7168
            have fi_7298 : ((0 : Int) ≤ (i 7298).toInt) ∧ ((i 7298).toInt ≤ 4) := hG.I.1 7298
            have fi_7170 : ((0 : Int) ≤ (i 7170).toInt) ∧ ((i 7170).toInt ≤ 4) := hG.I.1 7170
            have fi_7299 : ((0 : Int) ≤ (i 7299).toInt) ∧ ((i 7299).toInt ≤ 60) := hG.I.1 7299
            have fi_7171 : ((0 : Int) ≤ (i 7171).toInt) ∧ ((i 7171).toInt ≤ 60) := hG.I.1 7171
            exact ft_ret mi_k117 (by rfl) (hP (-11) _ _ _ _ hG ⟨trivial, ⟨fun s t hs ht e1 e3 => by
        have es : s = 5 := kj_at e1 (oy146 w550 z2.2)
        have et : t = 4 := kj_at e3 (oy144 w623)
        subst es
        subst et
        exact ⟨(Or.inl ⟨kym11, (oy127 c624 fi_7296.1 ky0)⟩), fun h => absurd h (kj_neg kym11 (by decide))⟩, fun _ => (fun u hu => match u, hu with | 0, _ => rfl | 1, _ => rfl | 2, _ => rfl | 3, _ => rfl | 4, _ => rfl | 5, _ => rfl | _ + 6, h => absurd h (by omega)), fun h => absurd (oy182 w550 w623 z2.2 z4.2) h⟩⟩)
          ·
            have c625 : (i 7296).toInt ≠ (0 : Int32).toInt := kd_eqF c; clear c
            have fi_7168 : ((0 : Int) ≤ (i 7168).toInt) ∧ ((i 7168).toInt ≤ 2) := hG.I.1 7168
            first | refine fo_goL mi_k117 fz117_40_2_45 [(7, .ref 112), (6, .ref 114), (0, .ref 0), (1, .int x1), (2, .int x2), (3, .int x3), (4, .int x4), (5, .int x5)] [.int (i 7168)] (by rfl) ?_ | refine ft_go mi_k117 2 45 [(7, .ref 112), (6, .ref 114), (0, .ref 0), (1, .int x1), (2, .int x2), (3, .int x3), (4, .int x4), (5, .int x5)] [.int (i 7168)] i a q r (by rfl) ?_ | refine ko_steps mi_in117 2 _ (45, [(7, .ref 112), (6, .ref 114), (0, .ref 0), (1, .int x1), (2, .int x2), (3, .int x3), (4, .int x4), (5, .int x5)], [.int (i 7168)], (0, 0), ks i a q r) (by rfl) ?_
            refine ft_ifS mi_k117 ((i 7168) != 0) 51 48 [] (by rfl) (fun c => ?_) (fun c => ?_)
            ·
              have c626 : (i 7168).toInt ≠ (0 : Int32).toInt := kd_ne c; clear c
              first | refine fo_goS mi_k117 fz117_51_3_57 [.int 2, .int (i 7296)] (by rfl) ?_ | refine ft_go mi_k117 3 57 [(7, .ref 112), (6, .ref 114), (0, .ref 0), (1, .int x1), (2, .int x2), (3, .int x3), (4, .int x4), (5, .int x5)] [.int 2, .int (i 7296)] i a q r (by rfl) ?_ | refine ko_steps mi_in117 3 _ (57, [(7, .ref 112), (6, .ref 114), (0, .ref 0), (1, .int x1), (2, .int x2), (3, .int x3), (4, .int x4), (5, .int x5)], [.int 2, .int (i 7296)], (0, 0), ks i a q r) (by rfl) ?_
              refine ft_ifS mi_k117 ((i 7296) != 2) 82 60 [] (by rfl) (fun c => ?_) (fun c => ?_)
              ·
                have c627 : (i 7296).toInt ≠ (2 : Int32).toInt := kd_ne c; clear c
                first | refine fo_goS mi_k117 fz117_82_1_84 [.int (-12)] (by rfl) ?_ | refine ft_go mi_k117 1 84 [(7, .ref 112), (6, .ref 114), (0, .ref 0), (1, .int x1), (2, .int x2), (3, .int x3), (4, .int x4), (5, .int x5)] [.int (-12)] i a q r (by rfl) ?_ | refine ko_steps mi_in117 1 _ (84, [(7, .ref 112), (6, .ref 114), (0, .ref 0), (1, .int x1), (2, .int x2), (3, .int x3), (4, .int x4), (5, .int x5)], [.int (-12)], (0, 0), ks i a q r) (by rfl) ?_
                have fi_7298 : ((0 : Int) ≤ (i 7298).toInt) ∧ ((i 7298).toInt ≤ 4) := hG.I.1 7298
                have fi_7170 : ((0 : Int) ≤ (i 7170).toInt) ∧ ((i 7170).toInt ≤ 4) := hG.I.1 7170
                have fi_7299 : ((0 : Int) ≤ (i 7299).toInt) ∧ ((i 7299).toInt ≤ 60) := hG.I.1 7299
                have fi_7171 : ((0 : Int) ≤ (i 7171).toInt) ∧ ((i 7171).toInt ≤ 60) := hG.I.1 7171
                exact ft_ret mi_k117 (by rfl) (hP (-12) _ _ _ _ hG ⟨trivial, ⟨fun s t hs ht e1 e3 => by
        have es : s = 5 := kj_at e1 (oy146 w550 z2.2)
        have et : t = 4 := kj_at e3 (oy144 w623)
        subst es
        subst et
        exact ⟨(Or.inr (Or.inl ⟨kym12, (oy151 c625 c626 fi_7168.1 fi_7296.1 ky0), (oy130 c627 fi_7296.2 ky2)⟩)), fun h => absurd h (kj_neg kym12 (by decide))⟩, fun _ => (fun u hu => match u, hu with | 0, _ => rfl | 1, _ => rfl | 2, _ => rfl | 3, _ => rfl | 4, _ => rfl | 5, _ => rfl | _ + 6, h => absurd h (by omega)), fun h => absurd (oy182 w550 w623 z2.2 z4.2) h⟩⟩)
              ·
                have c628 : (i 7296).toInt = (2 : Int32).toInt := kd_neF c; clear c
                first | refine fo_goL mi_k117 fz117_60_3_66 [(7, .ref 112), (6, .ref 114), (0, .ref 0), (1, .int x1), (2, .int x2), (3, .int x3), (4, .int x4), (5, .int x5)] [.int 2, .int (i 7168)] (by rfl) ?_ | refine ft_go mi_k117 3 66 [(7, .ref 112), (6, .ref 114), (0, .ref 0), (1, .int x1), (2, .int x2), (3, .int x3), (4, .int x4), (5, .int x5)] [.int 2, .int (i 7168)] i a q r (by rfl) ?_ | refine ko_steps mi_in117 3 _ (66, [(7, .ref 112), (6, .ref 114), (0, .ref 0), (1, .int x1), (2, .int x2), (3, .int x3), (4, .int x4), (5, .int x5)], [.int 2, .int (i 7168)], (0, 0), ks i a q r) (by rfl) ?_
                refine ft_ifS mi_k117 ((i 7168) != 2) 82 69 [] (by rfl) (fun c => ?_) (fun c => ?_)
                ·
                  have c629 : (i 7168).toInt ≠ (2 : Int32).toInt := kd_ne c; clear c
                  first | refine fo_goS mi_k117 fz117_82_1_84 [.int (-12)] (by rfl) ?_ | refine ft_go mi_k117 1 84 [(7, .ref 112), (6, .ref 114), (0, .ref 0), (1, .int x1), (2, .int x2), (3, .int x3), (4, .int x4), (5, .int x5)] [.int (-12)] i a q r (by rfl) ?_ | refine ko_steps mi_in117 1 _ (84, [(7, .ref 112), (6, .ref 114), (0, .ref 0), (1, .int x1), (2, .int x2), (3, .int x3), (4, .int x4), (5, .int x5)], [.int (-12)], (0, 0), ks i a q r) (by rfl) ?_
                  have fi_7298 : ((0 : Int) ≤ (i 7298).toInt) ∧ ((i 7298).toInt ≤ 4) := hG.I.1 7298
                  have fi_7170 : ((0 : Int) ≤ (i 7170).toInt) ∧ ((i 7170).toInt ≤ 4) := hG.I.1 7170
                  have fi_7299 : ((0 : Int) ≤ (i 7299).toInt) ∧ ((i 7299).toInt ≤ 60) := hG.I.1 7299
                  have fi_7171 : ((0 : Int) ≤ (i 7171).toInt) ∧ ((i 7171).toInt ≤ 60) := hG.I.1 7171
                  exact ft_ret mi_k117 (by rfl) (hP (-12) _ _ _ _ hG ⟨trivial, ⟨fun s t hs ht e1 e3 => by
        have es : s = 5 := kj_at e1 (oy146 w550 z2.2)
        have et : t = 4 := kj_at e3 (oy144 w623)
        subst es
        subst et
        exact ⟨(Or.inr (Or.inl ⟨kym12, (oy131 c626 c628 fi_7168.1 ky0 ky2), (oy132 c629 fi_7168.2 ky2)⟩)), fun h => absurd h (kj_neg kym12 (by decide))⟩, fun _ => (fun u hu => match u, hu with | 0, _ => rfl | 1, _ => rfl | 2, _ => rfl | 3, _ => rfl | 4, _ => rfl | 5, _ => rfl | _ + 6, h => absurd h (by omega)), fun h => absurd (oy182 w550 w623 z2.2 z4.2) h⟩⟩)
                ·
                  have c630 : (i 7168).toInt = (2 : Int32).toInt := kd_neF c; clear c
                  have fi_7298 : ((0 : Int) ≤ (i 7298).toInt) ∧ ((i 7298).toInt ≤ 4) := hG.I.1 7298
                  have fi_7170 : ((0 : Int) ≤ (i 7170).toInt) ∧ ((i 7170).toInt ≤ 4) := hG.I.1 7170
                  first | refine fo_goL mi_k117 fz117_69_4_79 [(7, .ref 112), (6, .ref 114), (0, .ref 0), (1, .int x1), (2, .int x2), (3, .int x3), (4, .int x4), (5, .int x5)] [.int (i 7170), .int (i 7298)] (by rfl) ?_ | refine ft_go mi_k117 4 79 [(7, .ref 112), (6, .ref 114), (0, .ref 0), (1, .int x1), (2, .int x2), (3, .int x3), (4, .int x4), (5, .int x5)] [.int (i 7170), .int (i 7298)] i a q r (by rfl) ?_ | refine ko_steps mi_in117 4 _ (79, [(7, .ref 112), (6, .ref 114), (0, .ref 0), (1, .int x1), (2, .int x2), (3, .int x3), (4, .int x4), (5, .int x5)], [.int (i 7170), .int (i 7298)], (0, 0), ks i a q r) (by rfl) ?_
                  refine ft_ifS mi_k117 ((i 7298) == (i 7170)) 85 82 [] (by rfl) (fun c => ?_) (fun c => ?_)
                  ·
                    have c631 : (i 7298).toInt = (i 7170).toInt := kd_eq c; clear c
                    first | refine fo_goS mi_k117 fz117_85_3_90 [.int x5, .int x2, .ref 114] (by rfl) ?_ | refine ft_go mi_k117 3 90 [(7, .ref 112), (6, .ref 114), (0, .ref 0), (1, .int x1), (2, .int x2), (3, .int x3), (4, .int x4), (5, .int x5)] [.int x5, .int x2, .ref 114] i a q r (by rfl) ?_ | refine ko_steps mi_in117 3 _ (90, [(7, .ref 112), (6, .ref 114), (0, .ref 0), (1, .int x1), (2, .int x2), (3, .int x3), (4, .int x4), (5, .int x5)], [.int x5, .int x2, .ref 114], (0, 0), ks i a q r) (by rfl) ?_
                    refine ko_callPI mi_k117.1 (pc := 90) (ls := [(7, .ref 112), (6, .ref 114), (0, .ref 0), (1, .int x1), (2, .int x2), (3, .int x3), (4, .int x4), (5, .int x5)]) (st := [.int x5, .int x2, .ref 114]) (h := ks i a q r) (i := (.invokevirtual 324, 3, 37, 0, 9, 0, 316)) (mi_k117.2 _ _ (by rfl)) (ft_invS mi_pq37 (by rfl)) (cy := mi_c37) mi_pq37 rfl (kc37_114 hG.I hG.R x2 x5) (by decide) ?_
                    intro vg632 hg632
                    rcases hg632 with ⟨eg632, hg632⟩ | ⟨eg632, hg632⟩
                    ·
                      subst eg632
                      have fi_7299 : ((0 : Int) ≤ (i 7299).toInt) ∧ ((i 7299).toInt ≤ 60) := hG.I.1 7299
                      have z633 : ((0 : Int) ≤ x5.toInt) ∧ (x5.toInt ≤ (i 7299).toInt) ∧ ((0 : Int) ≤ x2.toInt) ∧ ((x2.toInt + x5.toInt) ≤ (i 7299).toInt) := hg632
                      first | refine fo_goS mi_k117 fz117_93_4_102 [.int x5, .int x4, .ref 112] (by rfl) ?_ | refine ft_go mi_k117 4 102 [(7, .ref 112), (6, .ref 114), (0, .ref 0), (1, .int x1), (2, .int x2), (3, .int x3), (4, .int x4), (5, .int x5)] [.int x5, .int x4, .ref 112] i a q r (by rfl) ?_ | refine ko_steps mi_in117 4 _ (102, [(7, .ref 112), (6, .ref 114), (0, .ref 0), (1, .int x1), (2, .int x2), (3, .int x3), (4, .int x4), (5, .int x5)], [.int x5, .int x4, .ref 112], (0, 0), ks i a q r) (by rfl) ?_
                      refine ko_callPI mi_k117.1 (pc := 102) (ls := [(7, .ref 112), (6, .ref 114), (0, .ref 0), (1, .int x1), (2, .int x2), (3, .int x3), (4, .int x4), (5, .int x5)]) (st := [.int x5, .int x4, .ref 112]) (h := ks i a q r) (i := (.invokevirtual 324, 3, 37, 0, 9, 0, 316)) (mi_k117.2 _ _ (by rfl)) (ft_invS mi_pq37 (by rfl)) (cy := mi_c37) mi_pq37 rfl (kc37_112 hG.I hG.R x4 x5) (by decide) ?_
                      intro vg634 hg634
                      rcases hg634 with ⟨eg634, hg634⟩ | ⟨eg634, hg634⟩
                      ·
                        subst eg634
                        have fi_7171 : ((0 : Int) ≤ (i 7171).toInt) ∧ ((i 7171).toInt ≤ 60) := hG.I.1 7171
                        have z635 : ((0 : Int) ≤ x5.toInt) ∧ (x5.toInt ≤ (i 7171).toInt) ∧ ((0 : Int) ≤ x4.toInt) ∧ ((x4.toInt + x5.toInt) ≤ (i 7171).toInt) := hg634
                        first | refine fo_goS mi_k117 fz117_105_8_126 [.int x5, .int x4, .ref 113, .int x2, .ref 115] (by rfl) ?_ | refine ft_go mi_k117 8 126 [(7, .ref 112), (6, .ref 114), (0, .ref 0), (1, .int x1), (2, .int x2), (3, .int x3), (4, .int x4), (5, .int x5)] [.int x5, .int x4, .ref 113, .int x2, .ref 115] i a q r (by rfl) ?_ | refine ko_steps mi_in117 8 _ (126, [(7, .ref 112), (6, .ref 114), (0, .ref 0), (1, .int x1), (2, .int x2), (3, .int x3), (4, .int x4), (5, .int x5)], [.int x5, .int x4, .ref 113, .int x2, .ref 115], (0, 0), ks i a q r) (by rfl) ?_
                        have hJ636 := kG_q hG 113 rfl (z := mi_cpy (q 115) (q 113) x2.toNatClampNeg x4.toNatClampNeg x5.toNatClampNeg) (kcpy_len2 (n := 60) (c := 60) (m := 60) (b := 60) (sp := x2) (dp := x4) (n1 := x5) (hG.I.2.2.2 115) rfl (hG.I.2.2.2 113) rfl (oy3 z633.1) (oy3 z633.2.2.1) (oy3 z635.2.2.1) (oy119 fi_7299.2 z633.2.2.2) (oy119 fi_7171.2 z635.2.2.2))
                        refine ko_copyL2 mi_k117.1 (l := q 115) (g := q 113) (n := 60) (c := 60) (m := 60) (b := 60) (mi_k117.2 _ _ (by rfl)) (by rfl) (by rfl) (by rfl) (by rfl) (by rfl) (hG.I.2.2.2 115) rfl (hG.I.2.2.2 113) rfl (oy3 z633.1) (oy3 z633.2.2.1) (oy3 z635.2.2.1) (oy119 fi_7299.2 z633.2.2.2) (oy119 fi_7171.2 z635.2.2.2) (h5 := ks i a (ku q 113 (mi_cpy (q 115) (q 113) x2.toNatClampNeg x4.toNatClampNeg x5.toNatClampNeg)) r) (by rfl) ?_
                        first | refine fo_goS mi_k117 fz117_129_1_131 [.int x5] (by rfl) ?_ | refine ft_go mi_k117 1 131 [(7, .ref 112), (6, .ref 114), (0, .ref 0), (1, .int x1), (2, .int x2), (3, .int x3), (4, .int x4), (5, .int x5)] [.int x5] i a (ku q 113 (mi_cpy (q 115) (q 113) x2.toNatClampNeg x4.toNatClampNeg x5.toNatClampNeg)) r (by rfl) ?_ | refine ko_steps mi_in117 1 _ (131, [(7, .ref 112), (6, .ref 114), (0, .ref 0), (1, .int x1), (2, .int x2), (3, .int x3), (4, .int x4), (5, .int x5)], [.int x5], (0, 0), ks i a (ku q 113 (mi_cpy (q 115) (q 113) x2.toNatClampNeg x4.toNatClampNeg x5.toNatClampNeg)) r) (by rfl) ?_
                        exact ft_ret mi_k117 (by rfl) (hP x5 _ _ _ _ hJ636 ⟨trivial, ⟨fun s t hs ht e1 e3 => by
        have es : s = 5 := kj_at e1 (oy146 w550 z2.2)
        have et : t = 4 := kj_at e3 (oy144 w623)
        subst es
        subst et
        exact ⟨(Or.inr (Or.inr (Or.inr ⟨rfl, (oy152 c628 c630 c631 fi_7168.2 fi_7296.2 ky2), (oy134 z633.1 z633.2.2.1 z633.2.2.2 z635.2.2.1 z635.2.2.2)⟩))), fun _ => ⟨rfl, (fun u hu ne => match u, hu, ne with | 0, _, _ => rfl | 1, _, _ => rfl | 2, _, _ => rfl | 3, _, _ => rfl | 4, _, ne => absurd rfl ne | 5, _, _ => rfl | _ + 6, h, _ => absurd h (by omega))⟩⟩, fun h => absurd h (oy26 z633.1), fun h => absurd (oy182 w550 w623 z2.2 z4.2) h⟩⟩)
                      ·
                        subst eg634
                        have fi_7171 : ((0 : Int) ≤ (i 7171).toInt) ∧ ((i 7171).toInt ≤ 60) := hG.I.1 7171
                        have z637 : ¬ (((0 : Int) ≤ x5.toInt) ∧ (x5.toInt ≤ (i 7171).toInt) ∧ ((0 : Int) ≤ x4.toInt) ∧ ((x4.toInt + x5.toInt) ≤ (i 7171).toInt)) := hg634
                        first | refine fo_goL mi_k117 fz117_93_2_110 [(7, .ref 112), (6, .ref 114), (0, .ref 0), (1, .int x1), (2, .int x2), (3, .int x3), (4, .int x4), (5, .int x5)] [.int (-13)] (by rfl) ?_ | refine fo_goL mi_k117 fz117_105_2_110 [(7, .ref 112), (6, .ref 114), (0, .ref 0), (1, .int x1), (2, .int x2), (3, .int x3), (4, .int x4), (5, .int x5)] [.int (-13)] (by rfl) ?_ | refine ft_go mi_k117 2 110 [(7, .ref 112), (6, .ref 114), (0, .ref 0), (1, .int x1), (2, .int x2), (3, .int x3), (4, .int x4), (5, .int x5)] [.int (-13)] i a q r (by rfl) ?_ | refine ko_steps mi_in117 2 _ (110, [(7, .ref 112), (6, .ref 114), (0, .ref 0), (1, .int x1), (2, .int x2), (3, .int x3), (4, .int x4), (5, .int x5)], [.int (-13)], (0, 0), ks i a q r) (by rfl) ?_
                        exact ft_ret mi_k117 (by rfl) (hP (-13) _ _ _ _ hG ⟨trivial, ⟨fun s t hs ht e1 e3 => by
        have es : s = 5 := kj_at e1 (oy146 w550 z2.2)
        have et : t = 4 := kj_at e3 (oy144 w623)
        subst es
        subst et
        exact ⟨(Or.inr (Or.inr (Or.inl ⟨kym13, (oy152 c628 c630 c631 fi_7168.2 fi_7296.2 ky2), (oy135 z633.1 z637)⟩))), fun h => absurd h (kj_neg kym13 (by decide))⟩, fun _ => (fun u hu => match u, hu with | 0, _ => rfl | 1, _ => rfl | 2, _ => rfl | 3, _ => rfl | 4, _ => rfl | 5, _ => rfl | _ + 6, h => absurd h (by omega)), fun h => absurd (oy182 w550 w623 z2.2 z4.2) h⟩⟩)
                    ·
                      subst eg632
                      have fi_7299 : ((0 : Int) ≤ (i 7299).toInt) ∧ ((i 7299).toInt ≤ 60) := hG.I.1 7299
                      have z638 : ¬ (((0 : Int) ≤ x5.toInt) ∧ (x5.toInt ≤ (i 7299).toInt) ∧ ((0 : Int) ≤ x2.toInt) ∧ ((x2.toInt + x5.toInt) ≤ (i 7299).toInt)) := hg632
                      first | refine fo_goL mi_k117 fz117_93_2_110 [(7, .ref 112), (6, .ref 114), (0, .ref 0), (1, .int x1), (2, .int x2), (3, .int x3), (4, .int x4), (5, .int x5)] [.int (-13)] (by rfl) ?_ | refine fo_goL mi_k117 fz117_105_2_110 [(7, .ref 112), (6, .ref 114), (0, .ref 0), (1, .int x1), (2, .int x2), (3, .int x3), (4, .int x4), (5, .int x5)] [.int (-13)] (by rfl) ?_ | refine ft_go mi_k117 2 110 [(7, .ref 112), (6, .ref 114), (0, .ref 0), (1, .int x1), (2, .int x2), (3, .int x3), (4, .int x4), (5, .int x5)] [.int (-13)] i a q r (by rfl) ?_ | refine ko_steps mi_in117 2 _ (110, [(7, .ref 112), (6, .ref 114), (0, .ref 0), (1, .int x1), (2, .int x2), (3, .int x3), (4, .int x4), (5, .int x5)], [.int (-13)], (0, 0), ks i a q r) (by rfl) ?_
                      have fi_7171 : ((0 : Int) ≤ (i 7171).toInt) ∧ ((i 7171).toInt ≤ 60) := hG.I.1 7171
                      exact ft_ret mi_k117 (by rfl) (hP (-13) _ _ _ _ hG ⟨trivial, ⟨fun s t hs ht e1 e3 => by
        have es : s = 5 := kj_at e1 (oy146 w550 z2.2)
        have et : t = 4 := kj_at e3 (oy144 w623)
        subst es
        subst et
        exact ⟨(Or.inr (Or.inr (Or.inl ⟨kym13, (oy152 c628 c630 c631 fi_7168.2 fi_7296.2 ky2), (oy136 z638)⟩))), fun h => absurd h (kj_neg kym13 (by decide))⟩, fun _ => (fun u hu => match u, hu with | 0, _ => rfl | 1, _ => rfl | 2, _ => rfl | 3, _ => rfl | 4, _ => rfl | 5, _ => rfl | _ + 6, h => absurd h (by omega)), fun h => absurd (oy182 w550 w623 z2.2 z4.2) h⟩⟩)
                  ·
                    have c639 : (i 7298).toInt ≠ (i 7170).toInt := kd_eqF c; clear c
                    first | refine fo_goL mi_k117 fz117_82_1_84 [(7, .ref 112), (6, .ref 114), (0, .ref 0), (1, .int x1), (2, .int x2), (3, .int x3), (4, .int x4), (5, .int x5)] [.int (-12)] (by rfl) ?_ | refine ft_go mi_k117 1 84 [(7, .ref 112), (6, .ref 114), (0, .ref 0), (1, .int x1), (2, .int x2), (3, .int x3), (4, .int x4), (5, .int x5)] [.int (-12)] i a q r (by rfl) ?_ | refine ko_steps mi_in117 1 _ (84, [(7, .ref 112), (6, .ref 114), (0, .ref 0), (1, .int x1), (2, .int x2), (3, .int x3), (4, .int x4), (5, .int x5)], [.int (-12)], (0, 0), ks i a q r) (by rfl) ?_
                    have fi_7299 : ((0 : Int) ≤ (i 7299).toInt) ∧ ((i 7299).toInt ≤ 60) := hG.I.1 7299
                    have fi_7171 : ((0 : Int) ≤ (i 7171).toInt) ∧ ((i 7171).toInt ≤ 60) := hG.I.1 7171
                    exact ft_ret mi_k117 (by rfl) (hP (-12) _ _ _ _ hG ⟨trivial, ⟨fun s t hs ht e1 e3 => by
        have es : s = 5 := kj_at e1 (oy146 w550 z2.2)
        have et : t = 4 := kj_at e3 (oy144 w623)
        subst es
        subst et
        exact ⟨(Or.inr (Or.inl ⟨kym12, (oy137 c628 c630 ky2), (oy138 c639)⟩)), fun h => absurd h (kj_neg kym12 (by decide))⟩, fun _ => (fun u hu => match u, hu with | 0, _ => rfl | 1, _ => rfl | 2, _ => rfl | 3, _ => rfl | 4, _ => rfl | 5, _ => rfl | _ + 6, h => absurd h (by omega)), fun h => absurd (oy182 w550 w623 z2.2 z4.2) h⟩⟩)
            ·
              have c640 : (i 7168).toInt = (0 : Int32).toInt := kd_neF c; clear c
              first | refine fo_goL mi_k117 fz117_48_1_50 [(7, .ref 112), (6, .ref 114), (0, .ref 0), (1, .int x1), (2, .int x2), (3, .int x3), (4, .int x4), (5, .int x5)] [.int (-11)] (by rfl) ?_ | refine ft_go mi_k117 1 50 [(7, .ref 112), (6, .ref 114), (0, .ref 0), (1, .int x1), (2, .int x2), (3, .int x3), (4, .int x4), (5, .int x5)] [.int (-11)] i a q r (by rfl) ?_ | refine ko_steps mi_in117 1 _ (50, [(7, .ref 112), (6, .ref 114), (0, .ref 0), (1, .int x1), (2, .int x2), (3, .int x3), (4, .int x4), (5, .int x5)], [.int (-11)], (0, 0), ks i a q r) (by rfl) ?_
              have fi_7298 : ((0 : Int) ≤ (i 7298).toInt) ∧ ((i 7298).toInt ≤ 4) := hG.I.1 7298
              have fi_7170 : ((0 : Int) ≤ (i 7170).toInt) ∧ ((i 7170).toInt ≤ 4) := hG.I.1 7170
              have fi_7299 : ((0 : Int) ≤ (i 7299).toInt) ∧ ((i 7299).toInt ≤ 60) := hG.I.1 7299
              have fi_7171 : ((0 : Int) ≤ (i 7171).toInt) ∧ ((i 7171).toInt ≤ 60) := hG.I.1 7171
              exact ft_ret mi_k117 (by rfl) (hP (-11) _ _ _ _ hG ⟨trivial, ⟨fun s t hs ht e1 e3 => by
        have es : s = 5 := kj_at e1 (oy146 w550 z2.2)
        have et : t = 4 := kj_at e3 (oy144 w623)
        subst es
        subst et
        exact ⟨(Or.inl ⟨kym11, (oy139 c640 fi_7168.1 ky0)⟩), fun h => absurd h (kj_neg kym11 (by decide))⟩, fun _ => (fun u hu => match u, hu with | 0, _ => rfl | 1, _ => rfl | 2, _ => rfl | 3, _ => rfl | 4, _ => rfl | 5, _ => rfl | _ + 6, h => absurd h (by omega)), fun h => absurd (oy182 w550 w623 z2.2 z4.2) h⟩⟩)
        by_cases w641 : x3.toInt = 5
        ·
          refine ko_eq (x1 := (29, [(6, .ref 114), (0, .ref 0), (1, .int x1), (2, .int x2), (3, .int x3), (4, .int x4), (5, .int x5)], [.int 5, .ref 97], (0, 0), ks i a q r)) (by rw [(kj_eq w641 (by decide) : x3 = 5)]) ?_
          have fi_7296 : ((0 : Int) ≤ (i 7296).toInt) ∧ ((i 7296).toInt ≤ 2) := hG.I.1 7296
          first | refine ft_goL mi_k117 4 37 [(7, .ref 114), (6, .ref 114), (0, .ref 0), (1, .int x1), (2, .int x2), (3, .int x3), (4, .int x4), (5, .int x5)] [.int (i 7296)] (by rfl) ?_ | refine ft_go mi_k117 4 37 [(7, .ref 114), (6, .ref 114), (0, .ref 0), (1, .int x1), (2, .int x2), (3, .int x3), (4, .int x4), (5, .int x5)] [.int (i 7296)] i a q r (by rfl) ?_ | refine ko_steps mi_in117 4 _ (37, [(7, .ref 114), (6, .ref 114), (0, .ref 0), (1, .int x1), (2, .int x2), (3, .int x3), (4, .int x4), (5, .int x5)], [.int (i 7296)], (0, 0), ks i a q r) (by rfl) ?_
          refine ft_ifS mi_k117 ((i 7296) == 0) 48 40 [] (by rfl) (fun c => ?_) (fun c => ?_)
          ·
            have c642 : (i 7296).toInt = (0 : Int32).toInt := kd_eq c; clear c
            first | refine fo_goS mi_k117 fz117_48_1_50 [.int (-11)] (by rfl) ?_ | refine ft_go mi_k117 1 50 [(7, .ref 114), (6, .ref 114), (0, .ref 0), (1, .int x1), (2, .int x2), (3, .int x3), (4, .int x4), (5, .int x5)] [.int (-11)] i a q r (by rfl) ?_ | refine ko_steps mi_in117 1 _ (50, [(7, .ref 114), (6, .ref 114), (0, .ref 0), (1, .int x1), (2, .int x2), (3, .int x3), (4, .int x4), (5, .int x5)], [.int (-11)], (0, 0), ks i a q r) (by rfl) ?_
            have fi_7298 : ((0 : Int) ≤ (i 7298).toInt) ∧ ((i 7298).toInt ≤ 4) := hG.I.1 7298
            have fi_7299 : ((0 : Int) ≤ (i 7299).toInt) ∧ ((i 7299).toInt ≤ 60) := hG.I.1 7299
            exact ft_ret mi_k117 (by rfl) (hP (-11) _ _ _ _ hG ⟨trivial, ⟨fun s t hs ht e1 e3 => by
        have es : s = 5 := kj_at e1 (oy146 w550 z2.2)
        have et : t = 5 := kj_at e3 (oy146 w641 z4.2)
        subst es
        subst et
        exact ⟨(Or.inl ⟨kym11, (oy108 c642 fi_7296.1 ky0)⟩), fun h => absurd h (kj_neg kym11 (by decide))⟩, fun _ => (fun u hu => match u, hu with | 0, _ => rfl | 1, _ => rfl | 2, _ => rfl | 3, _ => rfl | 4, _ => rfl | 5, _ => rfl | _ + 6, h => absurd h (by omega)), fun h => absurd (oy183 w550 w641 z2.2 z4.2) h⟩⟩)
          ·
            have c643 : (i 7296).toInt ≠ (0 : Int32).toInt := kd_eqF c; clear c
            first | refine fo_goL mi_k117 fz117_40_2_45 [(7, .ref 114), (6, .ref 114), (0, .ref 0), (1, .int x1), (2, .int x2), (3, .int x3), (4, .int x4), (5, .int x5)] [.int (i 7296)] (by rfl) ?_ | refine ft_go mi_k117 2 45 [(7, .ref 114), (6, .ref 114), (0, .ref 0), (1, .int x1), (2, .int x2), (3, .int x3), (4, .int x4), (5, .int x5)] [.int (i 7296)] i a q r (by rfl) ?_ | refine ko_steps mi_in117 2 _ (45, [(7, .ref 114), (6, .ref 114), (0, .ref 0), (1, .int x1), (2, .int x2), (3, .int x3), (4, .int x4), (5, .int x5)], [.int (i 7296)], (0, 0), ks i a q r) (by rfl) ?_
            refine ft_ifS mi_k117 ((i 7296) != 0) 51 48 [] (by rfl) (fun c => ?_) (fun c => ?_)
            ·
              have c644 : (i 7296).toInt ≠ (0 : Int32).toInt := kd_ne c; clear c
              first | refine fo_goS mi_k117 fz117_51_3_57 [.int 2, .int (i 7296)] (by rfl) ?_ | refine ft_go mi_k117 3 57 [(7, .ref 114), (6, .ref 114), (0, .ref 0), (1, .int x1), (2, .int x2), (3, .int x3), (4, .int x4), (5, .int x5)] [.int 2, .int (i 7296)] i a q r (by rfl) ?_ | refine ko_steps mi_in117 3 _ (57, [(7, .ref 114), (6, .ref 114), (0, .ref 0), (1, .int x1), (2, .int x2), (3, .int x3), (4, .int x4), (5, .int x5)], [.int 2, .int (i 7296)], (0, 0), ks i a q r) (by rfl) ?_
              refine ft_ifS mi_k117 ((i 7296) != 2) 82 60 [] (by rfl) (fun c => ?_) (fun c => ?_)
              ·
                have c645 : (i 7296).toInt ≠ (2 : Int32).toInt := kd_ne c; clear c
                first | refine fo_goS mi_k117 fz117_82_1_84 [.int (-12)] (by rfl) ?_ | refine ft_go mi_k117 1 84 [(7, .ref 114), (6, .ref 114), (0, .ref 0), (1, .int x1), (2, .int x2), (3, .int x3), (4, .int x4), (5, .int x5)] [.int (-12)] i a q r (by rfl) ?_ | refine ko_steps mi_in117 1 _ (84, [(7, .ref 114), (6, .ref 114), (0, .ref 0), (1, .int x1), (2, .int x2), (3, .int x3), (4, .int x4), (5, .int x5)], [.int (-12)], (0, 0), ks i a q r) (by rfl) ?_
                have fi_7298 : ((0 : Int) ≤ (i 7298).toInt) ∧ ((i 7298).toInt ≤ 4) := hG.I.1 7298
                have fi_7299 : ((0 : Int) ≤ (i 7299).toInt) ∧ ((i 7299).toInt ≤ 60) := hG.I.1 7299
                exact ft_ret mi_k117 (by rfl) (hP (-12) _ _ _ _ hG ⟨trivial, ⟨fun s t hs ht e1 e3 => by
        have es : s = 5 := kj_at e1 (oy146 w550 z2.2)
        have et : t = 5 := kj_at e3 (oy146 w641 z4.2)
        subst es
        subst et
        exact ⟨(Or.inr (Or.inl ⟨kym12, (oy109 c643 fi_7296.1 ky0), (oy110 c645 fi_7296.2 ky2)⟩)), fun h => absurd h (kj_neg kym12 (by decide))⟩, fun _ => (fun u hu => match u, hu with | 0, _ => rfl | 1, _ => rfl | 2, _ => rfl | 3, _ => rfl | 4, _ => rfl | 5, _ => rfl | _ + 6, h => absurd h (by omega)), fun h => absurd (oy183 w550 w641 z2.2 z4.2) h⟩⟩)
              ·
                have c646 : (i 7296).toInt = (2 : Int32).toInt := kd_neF c; clear c
                first | refine fo_goL mi_k117 fz117_60_3_66 [(7, .ref 114), (6, .ref 114), (0, .ref 0), (1, .int x1), (2, .int x2), (3, .int x3), (4, .int x4), (5, .int x5)] [.int 2, .int (i 7296)] (by rfl) ?_ | refine ft_go mi_k117 3 66 [(7, .ref 114), (6, .ref 114), (0, .ref 0), (1, .int x1), (2, .int x2), (3, .int x3), (4, .int x4), (5, .int x5)] [.int 2, .int (i 7296)] i a q r (by rfl) ?_ | refine ko_steps mi_in117 3 _ (66, [(7, .ref 114), (6, .ref 114), (0, .ref 0), (1, .int x1), (2, .int x2), (3, .int x3), (4, .int x4), (5, .int x5)], [.int 2, .int (i 7296)], (0, 0), ks i a q r) (by rfl) ?_
                refine ft_ifS mi_k117 ((i 7296) != 2) 82 69 [] (by rfl) (fun c => ?_) (fun c => ?_)
                ·
                  have c647 : (i 7296).toInt ≠ (2 : Int32).toInt := kd_ne c; clear c
                  exact (oy111 c646 c647 fi_7296.2 ky2).elim
                ·
                  have c648 : (i 7296).toInt = (2 : Int32).toInt := kd_neF c; clear c
                  have fi_7298 : ((0 : Int) ≤ (i 7298).toInt) ∧ ((i 7298).toInt ≤ 4) := hG.I.1 7298
                  first | refine fo_goS mi_k117 fz117_69_4_79 [.int (i 7298), .int (i 7298)] (by rfl) ?_ | refine ft_go mi_k117 4 79 [(7, .ref 114), (6, .ref 114), (0, .ref 0), (1, .int x1), (2, .int x2), (3, .int x3), (4, .int x4), (5, .int x5)] [.int (i 7298), .int (i 7298)] i a q r (by rfl) ?_ | refine ko_steps mi_in117 4 _ (79, [(7, .ref 114), (6, .ref 114), (0, .ref 0), (1, .int x1), (2, .int x2), (3, .int x3), (4, .int x4), (5, .int x5)], [.int (i 7298), .int (i 7298)], (0, 0), ks i a q r) (by rfl) ?_
                  refine ft_ifS mi_k117 ((i 7298) == (i 7298)) 85 82 [] (by rfl) (fun c => ?_) (fun c => ?_)
                  ·
                    have c649 : (i 7298).toInt = (i 7298).toInt := kd_eq c; clear c
                    first | refine fo_goS mi_k117 fz117_85_3_90 [.int x5, .int x2, .ref 114] (by rfl) ?_ | refine ft_go mi_k117 3 90 [(7, .ref 114), (6, .ref 114), (0, .ref 0), (1, .int x1), (2, .int x2), (3, .int x3), (4, .int x4), (5, .int x5)] [.int x5, .int x2, .ref 114] i a q r (by rfl) ?_ | refine ko_steps mi_in117 3 _ (90, [(7, .ref 114), (6, .ref 114), (0, .ref 0), (1, .int x1), (2, .int x2), (3, .int x3), (4, .int x4), (5, .int x5)], [.int x5, .int x2, .ref 114], (0, 0), ks i a q r) (by rfl) ?_
                    refine ko_callPI mi_k117.1 (pc := 90) (ls := [(7, .ref 114), (6, .ref 114), (0, .ref 0), (1, .int x1), (2, .int x2), (3, .int x3), (4, .int x4), (5, .int x5)]) (st := [.int x5, .int x2, .ref 114]) (h := ks i a q r) (i := (.invokevirtual 324, 3, 37, 0, 9, 0, 316)) (mi_k117.2 _ _ (by rfl)) (ft_invS mi_pq37 (by rfl)) (cy := mi_c37) mi_pq37 rfl (kc37_114 hG.I hG.R x2 x5) (by decide) ?_
                    intro vg650 hg650
                    rcases hg650 with ⟨eg650, hg650⟩ | ⟨eg650, hg650⟩
                    ·
                      subst eg650
                      have fi_7299 : ((0 : Int) ≤ (i 7299).toInt) ∧ ((i 7299).toInt ≤ 60) := hG.I.1 7299
                      have z651 : ((0 : Int) ≤ x5.toInt) ∧ (x5.toInt ≤ (i 7299).toInt) ∧ ((0 : Int) ≤ x2.toInt) ∧ ((x2.toInt + x5.toInt) ≤ (i 7299).toInt) := hg650
                      first | refine fo_goS mi_k117 fz117_93_4_102 [.int x5, .int x4, .ref 114] (by rfl) ?_ | refine ft_go mi_k117 4 102 [(7, .ref 114), (6, .ref 114), (0, .ref 0), (1, .int x1), (2, .int x2), (3, .int x3), (4, .int x4), (5, .int x5)] [.int x5, .int x4, .ref 114] i a q r (by rfl) ?_ | refine ko_steps mi_in117 4 _ (102, [(7, .ref 114), (6, .ref 114), (0, .ref 0), (1, .int x1), (2, .int x2), (3, .int x3), (4, .int x4), (5, .int x5)], [.int x5, .int x4, .ref 114], (0, 0), ks i a q r) (by rfl) ?_
                      refine ko_callPI mi_k117.1 (pc := 102) (ls := [(7, .ref 114), (6, .ref 114), (0, .ref 0), (1, .int x1), (2, .int x2), (3, .int x3), (4, .int x4), (5, .int x5)]) (st := [.int x5, .int x4, .ref 114]) (h := ks i a q r) (i := (.invokevirtual 324, 3, 37, 0, 9, 0, 316)) (mi_k117.2 _ _ (by rfl)) (ft_invS mi_pq37 (by rfl)) (cy := mi_c37) mi_pq37 rfl (kc37_114 hG.I hG.R x4 x5) (by decide) ?_
                      intro vg652 hg652
                      rcases hg652 with ⟨eg652, hg652⟩ | ⟨eg652, hg652⟩
                      ·
                        subst eg652
                        have z653 : ((0 : Int) ≤ x5.toInt) ∧ (x5.toInt ≤ (i 7299).toInt) ∧ ((0 : Int) ≤ x4.toInt) ∧ ((x4.toInt + x5.toInt) ≤ (i 7299).toInt) := hg652
                        first | refine fo_goS mi_k117 fz117_105_8_126 [.int x5, .int x4, .ref 115, .int x2, .ref 115] (by rfl) ?_ | refine ft_go mi_k117 8 126 [(7, .ref 114), (6, .ref 114), (0, .ref 0), (1, .int x1), (2, .int x2), (3, .int x3), (4, .int x4), (5, .int x5)] [.int x5, .int x4, .ref 115, .int x2, .ref 115] i a q r (by rfl) ?_ | refine ko_steps mi_in117 8 _ (126, [(7, .ref 114), (6, .ref 114), (0, .ref 0), (1, .int x1), (2, .int x2), (3, .int x3), (4, .int x4), (5, .int x5)], [.int x5, .int x4, .ref 115, .int x2, .ref 115], (0, 0), ks i a q r) (by rfl) ?_
                        have hJ654 := kG_q hG 115 rfl (z := mi_cpy (q 115) (q 115) x2.toNatClampNeg x4.toNatClampNeg x5.toNatClampNeg) (kcpy_len2 (n := 60) (c := 60) (m := 60) (b := 60) (sp := x2) (dp := x4) (n1 := x5) (hG.I.2.2.2 115) rfl (hG.I.2.2.2 115) rfl (oy3 z651.1) (oy3 z651.2.2.1) (oy3 z653.2.2.1) (oy119 fi_7299.2 z651.2.2.2) (oy119 fi_7299.2 z653.2.2.2))
                        refine ko_copyL2 mi_k117.1 (l := q 115) (g := q 115) (n := 60) (c := 60) (m := 60) (b := 60) (mi_k117.2 _ _ (by rfl)) (by rfl) (by rfl) (by rfl) (by rfl) (by rfl) (hG.I.2.2.2 115) rfl (hG.I.2.2.2 115) rfl (oy3 z651.1) (oy3 z651.2.2.1) (oy3 z653.2.2.1) (oy119 fi_7299.2 z651.2.2.2) (oy119 fi_7299.2 z653.2.2.2) (h5 := ks i a (ku q 115 (mi_cpy (q 115) (q 115) x2.toNatClampNeg x4.toNatClampNeg x5.toNatClampNeg)) r) (by rfl) ?_
                        first | refine fo_goS mi_k117 fz117_129_1_131 [.int x5] (by rfl) ?_ | refine ft_go mi_k117 1 131 [(7, .ref 114), (6, .ref 114), (0, .ref 0), (1, .int x1), (2, .int x2), (3, .int x3), (4, .int x4), (5, .int x5)] [.int x5] i a (ku q 115 (mi_cpy (q 115) (q 115) x2.toNatClampNeg x4.toNatClampNeg x5.toNatClampNeg)) r (by rfl) ?_ | refine ko_steps mi_in117 1 _ (131, [(7, .ref 114), (6, .ref 114), (0, .ref 0), (1, .int x1), (2, .int x2), (3, .int x3), (4, .int x4), (5, .int x5)], [.int x5], (0, 0), ks i a (ku q 115 (mi_cpy (q 115) (q 115) x2.toNatClampNeg x4.toNatClampNeg x5.toNatClampNeg)) r) (by rfl) ?_
                        exact ft_ret mi_k117 (by rfl) (hP x5 _ _ _ _ hJ654 ⟨trivial, ⟨fun s t hs ht e1 e3 => by
        have es : s = 5 := kj_at e1 (oy146 w550 z2.2)
        have et : t = 5 := kj_at e3 (oy146 w641 z4.2)
        subst es
        subst et
        exact ⟨(Or.inr (Or.inr (Or.inr ⟨rfl, (oy120 c646 fi_7296.2 ky2), (oy121 z651.1 z651.2.2.1 z651.2.2.2 z653.2.2.1 z653.2.2.2)⟩))), fun _ => ⟨rfl, (fun u hu ne => match u, hu, ne with | 0, _, _ => rfl | 1, _, _ => rfl | 2, _, _ => rfl | 3, _, _ => rfl | 4, _, _ => rfl | 5, _, ne => absurd rfl ne | _ + 6, h, _ => absurd h (by omega))⟩⟩, fun h => absurd h (oy26 z651.1), fun h => absurd (oy183 w550 w641 z2.2 z4.2) h⟩⟩)
                      ·
                        subst eg652
                        have z655 : ¬ (((0 : Int) ≤ x5.toInt) ∧ (x5.toInt ≤ (i 7299).toInt) ∧ ((0 : Int) ≤ x4.toInt) ∧ ((x4.toInt + x5.toInt) ≤ (i 7299).toInt)) := hg652
                        first | refine fo_goL mi_k117 fz117_93_2_110 [(7, .ref 114), (6, .ref 114), (0, .ref 0), (1, .int x1), (2, .int x2), (3, .int x3), (4, .int x4), (5, .int x5)] [.int (-13)] (by rfl) ?_ | refine fo_goL mi_k117 fz117_105_2_110 [(7, .ref 114), (6, .ref 114), (0, .ref 0), (1, .int x1), (2, .int x2), (3, .int x3), (4, .int x4), (5, .int x5)] [.int (-13)] (by rfl) ?_ | refine ft_go mi_k117 2 110 [(7, .ref 114), (6, .ref 114), (0, .ref 0), (1, .int x1), (2, .int x2), (3, .int x3), (4, .int x4), (5, .int x5)] [.int (-13)] i a q r (by rfl) ?_ | refine ko_steps mi_in117 2 _ (110, [(7, .ref 114), (6, .ref 114), (0, .ref 0), (1, .int x1), (2, .int x2), (3, .int x3), (4, .int x4), (5, .int x5)], [.int (-13)], (0, 0), ks i a q r) (by rfl) ?_
                        exact ft_ret mi_k117 (by rfl) (hP (-13) _ _ _ _ hG ⟨trivial, ⟨fun s t hs ht e1 e3 => by
        have es : s = 5 := kj_at e1 (oy146 w550 z2.2)
        have et : t = 5 := kj_at e3 (oy146 w641 z4.2)
        subst es
        subst et
        exact ⟨(Or.inr (Or.inr (Or.inl ⟨kym13, (oy120 c646 fi_7296.2 ky2), (oy122 z651.1 z651.2.1 z655)⟩))), fun h => absurd h (kj_neg kym13 (by decide))⟩, fun _ => (fun u hu => match u, hu with | 0, _ => rfl | 1, _ => rfl | 2, _ => rfl | 3, _ => rfl | 4, _ => rfl | 5, _ => rfl | _ + 6, h => absurd h (by omega)), fun h => absurd (oy183 w550 w641 z2.2 z4.2) h⟩⟩)
                    ·
                      subst eg650
                      have fi_7299 : ((0 : Int) ≤ (i 7299).toInt) ∧ ((i 7299).toInt ≤ 60) := hG.I.1 7299
                      have z656 : ¬ (((0 : Int) ≤ x5.toInt) ∧ (x5.toInt ≤ (i 7299).toInt) ∧ ((0 : Int) ≤ x2.toInt) ∧ ((x2.toInt + x5.toInt) ≤ (i 7299).toInt)) := hg650
                      first | refine fo_goL mi_k117 fz117_93_2_110 [(7, .ref 114), (6, .ref 114), (0, .ref 0), (1, .int x1), (2, .int x2), (3, .int x3), (4, .int x4), (5, .int x5)] [.int (-13)] (by rfl) ?_ | refine fo_goL mi_k117 fz117_105_2_110 [(7, .ref 114), (6, .ref 114), (0, .ref 0), (1, .int x1), (2, .int x2), (3, .int x3), (4, .int x4), (5, .int x5)] [.int (-13)] (by rfl) ?_ | refine ft_go mi_k117 2 110 [(7, .ref 114), (6, .ref 114), (0, .ref 0), (1, .int x1), (2, .int x2), (3, .int x3), (4, .int x4), (5, .int x5)] [.int (-13)] i a q r (by rfl) ?_ | refine ko_steps mi_in117 2 _ (110, [(7, .ref 114), (6, .ref 114), (0, .ref 0), (1, .int x1), (2, .int x2), (3, .int x3), (4, .int x4), (5, .int x5)], [.int (-13)], (0, 0), ks i a q r) (by rfl) ?_
                      exact ft_ret mi_k117 (by rfl) (hP (-13) _ _ _ _ hG ⟨trivial, ⟨fun s t hs ht e1 e3 => by
        have es : s = 5 := kj_at e1 (oy146 w550 z2.2)
        have et : t = 5 := kj_at e3 (oy146 w641 z4.2)
        subst es
        subst et
        exact ⟨(Or.inr (Or.inr (Or.inl ⟨kym13, (oy120 c646 fi_7296.2 ky2), (oy123 z656)⟩))), fun h => absurd h (kj_neg kym13 (by decide))⟩, fun _ => (fun u hu => match u, hu with | 0, _ => rfl | 1, _ => rfl | 2, _ => rfl | 3, _ => rfl | 4, _ => rfl | 5, _ => rfl | _ + 6, h => absurd h (by omega)), fun h => absurd (oy183 w550 w641 z2.2 z4.2) h⟩⟩)
                  ·
                    have c657 : (i 7298).toInt ≠ (i 7298).toInt := kd_eqF c; clear c
                    exact (oy124 c657).elim
            ·
              have c658 : (i 7296).toInt = (0 : Int32).toInt := kd_neF c; clear c
              exact (oy154 c643 c658 fi_7296.1 ky0).elim
        exact (oy159 w551 w569 w587 w605 w623 w641 z4.1 z4.2).elim
      exact (oy184 w114 w223 w332 w441 w5 w550 z2.1 z2.2).elim
    ·
      subst eg3
      have z659 : ¬ (((0 : Int) ≤ x3.toInt) ∧ (x3.toInt ≤ 5)) := hg3
      first | refine ft_goS mi_k117 2 15 [.int (-1)] (by rfl) ?_ | refine ft_go mi_k117 2 15 [(0, .ref 0), (1, .int x1), (2, .int x2), (3, .int x3), (4, .int x4), (5, .int x5)] [.int (-1)] i a q r (by rfl) ?_ | refine ko_steps mi_in117 2 _ (15, [(0, .ref 0), (1, .int x1), (2, .int x2), (3, .int x3), (4, .int x4), (5, .int x5)], [.int (-1)], (0, 0), ks i a q r) (by rfl) ?_
      exact ft_ret mi_k117 (by rfl) (hP (-1) _ _ _ _ hG ⟨trivial, ⟨fun s t hs ht e1 e3 => (kj_no (oy185 z659) e1 e3 hs ht).elim, fun _ => (fun u hu => match u, hu with | 0, _ => rfl | 1, _ => rfl | 2, _ => rfl | 3, _ => rfl | 4, _ => rfl | 5, _ => rfl | _ + 6, h => absurd h (by omega)), fun _ => knm1⟩⟩)
  ·
    subst eg1
    have z660 : ¬ (((0 : Int) ≤ x1.toInt) ∧ (x1.toInt ≤ 5)) := hg1
    first | refine ft_goS mi_k117 2 15 [.int (-1)] (by rfl) ?_ | refine ft_go mi_k117 2 15 [(0, .ref 0), (1, .int x1), (2, .int x2), (3, .int x3), (4, .int x4), (5, .int x5)] [.int (-1)] i a q r (by rfl) ?_ | refine ko_steps mi_in117 2 _ (15, [(0, .ref 0), (1, .int x1), (2, .int x2), (3, .int x3), (4, .int x4), (5, .int x5)], [.int (-1)], (0, 0), ks i a q r) (by rfl) ?_
    exact ft_ret mi_k117 (by rfl) (hP (-1) _ _ _ _ hG ⟨trivial, ⟨fun s t hs ht e1 e3 => (kj_no (oy186 z660) e1 e3 hs ht).elim, fun _ => (fun u hu => match u, hu with | 0, _ => rfl | 1, _ => rfl | 2, _ => rfl | 3, _ => rfl | 4, _ => rfl | 5, _ => rfl | _ + 6, h => absurd h (by omega)), fun _ => knm1⟩⟩)
end
section
/-! WHAT HOLDS BETWEEN TWO CALLS OF THE LAW -/
def kU (i : Nat → Int32) (a : Nat → List Int32) : Prop := kHold i a ∧ kCode i a ∧ kChg i a ∧ (i 7453).toInt ≤ (i 7452).toInt
def kBod (i : Nat → Int32) (a : Nat → List Int32) : Prop := (i 6017).toInt = (i 7455).toInt ∧ a 95 = a 134
def kAll (i : Nat → Int32) (a : Nat → List Int32) (q : Nat → List Int64) (r : Nat → Nat) : Prop := (kI i a q ∧ kr r) ∧ kU i a ∧ kShel i a q ∧ kBod i a
def kFrU (w : kW) : Bool := !kM w.1 7432 && (!kM w.1 7452 && (!kM w.1 7453 && (!kM w.2.1 120 && (!kM w.2.1 121 && (!kM w.2.1 122 && (!kM w.2.1 123 && (!kM w.2.1 133 && !kM w.2.1 136)))))))
def kFrS (w : kW) : Bool := (List.range 6).all (fun t => !kM w.1 (6656 + 128 * t) && (!kM w.1 (6657 + 128 * t) && (!kM w.1 (6658 + 128 * t) && (!kM w.1 (6659 + 128 * t) && !kM w.2.2.1 (105 + 2 * t))))) && (!kM w.2.1 136 && (!kM w.2.1 137 && !kM w.2.2.1 138))
def kFrB (w : kW) : Bool := !kM w.1 6017 && (!kM w.1 7455 && (!kM w.2.1 95 && !kM w.2.1 134))
section FR
variable {w : kW} {i i1 : Nat → Int32} {a a1 : Nat → List Int32} {q q1 : Nat → List Int64} {r r1 : Nat → Nat}
theorem kI_ln (hI : kI i a q) : ∀ t : Nat, t < 6 → 0 ≤ (i (6659 + 128 * t)).toInt ∧ (i (6659 + 128 * t)).toInt ≤ 60 := fun t ht => match t, ht with
  | 0, _ => hI.1 6659
  | 1, _ => hI.1 6787
  | 2, _ => hI.1 6915
  | 3, _ => hI.1 7043
  | 4, _ => hI.1 7171
  | 5, _ => hI.1 7299
  | _ + 6, h => absurd h (by omega)
theorem kI_so (hI : kI i a q) : ∀ t : Nat, t < 6 → 0 ≤ (i (6658 + 128 * t)).toInt ∧ (i (6658 + 128 * t)).toInt ≤ 4 := fun t ht => match t, ht with
  | 0, _ => hI.1 6658
  | 1, _ => hI.1 6786
  | 2, _ => hI.1 6914
  | 3, _ => hI.1 7042
  | 4, _ => hI.1 7170
  | 5, _ => hI.1 7298
  | _ + 6, h => absurd h (by omega)
theorem kI_ho (hI : kI i a q) : ∀ t : Nat, t < 6 → 0 ≤ (i (6656 + 128 * t)).toInt ∧ (i (6656 + 128 * t)).toInt ≤ 2 := fun t ht => match t, ht with
  | 0, _ => hI.1 6656
  | 1, _ => hI.1 6784
  | 2, _ => hI.1 6912
  | 3, _ => hI.1 7040
  | 4, _ => hI.1 7168
  | 5, _ => hI.1 7296
  | _ + 6, h => absurd h (by omega)
theorem kI_ql (hI : kI i a q) : ∀ t : Nat, t < 6 → (q (105 + 2 * t)).length = 60 := fun t ht => match t, ht with
  | 0, _ => hI.2.2.2 105
  | 1, _ => hI.2.2.2 107
  | 2, _ => hI.2.2.2 109
  | 3, _ => hI.2.2.2 111
  | 4, _ => hI.2.2.2 113
  | 5, _ => hI.2.2.2 115
  | _ + 6, h => absurd h (by omega)
theorem kU_fr (g : kG w i a q r i1 a1 q1 r1) (f : kFrU w = true) (h : kU i a) : kU i1 a1 := by
  unfold kFrU at f
  simp only [Bool.and_eq_true, Bool.not_eq_true'] at f
  obtain ⟨f1, f2, f3, f4, f5, f6, f7, f8, f9⟩ := f
  exact ⟨kHold_of h.1 (g.fa _ f9), kCode_of h.2.1 (g.fi _ f1) (g.fa _ f4) (g.fa _ f5) (g.fa _ f6) (g.fa _ f7), kChg_of h.2.2.1 (g.fa _ f8), by rw [g.fi _ f2, g.fi _ f3]; exact h.2.2.2⟩
theorem kShel_fr (g : kG w i a q r i1 a1 q1 r1) (hI : kI i a q) (f : kFrS w = true) (h : kShel i a q) : kShel i1 a1 q1 := by
  unfold kFrS at f
  simp only [Bool.and_eq_true, Bool.not_eq_true', List.all_eq_true, List.mem_range] at f
  obtain ⟨f1, f2, f3, f4⟩ := f
  intro t ht
  obtain ⟨b0, b1, b2, b3, b4⟩ := f1 t ht
  exact kSh1_of (h t ht) (kVw_eq (g.fi _ b0) (g.fi _ b1) (g.fi _ b2) (g.fi _ b3) (g.fq _ b4)) (by rw [g.fa _ f2]) (by rw [g.fa _ f3]) (fun j _ => by rw [g.fq _ f4]) (kI_ln hI t ht).2
theorem kBod_fr (g : kG w i a q r i1 a1 q1 r1) (f : kFrB w = true) (h : kBod i a) : kBod i1 a1 := by
  unfold kFrB at f
  simp only [Bool.and_eq_true, Bool.not_eq_true'] at f
  obtain ⟨f1, f2, f3, f4⟩ := f
  exact ⟨by rw [g.fi _ f1, g.fi _ f2]; exact h.1, by rw [g.fa _ f3, g.fa _ f4]; exact h.2⟩
theorem kAll_fr (g : kG w i a q r i1 a1 q1 r1) (f : (kFrU w && (kFrS w && kFrB w)) = true) (h : kAll i a q r) : kAll i1 a1 q1 r1 := by
  obtain ⟨f1, f2⟩ := Bool.and_eq_true_iff.mp f
  obtain ⟨f2, f3⟩ := Bool.and_eq_true_iff.mp f2
  exact ⟨⟨g.I, g.R⟩, kU_fr g f1 h.2.1, kShel_fr g h.1.1 f2 h.2.2.1, kBod_fr g f3 h.2.2.2⟩
/-- the three methods of the reference that write what kU speaks of, and its law -/
theorem kAll_law (g : kG w i a q r i1 a1 q1 r1) (f : (!kM w.1 7452 && (!kM w.1 7453 && (!kM w.2.1 133 && !kM w.2.1 136)) && (kFrS w && kFrB w)) = true) (hc : kCode i1 a1) (h : kAll i a q r) : kAll i1 a1 q1 r1 := by
  simp only [Bool.and_eq_true, Bool.not_eq_true'] at f
  obtain ⟨⟨f1, f2, f3, f4⟩, f5, f6⟩ := f
  exact ⟨⟨g.I, g.R⟩, ⟨kHold_of h.2.1.1 (g.fa _ f4), hc, kChg_of h.2.1.2.2.1 (g.fa _ f3), by rw [g.fi _ f1, g.fi _ f2]; exact h.2.1.2.2.2⟩, kShel_fr g h.1.1 f5 h.2.2.1, kBod_fr g f6 h.2.2.2⟩
theorem kAll_chg (g : kG w i a q r i1 a1 q1 r1) (f : (!kM w.1 7432 && (!kM w.2.1 120 && (!kM w.2.1 121 && (!kM w.2.1 122 && (!kM w.2.1 123 && !kM w.2.1 136)))) && (kFrS w && kFrB w)) = true) (hc : kChg i1 a1) (hd : (i1 7453).toInt ≤ (i1 7452).toInt) (h : kAll i a q r) : kAll i1 a1 q1 r1 := by
  simp only [Bool.and_eq_true, Bool.not_eq_true'] at f
  obtain ⟨⟨f1, f2, f3, f4, f5, f6⟩, f7, f8⟩ := f
  exact ⟨⟨g.I, g.R⟩, ⟨kHold_of h.2.1.1 (g.fa _ f6), kCode_of h.2.1.2.1 (g.fi _ f1) (g.fa _ f2) (g.fa _ f3) (g.fa _ f4) (g.fa _ f5), hc, hd⟩, kShel_fr g h.1.1 f7 h.2.2.1, kBod_fr g f8 h.2.2.2⟩
end FR
theorem kset_gI {l : List Int32} {j m : Nat} {x : Int32} (h : j < l.length) : (l.set j x).getD m 0 = if m = j then x else l.getD m 0 := by
  by_cases e : m = j
  · subst e
    rw [if_pos rfl, List.getD_eq_getElem?_getD, List.getElem?_set_self h]
    rfl
  · rw [if_neg e, List.getD_eq_getElem?_getD, List.getElem?_set_ne (fun z => e z.symm), ← List.getD_eq_getElem?_getD]
theorem kj_t {x : Int32} {t : Nat} (c : (t : Int) = x.toInt) : x.toNatClampNeg = t := by have := Int32.toNat_toInt x; omega
theorem kj_ix {x y : Int32} {t j : Nat} (ht : (t : Int) = x.toInt) (h6 : t < 6) (hj : (j : Int) = y.toInt) (hk : j < 60) : ((60 * x) + y).toNatClampNeg = 60 * t + j := by
  have e0 : (60 * x).toInt = 60 * x.toInt := kd_cmul 60 (by decide) (by omega) (by omega)
  have e1 : ((60 * x) + y).toInt = (60 * x).toInt + y.toInt := kd_add (by omega) (by omega)
  have := Int32.toNat_toInt ((60 * x) + y)
  omega
theorem kj_v {v w : Int32} (h : v.toInt = w.toInt) : v = w := Int32.toInt_inj.mp h
theorem kj_v1 {v : Int32} (h : v.toInt = 1) : v = 1 := Int32.toInt_inj.mp (h.trans (by decide))
theorem kj_1v {v : Int32} (h : v = 1) : v.toInt = 1 := by subst h; decide

theorem st_keep {i i1 i2 : Nat → Int32} {a a1 a2 : Nat → List Int32} {q q1 q2 : Nat → List Int64} {r r1 r2 : Nat → Nat} {v w : Int32} {x1 : Int32} {x2 : Int32} (h : kAll i a q r) (g1 : kG xw113_0 i a q r i1 a1 q1 r1) (P1 : ((((v.toInt = 1) ∧ (((0 : Int) ≤ x1.toInt) ∧ (x1.toInt ≤ 5) ∧ ((x2.toInt = (-1)) ∨ (((0 : Int) ≤ x2.toInt) ∧ (x2.toInt < (i 6017).toInt))))) ∨ ((v.toInt = (-1)) ∧ (¬ (((0 : Int) ≤ x1.toInt) ∧ (x1.toInt ≤ 5) ∧ ((x2.toInt = (-1)) ∨ (((0 : Int) ≤ x2.toInt) ∧ (x2.toInt < (i 6017).toInt))))))) ∧ ((((v.toInt = 1) ∧ (x1.toInt = 0)) → ((((x2.toInt < 0) ∧ ((i1 6656).toInt = 0)) ∨ (((0 : Int) ≤ x2.toInt) ∧ ((i1 6656).toInt = 1))) ∧ ((i1 6657).toInt = x2.toInt)))) ∧ ((((v.toInt = 1) ∧ (x1.toInt = 1)) → ((((x2.toInt < 0) ∧ ((i1 6784).toInt = 0)) ∨ (((0 : Int) ≤ x2.toInt) ∧ ((i1 6784).toInt = 1))) ∧ ((i1 6785).toInt = x2.toInt)))) ∧ ((((v.toInt = 1) ∧ (x1.toInt = 2)) → ((((x2.toInt < 0) ∧ ((i1 6912).toInt = 0)) ∨ (((0 : Int) ≤ x2.toInt) ∧ ((i1 6912).toInt = 1))) ∧ ((i1 6913).toInt = x2.toInt)))) ∧ ((((v.toInt = 1) ∧ (x1.toInt = 3)) → ((((x2.toInt < 0) ∧ ((i1 7040).toInt = 0)) ∨ (((0 : Int) ≤ x2.toInt) ∧ ((i1 7040).toInt = 1))) ∧ ((i1 7041).toInt = x2.toInt)))) ∧ ((((v.toInt = 1) ∧ (x1.toInt = 4)) → ((((x2.toInt < 0) ∧ ((i1 7168).toInt = 0)) ∨ (((0 : Int) ≤ x2.toInt) ∧ ((i1 7168).toInt = 1))) ∧ ((i1 7169).toInt = x2.toInt)))) ∧ ((((v.toInt = 1) ∧ (x1.toInt = 5)) → ((((x2.toInt < 0) ∧ ((i1 7296).toInt = 0)) ∨ (((0 : Int) ≤ x2.toInt) ∧ ((i1 7296).toInt = 1))) ∧ ((i1 7297).toInt = x2.toInt))))) ∧ ((v = 1 → kOth i q i1 q1 x1.toInt) ∧ (v ≠ 1 → ∀ t : Nat, t < 6 → kVw i1 q1 t = kVw i q t))) (g2 : kG xw217_116 i1 a1 q1 r1 i2 a2 q2 r2) (P2 : (((w.toInt = 1) ∧ (((0 : Int) ≤ x1.toInt) ∧ (x1.toInt ≤ 5) ∧ (((-1) : Int) ≤ x2.toInt) ∧ (x2.toInt < (i1 7455).toInt))) ∨ ((w.toInt = (-1)) ∧ (¬ (((0 : Int) ≤ x1.toInt) ∧ (x1.toInt ≤ 5) ∧ (((-1) : Int) ≤ x2.toInt) ∧ (x2.toInt < (i1 7455).toInt))))) ∧ ((w = 1 → ∃ w : Int32, ((x2.toInt < 0 ∧ w.toInt = -1) ∨ (0 ≤ x2.toInt ∧ w.toInt = 10 + x2.toInt)) ∧ a2 136 = (a1 136).set x1.toNatClampNeg w ∧ a2 137 = (a1 137).set x1.toNatClampNeg 0) ∧ (w ≠ 1 → a2 136 = a1 136 ∧ a2 137 = a1 137))) : kAll i2 a2 q2 r2 ∧ v = w := by
  obtain ⟨⟨D, I0, I1, I2, I3, I4, I5⟩, o1, o2⟩ := P1
  obtain ⟨D1, p1, p2⟩ := P2
  have hC : v.toInt = 1 → ∀ t : Nat, t < 6 → (t : Int) = x1.toInt → ((x2.toInt < 0 ∧ (i1 (6656 + 128 * t)).toInt = 0) ∨ ((0 : Int) ≤ x2.toInt ∧ (i1 (6656 + 128 * t)).toInt = 1)) ∧ (i1 (6657 + 128 * t)).toInt = x2.toInt := fun hv1 t ht c => match t, ht, c with
    | 0, _, c => I0 ⟨hv1, c.symm⟩
    | 1, _, c => I1 ⟨hv1, c.symm⟩
    | 2, _, c => I2 ⟨hv1, c.symm⟩
    | 3, _, c => I3 ⟨hv1, c.symm⟩
    | 4, _, c => I4 ⟨hv1, c.symm⟩
    | 5, _, c => I5 ⟨hv1, c.symm⟩
    | _ + 6, hh, _ => absurd hh (by omega)
  clear I0 I1 I2 I3 I4 I5
  have eb := h.2.2.2.1
  have eb0 := h.1.1.1 6017
  have eb2 : 0 ≤ (i 6017).toInt := eb0.1
  have eb1 := g1.ti 7455 rfl
  have e : v = w := kj_v (by omega)
  refine ⟨?_, e⟩
  have hU1 := kU_fr g1 rfl h.2.1
  have hB2 := kBod_fr g2 rfl (kBod_fr g1 rfl h.2.2.2)
  have hl : (a1 136).length = 6 := g1.I.2.1 136
  by_cases hv : v = 1
  · have hv1 := kj_1v hv
    obtain ⟨u, hu, e1, e2⟩ := p1 (e ▸ hv)
    have ho := o1 hv
    have hx : 0 ≤ x1.toInt ∧ x1.toInt ≤ 5 := by omega
    have tx := Int32.toNat_toInt x1
    refine ⟨⟨g2.I, g2.R⟩, ⟨fun j => ?_, kCode_of hU1.2.1 (g2.fi _ rfl) (g2.fa _ rfl) (g2.fa _ rfl) (g2.fa _ rfl) (g2.fa _ rfl), kChg_of hU1.2.2.1 (g2.fa _ rfl), ?_⟩, fun t ht => ?_, hB2⟩
    · rw [e1, kset_gI (by omega)]
      by_cases c : j = x1.toNatClampNeg
      · rw [if_pos c]; omega
      · rw [if_neg c]; exact hU1.1 j
    · rw [g2.fi 7453 rfl, g2.fi 7452 rfl]; exact hU1.2.2.2
    · by_cases c : (t : Int) = x1.toInt
      · have hc := hC hv1 t ht c
        unfold kSh1
        rw [g2.fi _ rfl, g2.fi _ rfl, e1, e2, kset_gI (by omega), if_pos (by omega)]
        refine ⟨fun z => by omega, fun z => by omega, fun z => absurd z (by omega)⟩
      · have hn := ho t ht c
        refine kSh1_of (h.2.2.1 t ht) ((kVw_eq (g2.fi _ rfl) (g2.fi _ rfl) (g2.fi _ rfl) (g2.fi _ rfl) (g2.fq _ rfl)).trans hn) ?_ ?_ (fun j _ => by rw [g2.fq _ rfl, g1.fq _ rfl]) (kI_ln h.1.1 t ht).2
        · rw [e1, kset_gI (by omega), if_neg (by omega), g1.fa _ rfl]
        · have hl2 : (a1 137).length = 6 := g1.I.2.1 137
          rw [e2, kset_gI (by omega), if_neg (by omega), g1.fa _ rfl]
  · have hs := o2 hv
    obtain ⟨e1, e2⟩ := p2 (e ▸ hv)
    refine ⟨⟨g2.I, g2.R⟩, ⟨kHold_of hU1.1 e1, kCode_of hU1.2.1 (g2.fi _ rfl) (g2.fa _ rfl) (g2.fa _ rfl) (g2.fa _ rfl) (g2.fa _ rfl), kChg_of hU1.2.2.1 (g2.fa _ rfl), ?_⟩, fun t ht => ?_, hB2⟩
    · rw [g2.fi 7453 rfl, g2.fi 7452 rfl]; exact hU1.2.2.2
    · exact kSh1_of (h.2.2.1 t ht) ((kVw_eq (g2.fi _ rfl) (g2.fi _ rfl) (g2.fi _ rfl) (g2.fi _ rfl) (g2.fq _ rfl)).trans (hs t ht)) (by rw [e1, g1.fa _ rfl]) (by rw [e2, g1.fa _ rfl]) (fun j _ => by rw [g2.fq _ rfl, g1.fq _ rfl]) (kI_ln h.1.1 t ht).2
theorem st_row {i i1 i2 : Nat → Int32} {a a1 a2 : Nat → List Int32} {q q1 q2 : Nat → List Int64} {r r1 r2 : Nat → Nat} {v w : Int32} {x1 : Int32} {x2 : Int32} {x3 : Int32} (h : kAll i a q r) (g1 : kG xw114_0 i a q r i1 a1 q1 r1) (P1 : ((((v.toInt = 1) ∧ (((0 : Int) ≤ x1.toInt) ∧ (x1.toInt ≤ 5) ∧ ((0 : Int) ≤ x2.toInt) ∧ (x2.toInt ≤ 4) ∧ ((0 : Int) ≤ x3.toInt) ∧ (x3.toInt ≤ 60))) ∨ ((v.toInt = (-14)) ∧ ((0 : Int) ≤ x1.toInt) ∧ (x1.toInt ≤ 5) ∧ ((0 : Int) ≤ x2.toInt) ∧ (x2.toInt ≤ 4) ∧ (x3.toInt < 0)) ∨ ((v.toInt = (-1)) ∧ (¬ (((0 : Int) ≤ x1.toInt) ∧ (x1.toInt ≤ 5) ∧ ((0 : Int) ≤ x2.toInt) ∧ (x2.toInt ≤ 4) ∧ ((0 : Int) ≤ x3.toInt) ∧ (x3.toInt ≤ 60))) ∧ (¬ (((0 : Int) ≤ x1.toInt) ∧ (x1.toInt ≤ 5) ∧ ((0 : Int) ≤ x2.toInt) ∧ (x2.toInt ≤ 4) ∧ (x3.toInt < 0))))) ∧ ((((v.toInt = 1) ∧ (x1.toInt = 0)) → (((i1 6656).toInt = 2) ∧ ((i1 6658).toInt = x2.toInt) ∧ ((i1 6659).toInt = x3.toInt)))) ∧ ((((v.toInt = 1) ∧ (x1.toInt = 1)) → (((i1 6784).toInt = 2) ∧ ((i1 6786).toInt = x2.toInt) ∧ ((i1 6787).toInt = x3.toInt)))) ∧ ((((v.toInt = 1) ∧ (x1.toInt = 2)) → (((i1 6912).toInt = 2) ∧ ((i1 6914).toInt = x2.toInt) ∧ ((i1 6915).toInt = x3.toInt)))) ∧ ((((v.toInt = 1) ∧ (x1.toInt = 3)) → (((i1 7040).toInt = 2) ∧ ((i1 7042).toInt = x2.toInt) ∧ ((i1 7043).toInt = x3.toInt)))) ∧ ((((v.toInt = 1) ∧ (x1.toInt = 4)) → (((i1 7168).toInt = 2) ∧ ((i1 7170).toInt = x2.toInt) ∧ ((i1 7171).toInt = x3.toInt)))) ∧ ((((v.toInt = 1) ∧ (x1.toInt = 5)) → (((i1 7296).toInt = 2) ∧ ((i1 7298).toInt = x2.toInt) ∧ ((i1 7299).toInt = x3.toInt))))) ∧ ((v = 1 → kOth i q i1 q1 x1.toInt ∧ ∀ t : Nat, (t : Int) = x1.toInt → kZer (q1 (105 + 2 * t)) 0 x3.toInt.toNat) ∧ (v ≠ 1 → ∀ t : Nat, t < 6 → kVw i1 q1 t = kVw i q t))) (g2 : kG xw218_116 i1 a1 q1 r1 i2 a2 q2 r2) (P2 : (((w.toInt = 1) ∧ (((0 : Int) ≤ x1.toInt) ∧ (x1.toInt ≤ 5) ∧ ((0 : Int) ≤ x2.toInt) ∧ (x2.toInt ≤ 4) ∧ ((0 : Int) ≤ x3.toInt) ∧ (x3.toInt ≤ 60))) ∨ ((w.toInt = (-14)) ∧ ((0 : Int) ≤ x1.toInt) ∧ (x1.toInt ≤ 5) ∧ ((0 : Int) ≤ x2.toInt) ∧ (x2.toInt ≤ 4) ∧ (x3.toInt < 0)) ∨ ((w.toInt = (-1)) ∧ (¬ (((0 : Int) ≤ x1.toInt) ∧ (x1.toInt ≤ 5) ∧ ((0 : Int) ≤ x2.toInt) ∧ (x2.toInt ≤ 4) ∧ ((0 : Int) ≤ x3.toInt) ∧ (x3.toInt ≤ 60))) ∧ (¬ (((0 : Int) ≤ x1.toInt) ∧ (x1.toInt ≤ 5) ∧ ((0 : Int) ≤ x2.toInt) ∧ (x2.toInt ≤ 4) ∧ (x3.toInt < 0))))) ∧ ((w = 1 → a2 136 = (a1 136).set x1.toNatClampNeg x2 ∧ a2 137 = (a1 137).set x1.toNatClampNeg x3 ∧ kZer (q2 138) (60 * x1.toInt).toNat 60 ∧ kFar (q1 138) (q2 138) (60 * x1.toInt).toNat 60) ∧ (w ≠ 1 → a2 136 = a1 136 ∧ a2 137 = a1 137 ∧ q2 138 = q1 138))) : kAll i2 a2 q2 r2 ∧ v = w := by
  obtain ⟨⟨D, I0, I1, I2, I3, I4, I5⟩, o1, o2⟩ := P1
  obtain ⟨D1, p1, p2⟩ := P2
  have hC : v.toInt = 1 → ∀ t : Nat, t < 6 → (t : Int) = x1.toInt → (i1 (6656 + 128 * t)).toInt = 2 ∧ (i1 (6658 + 128 * t)).toInt = x2.toInt ∧ (i1 (6659 + 128 * t)).toInt = x3.toInt := fun hv1 t ht c => match t, ht, c with
    | 0, _, c => I0 ⟨hv1, c.symm⟩
    | 1, _, c => I1 ⟨hv1, c.symm⟩
    | 2, _, c => I2 ⟨hv1, c.symm⟩
    | 3, _, c => I3 ⟨hv1, c.symm⟩
    | 4, _, c => I4 ⟨hv1, c.symm⟩
    | 5, _, c => I5 ⟨hv1, c.symm⟩
    | _ + 6, hh, _ => absurd hh (by omega)
  clear I0 I1 I2 I3 I4 I5
  have e : v = w := kj_v (by omega)
  refine ⟨?_, e⟩
  have hU1 := kU_fr g1 rfl h.2.1
  have hB2 := kBod_fr g2 rfl (kBod_fr g1 rfl h.2.2.2)
  have hl : (a1 136).length = 6 := g1.I.2.1 136
  have hl2 : (a1 137).length = 6 := g1.I.2.1 137
  by_cases hv : v = 1
  · have hv1 := kj_1v hv
    obtain ⟨e1, e2, hz, hf⟩ := p1 (e ▸ hv)
    obtain ⟨ho, hq⟩ := o1 hv
    have hx : 0 ≤ x1.toInt ∧ x1.toInt ≤ 5 ∧ 0 ≤ x2.toInt ∧ x2.toInt ≤ 4 ∧ 0 ≤ x3.toInt ∧ x3.toInt ≤ 60 := by omega
    have tx := Int32.toNat_toInt x1
    refine ⟨⟨g2.I, g2.R⟩, ⟨fun j => ?_, kCode_of hU1.2.1 (g2.fi _ rfl) (g2.fa _ rfl) (g2.fa _ rfl) (g2.fa _ rfl) (g2.fa _ rfl), kChg_of hU1.2.2.1 (g2.fa _ rfl), ?_⟩, fun t ht => ?_, hB2⟩
    · rw [e1, kset_gI (by omega)]
      by_cases c : j = x1.toNatClampNeg
      · rw [if_pos c]; omega
      · rw [if_neg c]; exact hU1.1 j
    · rw [g2.fi 7453 rfl, g2.fi 7452 rfl]; exact hU1.2.2.2
    · by_cases c : (t : Int) = x1.toInt
      · have hc := hC hv1 t ht c
        unfold kSh1
        rw [g2.fi _ rfl, g2.fi _ rfl, g2.fi _ rfl, g2.fi _ rfl, e1, e2, kset_gI (by omega), if_pos (by omega), kset_gI (by omega), if_pos (by omega), g2.fq (105 + 2 * t) (by match t, ht with | 0, _ => rfl | 1, _ => rfl | 2, _ => rfl | 3, _ => rfl | 4, _ => rfl | 5, _ => rfl | _ + 6, hh => exact absurd hh (by omega))]
        refine ⟨fun z => absurd z (by omega), fun z => absurd z (by omega), fun z => ⟨by omega, by omega, fun j hj => ?_⟩⟩
        have z1 := hq t c j (by omega)
        have z2 := hz j (by omega)
        rw [Nat.zero_add] at z1
        have eb : (60 * x1.toInt).toNat = 60 * t := by omega
        rw [eb] at z2
        exact z1.trans z2.symm
      · have hn := ho t ht c
        refine kSh1_of (h.2.2.1 t ht) ((kVw_eq (g2.fi _ rfl) (g2.fi _ rfl) (g2.fi _ rfl) (g2.fi _ rfl) (g2.fq _ (by match t, ht with | 0, _ => rfl | 1, _ => rfl | 2, _ => rfl | 3, _ => rfl | 4, _ => rfl | 5, _ => rfl | _ + 6, hh => exact absurd hh (by omega)))).trans hn) ?_ ?_ (fun j hj => ?_) (kI_ln h.1.1 t ht).2
        · rw [e1, kset_gI (by omega), if_neg (by omega), g1.fa _ rfl]
        · rw [e2, kset_gI (by omega), if_neg (by omega), g1.fa _ rfl]
        · rw [hf (60 * t + j) (by omega), g1.fq _ rfl]
  · have hs := o2 hv
    obtain ⟨e1, e2, e3⟩ := p2 (e ▸ hv)
    refine ⟨⟨g2.I, g2.R⟩, ⟨kHold_of hU1.1 e1, kCode_of hU1.2.1 (g2.fi _ rfl) (g2.fa _ rfl) (g2.fa _ rfl) (g2.fa _ rfl) (g2.fa _ rfl), kChg_of hU1.2.2.1 (g2.fa _ rfl), ?_⟩, fun t ht => ?_, hB2⟩
    · rw [g2.fi 7453 rfl, g2.fi 7452 rfl]; exact hU1.2.2.2
    · exact kSh1_of (h.2.2.1 t ht) ((kVw_eq (g2.fi _ rfl) (g2.fi _ rfl) (g2.fi _ rfl) (g2.fi _ rfl) (g2.fq _ (by match t, ht with | 0, _ => rfl | 1, _ => rfl | 2, _ => rfl | 3, _ => rfl | 4, _ => rfl | 5, _ => rfl | _ + 6, hh => exact absurd hh (by omega)))).trans (hs t ht)) (by rw [e1, g1.fa _ rfl]) (by rw [e2, g1.fa _ rfl]) (fun j _ => by rw [e3, g1.fq _ rfl]) (kI_ln h.1.1 t ht).2
theorem st_put {i i1 i2 : Nat → Int32} {a a1 a2 : Nat → List Int32} {q q1 q2 : Nat → List Int64} {r r1 r2 : Nat → Nat} {v w : Int32} {x1 x2 : Int32} {x3 : Int64} (h : kAll i a q r) (g1 : kG xw115_0 i a q r i1 a1 q1 r1) (P1 : (((((x1.toInt < 0) ∨ ((5 : Int) < x1.toInt)) → (v.toInt < 0))) ∧ (((x1.toInt = 0) → (((v.toInt = 1) ∧ ((i 6656).toInt = 2) ∧ ((0 : Int) ≤ x2.toInt) ∧ (x2.toInt < (i 6659).toInt)) ∨ ((v.toInt < 0) ∧ (¬ (((i 6656).toInt = 2) ∧ ((0 : Int) ≤ x2.toInt) ∧ (x2.toInt < (i 6659).toInt))))))) ∧ (((x1.toInt = 1) → (((v.toInt = 1) ∧ ((i 6784).toInt = 2) ∧ ((0 : Int) ≤ x2.toInt) ∧ (x2.toInt < (i 6787).toInt)) ∨ ((v.toInt < 0) ∧ (¬ (((i 6784).toInt = 2) ∧ ((0 : Int) ≤ x2.toInt) ∧ (x2.toInt < (i 6787).toInt))))))) ∧ (((x1.toInt = 2) → (((v.toInt = 1) ∧ ((i 6912).toInt = 2) ∧ ((0 : Int) ≤ x2.toInt) ∧ (x2.toInt < (i 6915).toInt)) ∨ ((v.toInt < 0) ∧ (¬ (((i 6912).toInt = 2) ∧ ((0 : Int) ≤ x2.toInt) ∧ (x2.toInt < (i 6915).toInt))))))) ∧ (((x1.toInt = 3) → (((v.toInt = 1) ∧ ((i 7040).toInt = 2) ∧ ((0 : Int) ≤ x2.toInt) ∧ (x2.toInt < (i 7043).toInt)) ∨ ((v.toInt < 0) ∧ (¬ (((i 7040).toInt = 2) ∧ ((0 : Int) ≤ x2.toInt) ∧ (x2.toInt < (i 7043).toInt))))))) ∧ (((x1.toInt = 4) → (((v.toInt = 1) ∧ ((i 7168).toInt = 2) ∧ ((0 : Int) ≤ x2.toInt) ∧ (x2.toInt < (i 7171).toInt)) ∨ ((v.toInt < 0) ∧ (¬ (((i 7168).toInt = 2) ∧ ((0 : Int) ≤ x2.toInt) ∧ (x2.toInt < (i 7171).toInt))))))) ∧ (((x1.toInt = 5) → (((v.toInt = 1) ∧ ((i 7296).toInt = 2) ∧ ((0 : Int) ≤ x2.toInt) ∧ (x2.toInt < (i 7299).toInt)) ∨ ((v.toInt < 0) ∧ (¬ (((i 7296).toInt = 2) ∧ ((0 : Int) ≤ x2.toInt) ∧ (x2.toInt < (i 7299).toInt)))))))) ∧ ((v = 1 → kOth i q i1 q1 x1.toInt ∧ ∀ t : Nat, (t : Int) = x1.toInt → i1 (6656 + 128 * t) = i (6656 + 128 * t) ∧ i1 (6657 + 128 * t) = i (6657 + 128 * t) ∧ i1 (6658 + 128 * t) = i (6658 + 128 * t) ∧ i1 (6659 + 128 * t) = i (6659 + 128 * t) ∧ q1 (105 + 2 * t) = (q (105 + 2 * t)).set x2.toNatClampNeg (kNar (i (6658 + 128 * t)) x3)) ∧ (v ≠ 1 → ∀ t : Nat, t < 6 → kVw i1 q1 t = kVw i q t))) (g2 : kG xw221_116 i1 a1 q1 r1 i2 a2 q2 r2) (P2 : (((((x1.toInt < 0) ∨ ((5 : Int) < x1.toInt)) → (w.toInt < 0))) ∧ (((((0 : Int) ≤ x1.toInt) ∧ (x1.toInt ≤ 5)) → (((w.toInt = 1) ∧ ((0 : Int) ≤ ((a1 136).getD x1.toNatClampNeg 0).toInt) ∧ (((a1 136).getD x1.toNatClampNeg 0).toInt ≤ 4) ∧ ((0 : Int) ≤ x2.toInt) ∧ (x2.toInt < ((a1 137).getD x1.toNatClampNeg 0).toInt)) ∨ ((w.toInt < 0) ∧ (¬ (((0 : Int) ≤ ((a1 136).getD x1.toNatClampNeg 0).toInt) ∧ (((a1 136).getD x1.toNatClampNeg 0).toInt ≤ 4) ∧ ((0 : Int) ≤ x2.toInt) ∧ (x2.toInt < ((a1 137).getD x1.toNatClampNeg 0).toInt)))))))) ∧ ((w = 1 → q2 138 = (q1 138).set ((60 * x1) + x2).toNatClampNeg (kNar ((a1 136).getD x1.toNatClampNeg 0) x3)) ∧ (w ≠ 1 → q2 138 = q1 138))) : kAll i2 a2 q2 r2 := by
  obtain ⟨⟨D, I0, I1, I2, I3, I4, I5⟩, o1, o2⟩ := P1
  obtain ⟨⟨D1, D2⟩, p1, p2⟩ := P2
  have hU2 := kU_fr g2 rfl (kU_fr g1 rfl h.2.1)
  have hB2 := kBod_fr g2 rfl (kBod_fr g1 rfl h.2.2.2)
  have fq2 : ∀ t : Nat, t < 6 → q2 (105 + 2 * t) = q1 (105 + 2 * t) := fun t ht => g2.fq _ (by match t, ht with | 0, _ => rfl | 1, _ => rfl | 2, _ => rfl | 3, _ => rfl | 4, _ => rfl | 5, _ => rfl | _ + 6, hh => exact absurd hh (by omega))
  have hC : ∀ t : Nat, t < 6 → (t : Int) = x1.toInt → ((v.toInt = 1) ∧ ((i (6656 + 128 * t)).toInt = 2) ∧ ((0 : Int) ≤ x2.toInt) ∧ (x2.toInt < (i (6659 + 128 * t)).toInt)) ∨ ((v.toInt < 0) ∧ (¬ (((i (6656 + 128 * t)).toInt = 2) ∧ ((0 : Int) ≤ x2.toInt) ∧ (x2.toInt < (i (6659 + 128 * t)).toInt)))) := fun t ht c => match t, ht, c with
    | 0, _, c => I0 c.symm
    | 1, _, c => I1 c.symm
    | 2, _, c => I2 c.symm
    | 3, _, c => I3 c.symm
    | 4, _, c => I4 c.symm
    | 5, _, c => I5 c.symm
    | _ + 6, hh, _ => absurd hh (by omega)
  clear I0 I1 I2 I3 I4 I5
  have tx := Int32.toNat_toInt x1
  have ea : a1 136 = a 136 := g1.fa _ rfl
  have eb : a1 137 = a 137 := g1.fa _ rfl
  rw [ea, eb] at D2
  refine ⟨⟨g2.I, g2.R⟩, hU2, fun t ht => ?_, hB2⟩
  have ln := kI_ln h.1.1 t ht
  have so := kI_so h.1.1 t ht
  have ho := kI_ho h.1.1 t ht
  have hs := h.2.2.1 t ht
  by_cases hin : 0 ≤ x1.toInt ∧ x1.toInt ≤ 5
  · obtain ⟨s, hs6, hsx⟩ : ∃ s : Nat, s < 6 ∧ (s : Int) = x1.toInt := ⟨x1.toInt.toNat, by omega, by omega⟩
    have en : x1.toNatClampNeg = s := kj_t hsx
    have hc := hC s hs6 hsx
    have hr := D2 hin
    rw [en] at hr
    have lns := kI_ln h.1.1 s hs6
    have sos := kI_so h.1.1 s hs6
    have hos := kI_ho h.1.1 s hs6
    have hss := h.2.2.1 s hs6
    obtain ⟨h0, h1, h2⟩ := hss
    by_cases hv : v = 1
    · have hv1 := kj_1v hv
      have c2 : (i (6656 + 128 * s)).toInt = 2 ∧ 0 ≤ x2.toInt ∧ x2.toInt < (i (6659 + 128 * s)).toInt := by omega
      obtain ⟨m1, m2, m3⟩ := h2 c2.1
      have hw : w = 1 := kj_v1 (by omega)
      obtain ⟨ko_, kp⟩ := o1 hv
      obtain ⟨k0, k1, k2, k3, k4⟩ := kp s hsx
      have pw := p1 hw
      have eq0 : q1 138 = q 138 := g1.fq _ rfl
      rw [ea, en, eq0, kj_ix (j := x2.toNatClampNeg) hsx hs6 (by have := Int32.toNat_toInt x2; omega) (by have := Int32.toNat_toInt x2; omega)] at pw
      have esr : (a 136).getD s 0 = i (6658 + 128 * s) := Int32.toInt_inj.mp m1
      have lq : (q 138).length = 360 := h.1.1.2.2.2 138
      have tx2 := Int32.toNat_toInt x2
      by_cases c : t = s
      · subst c
        refine ⟨fun z => ?_, fun z => ?_, fun z => ?_⟩
        · rw [g2.fi _ rfl, k0] at z; omega
        · rw [g2.fi _ rfl, k0] at z; omega
        · rw [g2.fi _ rfl, g2.fi _ rfl, k2, k3, g2.fa _ rfl, g2.fa _ rfl, ea, eb, fq2 t ht, k4, pw]
          refine ⟨m1, m2, fun j hj => ?_⟩
          have l60 := kI_ql h.1.1 t ht
          rw [kset_getL (by omega), kset_getL (by omega), esr]
          by_cases cj : j = x2.toNatClampNeg
          · rw [if_pos cj, if_pos (by omega)]
          · rw [if_neg cj, if_neg (by omega)]; exact m3 j hj
      · refine kSh1_of hs ((kVw_eq (g2.fi _ rfl) (g2.fi _ rfl) (g2.fi _ rfl) (g2.fi _ rfl) (fq2 t ht)).trans (ko_ t ht (by omega))) (by rw [g2.fa _ rfl, ea]) (by rw [g2.fa _ rfl, eb]) (fun j hj => ?_) ln.2
        rw [pw, kset_getL (by omega), if_neg (by omega)]
    · have hv0 : v.toInt < 0 := by
        rcases hc with z | z
        · exact absurd (kj_v1 z.1) hv
        · exact z.1
      have hw : w ≠ 1 := fun z => by
        have := kj_1v z
        have hh : (i (6656 + 128 * s)).toInt = 2 := by
          rcases (show (i (6656 + 128 * s)).toInt = 0 ∨ (i (6656 + 128 * s)).toInt = 1 ∨ (i (6656 + 128 * s)).toInt = 2 by omega) with z0 | z0 | z0
          · have := h0 z0; omega
          · have := h1 z0; omega
          · exact z0
        obtain ⟨m1, m2, _⟩ := h2 hh
        omega
      exact kSh1_of hs ((kVw_eq (g2.fi _ rfl) (g2.fi _ rfl) (g2.fi _ rfl) (g2.fi _ rfl) (fq2 t ht)).trans (o2 hv t ht)) (by rw [g2.fa _ rfl, ea]) (by rw [g2.fa _ rfl, eb]) (fun j _ => by rw [p2 hw, g1.fq _ rfl]) ln.2
  · have hv : v ≠ 1 := fun z => by have := kj_1v z; have := D (by omega); omega
    have hw : w ≠ 1 := fun z => by have := kj_1v z; have := D1 (by omega); omega
    exact kSh1_of hs ((kVw_eq (g2.fi _ rfl) (g2.fi _ rfl) (g2.fi _ rfl) (g2.fi _ rfl) (fq2 t ht)).trans (o2 hv t ht)) (by rw [g2.fa _ rfl, ea]) (by rw [g2.fa _ rfl, eb]) (fun j _ => by rw [p2 hw, g1.fq _ rfl]) ln.2
theorem st_shift {i i1 i2 : Nat → Int32} {a a1 a2 : Nat → List Int32} {q q1 q2 : Nat → List Int64} {r r1 r2 : Nat → Nat} {v w : Int32} {x1 : Int32} {x2 : Int32} {x3 : Int32} {x4 : Int32} {x5 : Int32} (h : kAll i a q r) (g1 : kG xw117_0 i a q r i1 a1 q1 r1) (P1 : (True) ∧ ((∀ s t : Nat, s < 6 → t < 6 → (s : Int) = x1.toInt → (t : Int) = x3.toInt → kSfV (i (6656 + 128 * s)) (i (6656 + 128 * t)) (i (6658 + 128 * s)) (i (6658 + 128 * t)) (i (6659 + 128 * s)) (i (6659 + 128 * t)) x2 x4 x5 v ∧ (0 ≤ v.toInt → q1 (105 + 2 * t) = mi_cpy (q (105 + 2 * s)) (q (105 + 2 * t)) x2.toNatClampNeg x4.toNatClampNeg x5.toNatClampNeg ∧ ∀ u : Nat, u < 6 → u ≠ t → q1 (105 + 2 * u) = q (105 + 2 * u))) ∧ (v.toInt < 0 → (∀ u : Nat, u < 6 → q1 (105 + 2 * u) = q (105 + 2 * u))) ∧ (¬ (0 ≤ x1.toInt ∧ x1.toInt ≤ 5 ∧ 0 ≤ x3.toInt ∧ x3.toInt ≤ 5) → v.toInt = -1))) (g2 : kG xw223_116 i1 a1 q1 r1 i2 a2 q2 r2) (P2 : (True) ∧ (((0 ≤ x1.toInt ∧ x1.toInt ≤ 5 ∧ 0 ≤ x3.toInt ∧ x3.toInt ≤ 5) → kSfR ((a1 136).getD x1.toNatClampNeg 0) ((a1 136).getD x3.toNatClampNeg 0) ((a1 137).getD x1.toNatClampNeg 0) ((a1 137).getD x3.toNatClampNeg 0) x2 x4 x5 w) ∧ (¬ (0 ≤ x1.toInt ∧ x1.toInt ≤ 5 ∧ 0 ≤ x3.toInt ∧ x3.toInt ≤ 5) → w.toInt = -1) ∧ (0 ≤ w.toInt → kMov (q1 138) (q2 138) (60 * x1.toInt + x2.toInt) (60 * x3.toInt + x4.toInt) 0 x5.toInt) ∧ (w.toInt < 0 → q2 138 = q1 138))) : kAll i2 a2 q2 r2 ∧ v = w := by
  obtain ⟨_, c1, c2, c3⟩ := P1
  obtain ⟨_, d1, d2, d3, d4⟩ := P2
  have hU2 := kU_fr g2 rfl (kU_fr g1 rfl h.2.1)
  have hB2 := kBod_fr g2 rfl (kBod_fr g1 rfl h.2.2.2)
  have fq2 : ∀ t : Nat, t < 6 → q2 (105 + 2 * t) = q1 (105 + 2 * t) := fun t ht => g2.fq _ (by match t, ht with | 0, _ => rfl | 1, _ => rfl | 2, _ => rfl | 3, _ => rfl | 4, _ => rfl | 5, _ => rfl | _ + 6, hh => exact absurd hh (by omega))
  have ea : a1 136 = a 136 := g1.fa _ rfl
  have eb : a1 137 = a 137 := g1.fa _ rfl
  have eq0 : q1 138 = q 138 := g1.fq _ rfl
  rw [ea, eb] at d1
  rw [eq0] at d3 d4
  by_cases hin : 0 ≤ x1.toInt ∧ x1.toInt ≤ 5 ∧ 0 ≤ x3.toInt ∧ x3.toInt ≤ 5
  · obtain ⟨s, hs6, hsx⟩ : ∃ s : Nat, s < 6 ∧ (s : Int) = x1.toInt := ⟨x1.toInt.toNat, by omega, by omega⟩
    obtain ⟨t, ht6, htx⟩ : ∃ s : Nat, s < 6 ∧ (s : Int) = x3.toInt := ⟨x3.toInt.toNat, by omega, by omega⟩
    obtain ⟨V, mv⟩ := c1 s t hs6 ht6 hsx htx
    have R := d1 hin
    rw [kj_t hsx, kj_t htx] at R
    obtain ⟨s0, s1, s2⟩ := h.2.2.1 s hs6
    obtain ⟨t0, t1, t2⟩ := h.2.2.1 t ht6
    have lns := kI_ln h.1.1 s hs6
    have sos := kI_so h.1.1 s hs6
    have hos := kI_ho h.1.1 s hs6
    have lnt := kI_ln h.1.1 t ht6
    have sot := kI_so h.1.1 t ht6
    have hot := kI_ho h.1.1 t ht6
    have a1' : (i (6656 + 128 * s)).toInt = 2 → ((a 136).getD s 0).toInt = (i (6658 + 128 * s)).toInt ∧ ((a 137).getD s 0).toInt = (i (6659 + 128 * s)).toInt := fun z => ⟨(s2 z).1, (s2 z).2.1⟩
    have b1' : (i (6656 + 128 * t)).toInt = 2 → ((a 136).getD t 0).toInt = (i (6658 + 128 * t)).toInt ∧ ((a 137).getD t 0).toInt = (i (6659 + 128 * t)).toInt := fun z => ⟨(t2 z).1, (t2 z).2.1⟩
    have e : v = w := by
      unfold kSfV at V
      unfold kSfR at R
      rcases V with V | V | V | V <;> rcases R with R | R | R | R <;> first | (exact kj_v (by omega)) | (exact V.1.trans R.1.symm) | (exfalso; omega)
    refine ⟨⟨⟨g2.I, g2.R⟩, hU2, fun u hu => ?_, hB2⟩, e⟩
    have lnu := kI_ln h.1.1 u hu
    have hsu := h.2.2.1 u hu
    by_cases hv : 0 ≤ v.toInt
    · obtain ⟨k1, k2⟩ := mv hv
      have K := d3 (e ▸ hv)
      have F : v = x5 ∧ ((i (6656 + 128 * s)).toInt = 2 ∧ (i (6656 + 128 * t)).toInt = 2 ∧ (i (6658 + 128 * s)).toInt = (i (6658 + 128 * t)).toInt) ∧ (0 ≤ x2.toInt ∧ 0 ≤ x4.toInt ∧ 0 ≤ x5.toInt ∧ x2.toInt + x5.toInt ≤ (i (6659 + 128 * s)).toInt ∧ x4.toInt + x5.toInt ≤ (i (6659 + 128 * t)).toInt) := by
        unfold kSfV at V
        rcases V with V | V | V | V
        · omega
        · omega
        · omega
        · exact V
      obtain ⟨_, ⟨F1, F2, F3⟩, F4, F5, F6, F7, F8⟩ := F
      have y2 := Int32.toNat_toInt x2
      have y4 := Int32.toNat_toInt x4
      have y5 := Int32.toNat_toInt x5
      by_cases c : u = t
      · subst c
        refine ⟨fun z => ?_, fun z => ?_, fun z => ?_⟩
        · rw [g2.fi _ rfl, g1.fi _ rfl] at z; omega
        · rw [g2.fi _ rfl, g1.fi _ rfl] at z; omega
        · rw [g2.fi _ rfl, g2.fi _ rfl, g1.fi _ rfl, g1.fi _ rfl, g2.fa _ rfl, g2.fa _ rfl, ea, eb, fq2 u hu, k1]
          refine ⟨(t2 F2).1, (t2 F2).2.1, fun j hj => ?_⟩
          have l1 := kI_ql h.1.1 s hs6
          have l2 := kI_ql h.1.1 u hu
          rw [kcpy_at j (by omega) (by omega), K (60 * u + j)]
          by_cases cj : x4.toNatClampNeg ≤ j ∧ j < x4.toNatClampNeg + x5.toNatClampNeg
          · rw [if_pos cj, if_pos (by omega), (s2 F1).2.2 _ (by omega)]
            have en : 60 * s + (x2.toNatClampNeg + (j - x4.toNatClampNeg)) = (((60 * u + j : Nat) : Int) - (60 * x3.toInt + x4.toInt) + (60 * x1.toInt + x2.toInt)).toNat := by omega
            rw [en]
          · rw [if_neg cj, if_neg (by omega)]
            exact (t2 F2).2.2 j hj
      · refine kSh1_of hsu ((kVw_eq ((g2.fi _ rfl).trans (g1.fi _ rfl)) ((g2.fi _ rfl).trans (g1.fi _ rfl)) ((g2.fi _ rfl).trans (g1.fi _ rfl)) ((g2.fi _ rfl).trans (g1.fi _ rfl)) ((fq2 u hu).trans (k2 u hu c)))) (by rw [g2.fa _ rfl, ea]) (by rw [g2.fa _ rfl, eb]) (fun j hj => ?_) lnu.2
        rw [K (60 * u + j), if_neg (by omega)]
    · have e1 := c2 (by omega) u hu
      have e2 := d4 (by rw [← e]; omega)
      exact kSh1_of hsu ((kVw_eq ((g2.fi _ rfl).trans (g1.fi _ rfl)) ((g2.fi _ rfl).trans (g1.fi _ rfl)) ((g2.fi _ rfl).trans (g1.fi _ rfl)) ((g2.fi _ rfl).trans (g1.fi _ rfl)) ((fq2 u hu).trans e1))) (by rw [g2.fa _ rfl, ea]) (by rw [g2.fa _ rfl, eb]) (fun j _ => by rw [e2]) lnu.2
  · have v1 := c3 hin
    have w1 := d2 hin
    refine ⟨⟨⟨g2.I, g2.R⟩, hU2, fun u hu => ?_, hB2⟩, kj_v (by omega)⟩
    exact kSh1_of (h.2.2.1 u hu) ((kVw_eq ((g2.fi _ rfl).trans (g1.fi _ rfl)) ((g2.fi _ rfl).trans (g1.fi _ rfl)) ((g2.fi _ rfl).trans (g1.fi _ rfl)) ((g2.fi _ rfl).trans (g1.fi _ rfl)) ((fq2 u hu).trans (c2 (by omega) u hu)))) (by rw [g2.fa _ rfl, ea]) (by rw [g2.fa _ rfl, eb]) (fun j _ => by rw [d4 (by omega)]) (kI_ln h.1.1 u hu).2
theorem st_body {i i1 i2 : Nat → Int32} {a a1 a2 : Nat → List Int32} {q q1 q2 : Nat → List Int64} {r r1 r2 : Nat → Nat} {v w : Int32} {x1 : Int32} (h : kAll i a q r) (g1 : kG xw110_0 i a q r i1 a1 q1 r1) (P1 : (((v.toInt = (-1)) ∧ (¬ (((0 : Int) ≤ x1.toInt) ∧ (x1.toInt ≤ 7))) ∧ ((i1 6017).toInt = (i 6017).toInt)) ∨ (((0 : Int) ≤ x1.toInt) ∧ (x1.toInt ≤ 7) ∧ (((v.toInt = (-3)) ∧ ((50 : Int) ≤ (i 6017).toInt) ∧ ((i1 6017).toInt = (i 6017).toInt)) ∨ (((i 6017).toInt < 50) ∧ (v.toInt = (i 6017).toInt) ∧ ((i1 6017).toInt = ((i 6017).toInt + 1)))))) ∧ ((v.toInt < 0 → a1 95 = a 95) ∧ (0 ≤ v.toInt → a1 95 = (a 95).set (i 6017).toNatClampNeg x1))) (g2 : kG xw214_116 i1 a1 q1 r1 i2 a2 q2 r2) (P2 : (((w.toInt = (-1)) ∧ (¬ (((0 : Int) ≤ x1.toInt) ∧ (x1.toInt ≤ 7))) ∧ ((i2 7455).toInt = (i1 7455).toInt)) ∨ (((0 : Int) ≤ x1.toInt) ∧ (x1.toInt ≤ 7) ∧ (((w.toInt = (-3)) ∧ ((50 : Int) ≤ (i1 7455).toInt) ∧ ((i2 7455).toInt = (i1 7455).toInt)) ∨ (((i1 7455).toInt < 50) ∧ (w.toInt = (i1 7455).toInt) ∧ ((i2 7455).toInt = ((i1 7455).toInt + 1)))))) ∧ ((w.toInt < 0 → a2 134 = a1 134) ∧ (0 ≤ w.toInt → a2 134 = (a1 134).set (i1 7455).toNatClampNeg x1))) : kAll i2 a2 q2 r2 ∧ v = w := by
  obtain ⟨D, o1, o2⟩ := P1
  obtain ⟨D1, p1, p2⟩ := P2
  have e0 := h.2.2.2.1
  have e1 := g1.ti 7455 rfl
  have e2 := g2.ti 6017 rfl
  have b95 := g2.fa 95 rfl
  have b134 := g1.fa 134 rfl
  have e : v = w := kj_v (by omega)
  have hU2 := kU_fr g2 rfl (kU_fr g1 rfl h.2.1)
  have hS2 := kShel_fr g2 g1.I rfl (kShel_fr g1 h.1.1 rfl h.2.2.1)
  refine ⟨⟨⟨g2.I, g2.R⟩, hU2, hS2, by omega, ?_⟩, e⟩
  by_cases hv : v.toInt < 0
  · rw [b95, o1 hv, p1 (e ▸ hv), b134]; exact h.2.2.2.2
  · have ei : (i 6017) = (i1 7455) := kj_v (by omega)
    rw [b95, o2 (by omega), p2 (by rw [← e]; omega), b134, h.2.2.2.2, ei]
end
section
/-! THE FIRST CONTENTS -/
def kst_T : List (Nat × Int32) := [(70, 3), (71, 1), (78, 8), (1606, 3), (1607, 1), (1614, 8), (3206, 3), (3207, 1), (3214, 8), (6657, -1), (6785, -1), (6913, -1), (7041, -1), (7169, -1), (7297, -1), (7426, 3), (7427, 1)]
def kst_i (k : Nat) : Int32 := match kst_T.find? (fun z => Nat.beq z.1 k) with
  | some z => z.2
  | none => 0
def kst_a (p : Nat) : List Int32 := List.replicate (kL p) (bif Nat.beq p 136 then -1 else 0)
def kst_q (p : Nat) : List Int64 := List.replicate (kLq p) 0
def kst_r (k : Nat) : Nat := match k with
  | 0 => 10
  | 1 => 59
  | _ => 100
theorem kst_eq : mi_G = ks kst_i kst_a kst_q kst_r := mi_eL_ok mi_eE_ok _ _ (by decide +kernel)
theorem kst_R (k : Nat) : kR k = kFull ∨ ∃ z ∈ kT, z.1 = k ∧ kR k = z.2 := by
  cases e : kT.find? (fun z => Nat.beq z.1 k) with
  | none =>
    refine Or.inl ?_
    unfold kR
    rw [e]
  | some z =>
    refine Or.inr ⟨z, List.mem_of_find?_eq_some e, ?_, ?_⟩
    · have hb := List.find?_some e
      exact Nat.eq_of_beq_eq_true hb
    · unfold kR
      rw [e]
theorem kst_t : kT.all (fun z => decide (z.2.1 ≤ (kst_i z.1).toInt ∧ (kst_i z.1).toInt ≤ z.2.2)) = true := by decide +kernel
theorem kst_E (p j : Nat) : (kE p j).1 ≤ 0 ∧ 0 ≤ (kE p j).2 := by
  have hn : ∀ j, (kNow j).1 ≤ 0 ∧ 0 ≤ (kNow j).2 := fun j => by
    unfold kNow
    cases Nat.beq j 18 with
    | true => exact (by decide : (0 : Int) ≤ 0 ∧ (0 : Int) ≤ 5)
    | false => cases Nat.ble 19 j && Nat.ble j 24 with
      | true => exact (by decide : (0 : Int) ≤ 0 ∧ (0 : Int) ≤ 7)
      | false => exact (by decide : (-2147483648 : Int) ≤ 0 ∧ (0 : Int) ≤ 2147483647)
  unfold kE
  split
  all_goals first | exact hn _ | exact ⟨by decide, by decide⟩ | (split <;> exact ⟨by decide, by decide⟩)
theorem kst_g (n j : Nat) (x : Int32) : (List.replicate n x).getD j 0 = x ∨ (List.replicate n x).getD j 0 = 0 := by
  by_cases h : j < n
  · refine Or.inl ?_
    rw [List.getD_eq_getElem?_getD, List.getElem?_replicate, if_pos h]
    rfl
  · refine Or.inr ?_
    rw [List.getD_eq_getElem?_getD, List.getElem?_replicate, if_neg h]
    rfl
theorem kst_g0 (n j : Nat) : (List.replicate n (0 : Int32)).getD j 0 = 0 := by
  rcases kst_g n j 0 with h | h <;> exact h
theorem kst_I : kI kst_i kst_a kst_q := by
  refine ⟨fun k => ?_, fun p => List.length_replicate, fun p j => ?_, fun p => List.length_replicate⟩
  · rcases kst_R k with h | ⟨z, hz, ek, e⟩
    · rw [h]; exact kd_bd _
    · rw [e, ← ek]; exact of_decide_eq_true (List.all_eq_true.mp kst_t z hz)
  · have h := kst_E p j
    by_cases e : p = 136
    · subst e
      rcases kst_g (kL 136) j (-1) with z | z
      · rw [show (kst_a 136).getD j 0 = -1 from z]; exact (by decide : (-1 : Int) ≤ (-1 : Int32).toInt ∧ (-1 : Int32).toInt ≤ 59)
      · rw [show (kst_a 136).getD j 0 = 0 from z]; exact h
    · have ep : kst_a p = List.replicate (kL p) 0 := by
        unfold kst_a
        cases eb : Nat.beq p 136 with
        | true => exact absurd (Nat.eq_of_beq_eq_true eb) e
        | false => rfl
      rw [ep, kst_g0]
      exact h
theorem kst_all : kAll kst_i kst_a kst_q kst_r := by
  refine ⟨⟨kst_I, Or.inl ⟨rfl, rfl⟩, Or.inl rfl⟩, ⟨fun j => ?_, fun j hj => ?_, fun j hj => ?_, by decide +kernel⟩, fun t ht => ?_, by decide +kernel, by rfl⟩
  · refine Or.inl ?_
    rcases kst_g (kL 136) j (-1) with z | z
    · rw [show (kst_a 136).getD j 0 = -1 from z]; decide
    · rw [show (kst_a 136).getD j 0 = 0 from z]; decide
  · have e : (kst_i 7432).toInt = 0 := by decide +kernel
    omega
  · have e : ((kst_a 133).getD (4 * j + 1) 0).toInt = 0 := by
      rw [show (kst_a 133).getD (4 * j + 1) 0 = 0 from kst_g0 (kL 133) _]
      decide
    omega
  · have h1 : ∀ t : Nat, t < 6 → (kst_i (6656 + 128 * t)).toInt = 0 ∧ ((kst_a 136).getD t 0).toInt = -1 := by decide +kernel
    obtain ⟨h0, h2⟩ := h1 t ht
    exact ⟨fun _ => h2, fun z => absurd (h0.symm.trans z) (by decide), fun z => absurd (h0.symm.trans z) (by decide)⟩
end
section
/-! THE CLAIM OUT OF ONE WALK OF THE LAW'S BODY. Your part is whole_start (and what it stands on); all else here is the same for every law, but numbers. -/
def R_law : String := "ThirdAfterLaw"
def lw_P (b : Addr) (xs : List Int32) (args : Array Value) (s : State) : Prop := args = #[.ref b] ∧ s.IntsAt b xs ∧ xs.length ≤ 3072 ∧ (Jvm.Cond.and given_1 narrow_1).before args s = true
def lw_Q (_ : Array Value) (s : State) (o : Outcome) (t : State) : Prop := o = .returned (some (.int 1)) ∧ Framed s o t [] 600000 7302250
def lw_Z (below : List Frame) (a : Array Value) (s : State) : State → Prop := fun t => ∃ o, t.status = .running ∧ Ended t below o ∧ lw_Q a s o t
/-- the law's own end, with 1 on the stack, nothing written that was there before, its room as the claim has it -/
theorem lw_ret {p : Program} {l : Launch} {e : Env} {s : State} {m : MethodId} {below : List Frame} {meth : Method} {c : Code} {b : Nat} (hx : p.tables.exec = Jvm.exec) (hb : c.code = code) (hr : meth.sig.returnType = ret) (hlocks : meth.locks = false) {pc : Nat} {H : Heap} {ls : Array Slot} (hdg : decode code pc = .ok (.ireturn, 1)) : W p l e room_1 s m #[Value.ref b] below meth c H [] 600000 7302250 (lw_Z below #[Value.ref b] s) (F0 m pc ls [.int 1]) := by
  intro T hT X
  obtain ⟨fs, hret, hrun, hended, hW, hframe⟩ := X.leave (v := some (.int 1)) (hlocks := hlocks) (fun h => by rw [hr] at h; cases h)
  have hmeth' : T.vm.method? m = some meth := X.method'
  refine ⟨T.setFrames fs, ?_, .returned (some (.int 1)), hrun, hended, rfl, ⟨_, rfl⟩, hW, hframe⟩
  jvm_step X.here [X.here.top, hx, hb, hdg, hmeth', hr, ret, narrow_b1]
  (try refine ⟨rfl, ?_⟩); (try refine ⟨rfl, ?_⟩)
  first | (intro acts; rw [hret _ acts rfl rfl rfl]) | rw [hret _ _ rfl rfl rfl]
  exact Steps.refl _
/-- what holds at the law's entry: the machine, the code, the tables' words (any of lw_tbl by 'hts w (by decide +kernel)'), the script of L ints xs at the cell b, what the Statement gives of the start (any of its parts by flat_of_before) -/
def lw_At (p : Program) (s : State) (m : MethodId) (meth : Method) (c : Code) (b L : Nat) (xs : Nat → Int32) : Prop :=
  p.tables.exec = Jvm.exec ∧ c.code = code ∧ meth.sig.returnType = ret ∧ c.maxLocals = 4 ∧ s.vm.findClass R_law = some m.cls ∧ (∀ w ∈ lw_tbl, w.before #[Value.ref b] s = true) ∧ va_X b L xs s s.heap ∧ b < s.heap.size ∧ meth.locks = false ∧ (Jvm.Cond.and given_1 narrow_1).before #[Value.ref b] s = true
end
section
/-! THE MARKET, PURELY: as the reference has it: its 31 numbers N (0..7 purses, 8 the day, 9 how many came, 10..17 how often, 18 how many debts, 19..24 whose, 25..30 how much) -/
def sMn (a b : Int32) : Int32 := bif decide (b < a) then b else a
def sMx (a b : Int32) : Int32 := bif decide (a < b) then b else a
/-- n debts one place on -/
def sSh : Nat → List Int32 → List Int32
  | 0, N => N
  | n + 1, N => (((sSh n N).set (19 + n) ((sSh n N).getD (20 + n) 0)).set (25 + n) (((sSh n N).set (19 + n) ((sSh n N).getD (20 + n) 0)).getD (26 + n) 0))
/-- without the oldest debt -/
def sDrop (N : List Int32) : List Int32 := sSh (N.getD 18 0 - 1).toInt.toNat (N.set 18 (N.getD 18 0 - 1))
/-- the coins that the oldest debtor gives -/
def sCoin (N : List Int32) : Int32 := sMn (N.getD 25 0) ((sDrop N).getD (N.getD 19 0).toNatClampNeg 0)
/-- the oldest debt is paid to c -/
def sGive (c : Int32) (N : List Int32) : List Int32 := ((sDrop N).set (N.getD 19 0).toNatClampNeg ((sDrop N).getD (N.getD 19 0).toNatClampNeg 0 - sCoin N)).set c.toNatClampNeg (sMn 999 (((sDrop N).set (N.getD 19 0).toNatClampNeg ((sDrop N).getD (N.getD 19 0).toNatClampNeg 0 - sCoin N)).getD c.toNatClampNeg 0 + sCoin N))
/-- now, payer, paid, lacking, flows -/
abbrev kSt : Type := List Int32 × Int32 × Int32 × Int32 × List Int32
def sPay (c : Int32) (S : kSt) : kSt :=
  if (S.1.getD 19 0).toInt = c.toInt then (sDrop S.1, if S.2.1.toInt = 8 then S.1.getD 19 0 else S.2.1, S.2.2.1, S.2.2.2.1, S.2.2.2.2)
  else (sGive c S.1, if S.2.1.toInt = 8 then S.1.getD 19 0 else S.2.1, S.2.2.1 + sCoin S.1, S.2.2.2.1 + (S.1.getD 25 0 - sCoin S.1), S.2.2.2.2.set (8 * S.1.getD 19 0 + c).toNatClampNeg (S.2.2.2.2.getD (8 * S.1.getD 19 0 + c).toNatClampNeg 0 + sCoin S.1))
/-- debts are paid to c while there are THIRD or more -/
def sPaid (t3 c : Int32) : Nat → kSt → kSt
  | 0, S => S
  | n + 1, S => if t3.toInt ≤ (S.1.getD 18 0).toInt then sPaid t3 c n (sPay c S) else S
theorem sSh_zero {z : Int32} (B : List Int32) (h : z.toInt = 0) : B = sSh z.toInt.toNat B := by rw [h]; rfl
theorem sSh_step {M M1 M2 B : List Int32} {x x1 y z u v : Int32} (h : M = sSh x.toInt.toNat B) (h0 : 0 ≤ x.toInt) (hy : y.toInt = 19 + x.toInt) (hz : z.toInt = 20 + x.toInt) (hu : u.toInt = 25 + x.toInt) (hv : v.toInt = 26 + x.toInt) (h1 : x1.toInt = x.toInt + 1) (e1 : M1 = M.set y.toNatClampNeg (M.getD z.toNatClampNeg 0)) (e2 : M2 = M1.set u.toNatClampNeg (M1.getD v.toNatClampNeg 0)) : M2 = sSh x1.toInt.toNat B := by
  have ty := Int32.toNat_toInt y
  have tz := Int32.toNat_toInt z
  have tu := Int32.toNat_toInt u
  have tv := Int32.toNat_toInt v
  rw [show x1.toInt.toNat = x.toInt.toNat + 1 by omega]
  unfold sSh
  rw [← h, e2, e1, show y.toNatClampNeg = 19 + x.toInt.toNat by omega, show z.toNatClampNeg = 20 + x.toInt.toNat by omega, show u.toNatClampNeg = 25 + x.toInt.toNat by omega, show v.toNatClampNeg = 26 + x.toInt.toNat by omega]
theorem sDrop_of {L B N : List Int32} {x d : Int32} (h : L = sSh x.toInt.toNat B) (e : B = N.set (18 : Int32).toNatClampNeg d) (ed : d = N.getD (18 : Int32).toNatClampNeg 0 - 1) (hx : x.toInt = d.toInt) : L = sDrop N := by
  subst e
  subst ed
  rw [h, hx]
  rfl
theorem sPaid_more {t3 c : Int32} {S : kSt} (h0 : 1 ≤ t3.toInt) (h : t3.toInt ≤ (S.1.getD 18 0).toInt) (hd : ((sPay c S).1.getD 18 0).toInt = (S.1.getD 18 0).toInt - 1) : sPaid t3 c (S.1.getD 18 0).toInt.toNat S = sPaid t3 c ((sPay c S).1.getD 18 0).toInt.toNat (sPay c S) := by
  rw [show (S.1.getD 18 0).toInt.toNat = ((sPay c S).1.getD 18 0).toInt.toNat + 1 by omega]
  conv => lhs; unfold sPaid
  rw [if_pos h]
theorem sPaid_done {t3 c : Int32} {S : kSt} {n : Nat} (h : (S.1.getD 18 0).toInt < t3.toInt) : sPaid t3 c n S = S := by
  cases n with
  | zero => rfl
  | succ n =>
    unfold sPaid
    rw [if_neg (by omega)]
/-! the same of a market of the class at the place p: open, who, much, purses, payer, paid, led, rows of flow -/
abbrev kCt : Type := Int32 × List Int32 × List Int32 × List Int32 × Int32 × Int32 × List Int32 × (Nat → List Int32)
def cRow (p : Nat) (a : Nat → List Int32) (u : Nat) : List Int32 := bif Nat.blt u 8 then a (p + 15 + u) else []
def cT (p : Nat) (i : Nat → Int32) (a : Nat → List Int32) : kCt := (i (64 * (p + 6) + 2), a (p + 7), a (p + 8), a (p + 1), i (64 * p + 14), i (64 * p + 15), a (p + 13), cRow p a)
def cCoin (T : kCt) : Int32 := sMn (T.2.2.1.getD 0 0) (T.2.2.2.1.getD (T.2.1.getD 0 0).toNatClampNeg 0)
def cRest (T : kCt) : kCt := (T.1 - 1, mi_cpy T.2.1 T.2.1 1 0 (T.1 - 1).toNatClampNeg, mi_cpy T.2.2.1 T.2.2.1 1 0 (T.1 - 1).toNatClampNeg, T.2.2.2.1, (if T.2.2.2.2.1.toInt = 8 then T.2.1.getD 0 0 else T.2.2.2.2.1), T.2.2.2.2.2.1, T.2.2.2.2.2.2.1, T.2.2.2.2.2.2.2)
def cGive (c : Int32) (T : kCt) : kCt := (T.1 - 1, mi_cpy T.2.1 T.2.1 1 0 (T.1 - 1).toNatClampNeg, mi_cpy T.2.2.1 T.2.2.1 1 0 (T.1 - 1).toNatClampNeg,
  (T.2.2.2.1.set (T.2.1.getD 0 0).toNatClampNeg (T.2.2.2.1.getD (T.2.1.getD 0 0).toNatClampNeg 0 - cCoin T)).set c.toNatClampNeg (sMn 999 ((T.2.2.2.1.set (T.2.1.getD 0 0).toNatClampNeg (T.2.2.2.1.getD (T.2.1.getD 0 0).toNatClampNeg 0 - cCoin T)).getD c.toNatClampNeg 0 + cCoin T)),
  (if T.2.2.2.2.1.toInt = 8 then T.2.1.getD 0 0 else T.2.2.2.2.1), T.2.2.2.2.2.1 + cCoin T, T.2.2.2.2.2.2.1.set 2 (T.2.2.2.2.2.2.1.getD 2 0 + (T.2.2.1.getD 0 0 - cCoin T)),
  fun u => bif Nat.beq u (T.2.1.getD 0 0).toNatClampNeg then (T.2.2.2.2.2.2.2 u).set c.toNatClampNeg ((T.2.2.2.2.2.2.2 u).getD c.toNatClampNeg 0 + cCoin T) else T.2.2.2.2.2.2.2 u)
def cPay (b c : Int32) (T : kCt) : kCt := if (T.2.1.getD 0 0).toInt ≠ c.toInt ∧ 0 ≤ (T.2.1.getD 0 0).toInt ∧ (T.2.1.getD 0 0).toInt < b.toInt then cGive c T else cRest T
/-- at most n debts are paid to c, while there are THIRD or more -/
def cPaid (b t3 c : Int32) : Nat → kCt → kCt
  | 0, T => T
  | n + 1, T => if t3.toInt ≤ T.1.toInt then cPaid b t3 c n (cPay b c T) else T
theorem cT_eq {p : Nat} {i : Nat → Int32} {a : Nat → List Int32} {T : kCt} (h1 : i (64 * (p + 6) + 2) = T.1) (h2 : a (p + 7) = T.2.1) (h3 : a (p + 8) = T.2.2.1) (h4 : a (p + 1) = T.2.2.2.1) (h5 : i (64 * p + 14) = T.2.2.2.2.1) (h6 : i (64 * p + 15) = T.2.2.2.2.2.1) (h7 : a (p + 13) = T.2.2.2.2.2.2.1) (hF : ∀ u : Nat, u < 8 → a (p + 15 + u) = T.2.2.2.2.2.2.2 u) (h8 : ∀ u : Nat, 8 ≤ u → T.2.2.2.2.2.2.2 u = []) : cT p i a = T := by
  obtain ⟨t1, t2, t3, t4, t5, t6, t7, t8⟩ := T
  unfold cT
  dsimp only at h1 h2 h3 h4 h5 h6 h7 hF h8
  have e : cRow p a = t8 := by
    funext u
    unfold cRow
    by_cases hu : u < 8
    · rw [Nat.blt_eq.mpr hu]
      exact hF u hu
    · rw [h8 u (by omega)]
      cases eb : Nat.blt u 8 with
      | true => exact absurd (Nat.blt_eq.mp eb) hu
      | false => rfl
  rw [h1, h2, h3, h4, h5, h6, h7, e]
theorem cRow_lt {p u : Nat} {a : Nat → List Int32} (h : u < 8) : cRow p a u = a (p + 15 + u) := by
  unfold cRow
  rw [Nat.blt_eq.mpr h]
  rfl
theorem cRow_ge {p u : Nat} {a : Nat → List Int32} (h : 8 ≤ u) : cRow p a u = [] := by
  unfold cRow
  cases eb : Nat.blt u 8 with
  | true => exact absurd (Nat.blt_eq.mp eb) (by omega)
  | false => rfl
theorem cPaid_more {b t3 c : Int32} {T : kCt} {n : Nat} (h : t3.toInt ≤ T.1.toInt) : cPaid b t3 c (n + 1) T = cPaid b t3 c n (cPay b c T) := by
  conv => lhs; unfold cPaid
  rw [if_pos h]
theorem cPaid_done {b t3 c : Int32} {T : kCt} {n : Nat} (h : T.1.toInt < t3.toInt) : cPaid b t3 c n T = T := by
  cases n with
  | zero => rfl
  | succ n =>
    unfold cPaid
    rw [if_neg (by omega)]
end
