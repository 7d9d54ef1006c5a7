section
theorem koh18 : (18 : Int32).toInt = 18 := by decide
theorem koh19 : (19 : Int32).toInt = 19 := by decide
theorem koh25 : (25 : Int32).toInt = 25 := by decide
theorem koh1 : (1 : Int32).toInt = 1 := by decide
theorem koh0 : (0 : Int32).toInt = 0 := by decide
theorem koh8 : (8 : Int32).toInt = 8 := by decide
theorem koh20 : (20 : Int32).toInt = 20 := by decide
theorem koh26 : (26 : Int32).toInt = 26 := by decide
theorem koh16 : (16 : Int32).toInt = 16 := by decide
theorem koh10 : (10 : Int32).toInt = 10 := by decide
theorem koh9 : (9 : Int32).toInt = 9 := by decide
theorem oh0 {a0 : Int} (h0 : a0 = 19) : (0 : Int) ≤ a0 := oz337 h0
theorem oh1 {a0 : Int} (h0 : a0 = 19) : a0 < 31 := oz338 h0
theorem oh2 {a0 : Int} (h0 : a0 = 25) : (0 : Int) ≤ a0 := oz339 h0
theorem oh3 {a0 : Int} (h0 : a0 = 25) : a0 < 31 := oz340 h0
theorem oh4 {a0 : Int} (h0 : a0 = 18) : (0 : Int) ≤ a0 := oz195 h0
theorem oh5 {a0 : Int} (h0 : a0 = 18) : a0 < 31 := oz196 h0
theorem oh6 {a0 a1 : Int} (h0 : (1 : Int) ≤ a0) (h1 : a1 = 1) : (-2147483648 : Int) ≤ a0 - a1 := oz341 h0 h1
theorem oh7 {a0 a1 : Int} (h0 : a0 ≤ 5) (h1 : a1 = 1) : a0 - a1 ≤ 2147483647 := oz342 h0 h1
theorem oh8 {a0 a1 a2 a3 : Int} (h0 : (1 : Int) ≤ a0) (h1 : a0 ≤ 5) (h2 : a1 = a0 - a2) (h3 : a2 = 1) (h4 : a3 = 18) : a3 = 18 → (0 : Int) ≤ a1 ∧ a1 ≤ 5 := oz343 h0 h1 h2 h3 h4
theorem oh9 {a0 a1 : Int} (h0 : a0 = 18) : 19 ≤ a0 → a0 ≤ 24 → (0 : Int) ≤ a1 ∧ a1 ≤ 7 := oz325 h0
theorem oh11 {a0 : Int} (h0 : (0 : Int) ≤ a0) : (0 : Int) ≤ a0 := oz3 h0
theorem oh12 {a0 : Int} (h0 : a0 ≤ 7) : a0 < 31 := oz65 h0
theorem oh14 {a0 : Int} (h0 : (0 : Int) ≤ a0) : (-2147483648 : Int) ≤ 8 * a0 := oz345 h0
theorem oh15 {a0 : Int} (h0 : a0 ≤ 7) : 8 * a0 ≤ 2147483647 := oz346 h0
theorem oh16 {a0 a1 a2 : Int} (h0 : (0 : Int) ≤ a0) (h1 : (0 : Int) ≤ a1) (h2 : a2 = 8 * a1) : (-2147483648 : Int) ≤ a2 + a0 := oz347 h0 h1 h2
theorem oh17 {a0 a1 a2 : Int} (h0 : a0 ≤ 7) (h1 : a1 ≤ 7) (h2 : a2 = 8 * a1) : a2 + a0 ≤ 2147483647 := oz348 h0 h1 h2
theorem oh18 {a0 a1 a2 a3 : Int} (h0 : (0 : Int) ≤ a0) (h1 : (0 : Int) ≤ a1) (h2 : a2 = 8 * a1) (h3 : a3 = a2 + a0) : (0 : Int) ≤ a3 := oz349 h0 h1 h2 h3
theorem oh19 {a0 a1 a2 a3 : Int} (h0 : a0 ≤ 7) (h1 : a1 ≤ 7) (h2 : a2 = 8 * a1) (h3 : a3 = a2 + a0) : a3 < 64 := oz350 h0 h1 h2 h3
theorem oh20 {a0 a1 : Int} (h0 : a0 ≤ 7) : a0 = 18 → (0 : Int) ≤ a1 ∧ a1 ≤ 5 := oz90 h0
theorem oh21 {a0 a1 : Int} (h0 : a0 ≤ 7) : 19 ≤ a0 → a0 ≤ 24 → (0 : Int) ≤ a1 ∧ a1 ≤ 7 := oz91 h0
theorem oh22 {a0 a1 : Int} (h0 : a0 ≠ a1) : a1 ≠ a0 := oz351 h0
theorem oh23 {a0 a1 : Int} (h0 : a0 ≤ 7) (h1 : a1 = 18) : a1 ≠ a0 := oz352 h0 h1
theorem oh25 {a0 a1 a2 : Int} (h0 : a0 ≠ a1) (h1 : a0 = a2) (h2 : a1 = 8) : ¬ (a2 = 8) := ob26 h0 h1 h2
theorem oh26 {a0 a1 : Int} (h0 : a0 ≠ a1) : ¬ (a0 = a1) := ob25 h0
theorem oh28 {a0 a1 : Int} (h0 : a0 = a1) : a0 = a1 := oz719 h0
theorem oh29 {a0 a1 a2 : Int} (h0 : a0 = a1) (h1 : a0 = a2) (h2 : a1 = 8) : a2 = 8 := oc119 h0 h1 h2
theorem oh30 {a0 a1 : Int} (h0 : (0 : Int) ≤ a0) (h1 : a1 = 19) : (-2147483648 : Int) ≤ a1 + a0 := oz309 h0 h1
theorem oh31 {a0 a1 a2 a3 : Int} (h0 : a0 < a1) (h1 : a1 = (a2 - 1)) (h2 : a2 ≤ 5) (h3 : a3 = 19) : a3 + a0 ≤ 2147483647 := ob31 h0 h1 h2 h3
theorem oh32 {a0 a1 : Int} (h0 : (0 : Int) ≤ a0) (h1 : a1 = 20) : (-2147483648 : Int) ≤ a1 + a0 := oz356 h0 h1
theorem oh33 {a0 a1 a2 a3 : Int} (h0 : a0 < a1) (h1 : a1 = (a2 - 1)) (h2 : a2 ≤ 5) (h3 : a3 = 20) : a3 + a0 ≤ 2147483647 := ob33 h0 h1 h2 h3
theorem oh34 {a0 a1 a2 : Int} (h0 : (0 : Int) ≤ a0) (h1 : a1 = a2 + a0) (h2 : a2 = 20) : (0 : Int) ≤ a1 := oz358 h0 h1 h2
theorem oh35 {a0 a1 a2 a3 a4 : Int} (h0 : a0 < a1) (h1 : a1 = (a2 - 1)) (h2 : a2 ≤ 5) (h3 : a3 = a4 + a0) (h4 : a4 = 20) : a3 < 31 := ob35 h0 h1 h2 h3 h4
theorem oh37 {a0 a1 a2 : Int} (h0 : (0 : Int) ≤ a0) (h1 : a1 = a2 + a0) (h2 : a2 = 19) : (0 : Int) ≤ a1 := oz311 h0 h1 h2
theorem oh38 {a0 a1 a2 a3 a4 : Int} (h0 : a0 < a1) (h1 : a1 = (a2 - 1)) (h2 : a2 ≤ 5) (h3 : a3 = a4 + a0) (h4 : a4 = 19) : a3 < 31 := ob38 h0 h1 h2 h3 h4
theorem oh39 {a0 a1 a2 a3 : Int} (h0 : (0 : Int) ≤ a0) (h1 : a1 = a2 + a0) (h2 : a2 = 19) : a1 = 18 → (0 : Int) ≤ a3 ∧ a3 ≤ 5 := oz313 h0 h1 h2
theorem oh40 {a0 a1 a2 a3 a4 a5 a6 : Int} (h0 : a0 < a1) (h1 : (0 : Int) ≤ a0) (h2 : a1 = (a2 - 1)) (h3 : a2 ≤ 5) (h4 : (19 ≤ a3 → a3 ≤ 24 → (0 : Int) ≤ a4 ∧ a4 ≤ 7)) (h5 : a3 = a5 + a0) (h6 : a5 = 20) : 19 ≤ a6 → a6 ≤ 24 → (0 : Int) ≤ a4 ∧ a4 ≤ 7 := ob40 h0 h1 h2 h3 h4 h5 h6
theorem oh41 {a0 a1 : Int} (h0 : (0 : Int) ≤ a0) (h1 : a1 = 25) : (-2147483648 : Int) ≤ a1 + a0 := oz316 h0 h1
theorem oh42 {a0 a1 a2 a3 : Int} (h0 : a0 < a1) (h1 : a1 = (a2 - 1)) (h2 : a2 ≤ 5) (h3 : a3 = 25) : a3 + a0 ≤ 2147483647 := ob42 h0 h1 h2 h3
theorem oh43 {a0 a1 : Int} (h0 : (0 : Int) ≤ a0) (h1 : a1 = 26) : (-2147483648 : Int) ≤ a1 + a0 := oz364 h0 h1
theorem oh44 {a0 a1 a2 a3 : Int} (h0 : a0 < a1) (h1 : a1 = (a2 - 1)) (h2 : a2 ≤ 5) (h3 : a3 = 26) : a3 + a0 ≤ 2147483647 := ob44 h0 h1 h2 h3
theorem oh45 {a0 a1 a2 : Int} (h0 : (0 : Int) ≤ a0) (h1 : a1 = a2 + a0) (h2 : a2 = 26) : (0 : Int) ≤ a1 := oz366 h0 h1 h2
theorem oh46 {a0 a1 a2 a3 a4 : Int} (h0 : a0 < a1) (h1 : a1 = (a2 - 1)) (h2 : a2 ≤ 5) (h3 : a3 = a4 + a0) (h4 : a4 = 26) : a3 < 31 := ob46 h0 h1 h2 h3 h4
theorem oh47 {a0 a1 a2 a3 a4 : Int} (h0 : a0 = a1 + a2) (h1 : a3 = a4 + a2) (h2 : a1 = 19) (h3 : a4 = 26) : a3 ≠ a0 := oz368 h0 h1 h2 h3
theorem oh48 {a0 a1 a2 : Int} (h0 : (0 : Int) ≤ a0) (h1 : a1 = a2 + a0) (h2 : a2 = 25) : (0 : Int) ≤ a1 := oz318 h0 h1 h2
theorem oh49 {a0 a1 a2 a3 a4 : Int} (h0 : a0 < a1) (h1 : a1 = (a2 - 1)) (h2 : a2 ≤ 5) (h3 : a3 = a4 + a0) (h4 : a4 = 25) : a3 < 31 := ob49 h0 h1 h2 h3 h4
theorem oh50 {a0 a1 a2 a3 : Int} (h0 : (0 : Int) ≤ a0) (h1 : a1 = a2 + a0) (h2 : a2 = 25) : a1 = 18 → (0 : Int) ≤ a3 ∧ a3 ≤ 5 := oz320 h0 h1 h2
theorem oh51 {a0 a1 a2 a3 : Int} (h0 : (0 : Int) ≤ a0) (h1 : a1 = a2 + a0) (h2 : a2 = 25) : 19 ≤ a1 → a1 ≤ 24 → (0 : Int) ≤ a3 ∧ a3 ≤ 7 := oz321 h0 h1 h2
theorem oh52 {a0 a1 : Int} (h0 : (0 : Int) ≤ a0) (h1 : a1 = 1) : (-2147483648 : Int) ≤ a0 + a1 := oz12 h0 h1
theorem oh53 {a0 a1 a2 a3 : Int} (h0 : a0 < a1) (h1 : a1 = (a2 - 1)) (h2 : a2 ≤ 5) (h3 : a3 = 1) : a0 + a3 ≤ 2147483647 := ob53 h0 h1 h2 h3
theorem oh54 {a0 a1 a2 : Int} (h0 : (0 : Int) ≤ a0) (h1 : a1 = a0 + a2) (h2 : a2 = 1) : (0 : Int) ≤ a1 := oz14 h0 h1 h2
theorem oh55 {a0 a1 a2 a3 : Int} (h0 : (0 : Int) ≤ a0) (h1 : a1 = a2 + a0) (h2 : a2 = 19) (h3 : a3 = 18) : a3 ≠ a1 := oz315 h0 h1 h2 h3
theorem oh56 {a0 a1 a2 a3 : Int} (h0 : (0 : Int) ≤ a0) (h1 : a1 = a2 + a0) (h2 : a2 = 25) (h3 : a3 = 18) : a3 ≠ a1 := oz322 h0 h1 h2 h3
theorem oh57 {a0 a1 a2 a3 a4 a5 : Int} (h0 : a0 < a1) (h1 : a2 = a0 + a3) (h2 : a4 = a1) (h3 : a5 = a4) (h4 : a3 = 1) : a2 ≤ a5 := ob57 h0 h1 h2 h3 h4
theorem oh59 {a0 a1 a2 : Int} (h0 : a0 = a1 + a2) (h1 : a1 = 19) : a0 = 19 + a2 := ob59 h0 h1
theorem oh60 {a0 a1 a2 : Int} (h0 : a0 = a1 + a2) (h1 : a1 = 20) : a0 = 20 + a2 := ob60 h0 h1
theorem oh61 {a0 a1 a2 : Int} (h0 : a0 = a1 + a2) (h1 : a1 = 25) : a0 = 25 + a2 := ob61 h0 h1
theorem oh62 {a0 a1 a2 : Int} (h0 : a0 = a1 + a2) (h1 : a1 = 26) : a0 = 26 + a2 := ob62 h0 h1
theorem oh63 {a0 a1 a2 : Int} (h0 : a0 = a1 + a2) (h1 : a2 = 1) : a0 = a1 + 1 := oz169 h0 h1
theorem oh64 {a0 a1 a2 : Int} (h0 : a0 = a1 + a2) (h1 : a2 = 1) : (5 - a0) < (5 - a1) := oz372 h0 h1
theorem oh65 {a0 a1 a2 : Int} (h0 : a0 < a1) (h1 : a1 = (a2 - 1)) (h2 : a2 ≤ 5) : (1 : Int) ≤ (5 - a0) := ob65 h0 h1 h2
theorem oh66 {a0 : Int} (h0 : a0 = 0) : (0 : Int) ≤ a0 := oz46 h0
theorem oh67 {a0 a1 : Int} (h0 : (0 : Int) ≤ a0) (h1 : a1 = 0) : a1 ≤ a0 := ob67 h0 h1
theorem oh68 {a0 a1 a2 a3 : Int} (h0 : a0 = a1 - a2) (h1 : a3 = a0) (h2 : a2 = 1) : a3 = (a1 - 1) := oz374 h0 h1 h2
theorem oh69 {a0 a1 a2 a3 a4 : Int} (h0 : a0 ≤ a1) (h1 : a1 ≤ a0) (h2 : a0 = (a2 - 1)) (h3 : a3 = a2 - a4) (h4 : a4 = 1) : a1 = a3 := ob69 h0 h1 h2 h3 h4
theorem oh70 {a0 a1 a2 a3 a4 : Int} (h0 : a0 = (a1 - 1)) (h1 : a2 = a0) (h2 : a3 = a2) (h3 : a4 = a3) : a4 = (a1 - 1) := oz375 h0 h1 h2 h3
theorem oh71 {a0 a1 : Int} (h0 : a0 = (a1 - 1)) : a0 = (a1 - 1) := oz376 h0
theorem oh72 {a0 a1 a2 a3 : Int} (h0 : a0 = (a1 - 1)) (h1 : a2 = a0) (h2 : a3 = a2) : a3 = (a1 - 1) := oz378 h0 h1 h2
theorem oh73 {a0 a1 : Int} (h0 : (0 : Int) ≤ a0) (h1 : a1 = 16) : (-2147483648 : Int) ≤ a1 + a0 := oz242 h0 h1
theorem oh74 {a0 a1 : Int} (h0 : a0 ≤ 7) (h1 : a1 = 16) : a1 + a0 ≤ 2147483647 := oz243 h0 h1
theorem oh75 {a0 a1 a2 : Int} (h0 : (0 : Int) ≤ a0) (h1 : a1 = a2 + a0) (h2 : a2 = 16) : (0 : Int) ≤ a1 := oz244 h0 h1 h2
theorem oh76 {a0 a1 a2 : Int} (h0 : a0 ≤ 7) (h1 : a1 = a2 + a0) (h2 : a2 = 16) : a1 < 24 := oz245 h0 h1 h2
theorem oh77 {a0 a1 a2 : Int} (h0 : a0 < a1) (h1 : a1 = a2) : a0 < a2 := od20 h0 h1
theorem oh85 {a0 a1 : Int} (h0 : (0 : Int) ≤ a0) (h1 : a1 = 10) : (-2147483648 : Int) ≤ a1 + a0 := oz251 h0 h1
theorem oh86 {a0 a1 : Int} (h0 : a0 ≤ 7) (h1 : a1 = 10) : a1 + a0 ≤ 2147483647 := oz252 h0 h1
theorem oh87 {a0 a1 a2 : Int} (h0 : (0 : Int) ≤ a0) (h1 : a1 = a2 + a0) (h2 : a2 = 10) : (0 : Int) ≤ a1 := oz253 h0 h1 h2
theorem oh88 {a0 a1 a2 : Int} (h0 : a0 ≤ 7) (h1 : a1 = a2 + a0) (h2 : a2 = 10) : a1 < 31 := oz254 h0 h1 h2
theorem oh93 {a0 : Int} (h0 : a0 = 9) : (0 : Int) ≤ a0 := oz258 h0
theorem oh94 {a0 : Int} (h0 : a0 = 9) : a0 < 31 := oz259 h0
theorem oh103 {a0 a1 a2 : Int} (h0 : a0 ≤ a1) (h1 : a0 = a2) : a2 ≤ a1 := oz1318 h0 h1
theorem oh175 {a0 : Int} (h0 : (0 : Int) ≤ a0) (h1 : a0 ≤ 7) : ((0 : Int) ≤ a0) ∧ (a0 ≤ 7) := oz181 h0 h1
theorem oh177 {a0 a1 : Int} (h0 : a0 ≤ 5) (h1 : a1 = 19) : a1 + a0 ≤ 2147483647 := oz310 h0 h1
theorem oh178 {a0 a1 a2 : Int} (h0 : a0 ≤ 5) (h1 : a1 = a2 + a0) (h2 : a2 = 19) : a1 < 31 := oz312 h0 h1 h2
theorem oh179 {a0 a1 : Int} (h0 : (0 : Int) ≤ a0) (h1 : a0 ≤ 7) : 19 ≤ a1 → a1 ≤ 24 → (0 : Int) ≤ a0 ∧ a0 ≤ 7 := oz314 h0 h1
theorem oh180 {a0 a1 : Int} (h0 : a0 ≤ 5) (h1 : a1 = 25) : a1 + a0 ≤ 2147483647 := oz317 h0 h1
theorem oh181 {a0 a1 a2 : Int} (h0 : a0 ≤ 5) (h1 : a1 = a2 + a0) (h2 : a2 = 25) : a1 < 31 := oz319 h0 h1 h2
theorem oh182 {a0 a1 : Int} (h0 : a0 ≤ 5) (h1 : a1 = 1) : a0 + a1 ≤ 2147483647 := oz323 h0 h1
theorem oh183 {a0 a1 a2 a3 a4 a5 a6 a7 : Int} (h0 : a0 < a1) (h1 : a1 ≤ 5) (h2 : (0 : Int) ≤ a2) (h3 : a3 = a2 + a4) (h4 : a5 = a0) (h5 : a6 = a5) (h6 : a2 = a6) (h7 : a4 = 1) (h8 : a7 = 18) : a7 = 18 → (0 : Int) ≤ a3 ∧ a3 ≤ 5 := oz324 h0 h1 h2 h3 h4 h5 h6 h7 h8
theorem oh184 {a0 a1 a2 a3 : Int} (h0 : (0 : Int) ≤ a0) (h1 : a1 = a2 + a0) (h2 : a2 = 19) (h3 : a3 = 9) : a3 ≠ a1 := oz326 h0 h1 h2 h3
theorem oh185 {a0 a1 a2 a3 : Int} (h0 : (0 : Int) ≤ a0) (h1 : a1 = a2 + a0) (h2 : a2 = 25) (h3 : a3 = 9) : a3 ≠ a1 := oz327 h0 h1 h2 h3
theorem oh186 {a0 a1 : Int} (h0 : a0 = 9) (h1 : a1 = 18) : a0 ≠ a1 := oz328 h0 h1
theorem oh187 {a0 a1 : Int} (h0 : a0 = 9) : a0 = 18 → (0 : Int) ≤ a1 ∧ a1 ≤ 5 := oz329 h0
theorem oh188 {a0 a1 : Int} (h0 : a0 = 9) : 19 ≤ a0 → a0 ≤ 24 → (0 : Int) ≤ a1 ∧ a1 ≤ 7 := oz330 h0
theorem oh189 {a0 a1 a2 a3 a4 a5 : Int} (h0 : a0 ≤ 7) (h1 : (0 : Int) ≤ a1) (h2 : a2 = a3 + a1) (h3 : a4 = a5 + a0) (h4 : a3 = 19) (h5 : a5 = 10) : a4 ≠ a2 := oz331 h0 h1 h2 h3 h4 h5
theorem oh190 {a0 a1 a2 a3 a4 a5 : Int} (h0 : a0 ≤ 7) (h1 : (0 : Int) ≤ a1) (h2 : a2 = a3 + a1) (h3 : a4 = a5 + a0) (h4 : a3 = 25) (h5 : a5 = 10) : a4 ≠ a2 := oz332 h0 h1 h2 h3 h4 h5
theorem oh191 {a0 a1 a2 a3 : Int} (h0 : a0 ≤ 7) (h1 : a1 = a2 + a0) (h2 : a2 = 10) (h3 : a3 = 18) : a1 ≠ a3 := oz333 h0 h1 h2 h3
theorem oh192 {a0 a1 a2 a3 : Int} (h0 : (0 : Int) ≤ a0) (h1 : a1 = a2 + a0) (h2 : a2 = 10) (h3 : a3 = 9) : a1 ≠ a3 := oz334 h0 h1 h2 h3
theorem oh193 {a0 a1 a2 a3 : Int} (h0 : a0 ≤ 7) (h1 : a1 = a2 + a0) (h2 : a2 = 10) : a1 = 18 → (0 : Int) ≤ a3 ∧ a3 ≤ 5 := oz335 h0 h1 h2
theorem oh194 {a0 a1 a2 a3 : Int} (h0 : a0 ≤ 7) (h1 : a1 = a2 + a0) (h2 : a2 = 10) : 19 ≤ a1 → a1 ≤ 24 → (0 : Int) ≤ a3 ∧ a3 ≤ 7 := oz336 h0 h1 h2
theorem oh195 {a0 a1 a2 : Int} (h0 : a0 ≠ a1) (h1 : a1 = 1) : ((a1 = 1) ∧ (¬ ((a0 = 1) ∧ (a2 = 0)))) ∨ ((a1 = 0) ∧ (a0 = 1) ∧ (a2 = 0)) := by omega
theorem oh196 {a0 a1 a2 : Int} (h0 : a0 ≠ a1) (h1 : a1 = 1) : ¬ ((a0 = 1) ∧ (a2 = 0)) := by omega
theorem oh197 {a0 a1 : Int} (h0 : a0 ≤ a1) (h1 : (1 : Int) ≤ a0) : (1 : Int) ≤ a1 := oz379 h0 h1
theorem oh198 {a0 : Int} (h0 : (1 : Int) ≤ a0) : (1 : Int) ≤ a0 := oz526 h0
theorem oh199 {a0 a1 : Int} (h0 : a0 = (a1 - 1)) : a0 = a1 - 1 := by omega
theorem oh200 {a0 a1 : Int} (h0 : a0 = (a1 - 1)) : a0 < a1 := oz380 h0
theorem oh201 {a0 a1 a2 a3 : Int} (h0 : a0 ≠ a1) (h1 : a1 = 0) (h2 : a2 = 1) : ((a2 = 1) ∧ (¬ ((a3 = 1) ∧ (a0 = 0)))) ∨ ((a2 = 0) ∧ (a3 = 1) ∧ (a0 = 0)) := by omega
theorem oh202 {a0 a1 a2 : Int} (h0 : a0 ≠ a1) (h1 : a1 = 0) : ¬ ((a2 = 1) ∧ (a0 = 0)) := by omega
theorem oh203 {a0 a1 a2 a3 : Int} (h0 : a0 = a1) (h1 : a2 = a3) (h2 : a1 = 1) (h3 : a3 = 0) : ((a3 = 1) ∧ (¬ ((a0 = 1) ∧ (a2 = 0)))) ∨ ((a3 = 0) ∧ (a0 = 1) ∧ (a2 = 0)) := by omega
theorem oh204 {a0 a1 a2 a3 : Int} (h0 : a0 = a1) (h1 : a2 = a3) (h2 : a1 = 1) (h3 : a3 = 0) : ¬ (¬ ((a0 = 1) ∧ (a2 = 0))) := by omega
def zw165_116 : kW := ([7464, 7465, 7467], [118, 141], [], [])
def zw165_116_L30 : kW := ([], [118], [], [])
set_option maxRecDepth 100000 in
theorem kf165_116 {i : Nat → Int32} {a : Nat → List Int32} {q : Nat → List Int64} {r : Nat → Nat} (hI : kI i a q) (hr : kr r) (x1 : Int32) (hp0 : ((0 : Int) ≤ x1.toInt) ∧ (x1.toInt ≤ 7)) (hp1 : (1 : Int) ≤ ((a 118).getD (18 : Int32).toNatClampNeg 0).toInt) : km 1 165 [.ref 116, .int x1] (ks i a q r) (kVN zw165_116 i a q r (fun i1 a1 q1 r1 => (((a1 118).getD (18 : Int32).toNatClampNeg 0).toInt = (((a 118).getD (18 : Int32).toNatClampNeg 0).toInt - 1)) ∧ (a1 118, i1 7464, i1 7465, i1 7467, a1 141) = sPay x1 (a 118, i 7464, i 7465, i 7467, a 141))) := by
  have hG := kG_self zw165_116 hI hr
  refine km_ofN (q := (mi_h165, mi_c165)) rfl (by decide) (Nat.le_of_ble_eq_true rfl) ?_
  intro P hP
  have r1 : ((0 : Int) ≤ ((a 118).getD (18 : Int32).toNatClampNeg 0).toInt) ∧ (((a 118).getD (18 : Int32).toNatClampNeg 0).toInt ≤ 5) := kE_n18 (p := 118) hG.I (by decide)
  first | refine fo_goL mi_k165 fz165_0_3_6 [(0, .ref 116), (1, .int x1)] [.int 19, .ref 118] (by rfl) ?_ | refine ft_go mi_k165 3 6 [(0, .ref 116), (1, .int x1)] [.int 19, .ref 118] i a q r (by rfl) ?_
  refine ko_iald3 mi_k165.1 (n := 31) (c := 31) (ax := (0, 0, 0, 0, 0)) (mi_k165.2 _ _ (by rfl)) (by rfl) (ksG118 _ _ _ _) (hG.I.2.1 118) rfl (oh0 koh19) (oh1 koh19) ?_
  have r2 : ((0 : Int) ≤ ((a 118).getD (19 : Int32).toNatClampNeg 0).toInt) ∧ (((a 118).getD (19 : Int32).toNatClampNeg 0).toInt ≤ 7) := kE_nwho (p := 118) hG.I (by decide) (j := 19) (by decide) (by decide)
  first | refine fo_goL mi_k165 fz165_7_4_14 [(2, .int ((a 118).getD (19 : Int32).toNatClampNeg 0)), (0, .ref 116), (1, .int x1)] [.int 25, .ref 118] (by rfl) ?_ | refine ft_go mi_k165 4 14 [(2, .int ((a 118).getD (19 : Int32).toNatClampNeg 0)), (0, .ref 116), (1, .int x1)] [.int 25, .ref 118] i a q r (by rfl) ?_
  refine ko_iald3 mi_k165.1 (n := 31) (c := 31) (ax := (0, 0, 0, 0, 0)) (mi_k165.2 _ _ (by rfl)) (by rfl) (ksG118 _ _ _ _) (hG.I.2.1 118) rfl (oh2 koh25) (oh3 koh25) ?_
  first | refine fo_goL mi_k165 fz165_15_5_23 [(3, .int ((a 118).getD (25 : Int32).toNatClampNeg 0)), (2, .int ((a 118).getD (19 : Int32).toNatClampNeg 0)), (0, .ref 116), (1, .int x1)] [.int 18, .ref 118, .int 18, .ref 118] (by rfl) ?_ | refine ft_go mi_k165 5 23 [(3, .int ((a 118).getD (25 : Int32).toNatClampNeg 0)), (2, .int ((a 118).getD (19 : Int32).toNatClampNeg 0)), (0, .ref 116), (1, .int x1)] [.int 18, .ref 118, .int 18, .ref 118] i a q r (by rfl) ?_
  refine ko_iald3 mi_k165.1 (n := 31) (c := 31) (ax := (0, 0, 0, 0, 0)) (mi_k165.2 _ _ (by rfl)) (by rfl) (ksG118 _ _ _ _) (hG.I.2.1 118) rfl (oh4 koh18) (oh5 koh18) ?_
  have s3 : (((a 118).getD (18 : Int32).toNatClampNeg 0) - 1).toInt = ((a 118).getD (18 : Int32).toNatClampNeg 0).toInt - (1 : Int32).toInt := kd_sub (oh6 hp1 koh1) (oh7 r1.2 koh1)
  first | refine ft_goS mi_k165 2 26 [.int (((a 118).getD (18 : Int32).toNatClampNeg 0) - 1), .int 18, .ref 118] (by rfl) ?_ | refine ft_go mi_k165 2 26 [(3, .int ((a 118).getD (25 : Int32).toNatClampNeg 0)), (2, .int ((a 118).getD (19 : Int32).toNatClampNeg 0)), (0, .ref 116), (1, .int x1)] [.int (((a 118).getD (18 : Int32).toNatClampNeg 0) - 1), .int 18, .ref 118] i a q r (by rfl) ?_
  refine ko_iast3 mi_k165.1 (n := 31) (c := 31) (ax := (0, 0, 0, 0, 0)) (mi_k165.2 _ _ (by rfl)) (by rfl) (ksG118 _ _ _ _) (ksA118 _ _ _ _) (hG.I.2.1 118) rfl (oh4 koh18) (oh5 koh18) ?_
  intro a4 ea4 fa4
  have hJ4 := kG_a3 hG 118 rfl ea4 fa4 (kE_nset (p := 118) (by decide) (oh4 koh18) (oh8 hp1 r1.2 s3 koh1 koh18) (oh9 koh18))
  first | refine fo_goL mi_k165 fz165_27_2_30 [(4, .int 0), (3, .int ((a 118).getD (25 : Int32).toNatClampNeg 0)), (2, .int ((a 118).getD (19 : Int32).toNatClampNeg 0)), (0, .ref 116), (1, .int x1)] [] (by rfl) ?_ | refine fo_goL mi_k165 fz165_82_2_30 [(4, .int 0), (3, .int ((a 118).getD (25 : Int32).toNatClampNeg 0)), (2, .int ((a 118).getD (19 : Int32).toNatClampNeg 0)), (0, .ref 116), (1, .int x1)] [] (by rfl) ?_ | refine ft_go mi_k165 2 30 [(4, .int 0), (3, .int ((a 118).getD (25 : Int32).toNatClampNeg 0)), (2, .int ((a 118).getD (19 : Int32).toNatClampNeg 0)), (0, .ref 116), (1, .int x1)] [] i a4 q r (by rfl) ?_
  have lp5 : ∀ (nz : Nat) (i5 : Nat → Int32) (a5 : Nat → List Int32) (q5 : Nat → List Int64) (r5 : Nat → Nat) (l4_5 : Int32), kG zw165_116_L30 i a4 q r i5 a5 q5 r5 → (0 : Int) ≤ l4_5.toInt → l4_5.toInt ≤ ((a5 118).getD (18 : Int32).toNatClampNeg 0).toInt → ((a5 118).getD (18 : Int32).toNatClampNeg 0).toInt = (((a 118).getD (18 : Int32).toNatClampNeg 0).toInt - 1) → a5 118 = sSh l4_5.toInt.toNat (a4 118) → ((5 - l4_5.toInt)).toNat < nz → ko 1 (mi_h165, mi_c165) P (30, [(4, .int l4_5), (3, .int ((a 118).getD (25 : Int32).toNatClampNeg 0)), (2, .int ((a 118).getD (19 : Int32).toNatClampNeg 0)), (0, .ref 116), (1, .int x1)], [], (0, 0), ks i5 a5 q5 r5) := by
    intro nz
    induction nz with
    | zero =>
      intro _ _ _ _ _ _ _ _ _ _ hm
      exact absurd hm (Nat.not_lt_zero _)
    | succ nz ih5 =>
      intro i5 a5 q5 r5 l4_5 hL5 p5_0 p5_1 p5_2 O5_0 hm5
      have r8 : ((0 : Int) ≤ ((a5 118).getD (18 : Int32).toNatClampNeg 0).toInt) ∧ (((a5 118).getD (18 : Int32).toNatClampNeg 0).toInt ≤ 5) := kE_n18 (p := 118) hL5.I (by decide)
      first | refine fo_goL mi_k165 fz165_30_4_38 [(4, .int l4_5), (3, .int ((a 118).getD (25 : Int32).toNatClampNeg 0)), (2, .int ((a 118).getD (19 : Int32).toNatClampNeg 0)), (0, .ref 116), (1, .int x1)] [.int 18, .ref 118, .int l4_5] (by rfl) ?_ | refine ft_go mi_k165 4 38 [(4, .int l4_5), (3, .int ((a 118).getD (25 : Int32).toNatClampNeg 0)), (2, .int ((a 118).getD (19 : Int32).toNatClampNeg 0)), (0, .ref 116), (1, .int x1)] [.int 18, .ref 118, .int l4_5] i5 a5 q5 r5 (by rfl) ?_
      refine ko_iald3 mi_k165.1 (n := 31) (c := 31) (ax := (0, 0, 0, 0, 0)) (mi_k165.2 _ _ (by rfl)) (by rfl) (ksG118 _ _ _ _) (hL5.I.2.1 118) rfl (oh4 koh18) (oh5 koh18) ?_
      refine ft_ifS mi_k165 (decide (((a5 118).getD (18 : Int32).toNatClampNeg 0) ≤ l4_5)) 88 42 [] (by rfl) (fun c => ?_) (fun c => ?_)
      ·
        have c9 : ((a5 118).getD (18 : Int32).toNatClampNeg 0).toInt ≤ l4_5.toInt := kd_le c; clear c
        have hG10 := kG_call hJ4 hL5 (by decide +kernel)
        have qd11 : a5 118 = sDrop (a 118) := sDrop_of O5_0 (ea4) rfl (oh69 c9 p5_1 p5_2 s3 koh1)
        have efi5_7464 : (i5 7464).toInt = (i 7464).toInt := hL5.ti 7464 rfl
        first | refine fo_goS mi_k165 fz165_88_3_94 [.int 8, .int (i5 7464)] (by rfl) ?_ | refine ft_go mi_k165 3 94 [(4, .int l4_5), (3, .int ((a 118).getD (25 : Int32).toNatClampNeg 0)), (2, .int ((a 118).getD (19 : Int32).toNatClampNeg 0)), (0, .ref 116), (1, .int x1)] [.int 8, .int (i5 7464)] i5 a5 q5 r5 (by rfl) ?_
        refine ft_ifS mi_k165 ((i5 7464) != 8) 102 97 [] (by rfl) (fun c => ?_) (fun c => ?_)
        ·
          have c12 : (i5 7464).toInt ≠ (8 : Int32).toInt := kd_ne c; clear c
          first | refine ft_goS mi_k165 2 104 [.int x1, .int ((a 118).getD (19 : Int32).toNatClampNeg 0)] (by rfl) ?_ | refine ft_go mi_k165 2 104 [(4, .int l4_5), (3, .int ((a 118).getD (25 : Int32).toNatClampNeg 0)), (2, .int ((a 118).getD (19 : Int32).toNatClampNeg 0)), (0, .ref 116), (1, .int x1)] [.int x1, .int ((a 118).getD (19 : Int32).toNatClampNeg 0)] i5 a5 q5 r5 (by rfl) ?_
          refine ft_ifS mi_k165 (((a 118).getD (19 : Int32).toNatClampNeg 0) != x1) 108 107 [] (by rfl) (fun c => ?_) (fun c => ?_)
          ·
            have c13 : ((a 118).getD (19 : Int32).toNatClampNeg 0).toInt ≠ x1.toInt := kd_ne c; clear c
            first | refine fo_goS mi_k165 fz165_108_4_114 [.int ((a 118).getD (19 : Int32).toNatClampNeg 0), .ref 118, .int ((a 118).getD (25 : Int32).toNatClampNeg 0)] (by rfl) ?_ | refine ft_go mi_k165 4 114 [(4, .int l4_5), (3, .int ((a 118).getD (25 : Int32).toNatClampNeg 0)), (2, .int ((a 118).getD (19 : Int32).toNatClampNeg 0)), (0, .ref 116), (1, .int x1)] [.int ((a 118).getD (19 : Int32).toNatClampNeg 0), .ref 118, .int ((a 118).getD (25 : Int32).toNatClampNeg 0)] i5 a5 q5 r5 (by rfl) ?_
            refine ko_iald3 mi_k165.1 (n := 31) (c := 31) (ax := (0, 0, 0, 0, 0)) (mi_k165.2 _ _ (by rfl)) (by rfl) (ksG118 _ _ _ _) (hG10.I.2.1 118) rfl (oh11 r2.1) (oh12 r2.2) ?_
            have r14 : ((((a 118).getD (19 : Int32).toNatClampNeg 0).toInt = 18 → (0 : Int) ≤ ((a5 118).getD ((a 118).getD (19 : Int32).toNatClampNeg 0).toNatClampNeg 0).toInt ∧ ((a5 118).getD ((a 118).getD (19 : Int32).toNatClampNeg 0).toNatClampNeg 0).toInt ≤ 5)) ∧ ((19 ≤ ((a 118).getD (19 : Int32).toNatClampNeg 0).toInt → ((a 118).getD (19 : Int32).toNatClampNeg 0).toInt ≤ 24 → (0 : Int) ≤ ((a5 118).getD ((a 118).getD (19 : Int32).toNatClampNeg 0).toNatClampNeg 0).toInt ∧ ((a5 118).getD ((a 118).getD (19 : Int32).toNatClampNeg 0).toNatClampNeg 0).toInt ≤ 7)) := kE_ncond (p := 118) hG10.I (by decide) (j := ((a 118).getD (19 : Int32).toNatClampNeg 0)) (oh11 r2.1)
            have m16 : (((bif decide (((a5 118).getD ((a 118).getD (19 : Int32).toNatClampNeg 0).toNatClampNeg 0) < ((a 118).getD (25 : Int32).toNatClampNeg 0)) then ((a5 118).getD ((a 118).getD (19 : Int32).toNatClampNeg 0).toNatClampNeg 0) else ((a 118).getD (25 : Int32).toNatClampNeg 0)).toInt ≤ ((a 118).getD (25 : Int32).toNatClampNeg 0).toInt) ∧ ((bif decide (((a5 118).getD ((a 118).getD (19 : Int32).toNatClampNeg 0).toNatClampNeg 0) < ((a 118).getD (25 : Int32).toNatClampNeg 0)) then ((a5 118).getD ((a 118).getD (19 : Int32).toNatClampNeg 0).toNatClampNeg 0) else ((a 118).getD (25 : Int32).toNatClampNeg 0)).toInt ≤ ((a5 118).getD ((a 118).getD (19 : Int32).toNatClampNeg 0).toNatClampNeg 0).toInt)) ∧ ((bif decide (((a5 118).getD ((a 118).getD (19 : Int32).toNatClampNeg 0).toNatClampNeg 0) < ((a 118).getD (25 : Int32).toNatClampNeg 0)) then ((a5 118).getD ((a 118).getD (19 : Int32).toNatClampNeg 0).toNatClampNeg 0) else ((a 118).getD (25 : Int32).toNatClampNeg 0)).toInt = ((a 118).getD (25 : Int32).toNatClampNeg 0).toInt ∨ (bif decide (((a5 118).getD ((a 118).getD (19 : Int32).toNatClampNeg 0).toNatClampNeg 0) < ((a 118).getD (25 : Int32).toNatClampNeg 0)) then ((a5 118).getD ((a 118).getD (19 : Int32).toNatClampNeg 0).toNatClampNeg 0) else ((a 118).getD (25 : Int32).toNatClampNeg 0)).toInt = ((a5 118).getD ((a 118).getD (19 : Int32).toNatClampNeg 0).toNatClampNeg 0).toInt) := kd_min
            first | refine ft_goS mi_k165 1 118 [.int (bif decide (((a5 118).getD ((a 118).getD (19 : Int32).toNatClampNeg 0).toNatClampNeg 0) < ((a 118).getD (25 : Int32).toNatClampNeg 0)) then ((a5 118).getD ((a 118).getD (19 : Int32).toNatClampNeg 0).toNatClampNeg 0) else ((a 118).getD (25 : Int32).toNatClampNeg 0))] (by rfl) ?_ | refine ft_go mi_k165 1 118 [(4, .int l4_5), (3, .int ((a 118).getD (25 : Int32).toNatClampNeg 0)), (2, .int ((a 118).getD (19 : Int32).toNatClampNeg 0)), (0, .ref 116), (1, .int x1)] [.int (bif decide (((a5 118).getD ((a 118).getD (19 : Int32).toNatClampNeg 0).toNatClampNeg 0) < ((a 118).getD (25 : Int32).toNatClampNeg 0)) then ((a5 118).getD ((a 118).getD (19 : Int32).toNatClampNeg 0).toNatClampNeg 0) else ((a 118).getD (25 : Int32).toNatClampNeg 0))] i5 a5 q5 r5 (by rfl) ?_
            generalize hm15 : (bif decide (((a5 118).getD ((a 118).getD (19 : Int32).toNatClampNeg 0).toNatClampNeg 0) < ((a 118).getD (25 : Int32).toNatClampNeg 0)) then ((a5 118).getD ((a 118).getD (19 : Int32).toNatClampNeg 0).toNatClampNeg 0) else ((a 118).getD (25 : Int32).toNatClampNeg 0)) = m15 at m16 ⊢
            have qm15 := hm15.symm
            have b17 : ((-2147483648 : Int) ≤ ((a 118).getD (25 : Int32).toNatClampNeg 0).toInt) ∧ (((a 118).getD (25 : Int32).toNatClampNeg 0).toInt ≤ 2147483647) := kd_bd ((a 118).getD (25 : Int32).toNatClampNeg 0)
            have b18 : ((-2147483648 : Int) ≤ m15.toInt) ∧ (m15.toInt ≤ 2147483647) := kd_bd m15
            have b19 : ((-2147483648 : Int) ≤ (i5 7467).toInt) ∧ ((i5 7467).toInt ≤ 2147483647) := kd_bd (i5 7467)
            have b20 : ((-2147483648 : Int) ≤ (((a 118).getD (25 : Int32).toNatClampNeg 0) - m15).toInt) ∧ ((((a 118).getD (25 : Int32).toNatClampNeg 0) - m15).toInt ≤ 2147483647) := kd_bd (((a 118).getD (25 : Int32).toNatClampNeg 0) - m15)
            have hJ21 := kG_i hG10 7467 rfl (v := ((i5 7467) + (((a 118).getD (25 : Int32).toNatClampNeg 0) - m15))) (kd_bd _)
            have b22 : ((-2147483648 : Int) ≤ (i5 7465).toInt) ∧ ((i5 7465).toInt ≤ 2147483647) := kd_bd (i5 7465)
            have hJ23 := kG_i hJ21 7465 rfl (v := ((i5 7465) + m15)) (kd_bd _)
            have s24 : (8 * ((a 118).getD (19 : Int32).toNatClampNeg 0)).toInt = 8 * ((a 118).getD (19 : Int32).toNatClampNeg 0).toInt := kd_cmul 8 koh8 (oh14 r2.1) (oh15 r2.2)
            have s25 : ((8 * ((a 118).getD (19 : Int32).toNatClampNeg 0)) + x1).toInt = (8 * ((a 118).getD (19 : Int32).toNatClampNeg 0)).toInt + x1.toInt := kd_add (oh16 hp0.1 r2.1 s24) (oh17 hp0.2 r2.2 s24)
            first | refine fo_go mi_k165 fz165_118_23_155 [(4, .int m15), (3, .int ((a 118).getD (25 : Int32).toNatClampNeg 0)), (2, .int ((a 118).getD (19 : Int32).toNatClampNeg 0)), (0, .ref 116), (1, .int x1)] [.int ((8 * ((a 118).getD (19 : Int32).toNatClampNeg 0)) + x1), .ref 141, .int ((8 * ((a 118).getD (19 : Int32).toNatClampNeg 0)) + x1), .ref 141] (ku (ku i5 7467 ((i5 7467) + (((a 118).getD (25 : Int32).toNatClampNeg 0) - m15))) 7465 ((i5 7465) + m15)) a5 q5 r5 (by rfl) ?_ | refine ft_go mi_k165 23 155 [(4, .int m15), (3, .int ((a 118).getD (25 : Int32).toNatClampNeg 0)), (2, .int ((a 118).getD (19 : Int32).toNatClampNeg 0)), (0, .ref 116), (1, .int x1)] [.int ((8 * ((a 118).getD (19 : Int32).toNatClampNeg 0)) + x1), .ref 141, .int ((8 * ((a 118).getD (19 : Int32).toNatClampNeg 0)) + x1), .ref 141] (ku (ku i5 7467 ((i5 7467) + (((a 118).getD (25 : Int32).toNatClampNeg 0) - m15))) 7465 ((i5 7465) + m15)) a5 q5 r5 (by rfl) ?_
            refine ko_iald3 mi_k165.1 (n := 64) (c := 64) (ax := (0, 0, 0, 0, 0)) (mi_k165.2 _ _ (by rfl)) (by rfl) (ksG141 _ _ _ _) (hJ23.I.2.1 141) rfl (oh18 hp0.1 r2.1 s24 s25) (oh19 hp0.2 r2.2 s24 s25) ?_
            have b26 : ((-2147483648 : Int) ≤ ((a5 141).getD ((8 * ((a 118).getD (19 : Int32).toNatClampNeg 0)) + x1).toNatClampNeg 0).toInt) ∧ (((a5 141).getD ((8 * ((a 118).getD (19 : Int32).toNatClampNeg 0)) + x1).toNatClampNeg 0).toInt ≤ 2147483647) := kd_bd ((a5 141).getD ((8 * ((a 118).getD (19 : Int32).toNatClampNeg 0)) + x1).toNatClampNeg 0)
            first | refine fo_goS mi_k165 fz165_156_2_159 [.int (((a5 141).getD ((8 * ((a 118).getD (19 : Int32).toNatClampNeg 0)) + x1).toNatClampNeg 0) + m15), .int ((8 * ((a 118).getD (19 : Int32).toNatClampNeg 0)) + x1), .ref 141] (by rfl) ?_ | refine ft_go mi_k165 2 159 [(4, .int m15), (3, .int ((a 118).getD (25 : Int32).toNatClampNeg 0)), (2, .int ((a 118).getD (19 : Int32).toNatClampNeg 0)), (0, .ref 116), (1, .int x1)] [.int (((a5 141).getD ((8 * ((a 118).getD (19 : Int32).toNatClampNeg 0)) + x1).toNatClampNeg 0) + m15), .int ((8 * ((a 118).getD (19 : Int32).toNatClampNeg 0)) + x1), .ref 141] (ku (ku i5 7467 ((i5 7467) + (((a 118).getD (25 : Int32).toNatClampNeg 0) - m15))) 7465 ((i5 7465) + m15)) a5 q5 r5 (by rfl) ?_
            refine ko_iast3 mi_k165.1 (n := 64) (c := 64) (ax := (0, 0, 0, 0, 0)) (mi_k165.2 _ _ (by rfl)) (by rfl) (ksG141 _ _ _ _) (ksA141 _ _ _ _) (hJ23.I.2.1 141) rfl (oh18 hp0.1 r2.1 s24 s25) (oh19 hp0.2 r2.2 s24 s25) ?_
            intro a27 ea27 fa27
            have hJ27 := kG_a3 hJ23 141 rfl ea27 fa27 (kd_bd _)
            first | refine fo_goS mi_k165 fz165_160_4_166 [.int ((a 118).getD (19 : Int32).toNatClampNeg 0), .ref 118, .int ((a 118).getD (19 : Int32).toNatClampNeg 0), .ref 118] (by rfl) ?_ | refine ft_go mi_k165 4 166 [(4, .int m15), (3, .int ((a 118).getD (25 : Int32).toNatClampNeg 0)), (2, .int ((a 118).getD (19 : Int32).toNatClampNeg 0)), (0, .ref 116), (1, .int x1)] [.int ((a 118).getD (19 : Int32).toNatClampNeg 0), .ref 118, .int ((a 118).getD (19 : Int32).toNatClampNeg 0), .ref 118] (ku (ku i5 7467 ((i5 7467) + (((a 118).getD (25 : Int32).toNatClampNeg 0) - m15))) 7465 ((i5 7465) + m15)) a27 q5 r5 (by rfl) ?_
            refine ko_iald3 mi_k165.1 (n := 31) (c := 31) (ax := (0, 0, 0, 0, 0)) (mi_k165.2 _ _ (by rfl)) (by rfl) (ksG118 _ _ _ _) (hJ27.I.2.1 118) rfl (oh11 r2.1) (oh12 r2.2) ?_
            have r28 : ((((a 118).getD (19 : Int32).toNatClampNeg 0).toInt = 18 → (0 : Int) ≤ ((a27 118).getD ((a 118).getD (19 : Int32).toNatClampNeg 0).toNatClampNeg 0).toInt ∧ ((a27 118).getD ((a 118).getD (19 : Int32).toNatClampNeg 0).toNatClampNeg 0).toInt ≤ 5)) ∧ ((19 ≤ ((a 118).getD (19 : Int32).toNatClampNeg 0).toInt → ((a 118).getD (19 : Int32).toNatClampNeg 0).toInt ≤ 24 → (0 : Int) ≤ ((a27 118).getD ((a 118).getD (19 : Int32).toNatClampNeg 0).toNatClampNeg 0).toInt ∧ ((a27 118).getD ((a 118).getD (19 : Int32).toNatClampNeg 0).toNatClampNeg 0).toInt ≤ 7)) := kE_ncond (p := 118) hJ27.I (by decide) (j := ((a 118).getD (19 : Int32).toNatClampNeg 0)) (oh11 r2.1)
            have u29 : ((a27 118).getD ((a 118).getD (19 : Int32).toNatClampNeg 0).toNatClampNeg 0).toInt = ((a5 118).getD ((a 118).getD (19 : Int32).toNatClampNeg 0).toNatClampNeg 0).toInt := congrArg (fun z : List Int32 => (z.getD ((a 118).getD (19 : Int32).toNatClampNeg 0).toNatClampNeg 0).toInt) (fa27 118 (by decide))
            have b30 : ((-2147483648 : Int) ≤ ((a27 118).getD ((a 118).getD (19 : Int32).toNatClampNeg 0).toNatClampNeg 0).toInt) ∧ (((a27 118).getD ((a 118).getD (19 : Int32).toNatClampNeg 0).toNatClampNeg 0).toInt ≤ 2147483647) := kd_bd ((a27 118).getD ((a 118).getD (19 : Int32).toNatClampNeg 0).toNatClampNeg 0)
            first | refine fo_goS mi_k165 fz165_167_2_170 [.int (((a27 118).getD ((a 118).getD (19 : Int32).toNatClampNeg 0).toNatClampNeg 0) - m15), .int ((a 118).getD (19 : Int32).toNatClampNeg 0), .ref 118] (by rfl) ?_ | refine ft_go mi_k165 2 170 [(4, .int m15), (3, .int ((a 118).getD (25 : Int32).toNatClampNeg 0)), (2, .int ((a 118).getD (19 : Int32).toNatClampNeg 0)), (0, .ref 116), (1, .int x1)] [.int (((a27 118).getD ((a 118).getD (19 : Int32).toNatClampNeg 0).toNatClampNeg 0) - m15), .int ((a 118).getD (19 : Int32).toNatClampNeg 0), .ref 118] (ku (ku i5 7467 ((i5 7467) + (((a 118).getD (25 : Int32).toNatClampNeg 0) - m15))) 7465 ((i5 7465) + m15)) a27 q5 r5 (by rfl) ?_
            refine ko_iast3 mi_k165.1 (n := 31) (c := 31) (ax := (0, 0, 0, 0, 0)) (mi_k165.2 _ _ (by rfl)) (by rfl) (ksG118 _ _ _ _) (ksA118 _ _ _ _) (hJ27.I.2.1 118) rfl (oh11 r2.1) (oh12 r2.2) ?_
            intro a31 ea31 fa31
            have hJ31 := kG_a3 hJ27 118 rfl ea31 fa31 (kE_nset (p := 118) (by decide) (oh11 r2.1) (oh20 r2.2) (oh21 r2.2))
            first | refine fo_goS mi_k165 fz165_171_7_184 [.int x1, .ref 118, .int 999, .int x1, .ref 118] (by rfl) ?_ | refine ft_go mi_k165 7 184 [(4, .int m15), (3, .int ((a 118).getD (25 : Int32).toNatClampNeg 0)), (2, .int ((a 118).getD (19 : Int32).toNatClampNeg 0)), (0, .ref 116), (1, .int x1)] [.int x1, .ref 118, .int 999, .int x1, .ref 118] (ku (ku i5 7467 ((i5 7467) + (((a 118).getD (25 : Int32).toNatClampNeg 0) - m15))) 7465 ((i5 7465) + m15)) a31 q5 r5 (by rfl) ?_
            refine ko_iald3 mi_k165.1 (n := 31) (c := 31) (ax := (0, 0, 0, 0, 0)) (mi_k165.2 _ _ (by rfl)) (by rfl) (ksG118 _ _ _ _) (hJ31.I.2.1 118) rfl (oh11 hp0.1) (oh12 hp0.2) ?_
            have r32 : ((x1.toInt = 18 → (0 : Int) ≤ ((a31 118).getD x1.toNatClampNeg 0).toInt ∧ ((a31 118).getD x1.toNatClampNeg 0).toInt ≤ 5)) ∧ ((19 ≤ x1.toInt → x1.toInt ≤ 24 → (0 : Int) ≤ ((a31 118).getD x1.toNatClampNeg 0).toInt ∧ ((a31 118).getD x1.toNatClampNeg 0).toInt ≤ 7)) := kE_ncond (p := 118) hJ31.I (by decide) (j := x1) (oh11 hp0.1)
            have u33 : ((a27 118).getD x1.toNatClampNeg 0).toInt = ((a5 118).getD x1.toNatClampNeg 0).toInt := congrArg (fun z : List Int32 => (z.getD x1.toNatClampNeg 0).toInt) (fa27 118 (by decide))
            have u34 : ((a31 118).getD x1.toNatClampNeg 0).toInt = ((a27 118).getD x1.toNatClampNeg 0).toInt := congrArg Int32.toInt ((congrArg (fun z : List Int32 => z.getD x1.toNatClampNeg 0) ea31).trans (kgs_ne (oh11 hp0.1) (oh11 r2.1) (oh22 c13)))
            have b35 : ((-2147483648 : Int) ≤ ((a31 118).getD x1.toNatClampNeg 0).toInt) ∧ (((a31 118).getD x1.toNatClampNeg 0).toInt ≤ 2147483647) := kd_bd ((a31 118).getD x1.toNatClampNeg 0)
            first | refine fo_goS mi_k165 fz165_185_2_188 [.int (((a31 118).getD x1.toNatClampNeg 0) + m15), .int 999, .int x1, .ref 118] (by rfl) ?_ | refine ft_go mi_k165 2 188 [(4, .int m15), (3, .int ((a 118).getD (25 : Int32).toNatClampNeg 0)), (2, .int ((a 118).getD (19 : Int32).toNatClampNeg 0)), (0, .ref 116), (1, .int x1)] [.int (((a31 118).getD x1.toNatClampNeg 0) + m15), .int 999, .int x1, .ref 118] (ku (ku i5 7467 ((i5 7467) + (((a 118).getD (25 : Int32).toNatClampNeg 0) - m15))) 7465 ((i5 7465) + m15)) a31 q5 r5 (by rfl) ?_
            have m37 : (((bif decide ((((a31 118).getD x1.toNatClampNeg 0) + m15) < 999) then (((a31 118).getD x1.toNatClampNeg 0) + m15) else 999).toInt ≤ (999 : Int32).toInt) ∧ ((bif decide ((((a31 118).getD x1.toNatClampNeg 0) + m15) < 999) then (((a31 118).getD x1.toNatClampNeg 0) + m15) else 999).toInt ≤ (((a31 118).getD x1.toNatClampNeg 0) + m15).toInt)) ∧ ((bif decide ((((a31 118).getD x1.toNatClampNeg 0) + m15) < 999) then (((a31 118).getD x1.toNatClampNeg 0) + m15) else 999).toInt = (999 : Int32).toInt ∨ (bif decide ((((a31 118).getD x1.toNatClampNeg 0) + m15) < 999) then (((a31 118).getD x1.toNatClampNeg 0) + m15) else 999).toInt = (((a31 118).getD x1.toNatClampNeg 0) + m15).toInt) := kd_min
            first | refine ft_goS mi_k165 1 191 [.int (bif decide ((((a31 118).getD x1.toNatClampNeg 0) + m15) < 999) then (((a31 118).getD x1.toNatClampNeg 0) + m15) else 999), .int x1, .ref 118] (by rfl) ?_ | refine ft_go mi_k165 1 191 [(4, .int m15), (3, .int ((a 118).getD (25 : Int32).toNatClampNeg 0)), (2, .int ((a 118).getD (19 : Int32).toNatClampNeg 0)), (0, .ref 116), (1, .int x1)] [.int (bif decide ((((a31 118).getD x1.toNatClampNeg 0) + m15) < 999) then (((a31 118).getD x1.toNatClampNeg 0) + m15) else 999), .int x1, .ref 118] (ku (ku i5 7467 ((i5 7467) + (((a 118).getD (25 : Int32).toNatClampNeg 0) - m15))) 7465 ((i5 7465) + m15)) a31 q5 r5 (by rfl) ?_
            generalize hm36 : (bif decide ((((a31 118).getD x1.toNatClampNeg 0) + m15) < 999) then (((a31 118).getD x1.toNatClampNeg 0) + m15) else 999) = m36 at m37 ⊢
            have qm36 := hm36.symm
            refine ko_iast3 mi_k165.1 (n := 31) (c := 31) (ax := (0, 0, 0, 0, 0)) (mi_k165.2 _ _ (by rfl)) (by rfl) (ksG118 _ _ _ _) (ksA118 _ _ _ _) (hJ31.I.2.1 118) rfl (oh11 hp0.1) (oh12 hp0.2) ?_
            intro a38 ea38 fa38
            have hJ38 := kG_a3 hJ31 118 rfl ea38 fa38 (kE_nset (p := 118) (by decide) (oh11 hp0.1) (oh20 hp0.2) (oh21 hp0.2))
            have r39 : ((0 : Int) ≤ ((a38 118).getD (18 : Int32).toNatClampNeg 0).toInt) ∧ (((a38 118).getD (18 : Int32).toNatClampNeg 0).toInt ≤ 5) := kE_n18 (p := 118) hJ38.I (by decide)
            have u40 : ((a27 118).getD (18 : Int32).toNatClampNeg 0).toInt = ((a5 118).getD (18 : Int32).toNatClampNeg 0).toInt := congrArg (fun z : List Int32 => (z.getD (18 : Int32).toNatClampNeg 0).toInt) (fa27 118 (by decide))
            have u41 : ((a31 118).getD (18 : Int32).toNatClampNeg 0).toInt = ((a27 118).getD (18 : Int32).toNatClampNeg 0).toInt := congrArg Int32.toInt ((congrArg (fun z : List Int32 => z.getD (18 : Int32).toNatClampNeg 0) ea31).trans (kgs_ne (oh4 koh18) (oh11 r2.1) (oh23 r2.2 koh18)))
            have u42 : ((a38 118).getD (18 : Int32).toNatClampNeg 0).toInt = ((a31 118).getD (18 : Int32).toNatClampNeg 0).toInt := congrArg Int32.toInt ((congrArg (fun z : List Int32 => z.getD (18 : Int32).toNatClampNeg 0) ea38).trans (kgs_ne (oh4 koh18) (oh11 hp0.1) (oh23 hp0.2 koh18)))
            exact ft_ret mi_k165 (by rfl) (hP  _ _ _ _ hJ38 ⟨(oh70 p5_2 u40 u41 u42), ((kT5 (show a38 118 = sGive x1 (a 118) from (by first | rfl | (simp only [ea38, ea31, qm36, qm15, qd11, fa27 118 (by decide), sMn, sMx, sGive, sCoin]; done) | (simp only [ea38, ea31, qm36, qm15, qd11, fa27 118 (by decide), sMn, sMx, sGive, sCoin]; rfl))) ((show i5 7464 = i 7464 from (by first | rfl | (simp only [(hL5.fi 7464 rfl : i5 7464 = i 7464), sMn, sMx, sGive, sCoin]; done) | (simp only [(hL5.fi 7464 rfl : i5 7464 = i 7464), sMn, sMx, sGive, sCoin]; rfl))).trans (cY_neg (y := i 7464) (d := (a 118).getD 19 0) (oh25 c12 efi5_7464 koh8))) (show ((i5 7465) + m15) = i 7465 + sCoin (a 118) from (by first | rfl | (simp only [(hL5.fi 7465 rfl : i5 7465 = i 7465), qm15, qd11, sMn, sMx, sGive, sCoin]; done) | (simp only [(hL5.fi 7465 rfl : i5 7465 = i 7465), qm15, qd11, sMn, sMx, sGive, sCoin]; rfl))) (show ((i5 7467) + (((a 118).getD (25 : Int32).toNatClampNeg 0) - m15)) = i 7467 + ((a 118).getD (25 : Int32).toNatClampNeg 0 - sCoin (a 118)) from (by first | rfl | (simp only [(hL5.fi 7467 rfl : i5 7467 = i 7467), qm15, qd11, sMn, sMx, sGive, sCoin]; done) | (simp only [(hL5.fi 7467 rfl : i5 7467 = i 7467), qm15, qd11, sMn, sMx, sGive, sCoin]; rfl))) (show a38 141 = (a 141).set ((8 * ((a 118).getD (19 : Int32).toNatClampNeg 0)) + x1).toNatClampNeg ((a 141).getD ((8 * ((a 118).getD (19 : Int32).toNatClampNeg 0)) + x1).toNatClampNeg 0 + sCoin (a 118)) from (by first | rfl | (simp only [fa38 141 (by decide), fa31 141 (by decide), ea27, hL5.fa 141 rfl, qm15, qd11, fa4 141 (by decide), sMn, sMx, sGive, sCoin]; done) | (simp only [fa38 141 (by decide), fa31 141 (by decide), ea27, hL5.fa 141 rfl, qm15, qd11, fa4 141 (by decide), sMn, sMx, sGive, sCoin]; rfl)))).trans (show _ = sPay x1 (a 118, i 7464, i 7465, i 7467, a 141) from (if_neg (oh26 c13)).symm))⟩)
          ·
            have c43 : ((a 118).getD (19 : Int32).toNatClampNeg 0).toInt = x1.toInt := kd_neF c; clear c
            exact ft_ret mi_k165 (by rfl) (hP  _ _ _ _ hG10 ⟨(oh71 p5_2), ((kT5 (show a5 118 = sDrop (a 118) from (by first | rfl | (simp only [qd11, sMn, sMx, sGive, sCoin]; done) | (simp only [qd11, sMn, sMx, sGive, sCoin]; rfl))) ((show i5 7464 = i 7464 from (by first | rfl | (simp only [(hL5.fi 7464 rfl : i5 7464 = i 7464), sMn, sMx, sGive, sCoin]; done) | (simp only [(hL5.fi 7464 rfl : i5 7464 = i 7464), sMn, sMx, sGive, sCoin]; rfl))).trans (cY_neg (y := i 7464) (d := (a 118).getD 19 0) (oh25 c12 efi5_7464 koh8))) (show i5 7465 = i 7465 from (by first | rfl | (simp only [(hL5.fi 7465 rfl : i5 7465 = i 7465), sMn, sMx, sGive, sCoin]; done) | (simp only [(hL5.fi 7465 rfl : i5 7465 = i 7465), sMn, sMx, sGive, sCoin]; rfl))) (show i5 7467 = i 7467 from (by first | rfl | (simp only [(hL5.fi 7467 rfl : i5 7467 = i 7467), sMn, sMx, sGive, sCoin]; done) | (simp only [(hL5.fi 7467 rfl : i5 7467 = i 7467), sMn, sMx, sGive, sCoin]; rfl))) (show a5 141 = a 141 from (by first | rfl | (simp only [hL5.fa 141 rfl, fa4 141 (by decide), sMn, sMx, sGive, sCoin]; done) | (simp only [hL5.fa 141 rfl, fa4 141 (by decide), sMn, sMx, sGive, sCoin]; rfl)))).trans (show _ = sPay x1 (a 118, i 7464, i 7465, i 7467, a 141) from (if_pos (oh28 c43)).symm))⟩)
        ·
          have c44 : (i5 7464).toInt = (8 : Int32).toInt := kd_neF c; clear c
          have hJ45 := kG_i hG10 7464 rfl (v := ((a 118).getD (19 : Int32).toNatClampNeg 0)) (kd_bd _)
          first | refine fo_goI mi_k165 fz165_97_5_104 [.int x1, .int ((a 118).getD (19 : Int32).toNatClampNeg 0)] (ku i5 7464 ((a 118).getD (19 : Int32).toNatClampNeg 0)) (by rfl) ?_ | refine ft_goS mi_k165 5 104 [.int x1, .int ((a 118).getD (19 : Int32).toNatClampNeg 0)] (by rfl) ?_ | refine ft_go mi_k165 5 104 [(4, .int l4_5), (3, .int ((a 118).getD (25 : Int32).toNatClampNeg 0)), (2, .int ((a 118).getD (19 : Int32).toNatClampNeg 0)), (0, .ref 116), (1, .int x1)] [.int x1, .int ((a 118).getD (19 : Int32).toNatClampNeg 0)] (ku i5 7464 ((a 118).getD (19 : Int32).toNatClampNeg 0)) a5 q5 r5 (by rfl) ?_
          refine ft_ifS mi_k165 (((a 118).getD (19 : Int32).toNatClampNeg 0) != x1) 108 107 [] (by rfl) (fun c => ?_) (fun c => ?_)
          ·
            have c46 : ((a 118).getD (19 : Int32).toNatClampNeg 0).toInt ≠ x1.toInt := kd_ne c; clear c
            first | refine fo_goS mi_k165 fz165_108_4_114 [.int ((a 118).getD (19 : Int32).toNatClampNeg 0), .ref 118, .int ((a 118).getD (25 : Int32).toNatClampNeg 0)] (by rfl) ?_ | refine ft_go mi_k165 4 114 [(4, .int l4_5), (3, .int ((a 118).getD (25 : Int32).toNatClampNeg 0)), (2, .int ((a 118).getD (19 : Int32).toNatClampNeg 0)), (0, .ref 116), (1, .int x1)] [.int ((a 118).getD (19 : Int32).toNatClampNeg 0), .ref 118, .int ((a 118).getD (25 : Int32).toNatClampNeg 0)] (ku i5 7464 ((a 118).getD (19 : Int32).toNatClampNeg 0)) a5 q5 r5 (by rfl) ?_
            refine ko_iald3 mi_k165.1 (n := 31) (c := 31) (ax := (0, 0, 0, 0, 0)) (mi_k165.2 _ _ (by rfl)) (by rfl) (ksG118 _ _ _ _) (hJ45.I.2.1 118) rfl (oh11 r2.1) (oh12 r2.2) ?_
            have r47 : ((((a 118).getD (19 : Int32).toNatClampNeg 0).toInt = 18 → (0 : Int) ≤ ((a5 118).getD ((a 118).getD (19 : Int32).toNatClampNeg 0).toNatClampNeg 0).toInt ∧ ((a5 118).getD ((a 118).getD (19 : Int32).toNatClampNeg 0).toNatClampNeg 0).toInt ≤ 5)) ∧ ((19 ≤ ((a 118).getD (19 : Int32).toNatClampNeg 0).toInt → ((a 118).getD (19 : Int32).toNatClampNeg 0).toInt ≤ 24 → (0 : Int) ≤ ((a5 118).getD ((a 118).getD (19 : Int32).toNatClampNeg 0).toNatClampNeg 0).toInt ∧ ((a5 118).getD ((a 118).getD (19 : Int32).toNatClampNeg 0).toNatClampNeg 0).toInt ≤ 7)) := kE_ncond (p := 118) hJ45.I (by decide) (j := ((a 118).getD (19 : Int32).toNatClampNeg 0)) (oh11 r2.1)
            have m49 : (((bif decide (((a5 118).getD ((a 118).getD (19 : Int32).toNatClampNeg 0).toNatClampNeg 0) < ((a 118).getD (25 : Int32).toNatClampNeg 0)) then ((a5 118).getD ((a 118).getD (19 : Int32).toNatClampNeg 0).toNatClampNeg 0) else ((a 118).getD (25 : Int32).toNatClampNeg 0)).toInt ≤ ((a 118).getD (25 : Int32).toNatClampNeg 0).toInt) ∧ ((bif decide (((a5 118).getD ((a 118).getD (19 : Int32).toNatClampNeg 0).toNatClampNeg 0) < ((a 118).getD (25 : Int32).toNatClampNeg 0)) then ((a5 118).getD ((a 118).getD (19 : Int32).toNatClampNeg 0).toNatClampNeg 0) else ((a 118).getD (25 : Int32).toNatClampNeg 0)).toInt ≤ ((a5 118).getD ((a 118).getD (19 : Int32).toNatClampNeg 0).toNatClampNeg 0).toInt)) ∧ ((bif decide (((a5 118).getD ((a 118).getD (19 : Int32).toNatClampNeg 0).toNatClampNeg 0) < ((a 118).getD (25 : Int32).toNatClampNeg 0)) then ((a5 118).getD ((a 118).getD (19 : Int32).toNatClampNeg 0).toNatClampNeg 0) else ((a 118).getD (25 : Int32).toNatClampNeg 0)).toInt = ((a 118).getD (25 : Int32).toNatClampNeg 0).toInt ∨ (bif decide (((a5 118).getD ((a 118).getD (19 : Int32).toNatClampNeg 0).toNatClampNeg 0) < ((a 118).getD (25 : Int32).toNatClampNeg 0)) then ((a5 118).getD ((a 118).getD (19 : Int32).toNatClampNeg 0).toNatClampNeg 0) else ((a 118).getD (25 : Int32).toNatClampNeg 0)).toInt = ((a5 118).getD ((a 118).getD (19 : Int32).toNatClampNeg 0).toNatClampNeg 0).toInt) := kd_min
            first | refine ft_goS mi_k165 1 118 [.int (bif decide (((a5 118).getD ((a 118).getD (19 : Int32).toNatClampNeg 0).toNatClampNeg 0) < ((a 118).getD (25 : Int32).toNatClampNeg 0)) then ((a5 118).getD ((a 118).getD (19 : Int32).toNatClampNeg 0).toNatClampNeg 0) else ((a 118).getD (25 : Int32).toNatClampNeg 0))] (by rfl) ?_ | refine ft_go mi_k165 1 118 [(4, .int l4_5), (3, .int ((a 118).getD (25 : Int32).toNatClampNeg 0)), (2, .int ((a 118).getD (19 : Int32).toNatClampNeg 0)), (0, .ref 116), (1, .int x1)] [.int (bif decide (((a5 118).getD ((a 118).getD (19 : Int32).toNatClampNeg 0).toNatClampNeg 0) < ((a 118).getD (25 : Int32).toNatClampNeg 0)) then ((a5 118).getD ((a 118).getD (19 : Int32).toNatClampNeg 0).toNatClampNeg 0) else ((a 118).getD (25 : Int32).toNatClampNeg 0))] (ku i5 7464 ((a 118).getD (19 : Int32).toNatClampNeg 0)) a5 q5 r5 (by rfl) ?_
            generalize hm48 : (bif decide (((a5 118).getD ((a 118).getD (19 : Int32).toNatClampNeg 0).toNatClampNeg 0) < ((a 118).getD (25 : Int32).toNatClampNeg 0)) then ((a5 118).getD ((a 118).getD (19 : Int32).toNatClampNeg 0).toNatClampNeg 0) else ((a 118).getD (25 : Int32).toNatClampNeg 0)) = m48 at m49 ⊢
            have qm48 := hm48.symm
            have b50 : ((-2147483648 : Int) ≤ ((a 118).getD (25 : Int32).toNatClampNeg 0).toInt) ∧ (((a 118).getD (25 : Int32).toNatClampNeg 0).toInt ≤ 2147483647) := kd_bd ((a 118).getD (25 : Int32).toNatClampNeg 0)
            have b51 : ((-2147483648 : Int) ≤ m48.toInt) ∧ (m48.toInt ≤ 2147483647) := kd_bd m48
            have b52 : ((-2147483648 : Int) ≤ (i5 7467).toInt) ∧ ((i5 7467).toInt ≤ 2147483647) := kd_bd (i5 7467)
            have b53 : ((-2147483648 : Int) ≤ (((a 118).getD (25 : Int32).toNatClampNeg 0) - m48).toInt) ∧ ((((a 118).getD (25 : Int32).toNatClampNeg 0) - m48).toInt ≤ 2147483647) := kd_bd (((a 118).getD (25 : Int32).toNatClampNeg 0) - m48)
            have hJ54 := kG_i hJ45 7467 rfl (v := ((i5 7467) + (((a 118).getD (25 : Int32).toNatClampNeg 0) - m48))) (kd_bd _)
            have b55 : ((-2147483648 : Int) ≤ (i5 7465).toInt) ∧ ((i5 7465).toInt ≤ 2147483647) := kd_bd (i5 7465)
            have hJ56 := kG_i hJ54 7465 rfl (v := ((i5 7465) + m48)) (kd_bd _)
            have s57 : (8 * ((a 118).getD (19 : Int32).toNatClampNeg 0)).toInt = 8 * ((a 118).getD (19 : Int32).toNatClampNeg 0).toInt := kd_cmul 8 koh8 (oh14 r2.1) (oh15 r2.2)
            have s58 : ((8 * ((a 118).getD (19 : Int32).toNatClampNeg 0)) + x1).toInt = (8 * ((a 118).getD (19 : Int32).toNatClampNeg 0)).toInt + x1.toInt := kd_add (oh16 hp0.1 r2.1 s57) (oh17 hp0.2 r2.2 s57)
            first | refine fo_go mi_k165 fz165_118_23_155 [(4, .int m48), (3, .int ((a 118).getD (25 : Int32).toNatClampNeg 0)), (2, .int ((a 118).getD (19 : Int32).toNatClampNeg 0)), (0, .ref 116), (1, .int x1)] [.int ((8 * ((a 118).getD (19 : Int32).toNatClampNeg 0)) + x1), .ref 141, .int ((8 * ((a 118).getD (19 : Int32).toNatClampNeg 0)) + x1), .ref 141] (ku (ku (ku i5 7464 ((a 118).getD (19 : Int32).toNatClampNeg 0)) 7467 ((i5 7467) + (((a 118).getD (25 : Int32).toNatClampNeg 0) - m48))) 7465 ((i5 7465) + m48)) a5 q5 r5 (by rfl) ?_ | refine ft_go mi_k165 23 155 [(4, .int m48), (3, .int ((a 118).getD (25 : Int32).toNatClampNeg 0)), (2, .int ((a 118).getD (19 : Int32).toNatClampNeg 0)), (0, .ref 116), (1, .int x1)] [.int ((8 * ((a 118).getD (19 : Int32).toNatClampNeg 0)) + x1), .ref 141, .int ((8 * ((a 118).getD (19 : Int32).toNatClampNeg 0)) + x1), .ref 141] (ku (ku (ku i5 7464 ((a 118).getD (19 : Int32).toNatClampNeg 0)) 7467 ((i5 7467) + (((a 118).getD (25 : Int32).toNatClampNeg 0) - m48))) 7465 ((i5 7465) + m48)) a5 q5 r5 (by rfl) ?_
            refine ko_iald3 mi_k165.1 (n := 64) (c := 64) (ax := (0, 0, 0, 0, 0)) (mi_k165.2 _ _ (by rfl)) (by rfl) (ksG141 _ _ _ _) (hJ56.I.2.1 141) rfl (oh18 hp0.1 r2.1 s57 s58) (oh19 hp0.2 r2.2 s57 s58) ?_
            have b59 : ((-2147483648 : Int) ≤ ((a5 141).getD ((8 * ((a 118).getD (19 : Int32).toNatClampNeg 0)) + x1).toNatClampNeg 0).toInt) ∧ (((a5 141).getD ((8 * ((a 118).getD (19 : Int32).toNatClampNeg 0)) + x1).toNatClampNeg 0).toInt ≤ 2147483647) := kd_bd ((a5 141).getD ((8 * ((a 118).getD (19 : Int32).toNatClampNeg 0)) + x1).toNatClampNeg 0)
            first | refine fo_goS mi_k165 fz165_156_2_159 [.int (((a5 141).getD ((8 * ((a 118).getD (19 : Int32).toNatClampNeg 0)) + x1).toNatClampNeg 0) + m48), .int ((8 * ((a 118).getD (19 : Int32).toNatClampNeg 0)) + x1), .ref 141] (by rfl) ?_ | refine ft_go mi_k165 2 159 [(4, .int m48), (3, .int ((a 118).getD (25 : Int32).toNatClampNeg 0)), (2, .int ((a 118).getD (19 : Int32).toNatClampNeg 0)), (0, .ref 116), (1, .int x1)] [.int (((a5 141).getD ((8 * ((a 118).getD (19 : Int32).toNatClampNeg 0)) + x1).toNatClampNeg 0) + m48), .int ((8 * ((a 118).getD (19 : Int32).toNatClampNeg 0)) + x1), .ref 141] (ku (ku (ku i5 7464 ((a 118).getD (19 : Int32).toNatClampNeg 0)) 7467 ((i5 7467) + (((a 118).getD (25 : Int32).toNatClampNeg 0) - m48))) 7465 ((i5 7465) + m48)) a5 q5 r5 (by rfl) ?_
            refine ko_iast3 mi_k165.1 (n := 64) (c := 64) (ax := (0, 0, 0, 0, 0)) (mi_k165.2 _ _ (by rfl)) (by rfl) (ksG141 _ _ _ _) (ksA141 _ _ _ _) (hJ56.I.2.1 141) rfl (oh18 hp0.1 r2.1 s57 s58) (oh19 hp0.2 r2.2 s57 s58) ?_
            intro a60 ea60 fa60
            have hJ60 := kG_a3 hJ56 141 rfl ea60 fa60 (kd_bd _)
            first | refine fo_goS mi_k165 fz165_160_4_166 [.int ((a 118).getD (19 : Int32).toNatClampNeg 0), .ref 118, .int ((a 118).getD (19 : Int32).toNatClampNeg 0), .ref 118] (by rfl) ?_ | refine ft_go mi_k165 4 166 [(4, .int m48), (3, .int ((a 118).getD (25 : Int32).toNatClampNeg 0)), (2, .int ((a 118).getD (19 : Int32).toNatClampNeg 0)), (0, .ref 116), (1, .int x1)] [.int ((a 118).getD (19 : Int32).toNatClampNeg 0), .ref 118, .int ((a 118).getD (19 : Int32).toNatClampNeg 0), .ref 118] (ku (ku (ku i5 7464 ((a 118).getD (19 : Int32).toNatClampNeg 0)) 7467 ((i5 7467) + (((a 118).getD (25 : Int32).toNatClampNeg 0) - m48))) 7465 ((i5 7465) + m48)) a60 q5 r5 (by rfl) ?_
            refine ko_iald3 mi_k165.1 (n := 31) (c := 31) (ax := (0, 0, 0, 0, 0)) (mi_k165.2 _ _ (by rfl)) (by rfl) (ksG118 _ _ _ _) (hJ60.I.2.1 118) rfl (oh11 r2.1) (oh12 r2.2) ?_
            have r61 : ((((a 118).getD (19 : Int32).toNatClampNeg 0).toInt = 18 → (0 : Int) ≤ ((a60 118).getD ((a 118).getD (19 : Int32).toNatClampNeg 0).toNatClampNeg 0).toInt ∧ ((a60 118).getD ((a 118).getD (19 : Int32).toNatClampNeg 0).toNatClampNeg 0).toInt ≤ 5)) ∧ ((19 ≤ ((a 118).getD (19 : Int32).toNatClampNeg 0).toInt → ((a 118).getD (19 : Int32).toNatClampNeg 0).toInt ≤ 24 → (0 : Int) ≤ ((a60 118).getD ((a 118).getD (19 : Int32).toNatClampNeg 0).toNatClampNeg 0).toInt ∧ ((a60 118).getD ((a 118).getD (19 : Int32).toNatClampNeg 0).toNatClampNeg 0).toInt ≤ 7)) := kE_ncond (p := 118) hJ60.I (by decide) (j := ((a 118).getD (19 : Int32).toNatClampNeg 0)) (oh11 r2.1)
            have u62 : ((a60 118).getD ((a 118).getD (19 : Int32).toNatClampNeg 0).toNatClampNeg 0).toInt = ((a5 118).getD ((a 118).getD (19 : Int32).toNatClampNeg 0).toNatClampNeg 0).toInt := congrArg (fun z : List Int32 => (z.getD ((a 118).getD (19 : Int32).toNatClampNeg 0).toNatClampNeg 0).toInt) (fa60 118 (by decide))
            have b63 : ((-2147483648 : Int) ≤ ((a60 118).getD ((a 118).getD (19 : Int32).toNatClampNeg 0).toNatClampNeg 0).toInt) ∧ (((a60 118).getD ((a 118).getD (19 : Int32).toNatClampNeg 0).toNatClampNeg 0).toInt ≤ 2147483647) := kd_bd ((a60 118).getD ((a 118).getD (19 : Int32).toNatClampNeg 0).toNatClampNeg 0)
            first | refine fo_goS mi_k165 fz165_167_2_170 [.int (((a60 118).getD ((a 118).getD (19 : Int32).toNatClampNeg 0).toNatClampNeg 0) - m48), .int ((a 118).getD (19 : Int32).toNatClampNeg 0), .ref 118] (by rfl) ?_ | refine ft_go mi_k165 2 170 [(4, .int m48), (3, .int ((a 118).getD (25 : Int32).toNatClampNeg 0)), (2, .int ((a 118).getD (19 : Int32).toNatClampNeg 0)), (0, .ref 116), (1, .int x1)] [.int (((a60 118).getD ((a 118).getD (19 : Int32).toNatClampNeg 0).toNatClampNeg 0) - m48), .int ((a 118).getD (19 : Int32).toNatClampNeg 0), .ref 118] (ku (ku (ku i5 7464 ((a 118).getD (19 : Int32).toNatClampNeg 0)) 7467 ((i5 7467) + (((a 118).getD (25 : Int32).toNatClampNeg 0) - m48))) 7465 ((i5 7465) + m48)) a60 q5 r5 (by rfl) ?_
            refine ko_iast3 mi_k165.1 (n := 31) (c := 31) (ax := (0, 0, 0, 0, 0)) (mi_k165.2 _ _ (by rfl)) (by rfl) (ksG118 _ _ _ _) (ksA118 _ _ _ _) (hJ60.I.2.1 118) rfl (oh11 r2.1) (oh12 r2.2) ?_
            intro a64 ea64 fa64
            have hJ64 := kG_a3 hJ60 118 rfl ea64 fa64 (kE_nset (p := 118) (by decide) (oh11 r2.1) (oh20 r2.2) (oh21 r2.2))
            first | refine fo_goS mi_k165 fz165_171_7_184 [.int x1, .ref 118, .int 999, .int x1, .ref 118] (by rfl) ?_ | refine ft_go mi_k165 7 184 [(4, .int m48), (3, .int ((a 118).getD (25 : Int32).toNatClampNeg 0)), (2, .int ((a 118).getD (19 : Int32).toNatClampNeg 0)), (0, .ref 116), (1, .int x1)] [.int x1, .ref 118, .int 999, .int x1, .ref 118] (ku (ku (ku i5 7464 ((a 118).getD (19 : Int32).toNatClampNeg 0)) 7467 ((i5 7467) + (((a 118).getD (25 : Int32).toNatClampNeg 0) - m48))) 7465 ((i5 7465) + m48)) a64 q5 r5 (by rfl) ?_
            refine ko_iald3 mi_k165.1 (n := 31) (c := 31) (ax := (0, 0, 0, 0, 0)) (mi_k165.2 _ _ (by rfl)) (by rfl) (ksG118 _ _ _ _) (hJ64.I.2.1 118) rfl (oh11 hp0.1) (oh12 hp0.2) ?_
            have r65 : ((x1.toInt = 18 → (0 : Int) ≤ ((a64 118).getD x1.toNatClampNeg 0).toInt ∧ ((a64 118).getD x1.toNatClampNeg 0).toInt ≤ 5)) ∧ ((19 ≤ x1.toInt → x1.toInt ≤ 24 → (0 : Int) ≤ ((a64 118).getD x1.toNatClampNeg 0).toInt ∧ ((a64 118).getD x1.toNatClampNeg 0).toInt ≤ 7)) := kE_ncond (p := 118) hJ64.I (by decide) (j := x1) (oh11 hp0.1)
            have u66 : ((a60 118).getD x1.toNatClampNeg 0).toInt = ((a5 118).getD x1.toNatClampNeg 0).toInt := congrArg (fun z : List Int32 => (z.getD x1.toNatClampNeg 0).toInt) (fa60 118 (by decide))
            have u67 : ((a64 118).getD x1.toNatClampNeg 0).toInt = ((a60 118).getD x1.toNatClampNeg 0).toInt := congrArg Int32.toInt ((congrArg (fun z : List Int32 => z.getD x1.toNatClampNeg 0) ea64).trans (kgs_ne (oh11 hp0.1) (oh11 r2.1) (oh22 c46)))
            have b68 : ((-2147483648 : Int) ≤ ((a64 118).getD x1.toNatClampNeg 0).toInt) ∧ (((a64 118).getD x1.toNatClampNeg 0).toInt ≤ 2147483647) := kd_bd ((a64 118).getD x1.toNatClampNeg 0)
            first | refine fo_goS mi_k165 fz165_185_2_188 [.int (((a64 118).getD x1.toNatClampNeg 0) + m48), .int 999, .int x1, .ref 118] (by rfl) ?_ | refine ft_go mi_k165 2 188 [(4, .int m48), (3, .int ((a 118).getD (25 : Int32).toNatClampNeg 0)), (2, .int ((a 118).getD (19 : Int32).toNatClampNeg 0)), (0, .ref 116), (1, .int x1)] [.int (((a64 118).getD x1.toNatClampNeg 0) + m48), .int 999, .int x1, .ref 118] (ku (ku (ku i5 7464 ((a 118).getD (19 : Int32).toNatClampNeg 0)) 7467 ((i5 7467) + (((a 118).getD (25 : Int32).toNatClampNeg 0) - m48))) 7465 ((i5 7465) + m48)) a64 q5 r5 (by rfl) ?_
            have m70 : (((bif decide ((((a64 118).getD x1.toNatClampNeg 0) + m48) < 999) then (((a64 118).getD x1.toNatClampNeg 0) + m48) else 999).toInt ≤ (999 : Int32).toInt) ∧ ((bif decide ((((a64 118).getD x1.toNatClampNeg 0) + m48) < 999) then (((a64 118).getD x1.toNatClampNeg 0) + m48) else 999).toInt ≤ (((a64 118).getD x1.toNatClampNeg 0) + m48).toInt)) ∧ ((bif decide ((((a64 118).getD x1.toNatClampNeg 0) + m48) < 999) then (((a64 118).getD x1.toNatClampNeg 0) + m48) else 999).toInt = (999 : Int32).toInt ∨ (bif decide ((((a64 118).getD x1.toNatClampNeg 0) + m48) < 999) then (((a64 118).getD x1.toNatClampNeg 0) + m48) else 999).toInt = (((a64 118).getD x1.toNatClampNeg 0) + m48).toInt) := kd_min
            first | refine ft_goS mi_k165 1 191 [.int (bif decide ((((a64 118).getD x1.toNatClampNeg 0) + m48) < 999) then (((a64 118).getD x1.toNatClampNeg 0) + m48) else 999), .int x1, .ref 118] (by rfl) ?_ | refine ft_go mi_k165 1 191 [(4, .int m48), (3, .int ((a 118).getD (25 : Int32).toNatClampNeg 0)), (2, .int ((a 118).getD (19 : Int32).toNatClampNeg 0)), (0, .ref 116), (1, .int x1)] [.int (bif decide ((((a64 118).getD x1.toNatClampNeg 0) + m48) < 999) then (((a64 118).getD x1.toNatClampNeg 0) + m48) else 999), .int x1, .ref 118] (ku (ku (ku i5 7464 ((a 118).getD (19 : Int32).toNatClampNeg 0)) 7467 ((i5 7467) + (((a 118).getD (25 : Int32).toNatClampNeg 0) - m48))) 7465 ((i5 7465) + m48)) a64 q5 r5 (by rfl) ?_
            generalize hm69 : (bif decide ((((a64 118).getD x1.toNatClampNeg 0) + m48) < 999) then (((a64 118).getD x1.toNatClampNeg 0) + m48) else 999) = m69 at m70 ⊢
            have qm69 := hm69.symm
            refine ko_iast3 mi_k165.1 (n := 31) (c := 31) (ax := (0, 0, 0, 0, 0)) (mi_k165.2 _ _ (by rfl)) (by rfl) (ksG118 _ _ _ _) (ksA118 _ _ _ _) (hJ64.I.2.1 118) rfl (oh11 hp0.1) (oh12 hp0.2) ?_
            intro a71 ea71 fa71
            have hJ71 := kG_a3 hJ64 118 rfl ea71 fa71 (kE_nset (p := 118) (by decide) (oh11 hp0.1) (oh20 hp0.2) (oh21 hp0.2))
            have r72 : ((0 : Int) ≤ ((a71 118).getD (18 : Int32).toNatClampNeg 0).toInt) ∧ (((a71 118).getD (18 : Int32).toNatClampNeg 0).toInt ≤ 5) := kE_n18 (p := 118) hJ71.I (by decide)
            have u73 : ((a60 118).getD (18 : Int32).toNatClampNeg 0).toInt = ((a5 118).getD (18 : Int32).toNatClampNeg 0).toInt := congrArg (fun z : List Int32 => (z.getD (18 : Int32).toNatClampNeg 0).toInt) (fa60 118 (by decide))
            have u74 : ((a64 118).getD (18 : Int32).toNatClampNeg 0).toInt = ((a60 118).getD (18 : Int32).toNatClampNeg 0).toInt := congrArg Int32.toInt ((congrArg (fun z : List Int32 => z.getD (18 : Int32).toNatClampNeg 0) ea64).trans (kgs_ne (oh4 koh18) (oh11 r2.1) (oh23 r2.2 koh18)))
            have u75 : ((a71 118).getD (18 : Int32).toNatClampNeg 0).toInt = ((a64 118).getD (18 : Int32).toNatClampNeg 0).toInt := congrArg Int32.toInt ((congrArg (fun z : List Int32 => z.getD (18 : Int32).toNatClampNeg 0) ea71).trans (kgs_ne (oh4 koh18) (oh11 hp0.1) (oh23 hp0.2 koh18)))
            exact ft_ret mi_k165 (by rfl) (hP  _ _ _ _ hJ71 ⟨(oh70 p5_2 u73 u74 u75), ((kT5 (show a71 118 = sGive x1 (a 118) from (by first | rfl | (simp only [ea71, ea64, qm69, qm48, qd11, fa60 118 (by decide), sMn, sMx, sGive, sCoin]; done) | (simp only [ea71, ea64, qm69, qm48, qd11, fa60 118 (by decide), sMn, sMx, sGive, sCoin]; rfl))) ((show ((a 118).getD (19 : Int32).toNatClampNeg 0) = (a 118).getD 19 0 from rfl).trans (cY_pos (y := i 7464) (d := (a 118).getD 19 0) (oh29 c44 efi5_7464 koh8))) (show ((i5 7465) + m48) = i 7465 + sCoin (a 118) from (by first | rfl | (simp only [(hL5.fi 7465 rfl : i5 7465 = i 7465), qm48, qd11, sMn, sMx, sGive, sCoin]; done) | (simp only [(hL5.fi 7465 rfl : i5 7465 = i 7465), qm48, qd11, sMn, sMx, sGive, sCoin]; rfl))) (show ((i5 7467) + (((a 118).getD (25 : Int32).toNatClampNeg 0) - m48)) = i 7467 + ((a 118).getD (25 : Int32).toNatClampNeg 0 - sCoin (a 118)) from (by first | rfl | (simp only [(hL5.fi 7467 rfl : i5 7467 = i 7467), qm48, qd11, sMn, sMx, sGive, sCoin]; done) | (simp only [(hL5.fi 7467 rfl : i5 7467 = i 7467), qm48, qd11, sMn, sMx, sGive, sCoin]; rfl))) (show a71 141 = (a 141).set ((8 * ((a 118).getD (19 : Int32).toNatClampNeg 0)) + x1).toNatClampNeg ((a 141).getD ((8 * ((a 118).getD (19 : Int32).toNatClampNeg 0)) + x1).toNatClampNeg 0 + sCoin (a 118)) from (by first | rfl | (simp only [fa71 141 (by decide), fa64 141 (by decide), ea60, hL5.fa 141 rfl, qm48, qd11, fa4 141 (by decide), sMn, sMx, sGive, sCoin]; done) | (simp only [fa71 141 (by decide), fa64 141 (by decide), ea60, hL5.fa 141 rfl, qm48, qd11, fa4 141 (by decide), sMn, sMx, sGive, sCoin]; rfl)))).trans (show _ = sPay x1 (a 118, i 7464, i 7465, i 7467, a 141) from (if_neg (oh26 c46)).symm))⟩)
          ·
            have c76 : ((a 118).getD (19 : Int32).toNatClampNeg 0).toInt = x1.toInt := kd_neF c; clear c
            exact ft_ret mi_k165 (by rfl) (hP  _ _ _ _ hJ45 ⟨(oh71 p5_2), ((kT5 (show a5 118 = sDrop (a 118) from (by first | rfl | (simp only [qd11, sMn, sMx, sGive, sCoin]; done) | (simp only [qd11, sMn, sMx, sGive, sCoin]; rfl))) ((show ((a 118).getD (19 : Int32).toNatClampNeg 0) = (a 118).getD 19 0 from rfl).trans (cY_pos (y := i 7464) (d := (a 118).getD 19 0) (oh29 c44 efi5_7464 koh8))) (show i5 7465 = i 7465 from (by first | rfl | (simp only [(hL5.fi 7465 rfl : i5 7465 = i 7465), sMn, sMx, sGive, sCoin]; done) | (simp only [(hL5.fi 7465 rfl : i5 7465 = i 7465), sMn, sMx, sGive, sCoin]; rfl))) (show i5 7467 = i 7467 from (by first | rfl | (simp only [(hL5.fi 7467 rfl : i5 7467 = i 7467), sMn, sMx, sGive, sCoin]; done) | (simp only [(hL5.fi 7467 rfl : i5 7467 = i 7467), sMn, sMx, sGive, sCoin]; rfl))) (show a5 141 = a 141 from (by first | rfl | (simp only [hL5.fa 141 rfl, fa4 141 (by decide), sMn, sMx, sGive, sCoin]; done) | (simp only [hL5.fa 141 rfl, fa4 141 (by decide), sMn, sMx, sGive, sCoin]; rfl)))).trans (show _ = sPay x1 (a 118, i 7464, i 7465, i 7467, a 141) from (if_pos (oh28 c76)).symm))⟩)
      ·
        have c77 : l4_5.toInt < ((a5 118).getD (18 : Int32).toNatClampNeg 0).toInt := kd_leF c; clear c
        have s78 : (19 + l4_5).toInt = (19 : Int32).toInt + l4_5.toInt := kd_add (oh30 p5_0 koh19) (oh31 c77 p5_2 r1.2 koh19)
        have s79 : (20 + l4_5).toInt = (20 : Int32).toInt + l4_5.toInt := kd_add (oh32 p5_0 koh20) (oh33 c77 p5_2 r1.2 koh20)
        first | refine fo_goS mi_k165 fz165_42_10_60 [.int (20 + l4_5), .ref 118, .int (19 + l4_5), .ref 118] (by rfl) ?_ | refine ft_go mi_k165 10 60 [(4, .int l4_5), (3, .int ((a 118).getD (25 : Int32).toNatClampNeg 0)), (2, .int ((a 118).getD (19 : Int32).toNatClampNeg 0)), (0, .ref 116), (1, .int x1)] [.int (20 + l4_5), .ref 118, .int (19 + l4_5), .ref 118] i5 a5 q5 r5 (by rfl) ?_
        refine ko_iald3 mi_k165.1 (n := 31) (c := 31) (ax := (0, 0, 0, 0, 0)) (mi_k165.2 _ _ (by rfl)) (by rfl) (ksG118 _ _ _ _) (hL5.I.2.1 118) rfl (oh34 p5_0 s79 koh20) (oh35 c77 p5_2 r1.2 s79 koh20) ?_
        have r80 : (((20 + l4_5).toInt = 18 → (0 : Int) ≤ ((a5 118).getD (20 + l4_5).toNatClampNeg 0).toInt ∧ ((a5 118).getD (20 + l4_5).toNatClampNeg 0).toInt ≤ 5)) ∧ ((19 ≤ (20 + l4_5).toInt → (20 + l4_5).toInt ≤ 24 → (0 : Int) ≤ ((a5 118).getD (20 + l4_5).toNatClampNeg 0).toInt ∧ ((a5 118).getD (20 + l4_5).toNatClampNeg 0).toInt ≤ 7)) := kE_ncond (p := 118) hL5.I (by decide) (j := (20 + l4_5)) (oh34 p5_0 s79 koh20)
        refine ko_iast3 mi_k165.1 (n := 31) (c := 31) (ax := (0, 0, 0, 0, 0)) (mi_k165.2 _ _ (by rfl)) (by rfl) (ksG118 _ _ _ _) (ksA118 _ _ _ _) (hL5.I.2.1 118) rfl (oh37 p5_0 s78 koh19) (oh38 c77 p5_2 r1.2 s78 koh19) ?_
        intro a81 ea81 fa81
        have hJ81 := kG_a3 hL5 118 rfl ea81 fa81 (kE_nset (p := 118) (by decide) (oh37 p5_0 s78 koh19) (oh39 p5_0 s78 koh19) (oh40 c77 p5_0 p5_2 r1.2 r80.2 s79 koh20))
        have s82 : (25 + l4_5).toInt = (25 : Int32).toInt + l4_5.toInt := kd_add (oh41 p5_0 koh25) (oh42 c77 p5_2 r1.2 koh25)
        have s83 : (26 + l4_5).toInt = (26 : Int32).toInt + l4_5.toInt := kd_add (oh43 p5_0 koh26) (oh44 c77 p5_2 r1.2 koh26)
        first | refine fo_goS mi_k165 fz165_62_10_80 [.int (26 + l4_5), .ref 118, .int (25 + l4_5), .ref 118] (by rfl) ?_ | refine ft_go mi_k165 10 80 [(4, .int l4_5), (3, .int ((a 118).getD (25 : Int32).toNatClampNeg 0)), (2, .int ((a 118).getD (19 : Int32).toNatClampNeg 0)), (0, .ref 116), (1, .int x1)] [.int (26 + l4_5), .ref 118, .int (25 + l4_5), .ref 118] i5 a81 q5 r5 (by rfl) ?_
        refine ko_iald3 mi_k165.1 (n := 31) (c := 31) (ax := (0, 0, 0, 0, 0)) (mi_k165.2 _ _ (by rfl)) (by rfl) (ksG118 _ _ _ _) (hJ81.I.2.1 118) rfl (oh45 p5_0 s83 koh26) (oh46 c77 p5_2 r1.2 s83 koh26) ?_
        have r84 : (((26 + l4_5).toInt = 18 → (0 : Int) ≤ ((a81 118).getD (26 + l4_5).toNatClampNeg 0).toInt ∧ ((a81 118).getD (26 + l4_5).toNatClampNeg 0).toInt ≤ 5)) ∧ ((19 ≤ (26 + l4_5).toInt → (26 + l4_5).toInt ≤ 24 → (0 : Int) ≤ ((a81 118).getD (26 + l4_5).toNatClampNeg 0).toInt ∧ ((a81 118).getD (26 + l4_5).toNatClampNeg 0).toInt ≤ 7)) := kE_ncond (p := 118) hJ81.I (by decide) (j := (26 + l4_5)) (oh45 p5_0 s83 koh26)
        have u85 : ((a81 118).getD (26 + l4_5).toNatClampNeg 0).toInt = ((a5 118).getD (26 + l4_5).toNatClampNeg 0).toInt := congrArg Int32.toInt ((congrArg (fun z : List Int32 => z.getD (26 + l4_5).toNatClampNeg 0) ea81).trans (kgs_ne (oh45 p5_0 s83 koh26) (oh37 p5_0 s78 koh19) (oh47 s78 s83 koh19 koh26)))
        refine ko_iast3 mi_k165.1 (n := 31) (c := 31) (ax := (0, 0, 0, 0, 0)) (mi_k165.2 _ _ (by rfl)) (by rfl) (ksG118 _ _ _ _) (ksA118 _ _ _ _) (hJ81.I.2.1 118) rfl (oh48 p5_0 s82 koh25) (oh49 c77 p5_2 r1.2 s82 koh25) ?_
        intro a86 ea86 fa86
        have hJ86 := kG_a3 hJ81 118 rfl ea86 fa86 (kE_nset (p := 118) (by decide) (oh48 p5_0 s82 koh25) (oh50 p5_0 s82 koh25) (oh51 p5_0 s82 koh25))
        have s87 : (l4_5 + 1).toInt = l4_5.toInt + (1 : Int32).toInt := kd_add (oh52 p5_0 koh1) (oh53 c77 p5_2 r1.2 koh1)
        first | refine fo_goL mi_k165 fz165_27_2_30 [(4, .int (l4_5 + 1)), (3, .int ((a 118).getD (25 : Int32).toNatClampNeg 0)), (2, .int ((a 118).getD (19 : Int32).toNatClampNeg 0)), (0, .ref 116), (1, .int x1)] [] (by rfl) ?_ | refine fo_goL mi_k165 fz165_82_2_30 [(4, .int (l4_5 + 1)), (3, .int ((a 118).getD (25 : Int32).toNatClampNeg 0)), (2, .int ((a 118).getD (19 : Int32).toNatClampNeg 0)), (0, .ref 116), (1, .int x1)] [] (by rfl) ?_ | refine ft_go mi_k165 2 30 [(4, .int (l4_5 + 1)), (3, .int ((a 118).getD (25 : Int32).toNatClampNeg 0)), (2, .int ((a 118).getD (19 : Int32).toNatClampNeg 0)), (0, .ref 116), (1, .int x1)] [] i5 a86 q5 r5 (by rfl) ?_
        have r88 : ((0 : Int) ≤ ((a86 118).getD (18 : Int32).toNatClampNeg 0).toInt) ∧ (((a86 118).getD (18 : Int32).toNatClampNeg 0).toInt ≤ 5) := kE_n18 (p := 118) hJ86.I (by decide)
        have u89 : ((a81 118).getD (18 : Int32).toNatClampNeg 0).toInt = ((a5 118).getD (18 : Int32).toNatClampNeg 0).toInt := congrArg Int32.toInt ((congrArg (fun z : List Int32 => z.getD (18 : Int32).toNatClampNeg 0) ea81).trans (kgs_ne (oh4 koh18) (oh37 p5_0 s78 koh19) (oh55 p5_0 s78 koh19 koh18)))
        have u90 : ((a86 118).getD (18 : Int32).toNatClampNeg 0).toInt = ((a81 118).getD (18 : Int32).toNatClampNeg 0).toInt := congrArg Int32.toInt ((congrArg (fun z : List Int32 => z.getD (18 : Int32).toNatClampNeg 0) ea86).trans (kgs_ne (oh4 koh18) (oh48 p5_0 s82 koh25) (oh56 p5_0 s82 koh25 koh18)))
        exact ih5 _ _ _ _ _ hJ86 (oh54 p5_0 s87 koh1) (oh57 c77 s87 u89 u90 koh1) (oh72 p5_2 u89 u90) (sSh_step (y := (19 + l4_5)) (z := (20 + l4_5)) (u := (25 + l4_5)) (v := (26 + l4_5)) O5_0 (oh11 p5_0) (oh59 s78 koh19) (oh60 s79 koh20) (oh61 s82 koh25) (oh62 s83 koh26) (oh63 s87 koh1) ea81 ea86) (kj_meas (oh64 s87 koh1) (oh65 c77 p5_2 r1.2) hm5)
  have r91 : ((0 : Int) ≤ ((a4 118).getD (18 : Int32).toNatClampNeg 0).toInt) ∧ (((a4 118).getD (18 : Int32).toNatClampNeg 0).toInt ≤ 5) := kE_n18 (p := 118) hJ4.I (by decide)
  have u92 : ((a4 118).getD (18 : Int32).toNatClampNeg 0).toInt = (((a 118).getD (18 : Int32).toNatClampNeg 0) - 1).toInt := congrArg Int32.toInt ((congrArg (fun z : List Int32 => z.getD (18 : Int32).toNatClampNeg 0) ea4).trans (kgs_eq2 (n := 31) (c := 31) (hG.I.2.1 118) rfl (oh4 koh18) (oh5 koh18)))
  exact lp5 _ _ _ _ _ _ (kG_self _ hJ4.I hJ4.R) (oh66 koh0) (oh67 r91.1 koh0) (oh68 s3 u92 koh1) (sSh_zero _ koh0) (Nat.lt_succ_self _)
def yw166_116 : kW := ([7464, 7465, 7466, 7467], [118, 128, 129, 141], [], [])
def yw166_116_L45 : kW := ([7464, 7465, 7467], [118, 141], [], [])
set_option maxRecDepth 100000 in
theorem ke166_116 {i : Nat → Int32} {a : Nat → List Int32} {q : Nat → List Int64} {r : Nat → Nat} (hI : kI i a q) (hr : kr r) (x1 : Int32) (hp0 : ((0 : Int) ≤ x1.toInt) ∧ (x1.toInt ≤ 7)) (hE_code : kCode i a) : km 9 166 [.ref 116, .int x1] (ks i a q r) (kVI yw166_116 i a q r (fun v i1 a1 q1 r1 => (((v.toInt = 1) ∧ (¬ ((((a 117).getD (16 + x1).toNatClampNeg 0).toInt = 1) ∧ ((i 7427).toInt = 0)))) ∨ ((v.toInt = 0) ∧ (((a 117).getD (16 + x1).toNatClampNeg 0).toInt = 1) ∧ ((i 7427).toInt = 0))) ∧ ((¬ ((((a 117).getD (16 + x1).toNatClampNeg 0).toInt = 1) ∧ ((i 7427).toInt = 0)) → a1 118 = sCome x1 (gBuy (i 7431) (a 120) (a 121) (a 122) (a 123) (i 7432) (a 117) (a 118) (gPaid (i 7426) x1 (a 118) (i 7467) (a 141)).1 x1) (gPaid (i 7426) x1 (a 118) (i 7467) (a 141)).1) ∧ (¬ ((((a 117).getD (16 + x1).toNatClampNeg 0).toInt = 1) ∧ ((i 7427).toInt = 0)) → i1 7464 = (gPaid (i 7426) x1 (a 118) (i 7467) (a 141)).2.1) ∧ (¬ ((((a 117).getD (16 + x1).toNatClampNeg 0).toInt = 1) ∧ ((i 7427).toInt = 0)) → i1 7465 = (gPaid (i 7426) x1 (a 118) (i 7467) (a 141)).2.2.1) ∧ (¬ ((((a 117).getD (16 + x1).toNatClampNeg 0).toInt = 1) ∧ ((i 7427).toInt = 0)) → i1 7466 = (gBuy (i 7431) (a 120) (a 121) (a 122) (a 123) (i 7432) (a 117) (a 118) (gPaid (i 7426) x1 (a 118) (i 7467) (a 141)).1 x1)) ∧ (¬ ((((a 117).getD (16 + x1).toNatClampNeg 0).toInt = 1) ∧ ((i 7427).toInt = 0)) → i1 7467 = (gPaid (i 7426) x1 (a 118) (i 7467) (a 141)).2.2.2.1) ∧ (¬ ((((a 117).getD (16 + x1).toNatClampNeg 0).toInt = 1) ∧ ((i 7427).toInt = 0)) → a1 141 = (gPaid (i 7426) x1 (a 118) (i 7467) (a 141)).2.2.2.2) ∧ ((((a 117).getD (16 + x1).toNatClampNeg 0).toInt = 1) ∧ ((i 7427).toInt = 0) → a1 118 = a 118) ∧ ((((a 117).getD (16 + x1).toNatClampNeg 0).toInt = 1) ∧ ((i 7427).toInt = 0) → i1 7464 = 8) ∧ ((((a 117).getD (16 + x1).toNatClampNeg 0).toInt = 1) ∧ ((i 7427).toInt = 0) → i1 7465 = 0) ∧ ((((a 117).getD (16 + x1).toNatClampNeg 0).toInt = 1) ∧ ((i 7427).toInt = 0) → i1 7466 = 0) ∧ ((((a 117).getD (16 + x1).toNatClampNeg 0).toInt = 1) ∧ ((i 7427).toInt = 0) → i1 7467 = i 7467) ∧ ((((a 117).getD (16 + x1).toNatClampNeg 0).toInt = 1) ∧ ((i 7427).toInt = 0) → a1 141 = a 141)))) := by
  have hG := kG_self yw166_116 hI hr
  refine km_ofI (q := (mi_h166, mi_c166)) rfl (by decide) (Nat.le_of_ble_eq_true rfl) ?_
  intro P hP
  have hJ1 := kG_i hG 7464 rfl (v := 8) (kd_bd _)
  have hJ2 := kG_i hJ1 7465 rfl (v := 0) (kd_bd _)
  have hJ3 := kG_i hJ2 7466 rfl (v := 0) (kd_bd _)
  have s4 : (16 + x1).toInt = (16 : Int32).toInt + x1.toInt := kd_add (oh73 hp0.1 koh16) (oh74 hp0.2 koh16)
  first | refine fo_go mi_k166 fz166_0_14_24 [(0, .ref 116), (1, .int x1)] [.int (16 + x1), .ref 117] (ku (ku (ku i 7464 8) 7465 0) 7466 0) a q r (by rfl) ?_ | refine ft_go mi_k166 14 24 [(0, .ref 116), (1, .int x1)] [.int (16 + x1), .ref 117] (ku (ku (ku i 7464 8) 7465 0) 7466 0) a q r (by rfl) ?_
  refine ko_iald3 mi_k166.1 (n := 24) (c := 24) (ax := (0, 0, 0, 0, 0)) (mi_k166.2 _ _ (by rfl)) (by rfl) (ksG117 _ _ _ _) (hJ3.I.2.1 117) rfl (oh75 hp0.1 s4 koh16) (oh76 hp0.2 s4 koh16) ?_
  first | refine ft_goS mi_k166 1 26 [.int 1, .int ((a 117).getD (16 + x1).toNatClampNeg 0)] (by rfl) ?_ | refine ft_go mi_k166 1 26 [(0, .ref 116), (1, .int x1)] [.int 1, .int ((a 117).getD (16 + x1).toNatClampNeg 0)] (ku (ku (ku i 7464 8) 7465 0) 7466 0) a q r (by rfl) ?_
  refine ft_ifS mi_k166 (((a 117).getD (16 + x1).toNatClampNeg 0) != 1) 38 29 [] (by rfl) (fun c => ?_) (fun c => ?_)
  ·
    have c5 : ((a 117).getD (16 + x1).toNatClampNeg 0).toInt ≠ (1 : Int32).toInt := kd_ne c; clear c
    first | refine fo_goS mi_k166 fz166_38_3_43 [.int x1, .ref 118] (by rfl) ?_ | refine ft_go mi_k166 3 43 [(0, .ref 116), (1, .int x1)] [.int x1, .ref 118] (ku (ku (ku i 7464 8) 7465 0) 7466 0) a q r (by rfl) ?_
    refine ko_iald3 mi_k166.1 (n := 31) (c := 31) (ax := (0, 0, 0, 0, 0)) (mi_k166.2 _ _ (by rfl)) (by rfl) (ksG118 _ _ _ _) (hJ3.I.2.1 118) rfl (oh11 hp0.1) (oh12 hp0.2) ?_
    have r6 : ((x1.toInt = 18 → (0 : Int) ≤ ((a 118).getD x1.toNatClampNeg 0).toInt ∧ ((a 118).getD x1.toNatClampNeg 0).toInt ≤ 5)) ∧ ((19 ≤ x1.toInt → x1.toInt ≤ 24 → (0 : Int) ≤ ((a 118).getD x1.toNatClampNeg 0).toInt ∧ ((a 118).getD x1.toNatClampNeg 0).toInt ≤ 7)) := kE_ncond (p := 118) hJ3.I (by decide) (j := x1) (oh11 hp0.1)
    first | refine fo_goL mi_k166 fz166_44_1_45 [(2, .int ((a 118).getD x1.toNatClampNeg 0)), (0, .ref 116), (1, .int x1)] [] (by rfl) ?_ | refine fo_goS mi_k166 fz166_64_1_45 [] (by rfl) ?_ | refine ft_go mi_k166 1 45 [(2, .int ((a 118).getD x1.toNatClampNeg 0)), (0, .ref 116), (1, .int x1)] [] (ku (ku (ku i 7464 8) 7465 0) 7466 0) a q r (by rfl) ?_
    have lp7 : ∀ (nz : Nat) (i7 : Nat → Int32) (a7 : Nat → List Int32) (q7 : Nat → List Int64) (r7 : Nat → Nat), kG yw166_116_L45 (ku (ku (ku i 7464 8) 7465 0) 7466 0) a q r i7 a7 q7 r7 → sPaid (i 7426) x1 ((a7 118).getD 18 0).toInt.toNat (a7 118, i7 7464, i7 7465, i7 7467, a7 141) = (gPaid (i 7426) x1 (a 118) (i 7467) (a 141)) → (((a7 118).getD (18 : Int32).toNatClampNeg 0).toInt).toNat < nz → ko 9 (mi_h166, mi_c166) P (45, [(2, .int ((a 118).getD x1.toNatClampNeg 0)), (0, .ref 116), (1, .int x1)], [], (0, 0), ks i7 a7 q7 r7) := by
      intro nz
      induction nz with
      | zero =>
        intro _ _ _ _ _ _ hm
        exact absurd hm (Nat.not_lt_zero _)
      | succ nz ih7 =>
        intro i7 a7 q7 r7 hL7 O7_0 hm7
        have r9 : ((0 : Int) ≤ ((a7 118).getD (18 : Int32).toNatClampNeg 0).toInt) ∧ (((a7 118).getD (18 : Int32).toNatClampNeg 0).toInt ≤ 5) := kE_n18 (p := 118) hL7.I (by decide)
        first | refine fo_goL mi_k166 fz166_45_3_51 [(2, .int ((a 118).getD x1.toNatClampNeg 0)), (0, .ref 116), (1, .int x1)] [.int 18, .ref 118] (by rfl) ?_ | refine ft_go mi_k166 3 51 [(2, .int ((a 118).getD x1.toNatClampNeg 0)), (0, .ref 116), (1, .int x1)] [.int 18, .ref 118] i7 a7 q7 r7 (by rfl) ?_
        refine ko_iald3 mi_k166.1 (n := 31) (c := 31) (ax := (0, 0, 0, 0, 0)) (mi_k166.2 _ _ (by rfl)) (by rfl) (ksG118 _ _ _ _) (hL7.I.2.1 118) rfl (oh4 koh18) (oh5 koh18) ?_
        have fi7_7426 : ((1 : Int) ≤ (i7 7426).toInt) ∧ ((i7 7426).toInt ≤ 5) := hL7.I.1 7426
        have fi_7426 : ((1 : Int) ≤ (i 7426).toInt) ∧ ((i 7426).toInt ≤ 5) := hJ3.I.1 7426
        have efi7_7426 : (i7 7426).toInt = (i 7426).toInt := hL7.ti 7426 rfl
        first | refine fo_goS mi_k166 fz166_52_2_56 [.int (i7 7426), .int ((a7 118).getD (18 : Int32).toNatClampNeg 0)] (by rfl) ?_ | refine ft_go mi_k166 2 56 [(2, .int ((a 118).getD x1.toNatClampNeg 0)), (0, .ref 116), (1, .int x1)] [.int (i7 7426), .int ((a7 118).getD (18 : Int32).toNatClampNeg 0)] i7 a7 q7 r7 (by rfl) ?_
        refine ft_ifS mi_k166 (decide (((a7 118).getD (18 : Int32).toNatClampNeg 0) < (i7 7426))) 67 59 [] (by rfl) (fun c => ?_) (fun c => ?_)
        ·
          have c10 : ((a7 118).getD (18 : Int32).toNatClampNeg 0).toInt < (i7 7426).toInt := kd_lt c; clear c
          have hG11 := kG_call hJ3 hL7 (by decide +kernel)
          have E12 : (a7 118, i7 7464, i7 7465, i7 7467, a7 141) = (gPaid (i 7426) x1 (a 118) (i 7467) (a 141)) := sP_done O7_0 (oh77 c10 efi7_7426)
          have E12_0 : a7 118 = (gPaid (i 7426) x1 (a 118) (i 7467) (a 141)).1 := congrArg (fun z : kSt => z.1) E12
          have E12_1 : i7 7464 = (gPaid (i 7426) x1 (a 118) (i 7467) (a 141)).2.1 := congrArg (fun z : kSt => z.2.1) E12
          have E12_2 : i7 7465 = (gPaid (i 7426) x1 (a 118) (i 7467) (a 141)).2.2.1 := congrArg (fun z : kSt => z.2.2.1) E12
          have E12_3 : i7 7467 = (gPaid (i 7426) x1 (a 118) (i 7467) (a 141)).2.2.2.1 := congrArg (fun z : kSt => z.2.2.2.1) E12
          have E12_4 : a7 141 = (gPaid (i 7426) x1 (a 118) (i 7467) (a 141)).2.2.2.2 := congrArg (fun z : kSt => z.2.2.2.2) E12
          first | refine fo_goS mi_k166 fz166_67_4_71 [.int ((a 118).getD x1.toNatClampNeg 0), .int x1, .ref 116, .ref 116] (by rfl) ?_ | refine ft_go mi_k166 4 71 [(2, .int ((a 118).getD x1.toNatClampNeg 0)), (0, .ref 116), (1, .int x1)] [.int ((a 118).getD x1.toNatClampNeg 0), .int x1, .ref 116, .ref 116] i7 a7 q7 r7 (by rfl) ?_
          refine ko_callI mi_k166.1 (pc := 71) (ls := [(2, .int ((a 118).getD x1.toNatClampNeg 0)), (0, .ref 116), (1, .int x1)]) (st := [.int ((a 118).getD x1.toNatClampNeg 0), .int x1, .ref 116, .ref 116]) (h := ks i7 a7 q7 r7) (i := (.invokevirtual 254, 3, 163, 0, 9, 0, 418)) (mi_k166.2 _ _ (by rfl)) (ft_invS mi_pq163 (by rfl)) (cy := mi_c163) mi_pq163 rfl (ke163_116 hG11.I hG11.R x1 ((a 118).getD x1.toNatClampNeg 0) (oh175 hp0.1 hp0.2) (kCode_of (i1 := i7) hE_code (hG11.fi 7432 rfl) (hG11.fa 120 rfl) (hG11.fa 121 rfl) (hG11.fa 122 rfl) (hG11.fa 123 rfl))) (by decide) ?_
          intro vg13 ig13 ag13 qg13 rg13 kg13 hg13
          have hGg13 := kG_call hG11 kg13 (by decide +kernel)
          obtain ⟨hg13, og13⟩ := hg13
          have q14 : vg13 = rBuyV (i7 7431) (wLaw (a7 120) (a7 121) (a7 122) (a7 123) [(a7 117).getD x1.toNatClampNeg 0, ((a 118).getD x1.toNatClampNeg 0), (a7 117).getD (8 + x1).toNatClampNeg 0, (a7 118).getD (9 : Int32).toNatClampNeg 0, (a7 118).getD (10 + x1).toNatClampNeg 0, (a7 118).getD (8 : Int32).toNatClampNeg 0] (i7 7432).toInt.toNat 0) ((a7 117).getD x1.toNatClampNeg 0) ((a7 117).getD (8 + x1).toNatClampNeg 0) ((a7 118).getD (10 + x1).toNatClampNeg 0) := og13
          have hJ15 := kG_i hGg13 7466 rfl (v := vg13) (kd_bd _)
          first | refine fo_goI mi_k166 fz166_74_7_89 [.int 18, .ref 118, .int 19, .ref 118] (ku ig13 7466 vg13) (by rfl) ?_ | refine ft_go mi_k166 7 89 [(2, .int ((a 118).getD x1.toNatClampNeg 0)), (0, .ref 116), (1, .int x1)] [.int 18, .ref 118, .int 19, .ref 118] (ku ig13 7466 vg13) ag13 qg13 rg13 (by rfl) ?_
          refine ko_iald3 mi_k166.1 (n := 31) (c := 31) (ax := (0, 0, 0, 0, 0)) (mi_k166.2 _ _ (by rfl)) (by rfl) (ksG118 _ _ _ _) (hJ15.I.2.1 118) rfl (oh4 koh18) (oh5 koh18) ?_
          have r16 : ((0 : Int) ≤ ((ag13 118).getD (18 : Int32).toNatClampNeg 0).toInt) ∧ (((ag13 118).getD (18 : Int32).toNatClampNeg 0).toInt ≤ 5) := kE_n18 (p := 118) hJ15.I (by decide)
          have u17 : ((ag13 118).getD (18 : Int32).toNatClampNeg 0).toInt = ((a7 118).getD (18 : Int32).toNatClampNeg 0).toInt := congrArg (fun z : List Int32 => (z.getD (18 : Int32).toNatClampNeg 0).toInt) (kg13.fa 118 rfl)
          have s18 : (19 + ((ag13 118).getD (18 : Int32).toNatClampNeg 0)).toInt = (19 : Int32).toInt + ((ag13 118).getD (18 : Int32).toNatClampNeg 0).toInt := kd_add (oh30 r16.1 koh19) (oh177 r16.2 koh19)
          first | refine fo_goS mi_k166 fz166_90_2_92 [.int x1, .int (19 + ((ag13 118).getD (18 : Int32).toNatClampNeg 0)), .ref 118] (by rfl) ?_ | refine ft_go mi_k166 2 92 [(2, .int ((a 118).getD x1.toNatClampNeg 0)), (0, .ref 116), (1, .int x1)] [.int x1, .int (19 + ((ag13 118).getD (18 : Int32).toNatClampNeg 0)), .ref 118] (ku ig13 7466 vg13) ag13 qg13 rg13 (by rfl) ?_
          refine ko_iast3 mi_k166.1 (n := 31) (c := 31) (ax := (0, 0, 0, 0, 0)) (mi_k166.2 _ _ (by rfl)) (by rfl) (ksG118 _ _ _ _) (ksA118 _ _ _ _) (hJ15.I.2.1 118) rfl (oh37 r16.1 s18 koh19) (oh178 r16.2 s18 koh19) ?_
          intro a19 ea19 fa19
          have hJ19 := kG_a3 hJ15 118 rfl ea19 fa19 (kE_nset (p := 118) (by decide) (oh37 r16.1 s18 koh19) (oh39 r16.1 s18 koh19) (oh179 hp0.1 hp0.2))
          first | refine fo_goS mi_k166 fz166_93_6_105 [.int 18, .ref 118, .int 25, .ref 118] (by rfl) ?_ | refine ft_go mi_k166 6 105 [(2, .int ((a 118).getD x1.toNatClampNeg 0)), (0, .ref 116), (1, .int x1)] [.int 18, .ref 118, .int 25, .ref 118] (ku ig13 7466 vg13) a19 qg13 rg13 (by rfl) ?_
          refine ko_iald3 mi_k166.1 (n := 31) (c := 31) (ax := (0, 0, 0, 0, 0)) (mi_k166.2 _ _ (by rfl)) (by rfl) (ksG118 _ _ _ _) (hJ19.I.2.1 118) rfl (oh4 koh18) (oh5 koh18) ?_
          have r20 : ((0 : Int) ≤ ((a19 118).getD (18 : Int32).toNatClampNeg 0).toInt) ∧ (((a19 118).getD (18 : Int32).toNatClampNeg 0).toInt ≤ 5) := kE_n18 (p := 118) hJ19.I (by decide)
          have u21 : ((a19 118).getD (18 : Int32).toNatClampNeg 0).toInt = ((ag13 118).getD (18 : Int32).toNatClampNeg 0).toInt := congrArg Int32.toInt ((congrArg (fun z : List Int32 => z.getD (18 : Int32).toNatClampNeg 0) ea19).trans (kgs_ne (oh4 koh18) (oh37 r16.1 s18 koh19) (oh55 r16.1 s18 koh19 koh18)))
          have s22 : (25 + ((a19 118).getD (18 : Int32).toNatClampNeg 0)).toInt = (25 : Int32).toInt + ((a19 118).getD (18 : Int32).toNatClampNeg 0).toInt := kd_add (oh41 r20.1 koh25) (oh180 r20.2 koh25)
          first | refine fo_goS mi_k166 fz166_106_3_111 [.int vg13, .int (25 + ((a19 118).getD (18 : Int32).toNatClampNeg 0)), .ref 118] (by rfl) ?_ | refine ft_go mi_k166 3 111 [(2, .int ((a 118).getD x1.toNatClampNeg 0)), (0, .ref 116), (1, .int x1)] [.int vg13, .int (25 + ((a19 118).getD (18 : Int32).toNatClampNeg 0)), .ref 118] (ku ig13 7466 vg13) a19 qg13 rg13 (by rfl) ?_
          refine ko_iast3 mi_k166.1 (n := 31) (c := 31) (ax := (0, 0, 0, 0, 0)) (mi_k166.2 _ _ (by rfl)) (by rfl) (ksG118 _ _ _ _) (ksA118 _ _ _ _) (hJ19.I.2.1 118) rfl (oh48 r20.1 s22 koh25) (oh181 r20.2 s22 koh25) ?_
          intro a23 ea23 fa23
          have hJ23 := kG_a3 hJ19 118 rfl ea23 fa23 (kE_nset (p := 118) (by decide) (oh48 r20.1 s22 koh25) (oh50 r20.1 s22 koh25) (oh51 r20.1 s22 koh25))
          first | refine fo_goS mi_k166 fz166_112_4_119 [.int 18, .ref 118, .int 18, .ref 118] (by rfl) ?_ | refine ft_go mi_k166 4 119 [(2, .int ((a 118).getD x1.toNatClampNeg 0)), (0, .ref 116), (1, .int x1)] [.int 18, .ref 118, .int 18, .ref 118] (ku ig13 7466 vg13) a23 qg13 rg13 (by rfl) ?_
          refine ko_iald3 mi_k166.1 (n := 31) (c := 31) (ax := (0, 0, 0, 0, 0)) (mi_k166.2 _ _ (by rfl)) (by rfl) (ksG118 _ _ _ _) (hJ23.I.2.1 118) rfl (oh4 koh18) (oh5 koh18) ?_
          have r24 : ((0 : Int) ≤ ((a23 118).getD (18 : Int32).toNatClampNeg 0).toInt) ∧ (((a23 118).getD (18 : Int32).toNatClampNeg 0).toInt ≤ 5) := kE_n18 (p := 118) hJ23.I (by decide)
          have u25 : ((a23 118).getD (18 : Int32).toNatClampNeg 0).toInt = ((a19 118).getD (18 : Int32).toNatClampNeg 0).toInt := congrArg Int32.toInt ((congrArg (fun z : List Int32 => z.getD (18 : Int32).toNatClampNeg 0) ea23).trans (kgs_ne (oh4 koh18) (oh48 r20.1 s22 koh25) (oh56 r20.1 s22 koh25 koh18)))
          have s26 : (((a23 118).getD (18 : Int32).toNatClampNeg 0) + 1).toInt = ((a23 118).getD (18 : Int32).toNatClampNeg 0).toInt + (1 : Int32).toInt := kd_add (oh52 r24.1 koh1) (oh182 r24.2 koh1)
          first | refine fo_goS mi_k166 fz166_120_2_122 [.int (((a23 118).getD (18 : Int32).toNatClampNeg 0) + 1), .int 18, .ref 118] (by rfl) ?_ | refine ft_go mi_k166 2 122 [(2, .int ((a 118).getD x1.toNatClampNeg 0)), (0, .ref 116), (1, .int x1)] [.int (((a23 118).getD (18 : Int32).toNatClampNeg 0) + 1), .int 18, .ref 118] (ku ig13 7466 vg13) a23 qg13 rg13 (by rfl) ?_
          refine ko_iast3 mi_k166.1 (n := 31) (c := 31) (ax := (0, 0, 0, 0, 0)) (mi_k166.2 _ _ (by rfl)) (by rfl) (ksG118 _ _ _ _) (ksA118 _ _ _ _) (hJ23.I.2.1 118) rfl (oh4 koh18) (oh5 koh18) ?_
          intro a27 ea27 fa27
          have hJ27 := kG_a3 hJ23 118 rfl ea27 fa27 (kE_nset (p := 118) (by decide) (oh4 koh18) (oh183 c10 fi7_7426.2 r24.1 s26 u17 u21 u25 koh1 koh18) (oh9 koh18))
          first | refine fo_goS mi_k166 fz166_123_4_130 [.int 9, .ref 118, .int 9, .ref 118] (by rfl) ?_ | refine ft_go mi_k166 4 130 [(2, .int ((a 118).getD x1.toNatClampNeg 0)), (0, .ref 116), (1, .int x1)] [.int 9, .ref 118, .int 9, .ref 118] (ku ig13 7466 vg13) a27 qg13 rg13 (by rfl) ?_
          refine ko_iald3 mi_k166.1 (n := 31) (c := 31) (ax := (0, 0, 0, 0, 0)) (mi_k166.2 _ _ (by rfl)) (by rfl) (ksG118 _ _ _ _) (hJ27.I.2.1 118) rfl (oh93 koh9) (oh94 koh9) ?_
          have u28 : ((ag13 118).getD (9 : Int32).toNatClampNeg 0).toInt = ((a7 118).getD (9 : Int32).toNatClampNeg 0).toInt := congrArg (fun z : List Int32 => (z.getD (9 : Int32).toNatClampNeg 0).toInt) (kg13.fa 118 rfl)
          have u29 : ((a19 118).getD (9 : Int32).toNatClampNeg 0).toInt = ((ag13 118).getD (9 : Int32).toNatClampNeg 0).toInt := congrArg Int32.toInt ((congrArg (fun z : List Int32 => z.getD (9 : Int32).toNatClampNeg 0) ea19).trans (kgs_ne (oh93 koh9) (oh37 r16.1 s18 koh19) (oh184 r16.1 s18 koh19 koh9)))
          have u30 : ((a23 118).getD (9 : Int32).toNatClampNeg 0).toInt = ((a19 118).getD (9 : Int32).toNatClampNeg 0).toInt := congrArg Int32.toInt ((congrArg (fun z : List Int32 => z.getD (9 : Int32).toNatClampNeg 0) ea23).trans (kgs_ne (oh93 koh9) (oh48 r20.1 s22 koh25) (oh185 r20.1 s22 koh25 koh9)))
          have u31 : ((a27 118).getD (9 : Int32).toNatClampNeg 0).toInt = ((a23 118).getD (9 : Int32).toNatClampNeg 0).toInt := congrArg Int32.toInt ((congrArg (fun z : List Int32 => z.getD (9 : Int32).toNatClampNeg 0) ea27).trans (kgs_ne (oh93 koh9) (oh4 koh18) (oh186 koh9 koh18)))
          have b32 : ((-2147483648 : Int) ≤ ((a27 118).getD (9 : Int32).toNatClampNeg 0).toInt) ∧ (((a27 118).getD (9 : Int32).toNatClampNeg 0).toInt ≤ 2147483647) := kd_bd ((a27 118).getD (9 : Int32).toNatClampNeg 0)
          first | refine fo_goS mi_k166 fz166_131_2_133 [.int (((a27 118).getD (9 : Int32).toNatClampNeg 0) + 1), .int 9, .ref 118] (by rfl) ?_ | refine ft_go mi_k166 2 133 [(2, .int ((a 118).getD x1.toNatClampNeg 0)), (0, .ref 116), (1, .int x1)] [.int (((a27 118).getD (9 : Int32).toNatClampNeg 0) + 1), .int 9, .ref 118] (ku ig13 7466 vg13) a27 qg13 rg13 (by rfl) ?_
          refine ko_iast3 mi_k166.1 (n := 31) (c := 31) (ax := (0, 0, 0, 0, 0)) (mi_k166.2 _ _ (by rfl)) (by rfl) (ksG118 _ _ _ _) (ksA118 _ _ _ _) (hJ27.I.2.1 118) rfl (oh93 koh9) (oh94 koh9) ?_
          intro a33 ea33 fa33
          have hJ33 := kG_a3 hJ27 118 rfl ea33 fa33 (kE_nset (p := 118) (by decide) (oh93 koh9) (oh187 koh9) (oh188 koh9))
          have s34 : (10 + x1).toInt = (10 : Int32).toInt + x1.toInt := kd_add (oh85 hp0.1 koh10) (oh86 hp0.2 koh10)
          first | refine fo_goS mi_k166 fz166_134_6_143 [.int (10 + x1), .ref 118, .int (10 + x1), .ref 118] (by rfl) ?_ | refine ft_go mi_k166 6 143 [(2, .int ((a 118).getD x1.toNatClampNeg 0)), (0, .ref 116), (1, .int x1)] [.int (10 + x1), .ref 118, .int (10 + x1), .ref 118] (ku ig13 7466 vg13) a33 qg13 rg13 (by rfl) ?_
          refine ko_iald3 mi_k166.1 (n := 31) (c := 31) (ax := (0, 0, 0, 0, 0)) (mi_k166.2 _ _ (by rfl)) (by rfl) (ksG118 _ _ _ _) (hJ33.I.2.1 118) rfl (oh87 hp0.1 s34 koh10) (oh88 hp0.2 s34 koh10) ?_
          have r35 : (((10 + x1).toInt = 18 → (0 : Int) ≤ ((a33 118).getD (10 + x1).toNatClampNeg 0).toInt ∧ ((a33 118).getD (10 + x1).toNatClampNeg 0).toInt ≤ 5)) ∧ ((19 ≤ (10 + x1).toInt → (10 + x1).toInt ≤ 24 → (0 : Int) ≤ ((a33 118).getD (10 + x1).toNatClampNeg 0).toInt ∧ ((a33 118).getD (10 + x1).toNatClampNeg 0).toInt ≤ 7)) := kE_ncond (p := 118) hJ33.I (by decide) (j := (10 + x1)) (oh87 hp0.1 s34 koh10)
          have u36 : ((ag13 118).getD (10 + x1).toNatClampNeg 0).toInt = ((a7 118).getD (10 + x1).toNatClampNeg 0).toInt := congrArg (fun z : List Int32 => (z.getD (10 + x1).toNatClampNeg 0).toInt) (kg13.fa 118 rfl)
          have u37 : ((a19 118).getD (10 + x1).toNatClampNeg 0).toInt = ((ag13 118).getD (10 + x1).toNatClampNeg 0).toInt := congrArg Int32.toInt ((congrArg (fun z : List Int32 => z.getD (10 + x1).toNatClampNeg 0) ea19).trans (kgs_ne (oh87 hp0.1 s34 koh10) (oh37 r16.1 s18 koh19) (oh189 hp0.2 r16.1 s18 s34 koh19 koh10)))
          have u38 : ((a23 118).getD (10 + x1).toNatClampNeg 0).toInt = ((a19 118).getD (10 + x1).toNatClampNeg 0).toInt := congrArg Int32.toInt ((congrArg (fun z : List Int32 => z.getD (10 + x1).toNatClampNeg 0) ea23).trans (kgs_ne (oh87 hp0.1 s34 koh10) (oh48 r20.1 s22 koh25) (oh190 hp0.2 r20.1 s22 s34 koh25 koh10)))
          have u39 : ((a27 118).getD (10 + x1).toNatClampNeg 0).toInt = ((a23 118).getD (10 + x1).toNatClampNeg 0).toInt := congrArg Int32.toInt ((congrArg (fun z : List Int32 => z.getD (10 + x1).toNatClampNeg 0) ea27).trans (kgs_ne (oh87 hp0.1 s34 koh10) (oh4 koh18) (oh191 hp0.2 s34 koh10 koh18)))
          have u40 : ((a33 118).getD (10 + x1).toNatClampNeg 0).toInt = ((a27 118).getD (10 + x1).toNatClampNeg 0).toInt := congrArg Int32.toInt ((congrArg (fun z : List Int32 => z.getD (10 + x1).toNatClampNeg 0) ea33).trans (kgs_ne (oh87 hp0.1 s34 koh10) (oh93 koh9) (oh192 hp0.1 s34 koh10 koh9)))
          have b41 : ((-2147483648 : Int) ≤ ((a33 118).getD (10 + x1).toNatClampNeg 0).toInt) ∧ (((a33 118).getD (10 + x1).toNatClampNeg 0).toInt ≤ 2147483647) := kd_bd ((a33 118).getD (10 + x1).toNatClampNeg 0)
          first | refine fo_goS mi_k166 fz166_144_2_146 [.int (((a33 118).getD (10 + x1).toNatClampNeg 0) + 1), .int (10 + x1), .ref 118] (by rfl) ?_ | refine ft_go mi_k166 2 146 [(2, .int ((a 118).getD x1.toNatClampNeg 0)), (0, .ref 116), (1, .int x1)] [.int (((a33 118).getD (10 + x1).toNatClampNeg 0) + 1), .int (10 + x1), .ref 118] (ku ig13 7466 vg13) a33 qg13 rg13 (by rfl) ?_
          refine ko_iast3 mi_k166.1 (n := 31) (c := 31) (ax := (0, 0, 0, 0, 0)) (mi_k166.2 _ _ (by rfl)) (by rfl) (ksG118 _ _ _ _) (ksA118 _ _ _ _) (hJ33.I.2.1 118) rfl (oh87 hp0.1 s34 koh10) (oh88 hp0.2 s34 koh10) ?_
          intro a42 ea42 fa42
          have hJ42 := kG_a3 hJ33 118 rfl ea42 fa42 (kE_nset (p := 118) (by decide) (oh87 hp0.1 s34 koh10) (oh193 hp0.2 s34 koh10) (oh194 hp0.2 s34 koh10))
          first | refine ft_goS mi_k166 1 148 [.int 1] (by rfl) ?_ | refine ft_go mi_k166 1 148 [(2, .int ((a 118).getD x1.toNatClampNeg 0)), (0, .ref 116), (1, .int x1)] [.int 1] (ku ig13 7466 vg13) a42 qg13 rg13 (by rfl) ?_
          exact ft_ret mi_k166 (by rfl) (hP 1 _ _ _ _ hJ42 ⟨(oh195 c5 koh1), ⟨(fun _ => (show a42 118 = sCome x1 (gBuy (i 7431) (a 120) (a 121) (a 122) (a 123) (i 7432) (a 117) (a 118) (gPaid (i 7426) x1 (a 118) (i 7467) (a 141)).1 x1) (gPaid (i 7426) x1 (a 118) (i 7467) (a 141)).1 from (by first | rfl | (simp only [ea42, ea33, ea27, ea23, ea19, q14, (hL7.fi 7431 rfl : i7 7431 = i 7431), hL7.fa 120 rfl, hL7.fa 121 rfl, hL7.fa 122 rfl, hL7.fa 123 rfl, hL7.fa 117 rfl, E12_0, (hL7.fi 7432 rfl : i7 7432 = i 7432), kg13.fa 118 rfl, sMn, sMx, gBuy, sCome, sC1, sC2, sC3, sC4, sC5]; done) | (simp only [ea42, ea33, ea27, ea23, ea19, q14, (hL7.fi 7431 rfl : i7 7431 = i 7431), hL7.fa 120 rfl, hL7.fa 121 rfl, hL7.fa 122 rfl, hL7.fa 123 rfl, hL7.fa 117 rfl, E12_0, (hL7.fi 7432 rfl : i7 7432 = i 7432), kg13.fa 118 rfl, sMn, sMx, gBuy, sCome, sC1, sC2, sC3, sC4, sC5]; rfl)))), (fun _ => (show ig13 7464 = (gPaid (i 7426) x1 (a 118) (i 7467) (a 141)).2.1 from (by first | rfl | (simp only [(kg13.fi 7464 rfl : ig13 7464 = i7 7464), E12_1, sMn, sMx, gBuy, sCome, sC1, sC2, sC3, sC4, sC5]; done) | (simp only [(kg13.fi 7464 rfl : ig13 7464 = i7 7464), E12_1, sMn, sMx, gBuy, sCome, sC1, sC2, sC3, sC4, sC5]; rfl)))), (fun _ => (show ig13 7465 = (gPaid (i 7426) x1 (a 118) (i 7467) (a 141)).2.2.1 from (by first | rfl | (simp only [(kg13.fi 7465 rfl : ig13 7465 = i7 7465), E12_2, sMn, sMx, gBuy, sCome, sC1, sC2, sC3, sC4, sC5]; done) | (simp only [(kg13.fi 7465 rfl : ig13 7465 = i7 7465), E12_2, sMn, sMx, gBuy, sCome, sC1, sC2, sC3, sC4, sC5]; rfl)))), (fun _ => (show vg13 = (gBuy (i 7431) (a 120) (a 121) (a 122) (a 123) (i 7432) (a 117) (a 118) (gPaid (i 7426) x1 (a 118) (i 7467) (a 141)).1 x1) from (by first | rfl | (simp only [q14, (hL7.fi 7431 rfl : i7 7431 = i 7431), hL7.fa 120 rfl, hL7.fa 121 rfl, hL7.fa 122 rfl, hL7.fa 123 rfl, hL7.fa 117 rfl, E12_0, (hL7.fi 7432 rfl : i7 7432 = i 7432), sMn, sMx, gBuy, sCome, sC1, sC2, sC3, sC4, sC5]; done) | (simp only [q14, (hL7.fi 7431 rfl : i7 7431 = i 7431), hL7.fa 120 rfl, hL7.fa 121 rfl, hL7.fa 122 rfl, hL7.fa 123 rfl, hL7.fa 117 rfl, E12_0, (hL7.fi 7432 rfl : i7 7432 = i 7432), sMn, sMx, gBuy, sCome, sC1, sC2, sC3, sC4, sC5]; rfl)))), (fun _ => (show ig13 7467 = (gPaid (i 7426) x1 (a 118) (i 7467) (a 141)).2.2.2.1 from (by first | rfl | (simp only [(kg13.fi 7467 rfl : ig13 7467 = i7 7467), E12_3, sMn, sMx, gBuy, sCome, sC1, sC2, sC3, sC4, sC5]; done) | (simp only [(kg13.fi 7467 rfl : ig13 7467 = i7 7467), E12_3, sMn, sMx, gBuy, sCome, sC1, sC2, sC3, sC4, sC5]; rfl)))), (fun _ => (show a42 141 = (gPaid (i 7426) x1 (a 118) (i 7467) (a 141)).2.2.2.2 from (by first | rfl | (simp only [fa42 141 (by decide), fa33 141 (by decide), fa27 141 (by decide), fa23 141 (by decide), fa19 141 (by decide), kg13.fa 141 rfl, E12_4, sMn, sMx, gBuy, sCome, sC1, sC2, sC3, sC4, sC5]; done) | (simp only [fa42 141 (by decide), fa33 141 (by decide), fa27 141 (by decide), fa23 141 (by decide), fa19 141 (by decide), kg13.fa 141 rfl, E12_4, sMn, sMx, gBuy, sCome, sC1, sC2, sC3, sC4, sC5]; rfl)))), (fun h => absurd h (oh196 c5 koh1)), (fun h => absurd h (oh196 c5 koh1)), (fun h => absurd h (oh196 c5 koh1)), (fun h => absurd h (oh196 c5 koh1)), (fun h => absurd h (oh196 c5 koh1)), (fun h => absurd h (oh196 c5 koh1))⟩⟩)
        ·
          have c43 : (i7 7426).toInt ≤ ((a7 118).getD (18 : Int32).toNatClampNeg 0).toInt := kd_ltF c; clear c
          first | refine fo_goS mi_k166 fz166_59_2_61 [.int x1, .ref 116] (by rfl) ?_ | refine ft_go mi_k166 2 61 [(2, .int ((a 118).getD x1.toNatClampNeg 0)), (0, .ref 116), (1, .int x1)] [.int x1, .ref 116] i7 a7 q7 r7 (by rfl) ?_
          refine ko_callN mi_k166.1 (pc := 61) (ls := [(2, .int ((a 118).getD x1.toNatClampNeg 0)), (0, .ref 116), (1, .int x1)]) (st := [.int x1, .ref 116]) (h := ks i7 a7 q7 r7) (i := (.invokevirtual 250, 3, 165, 0, 9, 0, 416)) (mi_k166.2 _ _ (by rfl)) (ft_invS mi_pq165 (by rfl)) (cy := mi_c165) mi_pq165 rfl (kf165_116 hL7.I hL7.R x1 (oh175 hp0.1 hp0.2) (oh197 c43 fi7_7426.1)) (by decide) ?_
          intro ig44 ag44 qg44 rg44 kg44 hg44
          have hGg44 := kG_call hL7 kg44 (by decide +kernel)
          obtain ⟨hg44, og44⟩ := hg44
          have r45 : ((0 : Int) ≤ ((ag44 118).getD (18 : Int32).toNatClampNeg 0).toInt) ∧ (((ag44 118).getD (18 : Int32).toNatClampNeg 0).toInt ≤ 5) := kE_n18 (p := 118) hGg44.I (by decide)
          have z46 : ((ag44 118).getD (18 : Int32).toNatClampNeg 0).toInt = (((a7 118).getD (18 : Int32).toNatClampNeg 0).toInt - 1) := hg44
          first | refine fo_goL mi_k166 fz166_44_1_45 [(2, .int ((a 118).getD x1.toNatClampNeg 0)), (0, .ref 116), (1, .int x1)] [] (by rfl) ?_ | refine fo_goS mi_k166 fz166_64_1_45 [] (by rfl) ?_ | refine ft_go mi_k166 1 45 [(2, .int ((a 118).getD x1.toNatClampNeg 0)), (0, .ref 116), (1, .int x1)] [] ig44 ag44 qg44 rg44 (by rfl) ?_
          exact ih7 _ _ _ _ hGg44 (sP_again (S := (a7 118, i7 7464, i7 7465, i7 7467, a7 141)) (S1 := (ag44 118, ig44 7464, ig44 7465, ig44 7467, ag44 141)) O7_0 og44 (oh198 fi_7426.1) (oh103 c43 efi7_7426) (oh199 z46)) (kj_meas (oh200 z46) (oh197 c43 fi7_7426.1) hm7)
    exact lp7 _ _ _ _ _ (kG_self _ hJ3.I hJ3.R) rfl (Nat.lt_succ_self _)
  ·
    have c47 : ((a 117).getD (16 + x1).toNatClampNeg 0).toInt = (1 : Int32).toInt := kd_neF c; clear c
    first | refine ft_goS mi_k166 2 33 [.int (i 7427)] (by rfl) ?_ | refine ft_go mi_k166 2 33 [(0, .ref 116), (1, .int x1)] [.int (i 7427)] (ku (ku (ku i 7464 8) 7465 0) 7466 0) a q r (by rfl) ?_
    refine ft_ifS mi_k166 ((i 7427) != 0) 38 36 [] (by rfl) (fun c => ?_) (fun c => ?_)
    ·
      have c48 : (i 7427).toInt ≠ (0 : Int32).toInt := kd_ne c; clear c
      first | refine fo_goS mi_k166 fz166_38_3_43 [.int x1, .ref 118] (by rfl) ?_ | refine ft_go mi_k166 3 43 [(0, .ref 116), (1, .int x1)] [.int x1, .ref 118] (ku (ku (ku i 7464 8) 7465 0) 7466 0) a q r (by rfl) ?_
      refine ko_iald3 mi_k166.1 (n := 31) (c := 31) (ax := (0, 0, 0, 0, 0)) (mi_k166.2 _ _ (by rfl)) (by rfl) (ksG118 _ _ _ _) (hJ3.I.2.1 118) rfl (oh11 hp0.1) (oh12 hp0.2) ?_
      have r49 : ((x1.toInt = 18 → (0 : Int) ≤ ((a 118).getD x1.toNatClampNeg 0).toInt ∧ ((a 118).getD x1.toNatClampNeg 0).toInt ≤ 5)) ∧ ((19 ≤ x1.toInt → x1.toInt ≤ 24 → (0 : Int) ≤ ((a 118).getD x1.toNatClampNeg 0).toInt ∧ ((a 118).getD x1.toNatClampNeg 0).toInt ≤ 7)) := kE_ncond (p := 118) hJ3.I (by decide) (j := x1) (oh11 hp0.1)
      first | refine fo_goL mi_k166 fz166_44_1_45 [(2, .int ((a 118).getD x1.toNatClampNeg 0)), (0, .ref 116), (1, .int x1)] [] (by rfl) ?_ | refine fo_goS mi_k166 fz166_64_1_45 [] (by rfl) ?_ | refine ft_go mi_k166 1 45 [(2, .int ((a 118).getD x1.toNatClampNeg 0)), (0, .ref 116), (1, .int x1)] [] (ku (ku (ku i 7464 8) 7465 0) 7466 0) a q r (by rfl) ?_
      have lp50 : ∀ (nz : Nat) (i50 : Nat → Int32) (a50 : Nat → List Int32) (q50 : Nat → List Int64) (r50 : Nat → Nat), kG yw166_116_L45 (ku (ku (ku i 7464 8) 7465 0) 7466 0) a q r i50 a50 q50 r50 → sPaid (i 7426) x1 ((a50 118).getD 18 0).toInt.toNat (a50 118, i50 7464, i50 7465, i50 7467, a50 141) = (gPaid (i 7426) x1 (a 118) (i 7467) (a 141)) → (((a50 118).getD (18 : Int32).toNatClampNeg 0).toInt).toNat < nz → ko 9 (mi_h166, mi_c166) P (45, [(2, .int ((a 118).getD x1.toNatClampNeg 0)), (0, .ref 116), (1, .int x1)], [], (0, 0), ks i50 a50 q50 r50) := by
        intro nz
        induction nz with
        | zero =>
          intro _ _ _ _ _ _ hm
          exact absurd hm (Nat.not_lt_zero _)
        | succ nz ih50 =>
          intro i50 a50 q50 r50 hL50 O50_0 hm50
          have r52 : ((0 : Int) ≤ ((a50 118).getD (18 : Int32).toNatClampNeg 0).toInt) ∧ (((a50 118).getD (18 : Int32).toNatClampNeg 0).toInt ≤ 5) := kE_n18 (p := 118) hL50.I (by decide)
          first | refine fo_goL mi_k166 fz166_45_3_51 [(2, .int ((a 118).getD x1.toNatClampNeg 0)), (0, .ref 116), (1, .int x1)] [.int 18, .ref 118] (by rfl) ?_ | refine ft_go mi_k166 3 51 [(2, .int ((a 118).getD x1.toNatClampNeg 0)), (0, .ref 116), (1, .int x1)] [.int 18, .ref 118] i50 a50 q50 r50 (by rfl) ?_
          refine ko_iald3 mi_k166.1 (n := 31) (c := 31) (ax := (0, 0, 0, 0, 0)) (mi_k166.2 _ _ (by rfl)) (by rfl) (ksG118 _ _ _ _) (hL50.I.2.1 118) rfl (oh4 koh18) (oh5 koh18) ?_
          have fi50_7426 : ((1 : Int) ≤ (i50 7426).toInt) ∧ ((i50 7426).toInt ≤ 5) := hL50.I.1 7426
          have fi_7426 : ((1 : Int) ≤ (i 7426).toInt) ∧ ((i 7426).toInt ≤ 5) := hJ3.I.1 7426
          have efi50_7426 : (i50 7426).toInt = (i 7426).toInt := hL50.ti 7426 rfl
          first | refine fo_goS mi_k166 fz166_52_2_56 [.int (i50 7426), .int ((a50 118).getD (18 : Int32).toNatClampNeg 0)] (by rfl) ?_ | refine ft_go mi_k166 2 56 [(2, .int ((a 118).getD x1.toNatClampNeg 0)), (0, .ref 116), (1, .int x1)] [.int (i50 7426), .int ((a50 118).getD (18 : Int32).toNatClampNeg 0)] i50 a50 q50 r50 (by rfl) ?_
          refine ft_ifS mi_k166 (decide (((a50 118).getD (18 : Int32).toNatClampNeg 0) < (i50 7426))) 67 59 [] (by rfl) (fun c => ?_) (fun c => ?_)
          ·
            have c53 : ((a50 118).getD (18 : Int32).toNatClampNeg 0).toInt < (i50 7426).toInt := kd_lt c; clear c
            have hG54 := kG_call hJ3 hL50 (by decide +kernel)
            have E55 : (a50 118, i50 7464, i50 7465, i50 7467, a50 141) = (gPaid (i 7426) x1 (a 118) (i 7467) (a 141)) := sP_done O50_0 (oh77 c53 efi50_7426)
            have E55_0 : a50 118 = (gPaid (i 7426) x1 (a 118) (i 7467) (a 141)).1 := congrArg (fun z : kSt => z.1) E55
            have E55_1 : i50 7464 = (gPaid (i 7426) x1 (a 118) (i 7467) (a 141)).2.1 := congrArg (fun z : kSt => z.2.1) E55
            have E55_2 : i50 7465 = (gPaid (i 7426) x1 (a 118) (i 7467) (a 141)).2.2.1 := congrArg (fun z : kSt => z.2.2.1) E55
            have E55_3 : i50 7467 = (gPaid (i 7426) x1 (a 118) (i 7467) (a 141)).2.2.2.1 := congrArg (fun z : kSt => z.2.2.2.1) E55
            have E55_4 : a50 141 = (gPaid (i 7426) x1 (a 118) (i 7467) (a 141)).2.2.2.2 := congrArg (fun z : kSt => z.2.2.2.2) E55
            first | refine fo_goS mi_k166 fz166_67_4_71 [.int ((a 118).getD x1.toNatClampNeg 0), .int x1, .ref 116, .ref 116] (by rfl) ?_ | refine ft_go mi_k166 4 71 [(2, .int ((a 118).getD x1.toNatClampNeg 0)), (0, .ref 116), (1, .int x1)] [.int ((a 118).getD x1.toNatClampNeg 0), .int x1, .ref 116, .ref 116] i50 a50 q50 r50 (by rfl) ?_
            refine ko_callI mi_k166.1 (pc := 71) (ls := [(2, .int ((a 118).getD x1.toNatClampNeg 0)), (0, .ref 116), (1, .int x1)]) (st := [.int ((a 118).getD x1.toNatClampNeg 0), .int x1, .ref 116, .ref 116]) (h := ks i50 a50 q50 r50) (i := (.invokevirtual 254, 3, 163, 0, 9, 0, 418)) (mi_k166.2 _ _ (by rfl)) (ft_invS mi_pq163 (by rfl)) (cy := mi_c163) mi_pq163 rfl (ke163_116 hG54.I hG54.R x1 ((a 118).getD x1.toNatClampNeg 0) (oh175 hp0.1 hp0.2) (kCode_of (i1 := i50) hE_code (hG54.fi 7432 rfl) (hG54.fa 120 rfl) (hG54.fa 121 rfl) (hG54.fa 122 rfl) (hG54.fa 123 rfl))) (by decide) ?_
            intro vg56 ig56 ag56 qg56 rg56 kg56 hg56
            have hGg56 := kG_call hG54 kg56 (by decide +kernel)
            obtain ⟨hg56, og56⟩ := hg56
            have q57 : vg56 = rBuyV (i50 7431) (wLaw (a50 120) (a50 121) (a50 122) (a50 123) [(a50 117).getD x1.toNatClampNeg 0, ((a 118).getD x1.toNatClampNeg 0), (a50 117).getD (8 + x1).toNatClampNeg 0, (a50 118).getD (9 : Int32).toNatClampNeg 0, (a50 118).getD (10 + x1).toNatClampNeg 0, (a50 118).getD (8 : Int32).toNatClampNeg 0] (i50 7432).toInt.toNat 0) ((a50 117).getD x1.toNatClampNeg 0) ((a50 117).getD (8 + x1).toNatClampNeg 0) ((a50 118).getD (10 + x1).toNatClampNeg 0) := og56
            have hJ58 := kG_i hGg56 7466 rfl (v := vg56) (kd_bd _)
            first | refine fo_goI mi_k166 fz166_74_7_89 [.int 18, .ref 118, .int 19, .ref 118] (ku ig56 7466 vg56) (by rfl) ?_ | refine ft_go mi_k166 7 89 [(2, .int ((a 118).getD x1.toNatClampNeg 0)), (0, .ref 116), (1, .int x1)] [.int 18, .ref 118, .int 19, .ref 118] (ku ig56 7466 vg56) ag56 qg56 rg56 (by rfl) ?_
            refine ko_iald3 mi_k166.1 (n := 31) (c := 31) (ax := (0, 0, 0, 0, 0)) (mi_k166.2 _ _ (by rfl)) (by rfl) (ksG118 _ _ _ _) (hJ58.I.2.1 118) rfl (oh4 koh18) (oh5 koh18) ?_
            have r59 : ((0 : Int) ≤ ((ag56 118).getD (18 : Int32).toNatClampNeg 0).toInt) ∧ (((ag56 118).getD (18 : Int32).toNatClampNeg 0).toInt ≤ 5) := kE_n18 (p := 118) hJ58.I (by decide)
            have u60 : ((ag56 118).getD (18 : Int32).toNatClampNeg 0).toInt = ((a50 118).getD (18 : Int32).toNatClampNeg 0).toInt := congrArg (fun z : List Int32 => (z.getD (18 : Int32).toNatClampNeg 0).toInt) (kg56.fa 118 rfl)
            have s61 : (19 + ((ag56 118).getD (18 : Int32).toNatClampNeg 0)).toInt = (19 : Int32).toInt + ((ag56 118).getD (18 : Int32).toNatClampNeg 0).toInt := kd_add (oh30 r59.1 koh19) (oh177 r59.2 koh19)
            first | refine fo_goS mi_k166 fz166_90_2_92 [.int x1, .int (19 + ((ag56 118).getD (18 : Int32).toNatClampNeg 0)), .ref 118] (by rfl) ?_ | refine ft_go mi_k166 2 92 [(2, .int ((a 118).getD x1.toNatClampNeg 0)), (0, .ref 116), (1, .int x1)] [.int x1, .int (19 + ((ag56 118).getD (18 : Int32).toNatClampNeg 0)), .ref 118] (ku ig56 7466 vg56) ag56 qg56 rg56 (by rfl) ?_
            refine ko_iast3 mi_k166.1 (n := 31) (c := 31) (ax := (0, 0, 0, 0, 0)) (mi_k166.2 _ _ (by rfl)) (by rfl) (ksG118 _ _ _ _) (ksA118 _ _ _ _) (hJ58.I.2.1 118) rfl (oh37 r59.1 s61 koh19) (oh178 r59.2 s61 koh19) ?_
            intro a62 ea62 fa62
            have hJ62 := kG_a3 hJ58 118 rfl ea62 fa62 (kE_nset (p := 118) (by decide) (oh37 r59.1 s61 koh19) (oh39 r59.1 s61 koh19) (oh179 hp0.1 hp0.2))
            first | refine fo_goS mi_k166 fz166_93_6_105 [.int 18, .ref 118, .int 25, .ref 118] (by rfl) ?_ | refine ft_go mi_k166 6 105 [(2, .int ((a 118).getD x1.toNatClampNeg 0)), (0, .ref 116), (1, .int x1)] [.int 18, .ref 118, .int 25, .ref 118] (ku ig56 7466 vg56) a62 qg56 rg56 (by rfl) ?_
            refine ko_iald3 mi_k166.1 (n := 31) (c := 31) (ax := (0, 0, 0, 0, 0)) (mi_k166.2 _ _ (by rfl)) (by rfl) (ksG118 _ _ _ _) (hJ62.I.2.1 118) rfl (oh4 koh18) (oh5 koh18) ?_
            have r63 : ((0 : Int) ≤ ((a62 118).getD (18 : Int32).toNatClampNeg 0).toInt) ∧ (((a62 118).getD (18 : Int32).toNatClampNeg 0).toInt ≤ 5) := kE_n18 (p := 118) hJ62.I (by decide)
            have u64 : ((a62 118).getD (18 : Int32).toNatClampNeg 0).toInt = ((ag56 118).getD (18 : Int32).toNatClampNeg 0).toInt := congrArg Int32.toInt ((congrArg (fun z : List Int32 => z.getD (18 : Int32).toNatClampNeg 0) ea62).trans (kgs_ne (oh4 koh18) (oh37 r59.1 s61 koh19) (oh55 r59.1 s61 koh19 koh18)))
            have s65 : (25 + ((a62 118).getD (18 : Int32).toNatClampNeg 0)).toInt = (25 : Int32).toInt + ((a62 118).getD (18 : Int32).toNatClampNeg 0).toInt := kd_add (oh41 r63.1 koh25) (oh180 r63.2 koh25)
            first | refine fo_goS mi_k166 fz166_106_3_111 [.int vg56, .int (25 + ((a62 118).getD (18 : Int32).toNatClampNeg 0)), .ref 118] (by rfl) ?_ | refine ft_go mi_k166 3 111 [(2, .int ((a 118).getD x1.toNatClampNeg 0)), (0, .ref 116), (1, .int x1)] [.int vg56, .int (25 + ((a62 118).getD (18 : Int32).toNatClampNeg 0)), .ref 118] (ku ig56 7466 vg56) a62 qg56 rg56 (by rfl) ?_
            refine ko_iast3 mi_k166.1 (n := 31) (c := 31) (ax := (0, 0, 0, 0, 0)) (mi_k166.2 _ _ (by rfl)) (by rfl) (ksG118 _ _ _ _) (ksA118 _ _ _ _) (hJ62.I.2.1 118) rfl (oh48 r63.1 s65 koh25) (oh181 r63.2 s65 koh25) ?_
            intro a66 ea66 fa66
            have hJ66 := kG_a3 hJ62 118 rfl ea66 fa66 (kE_nset (p := 118) (by decide) (oh48 r63.1 s65 koh25) (oh50 r63.1 s65 koh25) (oh51 r63.1 s65 koh25))
            first | refine fo_goS mi_k166 fz166_112_4_119 [.int 18, .ref 118, .int 18, .ref 118] (by rfl) ?_ | refine ft_go mi_k166 4 119 [(2, .int ((a 118).getD x1.toNatClampNeg 0)), (0, .ref 116), (1, .int x1)] [.int 18, .ref 118, .int 18, .ref 118] (ku ig56 7466 vg56) a66 qg56 rg56 (by rfl) ?_
            refine ko_iald3 mi_k166.1 (n := 31) (c := 31) (ax := (0, 0, 0, 0, 0)) (mi_k166.2 _ _ (by rfl)) (by rfl) (ksG118 _ _ _ _) (hJ66.I.2.1 118) rfl (oh4 koh18) (oh5 koh18) ?_
            have r67 : ((0 : Int) ≤ ((a66 118).getD (18 : Int32).toNatClampNeg 0).toInt) ∧ (((a66 118).getD (18 : Int32).toNatClampNeg 0).toInt ≤ 5) := kE_n18 (p := 118) hJ66.I (by decide)
            have u68 : ((a66 118).getD (18 : Int32).toNatClampNeg 0).toInt = ((a62 118).getD (18 : Int32).toNatClampNeg 0).toInt := congrArg Int32.toInt ((congrArg (fun z : List Int32 => z.getD (18 : Int32).toNatClampNeg 0) ea66).trans (kgs_ne (oh4 koh18) (oh48 r63.1 s65 koh25) (oh56 r63.1 s65 koh25 koh18)))
            have s69 : (((a66 118).getD (18 : Int32).toNatClampNeg 0) + 1).toInt = ((a66 118).getD (18 : Int32).toNatClampNeg 0).toInt + (1 : Int32).toInt := kd_add (oh52 r67.1 koh1) (oh182 r67.2 koh1)
            first | refine fo_goS mi_k166 fz166_120_2_122 [.int (((a66 118).getD (18 : Int32).toNatClampNeg 0) + 1), .int 18, .ref 118] (by rfl) ?_ | refine ft_go mi_k166 2 122 [(2, .int ((a 118).getD x1.toNatClampNeg 0)), (0, .ref 116), (1, .int x1)] [.int (((a66 118).getD (18 : Int32).toNatClampNeg 0) + 1), .int 18, .ref 118] (ku ig56 7466 vg56) a66 qg56 rg56 (by rfl) ?_
            refine ko_iast3 mi_k166.1 (n := 31) (c := 31) (ax := (0, 0, 0, 0, 0)) (mi_k166.2 _ _ (by rfl)) (by rfl) (ksG118 _ _ _ _) (ksA118 _ _ _ _) (hJ66.I.2.1 118) rfl (oh4 koh18) (oh5 koh18) ?_
            intro a70 ea70 fa70
            have hJ70 := kG_a3 hJ66 118 rfl ea70 fa70 (kE_nset (p := 118) (by decide) (oh4 koh18) (oh183 c53 fi50_7426.2 r67.1 s69 u60 u64 u68 koh1 koh18) (oh9 koh18))
            first | refine fo_goS mi_k166 fz166_123_4_130 [.int 9, .ref 118, .int 9, .ref 118] (by rfl) ?_ | refine ft_go mi_k166 4 130 [(2, .int ((a 118).getD x1.toNatClampNeg 0)), (0, .ref 116), (1, .int x1)] [.int 9, .ref 118, .int 9, .ref 118] (ku ig56 7466 vg56) a70 qg56 rg56 (by rfl) ?_
            refine ko_iald3 mi_k166.1 (n := 31) (c := 31) (ax := (0, 0, 0, 0, 0)) (mi_k166.2 _ _ (by rfl)) (by rfl) (ksG118 _ _ _ _) (hJ70.I.2.1 118) rfl (oh93 koh9) (oh94 koh9) ?_
            have u71 : ((ag56 118).getD (9 : Int32).toNatClampNeg 0).toInt = ((a50 118).getD (9 : Int32).toNatClampNeg 0).toInt := congrArg (fun z : List Int32 => (z.getD (9 : Int32).toNatClampNeg 0).toInt) (kg56.fa 118 rfl)
            have u72 : ((a62 118).getD (9 : Int32).toNatClampNeg 0).toInt = ((ag56 118).getD (9 : Int32).toNatClampNeg 0).toInt := congrArg Int32.toInt ((congrArg (fun z : List Int32 => z.getD (9 : Int32).toNatClampNeg 0) ea62).trans (kgs_ne (oh93 koh9) (oh37 r59.1 s61 koh19) (oh184 r59.1 s61 koh19 koh9)))
            have u73 : ((a66 118).getD (9 : Int32).toNatClampNeg 0).toInt = ((a62 118).getD (9 : Int32).toNatClampNeg 0).toInt := congrArg Int32.toInt ((congrArg (fun z : List Int32 => z.getD (9 : Int32).toNatClampNeg 0) ea66).trans (kgs_ne (oh93 koh9) (oh48 r63.1 s65 koh25) (oh185 r63.1 s65 koh25 koh9)))
            have u74 : ((a70 118).getD (9 : Int32).toNatClampNeg 0).toInt = ((a66 118).getD (9 : Int32).toNatClampNeg 0).toInt := congrArg Int32.toInt ((congrArg (fun z : List Int32 => z.getD (9 : Int32).toNatClampNeg 0) ea70).trans (kgs_ne (oh93 koh9) (oh4 koh18) (oh186 koh9 koh18)))
            have b75 : ((-2147483648 : Int) ≤ ((a70 118).getD (9 : Int32).toNatClampNeg 0).toInt) ∧ (((a70 118).getD (9 : Int32).toNatClampNeg 0).toInt ≤ 2147483647) := kd_bd ((a70 118).getD (9 : Int32).toNatClampNeg 0)
            first | refine fo_goS mi_k166 fz166_131_2_133 [.int (((a70 118).getD (9 : Int32).toNatClampNeg 0) + 1), .int 9, .ref 118] (by rfl) ?_ | refine ft_go mi_k166 2 133 [(2, .int ((a 118).getD x1.toNatClampNeg 0)), (0, .ref 116), (1, .int x1)] [.int (((a70 118).getD (9 : Int32).toNatClampNeg 0) + 1), .int 9, .ref 118] (ku ig56 7466 vg56) a70 qg56 rg56 (by rfl) ?_
            refine ko_iast3 mi_k166.1 (n := 31) (c := 31) (ax := (0, 0, 0, 0, 0)) (mi_k166.2 _ _ (by rfl)) (by rfl) (ksG118 _ _ _ _) (ksA118 _ _ _ _) (hJ70.I.2.1 118) rfl (oh93 koh9) (oh94 koh9) ?_
            intro a76 ea76 fa76
            have hJ76 := kG_a3 hJ70 118 rfl ea76 fa76 (kE_nset (p := 118) (by decide) (oh93 koh9) (oh187 koh9) (oh188 koh9))
            have s77 : (10 + x1).toInt = (10 : Int32).toInt + x1.toInt := kd_add (oh85 hp0.1 koh10) (oh86 hp0.2 koh10)
            first | refine fo_goS mi_k166 fz166_134_6_143 [.int (10 + x1), .ref 118, .int (10 + x1), .ref 118] (by rfl) ?_ | refine ft_go mi_k166 6 143 [(2, .int ((a 118).getD x1.toNatClampNeg 0)), (0, .ref 116), (1, .int x1)] [.int (10 + x1), .ref 118, .int (10 + x1), .ref 118] (ku ig56 7466 vg56) a76 qg56 rg56 (by rfl) ?_
            refine ko_iald3 mi_k166.1 (n := 31) (c := 31) (ax := (0, 0, 0, 0, 0)) (mi_k166.2 _ _ (by rfl)) (by rfl) (ksG118 _ _ _ _) (hJ76.I.2.1 118) rfl (oh87 hp0.1 s77 koh10) (oh88 hp0.2 s77 koh10) ?_
            have r78 : (((10 + x1).toInt = 18 → (0 : Int) ≤ ((a76 118).getD (10 + x1).toNatClampNeg 0).toInt ∧ ((a76 118).getD (10 + x1).toNatClampNeg 0).toInt ≤ 5)) ∧ ((19 ≤ (10 + x1).toInt → (10 + x1).toInt ≤ 24 → (0 : Int) ≤ ((a76 118).getD (10 + x1).toNatClampNeg 0).toInt ∧ ((a76 118).getD (10 + x1).toNatClampNeg 0).toInt ≤ 7)) := kE_ncond (p := 118) hJ76.I (by decide) (j := (10 + x1)) (oh87 hp0.1 s77 koh10)
            have u79 : ((ag56 118).getD (10 + x1).toNatClampNeg 0).toInt = ((a50 118).getD (10 + x1).toNatClampNeg 0).toInt := congrArg (fun z : List Int32 => (z.getD (10 + x1).toNatClampNeg 0).toInt) (kg56.fa 118 rfl)
            have u80 : ((a62 118).getD (10 + x1).toNatClampNeg 0).toInt = ((ag56 118).getD (10 + x1).toNatClampNeg 0).toInt := congrArg Int32.toInt ((congrArg (fun z : List Int32 => z.getD (10 + x1).toNatClampNeg 0) ea62).trans (kgs_ne (oh87 hp0.1 s77 koh10) (oh37 r59.1 s61 koh19) (oh189 hp0.2 r59.1 s61 s77 koh19 koh10)))
            have u81 : ((a66 118).getD (10 + x1).toNatClampNeg 0).toInt = ((a62 118).getD (10 + x1).toNatClampNeg 0).toInt := congrArg Int32.toInt ((congrArg (fun z : List Int32 => z.getD (10 + x1).toNatClampNeg 0) ea66).trans (kgs_ne (oh87 hp0.1 s77 koh10) (oh48 r63.1 s65 koh25) (oh190 hp0.2 r63.1 s65 s77 koh25 koh10)))
            have u82 : ((a70 118).getD (10 + x1).toNatClampNeg 0).toInt = ((a66 118).getD (10 + x1).toNatClampNeg 0).toInt := congrArg Int32.toInt ((congrArg (fun z : List Int32 => z.getD (10 + x1).toNatClampNeg 0) ea70).trans (kgs_ne (oh87 hp0.1 s77 koh10) (oh4 koh18) (oh191 hp0.2 s77 koh10 koh18)))
            have u83 : ((a76 118).getD (10 + x1).toNatClampNeg 0).toInt = ((a70 118).getD (10 + x1).toNatClampNeg 0).toInt := congrArg Int32.toInt ((congrArg (fun z : List Int32 => z.getD (10 + x1).toNatClampNeg 0) ea76).trans (kgs_ne (oh87 hp0.1 s77 koh10) (oh93 koh9) (oh192 hp0.1 s77 koh10 koh9)))
            have b84 : ((-2147483648 : Int) ≤ ((a76 118).getD (10 + x1).toNatClampNeg 0).toInt) ∧ (((a76 118).getD (10 + x1).toNatClampNeg 0).toInt ≤ 2147483647) := kd_bd ((a76 118).getD (10 + x1).toNatClampNeg 0)
            first | refine fo_goS mi_k166 fz166_144_2_146 [.int (((a76 118).getD (10 + x1).toNatClampNeg 0) + 1), .int (10 + x1), .ref 118] (by rfl) ?_ | refine ft_go mi_k166 2 146 [(2, .int ((a 118).getD x1.toNatClampNeg 0)), (0, .ref 116), (1, .int x1)] [.int (((a76 118).getD (10 + x1).toNatClampNeg 0) + 1), .int (10 + x1), .ref 118] (ku ig56 7466 vg56) a76 qg56 rg56 (by rfl) ?_
            refine ko_iast3 mi_k166.1 (n := 31) (c := 31) (ax := (0, 0, 0, 0, 0)) (mi_k166.2 _ _ (by rfl)) (by rfl) (ksG118 _ _ _ _) (ksA118 _ _ _ _) (hJ76.I.2.1 118) rfl (oh87 hp0.1 s77 koh10) (oh88 hp0.2 s77 koh10) ?_
            intro a85 ea85 fa85
            have hJ85 := kG_a3 hJ76 118 rfl ea85 fa85 (kE_nset (p := 118) (by decide) (oh87 hp0.1 s77 koh10) (oh193 hp0.2 s77 koh10) (oh194 hp0.2 s77 koh10))
            first | refine ft_goS mi_k166 1 148 [.int 1] (by rfl) ?_ | refine ft_go mi_k166 1 148 [(2, .int ((a 118).getD x1.toNatClampNeg 0)), (0, .ref 116), (1, .int x1)] [.int 1] (ku ig56 7466 vg56) a85 qg56 rg56 (by rfl) ?_
            exact ft_ret mi_k166 (by rfl) (hP 1 _ _ _ _ hJ85 ⟨(oh201 c48 koh0 koh1), ⟨(fun _ => (show a85 118 = sCome x1 (gBuy (i 7431) (a 120) (a 121) (a 122) (a 123) (i 7432) (a 117) (a 118) (gPaid (i 7426) x1 (a 118) (i 7467) (a 141)).1 x1) (gPaid (i 7426) x1 (a 118) (i 7467) (a 141)).1 from (by first | rfl | (simp only [ea85, ea76, ea70, ea66, ea62, q57, (hL50.fi 7431 rfl : i50 7431 = i 7431), hL50.fa 120 rfl, hL50.fa 121 rfl, hL50.fa 122 rfl, hL50.fa 123 rfl, hL50.fa 117 rfl, E55_0, (hL50.fi 7432 rfl : i50 7432 = i 7432), kg56.fa 118 rfl, sMn, sMx, gBuy, sCome, sC1, sC2, sC3, sC4, sC5]; done) | (simp only [ea85, ea76, ea70, ea66, ea62, q57, (hL50.fi 7431 rfl : i50 7431 = i 7431), hL50.fa 120 rfl, hL50.fa 121 rfl, hL50.fa 122 rfl, hL50.fa 123 rfl, hL50.fa 117 rfl, E55_0, (hL50.fi 7432 rfl : i50 7432 = i 7432), kg56.fa 118 rfl, sMn, sMx, gBuy, sCome, sC1, sC2, sC3, sC4, sC5]; rfl)))), (fun _ => (show ig56 7464 = (gPaid (i 7426) x1 (a 118) (i 7467) (a 141)).2.1 from (by first | rfl | (simp only [(kg56.fi 7464 rfl : ig56 7464 = i50 7464), E55_1, sMn, sMx, gBuy, sCome, sC1, sC2, sC3, sC4, sC5]; done) | (simp only [(kg56.fi 7464 rfl : ig56 7464 = i50 7464), E55_1, sMn, sMx, gBuy, sCome, sC1, sC2, sC3, sC4, sC5]; rfl)))), (fun _ => (show ig56 7465 = (gPaid (i 7426) x1 (a 118) (i 7467) (a 141)).2.2.1 from (by first | rfl | (simp only [(kg56.fi 7465 rfl : ig56 7465 = i50 7465), E55_2, sMn, sMx, gBuy, sCome, sC1, sC2, sC3, sC4, sC5]; done) | (simp only [(kg56.fi 7465 rfl : ig56 7465 = i50 7465), E55_2, sMn, sMx, gBuy, sCome, sC1, sC2, sC3, sC4, sC5]; rfl)))), (fun _ => (show vg56 = (gBuy (i 7431) (a 120) (a 121) (a 122) (a 123) (i 7432) (a 117) (a 118) (gPaid (i 7426) x1 (a 118) (i 7467) (a 141)).1 x1) from (by first | rfl | (simp only [q57, (hL50.fi 7431 rfl : i50 7431 = i 7431), hL50.fa 120 rfl, hL50.fa 121 rfl, hL50.fa 122 rfl, hL50.fa 123 rfl, hL50.fa 117 rfl, E55_0, (hL50.fi 7432 rfl : i50 7432 = i 7432), sMn, sMx, gBuy, sCome, sC1, sC2, sC3, sC4, sC5]; done) | (simp only [q57, (hL50.fi 7431 rfl : i50 7431 = i 7431), hL50.fa 120 rfl, hL50.fa 121 rfl, hL50.fa 122 rfl, hL50.fa 123 rfl, hL50.fa 117 rfl, E55_0, (hL50.fi 7432 rfl : i50 7432 = i 7432), sMn, sMx, gBuy, sCome, sC1, sC2, sC3, sC4, sC5]; rfl)))), (fun _ => (show ig56 7467 = (gPaid (i 7426) x1 (a 118) (i 7467) (a 141)).2.2.2.1 from (by first | rfl | (simp only [(kg56.fi 7467 rfl : ig56 7467 = i50 7467), E55_3, sMn, sMx, gBuy, sCome, sC1, sC2, sC3, sC4, sC5]; done) | (simp only [(kg56.fi 7467 rfl : ig56 7467 = i50 7467), E55_3, sMn, sMx, gBuy, sCome, sC1, sC2, sC3, sC4, sC5]; rfl)))), (fun _ => (show a85 141 = (gPaid (i 7426) x1 (a 118) (i 7467) (a 141)).2.2.2.2 from (by first | rfl | (simp only [fa85 141 (by decide), fa76 141 (by decide), fa70 141 (by decide), fa66 141 (by decide), fa62 141 (by decide), kg56.fa 141 rfl, E55_4, sMn, sMx, gBuy, sCome, sC1, sC2, sC3, sC4, sC5]; done) | (simp only [fa85 141 (by decide), fa76 141 (by decide), fa70 141 (by decide), fa66 141 (by decide), fa62 141 (by decide), kg56.fa 141 rfl, E55_4, sMn, sMx, gBuy, sCome, sC1, sC2, sC3, sC4, sC5]; rfl)))), (fun h => absurd h (oh202 c48 koh0)), (fun h => absurd h (oh202 c48 koh0)), (fun h => absurd h (oh202 c48 koh0)), (fun h => absurd h (oh202 c48 koh0)), (fun h => absurd h (oh202 c48 koh0)), (fun h => absurd h (oh202 c48 koh0))⟩⟩)
          ·
            have c86 : (i50 7426).toInt ≤ ((a50 118).getD (18 : Int32).toNatClampNeg 0).toInt := kd_ltF c; clear c
            first | refine fo_goS mi_k166 fz166_59_2_61 [.int x1, .ref 116] (by rfl) ?_ | refine ft_go mi_k166 2 61 [(2, .int ((a 118).getD x1.toNatClampNeg 0)), (0, .ref 116), (1, .int x1)] [.int x1, .ref 116] i50 a50 q50 r50 (by rfl) ?_
            refine ko_callN mi_k166.1 (pc := 61) (ls := [(2, .int ((a 118).getD x1.toNatClampNeg 0)), (0, .ref 116), (1, .int x1)]) (st := [.int x1, .ref 116]) (h := ks i50 a50 q50 r50) (i := (.invokevirtual 250, 3, 165, 0, 9, 0, 416)) (mi_k166.2 _ _ (by rfl)) (ft_invS mi_pq165 (by rfl)) (cy := mi_c165) mi_pq165 rfl (kf165_116 hL50.I hL50.R x1 (oh175 hp0.1 hp0.2) (oh197 c86 fi50_7426.1)) (by decide) ?_
            intro ig87 ag87 qg87 rg87 kg87 hg87
            have hGg87 := kG_call hL50 kg87 (by decide +kernel)
            obtain ⟨hg87, og87⟩ := hg87
            have r88 : ((0 : Int) ≤ ((ag87 118).getD (18 : Int32).toNatClampNeg 0).toInt) ∧ (((ag87 118).getD (18 : Int32).toNatClampNeg 0).toInt ≤ 5) := kE_n18 (p := 118) hGg87.I (by decide)
            have z89 : ((ag87 118).getD (18 : Int32).toNatClampNeg 0).toInt = (((a50 118).getD (18 : Int32).toNatClampNeg 0).toInt - 1) := hg87
            first | refine fo_goL mi_k166 fz166_44_1_45 [(2, .int ((a 118).getD x1.toNatClampNeg 0)), (0, .ref 116), (1, .int x1)] [] (by rfl) ?_ | refine fo_goS mi_k166 fz166_64_1_45 [] (by rfl) ?_ | refine ft_go mi_k166 1 45 [(2, .int ((a 118).getD x1.toNatClampNeg 0)), (0, .ref 116), (1, .int x1)] [] ig87 ag87 qg87 rg87 (by rfl) ?_
            exact ih50 _ _ _ _ hGg87 (sP_again (S := (a50 118, i50 7464, i50 7465, i50 7467, a50 141)) (S1 := (ag87 118, ig87 7464, ig87 7465, ig87 7467, ag87 141)) O50_0 og87 (oh198 fi_7426.1) (oh103 c86 efi50_7426) (oh199 z89)) (kj_meas (oh200 z89) (oh197 c86 fi50_7426.1) hm50)
      exact lp50 _ _ _ _ _ (kG_self _ hJ3.I hJ3.R) rfl (Nat.lt_succ_self _)
    ·
      have c90 : (i 7427).toInt = (0 : Int32).toInt := kd_neF c; clear c
      first | refine ft_goS mi_k166 1 37 [.int 0] (by rfl) ?_ | refine ft_go mi_k166 1 37 [(0, .ref 116), (1, .int x1)] [.int 0] (ku (ku (ku i 7464 8) 7465 0) 7466 0) a q r (by rfl) ?_
      exact ft_ret mi_k166 (by rfl) (hP 0 _ _ _ _ hJ3 ⟨(oh203 c47 c90 koh1 koh0), ⟨(fun h => absurd h (oh204 c47 c90 koh1 koh0)), (fun h => absurd h (oh204 c47 c90 koh1 koh0)), (fun h => absurd h (oh204 c47 c90 koh1 koh0)), (fun h => absurd h (oh204 c47 c90 koh1 koh0)), (fun h => absurd h (oh204 c47 c90 koh1 koh0)), (fun h => absurd h (oh204 c47 c90 koh1 koh0)), (fun _ => (show a 118 = a 118 from rfl)), (fun _ => (show (8 : Int32) = 8 from (by first | rfl | (simp only [sMn, sMx, gBuy, sCome, sC1, sC2, sC3, sC4, sC5]; done) | (simp only [sMn, sMx, gBuy, sCome, sC1, sC2, sC3, sC4, sC5]; rfl)))), (fun _ => (show (0 : Int32) = 0 from (by first | rfl | (simp only [sMn, sMx, gBuy, sCome, sC1, sC2, sC3, sC4, sC5]; done) | (simp only [sMn, sMx, gBuy, sCome, sC1, sC2, sC3, sC4, sC5]; rfl)))), (fun _ => (show (0 : Int32) = 0 from (by first | rfl | (simp only [sMn, sMx, gBuy, sCome, sC1, sC2, sC3, sC4, sC5]; done) | (simp only [sMn, sMx, gBuy, sCome, sC1, sC2, sC3, sC4, sC5]; rfl)))), (fun _ => (show i 7467 = i 7467 from rfl)), (fun _ => (show a 141 = a 141 from rfl))⟩⟩)
end
section
/-! ONE COMES IN, PURELY, AS THE CLASS HAS IT -/
def cT0 (p : Nat) (i : Nat → Int32) (a : Nat → List Int32) : kCt := (i (64 * (p + 6) + 2), a (p + 7), a (p + 8), a (p + 1), 8, 0, a (p + 13), cRow p a)
theorem cP_again {b b1 t3 c : Int32} {m n : Nat} {T T1 R : kCt} (h : cPaid b t3 c m T = R) (hm : m = n + 1) (ht : t3.toInt ≤ T.1.toInt) (o : T1 = cPay b1 c T) (eb : b1 = b) : cPaid b t3 c n T1 = R := by
  subst eb
  subst o
  subst hm
  rw [← h]
  exact (cPaid_more ht).symm
theorem cP_done {b t3 c : Int32} {m : Nat} {T R : kCt} (h : cPaid b t3 c m T = R) (ht : T.1.toInt < t3.toInt) : T = R := (cPaid_done ht).symm.trans h
theorem cP_end {b t3 c : Int32} {m : Nat} {T R : kCt} (h : cPaid b t3 c m T = R) (hm : m = 0) : T = R := by
  subst hm
  exact h
theorem kj_five {x x1 : Int} (h : x < 5) (e : x1 = x + 1) : (5 - x).toNat = (5 - x1).toNat + 1 := by omega
theorem kj_five0 {x : Int} (h : 5 ≤ x) : (5 - x).toNat = 0 := by omega
end
section
theorem koi0 : (0 : Int32).toInt = 0 := by decide
theorem koi1 : (1 : Int32).toInt = 1 := by decide
theorem koi5 : (5 : Int32).toInt = 5 := by decide
theorem oi4 {a0 : Int} (h0 : (0 : Int) ≤ a0) : (0 : Int) ≤ a0 := oz3 h0
theorem oi5 {a0 a1 : Int} (h0 : a0 ≤ 8) (h1 : a1 < a0) : a1 < 8 := oz974 h0 h1
theorem oi6 {a0 a1 : Int} (h0 : a0 ≤ a1) (h1 : a0 = 5) : 5 ≤ a1 := by omega
theorem oi9 {a0 : Int} (h0 : a0 = 0) : (0 : Int) ≤ a0 := oz46 h0
theorem oi11 {a0 : Int} (h0 : a0 = 1) : (0 : Int) ≤ a0 := oz246 h0
theorem oi32 {a0 a1 : Int} (h0 : (0 : Int) ≤ a0) (h1 : a1 = 1) : (-2147483648 : Int) ≤ a0 + a1 := oz12 h0 h1
theorem oi34 {a0 a1 a2 : Int} (h0 : (0 : Int) ≤ a0) (h1 : a1 = a0 + a2) (h2 : a2 = 1) : (0 : Int) ≤ a1 := oz14 h0 h1 h2
theorem oi39 {a0 a1 a2 : Int} (h0 : a0 < a1) (h1 : a1 = a2) : a0 < a2 := od20 h0 h1
theorem oi40 {a0 a1 a2 : Int} (h0 : a0 = a1 + a2) (h1 : a2 = 1) : a0 = a1 + 1 := oz169 h0 h1
theorem oi67 {a0 a1 : Int} (h0 : a0 ≤ 8) (h1 : (0 : Int) ≤ a1) (h2 : a1 < a0) : ((0 : Int) ≤ a1) ∧ (a1 ≤ 7) := oz423 h0 h1 h2
theorem oi68 {a0 a1 : Int} (h0 : a0 ≤ a1) (h1 : a1 ≤ 4) (h2 : a0 = 5) : False := oc0 h0 h1 h2
theorem oi69 {a0 : Int} (h0 : a0 ≤ 4) : a0 < 5 := oc2 h0
theorem oi70 {a0 a1 : Int} (h0 : a0 ≤ 5) (h1 : a1 = 1) : a0 + a1 ≤ 2147483647 := oz323 h0 h1
theorem oi71 {a0 a1 a2 : Int} (h0 : a0 ≤ 4) (h1 : a1 = a0 + a2) (h2 : a2 = 1) : a1 ≤ 5 := oc6 h0 h1 h2
theorem oi72 {a0 a1 a2 : Int} (h0 : a0 = a1 + a2) (h1 : a2 = 1) : a0 = (a1 + 1) := oz748 h0 h1
theorem oi73 {a0 a1 a2 a3 : Int} (h0 : a0 ≤ a1) (h1 : a2 = a3) (h2 : a3 ≤ (5 - a1)) (h3 : a0 = 5) : a2 ≤ 4 := by omega
theorem oi74 {a0 : Int} (h0 : a0 = 0) : a0 < 5 := oz547 h0
theorem oi75 {a0 : Int} (h0 : a0 = 1) : a0 < 5 := oz548 h0
theorem oi78 {a0 a1 a2 a3 a4 : Int} (h0 : a0 ≠ a1) (h1 : (0 : Int) ≤ a2) (h2 : a2 < a3) (h3 : a1 = 0) : ¬ (¬ (((0 : Int) ≤ a2) ∧ (a2 < a3) ∧ (¬ ((a0 = 0) ∧ (a4 = 1))))) := by omega
theorem oi79 {a0 a1 a2 a3 : Int} (h0 : a0 < a1) (h1 : a1 = a2) (h2 : a3 = a0) (h3 : a2 ≤ 5) : a3 ≤ 4 := by omega
theorem oi179 {a0 a1 a2 : Int} (h0 : a0 ≤ a1) (h1 : a0 = a2) (h2 : (1 : Int) ≤ a2) : (1 : Int) ≤ a1 := by omega
theorem oi180 {a0 a1 a2 : Int} (h0 : a0 < a1) (h1 : a1 = 5) (h2 : a2 = 1) : a0 + a2 ≤ 2147483647 := oz561 h0 h1 h2
theorem oi181 {a0 a1 a2 a3 a4 : Int} (h0 : a0 ≤ (5 - a1)) (h1 : a2 = a1 + a3) (h2 : a4 = (a0 - 1)) (h3 : a3 = 1) : a4 ≤ (5 - a2) := by omega
theorem oi182 {a0 a1 : Int} (h0 : a0 < a1) (h1 : a1 = 5) : a0 < 5 := oz560 h0 h1
theorem oi183 {a0 a1 a2 : Int} (h0 : a0 ≤ a1) (h1 : a0 = a2) : a2 ≤ a1 := oz1318 h0 h1
theorem oi184 {a0 a1 a2 : Int} (h0 : a0 = a1 + a2) (h1 : a2 = 1) : (5 - a0) < (5 - a1) := oz372 h0 h1
theorem oi185 {a0 a1 : Int} (h0 : a0 < a1) (h1 : a1 = 5) : (1 : Int) ≤ (5 - a0) := oz562 h0 h1
theorem oi186 {a0 a1 : Int} (h0 : a0 ≤ 5) (h1 : a1 = 0) : a0 ≤ (5 - a1) := by omega
theorem oi187 {a0 a1 a2 a3 a4 : Int} (h0 : a0 ≠ a1) (h1 : (0 : Int) ≤ a2) (h2 : a2 < a3) (h3 : a1 = 1) : ¬ (¬ (((0 : Int) ≤ a2) ∧ (a2 < a3) ∧ (¬ ((a4 = 0) ∧ (a0 = 1))))) := by omega
theorem oi188 {a0 a1 a2 a3 a4 a5 : Int} (h0 : a0 = a1) (h1 : a2 = a3) (h2 : a1 = 1) (h3 : a3 = 0) : ¬ (((0 : Int) ≤ a4) ∧ (a4 < a5) ∧ (¬ ((a2 = 0) ∧ (a0 = 1)))) := by omega
theorem oi189 {a0 a1 a2 a3 : Int} (h0 : ¬ (((0 : Int) ≤ a0) ∧ (a0 < a1))) : ¬ (((0 : Int) ≤ a0) ∧ (a0 < a1) ∧ (¬ ((a2 = 0) ∧ (a3 = 1)))) := by omega
def zw1_7 : kW := ([450], [8, 9], [], [])
set_option maxRecDepth 100000 in
theorem kf1_7 {i : Nat → Int32} {a : Nat → List Int32} {q : Nat → List Int64} {r : Nat → Nat} (hI : kI i a q) (hr : kr r) (x1 : Int32) (x2 : Int32) (hp0 : (i 450).toInt ≤ 4) : km 1 1 [.ref 7, .int x1, .int x2] (ks i a q r) (kVN zw1_7 i a q r (fun i1 a1 q1 r1 => ((i1 450).toInt = ((i 450).toInt + 1)) ∧ (a1 8 = (a 8).set (i 450).toNatClampNeg x1 ∧ a1 9 = (a 9).set (i 450).toNatClampNeg x2 ∧ i1 450 = i 450 + 1))) := by
  have hG := kG_self zw1_7 hI hr
  refine km_ofN (q := (mi_h1, mi_c1)) rfl (by decide) (Nat.le_of_ble_eq_true rfl) ?_
  intro P hP
  have fi_450 : ((0 : Int) ≤ (i 450).toInt) ∧ ((i 450).toInt ≤ 5) := hG.I.1 450
  first | refine fo_goL mi_k1 fz1_0_3_5 [(0, .ref 7), (1, .int x1), (2, .int x2)] [.int 5, .int (i 450)] (by rfl) ?_ | refine ft_go mi_k1 3 5 [(0, .ref 7), (1, .int x1), (2, .int x2)] [.int 5, .int (i 450)] i a q r (by rfl) ?_
  refine ft_ifS mi_k1 (decide (5 ≤ (i 450))) 38 8 [] (by rfl) (fun c => ?_) (fun c => ?_)
  ·
    have c1 : (5 : Int32).toInt ≤ (i 450).toInt := kd_le c; clear c
    exact (oi68 c1 hp0 koi5).elim
  ·
    have c2 : (i 450).toInt < (5 : Int32).toInt := kd_leF c; clear c
    first | refine fo_goS mi_k1 fz1_8_5_17 [.int x1, .int (i 450), .ref 8] (by rfl) ?_ | refine ft_go mi_k1 5 17 [(0, .ref 7), (1, .int x1), (2, .int x2)] [.int x1, .int (i 450), .ref 8] i a q r (by rfl) ?_
    refine ko_iast3 mi_k1.1 (n := 5) (c := 5) (ax := (0, 0, 0, 0, 0)) (mi_k1.2 _ _ (by rfl)) (by rfl) (ksG8 _ _ _ _) (ksA8 _ _ _ _) (hG.I.2.1 8) rfl (oi4 fi_450.1) (oi69 hp0) ?_
    intro a3 ea3 fa3
    have hJ3 := kG_a3 hG 8 rfl ea3 fa3 (kd_bd _)
    first | refine fo_goS mi_k1 fz1_18_5_27 [.int x2, .int (i 450), .ref 9] (by rfl) ?_ | refine ft_go mi_k1 5 27 [(0, .ref 7), (1, .int x1), (2, .int x2)] [.int x2, .int (i 450), .ref 9] i a3 q r (by rfl) ?_
    refine ko_iast3 mi_k1.1 (n := 5) (c := 5) (ax := (0, 0, 0, 0, 0)) (mi_k1.2 _ _ (by rfl)) (by rfl) (ksG9 _ _ _ _) (ksA9 _ _ _ _) (hJ3.I.2.1 9) rfl (oi4 fi_450.1) (oi69 hp0) ?_
    intro a4 ea4 fa4
    have hJ4 := kG_a3 hJ3 9 rfl ea4 fa4 (kd_bd _)
    have s5 : ((i 450) + 1).toInt = (i 450).toInt + (1 : Int32).toInt := kd_add (oi32 fi_450.1 koi1) (oi70 fi_450.2 koi1)
    have hJ6 := kG_i hJ4 450 rfl (v := ((i 450) + 1)) ⟨(oi34 fi_450.1 s5 koi1), (oi71 hp0 s5 koi1)⟩
    first | refine fo_goI mi_k1 fz1_28_6_38 [] (ku i 450 ((i 450) + 1)) (by rfl) ?_ | refine ft_go mi_k1 6 38 [(0, .ref 7), (1, .int x1), (2, .int x2)] [] (ku i 450 ((i 450) + 1)) a4 q r (by rfl) ?_
    exact ft_ret mi_k1 (by rfl) (hP  _ _ _ _ hJ6 ⟨(oi72 s5 koi1), ⟨(show a4 8 = (a 8).set (i 450).toNatClampNeg x1 from (by first | rfl | (simp only [fa4 8 (by decide), ea3, sMn, sMx]; done) | (simp only [fa4 8 (by decide), ea3, sMn, sMx]; rfl))), (show a4 9 = (a 9).set (i 450).toNatClampNeg x2 from (by first | rfl | (simp only [ea4, fa3 9 (by decide), sMn, sMx]; done) | (simp only [ea4, fa3 9 (by decide), sMn, sMx]; rfl))), (show ((i 450) + 1) = i 450 + 1 from (by first | rfl | (simp only [sMn, sMx]; done) | (simp only [sMn, sMx]; rfl)))⟩⟩)
def yw29_1 : kW := ([73, 78, 79, 80, 450, 645, 6405], [2, 6, 8, 9, 13, 14, 16, 17, 18, 19, 20, 21, 22, 23, 24, 103], [], [])
def yw29_1_L52 : kW := ([78, 79, 450], [2, 8, 9, 14, 16, 17, 18, 19, 20, 21, 22, 23], [], [])
set_option maxRecDepth 100000 in
theorem ke29_1 {i : Nat → Int32} {a : Nat → List Int32} {q : Nat → List Int64} {r : Nat → Nat} (hI : kI i a q) (hr : kr r) (x1 : Int32) (hp0 : ((1 : Int) ≤ (i 70).toInt) ∧ ((i 70).toInt ≤ 5)) : km 7 29 [.ref 1, .int x1] (ks i a q r) (kVI yw29_1 i a q r (fun v i1 a1 q1 r1 => (True) ∧ ((((0 : Int) ≤ x1.toInt) ∧ (x1.toInt < (i 64).toInt) ∧ (¬ (((i 71).toInt = 0) ∧ (((a 5).getD x1.toNatClampNeg 0).toInt = 1))) → i1 450 = (cPaid (i 64) (i 70) x1 5 (cT0 1 i a)).1 + 1) ∧ (((0 : Int) ≤ x1.toInt) ∧ (x1.toInt < (i 64).toInt) ∧ (¬ (((i 71).toInt = 0) ∧ (((a 5).getD x1.toNatClampNeg 0).toInt = 1))) → a1 8 = (cPaid (i 64) (i 70) x1 5 (cT0 1 i a)).2.1.set (cPaid (i 64) (i 70) x1 5 (cT0 1 i a)).1.toNatClampNeg x1) ∧ (((0 : Int) ≤ x1.toInt) ∧ (x1.toInt < (i 64).toInt) ∧ (¬ (((i 71).toInt = 0) ∧ (((a 5).getD x1.toNatClampNeg 0).toInt = 1))) → a1 9 = (cPaid (i 64) (i 70) x1 5 (cT0 1 i a)).2.2.1.set (cPaid (i 64) (i 70) x1 5 (cT0 1 i a)).1.toNatClampNeg (cBuyV (i (64 * r 0)) (a (r 0 + 1)) (a (r 0 + 2)) (a (r 0 + 3)) (i (64 * r 0 + 3)) ((a 3).getD x1.toNatClampNeg 0) ((a 2).getD x1.toNatClampNeg 0) ((a 4).getD x1.toNatClampNeg 0) (i 73) ((a 6).getD x1.toNatClampNeg 0) (i 72))) ∧ (((0 : Int) ≤ x1.toInt) ∧ (x1.toInt < (i 64).toInt) ∧ (¬ (((i 71).toInt = 0) ∧ (((a 5).getD x1.toNatClampNeg 0).toInt = 1))) → a1 2 = (cPaid (i 64) (i 70) x1 5 (cT0 1 i a)).2.2.2.1) ∧ (((0 : Int) ≤ x1.toInt) ∧ (x1.toInt < (i 64).toInt) ∧ (¬ (((i 71).toInt = 0) ∧ (((a 5).getD x1.toNatClampNeg 0).toInt = 1))) → i1 78 = (cPaid (i 64) (i 70) x1 5 (cT0 1 i a)).2.2.2.2.1) ∧ (((0 : Int) ≤ x1.toInt) ∧ (x1.toInt < (i 64).toInt) ∧ (¬ (((i 71).toInt = 0) ∧ (((a 5).getD x1.toNatClampNeg 0).toInt = 1))) → i1 79 = (cPaid (i 64) (i 70) x1 5 (cT0 1 i a)).2.2.2.2.2.1) ∧ (((0 : Int) ≤ x1.toInt) ∧ (x1.toInt < (i 64).toInt) ∧ (¬ (((i 71).toInt = 0) ∧ (((a 5).getD x1.toNatClampNeg 0).toInt = 1))) → i1 80 = (cBuyV (i (64 * r 0)) (a (r 0 + 1)) (a (r 0 + 2)) (a (r 0 + 3)) (i (64 * r 0 + 3)) ((a 3).getD x1.toNatClampNeg 0) ((a 2).getD x1.toNatClampNeg 0) ((a 4).getD x1.toNatClampNeg 0) (i 73) ((a 6).getD x1.toNatClampNeg 0) (i 72))) ∧ (((0 : Int) ≤ x1.toInt) ∧ (x1.toInt < (i 64).toInt) ∧ (¬ (((i 71).toInt = 0) ∧ (((a 5).getD x1.toNatClampNeg 0).toInt = 1))) → i1 73 = i 73 + 1) ∧ (((0 : Int) ≤ x1.toInt) ∧ (x1.toInt < (i 64).toInt) ∧ (¬ (((i 71).toInt = 0) ∧ (((a 5).getD x1.toNatClampNeg 0).toInt = 1))) → a1 6 = (a 6).set x1.toNatClampNeg ((a 6).getD x1.toNatClampNeg 0 + 1)) ∧ (((0 : Int) ≤ x1.toInt) ∧ (x1.toInt < (i 64).toInt) ∧ (¬ (((i 71).toInt = 0) ∧ (((a 5).getD x1.toNatClampNeg 0).toInt = 1))) → a1 14 = ((cPaid (i 64) (i 70) x1 5 (cT0 1 i a)).2.2.2.2.2.2.1.set (0 : Int32).toNatClampNeg ((cPaid (i 64) (i 70) x1 5 (cT0 1 i a)).2.2.2.2.2.2.1.getD (0 : Int32).toNatClampNeg 0 + 1)).set (1 : Int32).toNatClampNeg (((cPaid (i 64) (i 70) x1 5 (cT0 1 i a)).2.2.2.2.2.2.1.set (0 : Int32).toNatClampNeg ((cPaid (i 64) (i 70) x1 5 (cT0 1 i a)).2.2.2.2.2.2.1.getD (0 : Int32).toNatClampNeg 0 + 1)).getD (1 : Int32).toNatClampNeg 0 + (cPaid (i 64) (i 70) x1 5 (cT0 1 i a)).2.2.2.2.2.1)) ∧ (((0 : Int) ≤ x1.toInt) ∧ (x1.toInt < (i 64).toInt) ∧ (¬ (((i 71).toInt = 0) ∧ (((a 5).getD x1.toNatClampNeg 0).toInt = 1))) → v = (cPaid (i 64) (i 70) x1 5 (cT0 1 i a)).2.2.2.2.2.1) ∧ (((0 : Int) ≤ x1.toInt) ∧ (x1.toInt < (i 64).toInt) ∧ (¬ (((i 71).toInt = 0) ∧ (((a 5).getD x1.toNatClampNeg 0).toInt = 1))) → a1 16 = (cPaid (i 64) (i 70) x1 5 (cT0 1 i a)).2.2.2.2.2.2.2 0) ∧ (((0 : Int) ≤ x1.toInt) ∧ (x1.toInt < (i 64).toInt) ∧ (¬ (((i 71).toInt = 0) ∧ (((a 5).getD x1.toNatClampNeg 0).toInt = 1))) → a1 17 = (cPaid (i 64) (i 70) x1 5 (cT0 1 i a)).2.2.2.2.2.2.2 1) ∧ (((0 : Int) ≤ x1.toInt) ∧ (x1.toInt < (i 64).toInt) ∧ (¬ (((i 71).toInt = 0) ∧ (((a 5).getD x1.toNatClampNeg 0).toInt = 1))) → a1 18 = (cPaid (i 64) (i 70) x1 5 (cT0 1 i a)).2.2.2.2.2.2.2 2) ∧ (((0 : Int) ≤ x1.toInt) ∧ (x1.toInt < (i 64).toInt) ∧ (¬ (((i 71).toInt = 0) ∧ (((a 5).getD x1.toNatClampNeg 0).toInt = 1))) → a1 19 = (cPaid (i 64) (i 70) x1 5 (cT0 1 i a)).2.2.2.2.2.2.2 3) ∧ (((0 : Int) ≤ x1.toInt) ∧ (x1.toInt < (i 64).toInt) ∧ (¬ (((i 71).toInt = 0) ∧ (((a 5).getD x1.toNatClampNeg 0).toInt = 1))) → a1 20 = (cPaid (i 64) (i 70) x1 5 (cT0 1 i a)).2.2.2.2.2.2.2 4) ∧ (((0 : Int) ≤ x1.toInt) ∧ (x1.toInt < (i 64).toInt) ∧ (¬ (((i 71).toInt = 0) ∧ (((a 5).getD x1.toNatClampNeg 0).toInt = 1))) → a1 21 = (cPaid (i 64) (i 70) x1 5 (cT0 1 i a)).2.2.2.2.2.2.2 5) ∧ (((0 : Int) ≤ x1.toInt) ∧ (x1.toInt < (i 64).toInt) ∧ (¬ (((i 71).toInt = 0) ∧ (((a 5).getD x1.toNatClampNeg 0).toInt = 1))) → a1 22 = (cPaid (i 64) (i 70) x1 5 (cT0 1 i a)).2.2.2.2.2.2.2 6) ∧ (((0 : Int) ≤ x1.toInt) ∧ (x1.toInt < (i 64).toInt) ∧ (¬ (((i 71).toInt = 0) ∧ (((a 5).getD x1.toNatClampNeg 0).toInt = 1))) → a1 23 = (cPaid (i 64) (i 70) x1 5 (cT0 1 i a)).2.2.2.2.2.2.2 7) ∧ (¬ (((0 : Int) ≤ x1.toInt) ∧ (x1.toInt < (i 64).toInt) ∧ (¬ (((i 71).toInt = 0) ∧ (((a 5).getD x1.toNatClampNeg 0).toInt = 1)))) → i1 450 = i 450) ∧ (¬ (((0 : Int) ≤ x1.toInt) ∧ (x1.toInt < (i 64).toInt) ∧ (¬ (((i 71).toInt = 0) ∧ (((a 5).getD x1.toNatClampNeg 0).toInt = 1)))) → a1 8 = a 8) ∧ (¬ (((0 : Int) ≤ x1.toInt) ∧ (x1.toInt < (i 64).toInt) ∧ (¬ (((i 71).toInt = 0) ∧ (((a 5).getD x1.toNatClampNeg 0).toInt = 1)))) → a1 9 = a 9) ∧ (¬ (((0 : Int) ≤ x1.toInt) ∧ (x1.toInt < (i 64).toInt) ∧ (¬ (((i 71).toInt = 0) ∧ (((a 5).getD x1.toNatClampNeg 0).toInt = 1)))) → a1 2 = a 2) ∧ (¬ (((0 : Int) ≤ x1.toInt) ∧ (x1.toInt < (i 64).toInt) ∧ (¬ (((i 71).toInt = 0) ∧ (((a 5).getD x1.toNatClampNeg 0).toInt = 1)))) → a1 6 = a 6) ∧ (¬ (((0 : Int) ≤ x1.toInt) ∧ (x1.toInt < (i 64).toInt) ∧ (¬ (((i 71).toInt = 0) ∧ (((a 5).getD x1.toNatClampNeg 0).toInt = 1)))) → a1 14 = a 14) ∧ (¬ (((0 : Int) ≤ x1.toInt) ∧ (x1.toInt < (i 64).toInt) ∧ (¬ (((i 71).toInt = 0) ∧ (((a 5).getD x1.toNatClampNeg 0).toInt = 1)))) → i1 78 = 8) ∧ (¬ (((0 : Int) ≤ x1.toInt) ∧ (x1.toInt < (i 64).toInt) ∧ (¬ (((i 71).toInt = 0) ∧ (((a 5).getD x1.toNatClampNeg 0).toInt = 1)))) → i1 79 = 0) ∧ (¬ (((0 : Int) ≤ x1.toInt) ∧ (x1.toInt < (i 64).toInt) ∧ (¬ (((i 71).toInt = 0) ∧ (((a 5).getD x1.toNatClampNeg 0).toInt = 1)))) → i1 80 = 0) ∧ (¬ (((0 : Int) ≤ x1.toInt) ∧ (x1.toInt < (i 64).toInt) ∧ (¬ (((i 71).toInt = 0) ∧ (((a 5).getD x1.toNatClampNeg 0).toInt = 1)))) → i1 73 = i 73) ∧ (¬ (((0 : Int) ≤ x1.toInt) ∧ (x1.toInt < (i 64).toInt) ∧ (¬ (((i 71).toInt = 0) ∧ (((a 5).getD x1.toNatClampNeg 0).toInt = 1)))) → v = 0) ∧ (¬ (((0 : Int) ≤ x1.toInt) ∧ (x1.toInt < (i 64).toInt) ∧ (¬ (((i 71).toInt = 0) ∧ (((a 5).getD x1.toNatClampNeg 0).toInt = 1)))) → a1 16 = a 16) ∧ (¬ (((0 : Int) ≤ x1.toInt) ∧ (x1.toInt < (i 64).toInt) ∧ (¬ (((i 71).toInt = 0) ∧ (((a 5).getD x1.toNatClampNeg 0).toInt = 1)))) → a1 17 = a 17) ∧ (¬ (((0 : Int) ≤ x1.toInt) ∧ (x1.toInt < (i 64).toInt) ∧ (¬ (((i 71).toInt = 0) ∧ (((a 5).getD x1.toNatClampNeg 0).toInt = 1)))) → a1 18 = a 18) ∧ (¬ (((0 : Int) ≤ x1.toInt) ∧ (x1.toInt < (i 64).toInt) ∧ (¬ (((i 71).toInt = 0) ∧ (((a 5).getD x1.toNatClampNeg 0).toInt = 1)))) → a1 19 = a 19) ∧ (¬ (((0 : Int) ≤ x1.toInt) ∧ (x1.toInt < (i 64).toInt) ∧ (¬ (((i 71).toInt = 0) ∧ (((a 5).getD x1.toNatClampNeg 0).toInt = 1)))) → a1 20 = a 20) ∧ (¬ (((0 : Int) ≤ x1.toInt) ∧ (x1.toInt < (i 64).toInt) ∧ (¬ (((i 71).toInt = 0) ∧ (((a 5).getD x1.toNatClampNeg 0).toInt = 1)))) → a1 21 = a 21) ∧ (¬ (((0 : Int) ≤ x1.toInt) ∧ (x1.toInt < (i 64).toInt) ∧ (¬ (((i 71).toInt = 0) ∧ (((a 5).getD x1.toNatClampNeg 0).toInt = 1)))) → a1 22 = a 22) ∧ (¬ (((0 : Int) ≤ x1.toInt) ∧ (x1.toInt < (i 64).toInt) ∧ (¬ (((i 71).toInt = 0) ∧ (((a 5).getD x1.toNatClampNeg 0).toInt = 1)))) → a1 23 = a 23)))) := by
  have hG := kG_self yw29_1 hI hr
  refine km_ofI (q := (mi_h29, mi_c29)) rfl (by decide) (Nat.le_of_ble_eq_true rfl) ?_
  intro P hP
  have hJ1 := kG_i hG 78 rfl (v := 8) (kd_bd _)
  have hJ2 := kG_i hJ1 79 rfl (v := 0) (kd_bd _)
  have hJ3 := kG_i hJ2 80 rfl (v := 0) (kd_bd _)
  first | refine fo_go mi_k29 fz29_0_11_18 [(0, .ref 1), (1, .int x1)] [.int x1, .ref 1] (ku (ku (ku i 78 8) 79 0) 80 0) a q r (by rfl) ?_ | refine ft_go mi_k29 11 18 [(0, .ref 1), (1, .int x1)] [.int x1, .ref 1] (ku (ku (ku i 78 8) 79 0) 80 0) a q r (by rfl) ?_
  refine ko_callPI mi_k29.1 (pc := 18) (ls := [(0, .ref 1), (1, .int x1)]) (st := [.int x1, .ref 1]) (h := ks (ku (ku (ku i 78 8) 79 0) 80 0) a q r) (i := (.invokevirtual 85, 3, 24, 0, 9, 0, 165)) (mi_k29.2 _ _ (by rfl)) (ft_invS mi_pq24 (by rfl)) (cy := mi_c24) mi_pq24 rfl (kc24_1 hJ3.I hJ3.R x1) (by decide) ?_
  intro vg4 hg4
  rcases hg4 with ⟨eg4, hg4⟩ | ⟨eg4, hg4⟩
  ·
    subst eg4
    have fi_64 : ((0 : Int) ≤ (i 64).toInt) ∧ ((i 64).toInt ≤ 8) := hJ3.I.1 64
    have z5 : ((0 : Int) ≤ x1.toInt) ∧ (x1.toInt < (i 64).toInt) := hg4
    first | refine fo_goS mi_k29 fz29_21_3_28 [.int (i 71)] (by rfl) ?_ | refine ft_go mi_k29 3 28 [(0, .ref 1), (1, .int x1)] [.int (i 71)] (ku (ku (ku i 78 8) 79 0) 80 0) a q r (by rfl) ?_
    refine ft_ifS mi_k29 ((i 71) != 0) 43 31 [] (by rfl) (fun c => ?_) (fun c => ?_)
    ·
      have c6 : (i 71).toInt ≠ (0 : Int32).toInt := kd_ne c; clear c
      first | refine fo_goS mi_k29 fz29_43_3_48 [.int x1, .ref 2] (by rfl) ?_ | refine ft_go mi_k29 3 48 [(0, .ref 1), (1, .int x1)] [.int x1, .ref 2] (ku (ku (ku i 78 8) 79 0) 80 0) a q r (by rfl) ?_
      refine ko_iald3 mi_k29.1 (n := 8) (c := 8) (ax := (0, 0, 0, 0, 0)) (mi_k29.2 _ _ (by rfl)) (by rfl) (ksG2 _ _ _ _) (hJ3.I.2.1 2) rfl (oi4 z5.1) (oi5 fi_64.2 z5.2) ?_
      first | refine fo_goL mi_k29 fz29_49_3_52 [(3, .int 0), (2, .int ((a 2).getD x1.toNatClampNeg 0)), (0, .ref 1), (1, .int x1)] [] (by rfl) ?_ | refine ft_goL mi_k29 3 52 [(3, .int 0), (2, .int ((a 2).getD x1.toNatClampNeg 0)), (0, .ref 1), (1, .int x1)] [] (by rfl) ?_ | refine ft_go mi_k29 3 52 [(3, .int 0), (2, .int ((a 2).getD x1.toNatClampNeg 0)), (0, .ref 1), (1, .int x1)] [] (ku (ku (ku i 78 8) 79 0) 80 0) a q r (by rfl) ?_
      have lp7 : ∀ (nz : Nat) (i7 : Nat → Int32) (a7 : Nat → List Int32) (q7 : Nat → List Int64) (r7 : Nat → Nat) (l3_7 : Int32), kG yw29_1_L52 (ku (ku (ku i 78 8) 79 0) 80 0) a q r i7 a7 q7 r7 → (0 : Int) ≤ l3_7.toInt → (i7 450).toInt ≤ (5 - l3_7.toInt) → cPaid (i 64) (i 70) x1 (5 - l3_7.toInt).toNat (cT 1 i7 a7) = (cPaid (i 64) (i 70) x1 5 (cT0 1 i a)) → ((5 - l3_7.toInt)).toNat < nz → ko 7 (mi_h29, mi_c29) P (52, [(3, .int l3_7), (2, .int ((a 2).getD x1.toNatClampNeg 0)), (0, .ref 1), (1, .int x1)], [], (0, 0), ks i7 a7 q7 r7) := by
        intro nz
        induction nz with
        | zero =>
          intro _ _ _ _ _ _ _ _ _ hm
          exact absurd hm (Nat.not_lt_zero _)
        | succ nz ih7 =>
          intro i7 a7 q7 r7 l3_7 hL7 p7_0 p7_1 O7_0 hm7
          first | refine fo_goL mi_k29 fz29_52_2_54 [(3, .int l3_7), (2, .int ((a 2).getD x1.toNatClampNeg 0)), (0, .ref 1), (1, .int x1)] [.int 5, .int l3_7] (by rfl) ?_ | refine ft_go mi_k29 2 54 [(3, .int l3_7), (2, .int ((a 2).getD x1.toNatClampNeg 0)), (0, .ref 1), (1, .int x1)] [.int 5, .int l3_7] i7 a7 q7 r7 (by rfl) ?_
          refine ft_ifS mi_k29 (decide (5 ≤ l3_7)) 82 57 [] (by rfl) (fun c => ?_) (fun c => ?_)
          ·
            have c8 : (5 : Int32).toInt ≤ l3_7.toInt := kd_le c; clear c
            have hG9 := kG_call hJ3 hL7 (by decide +kernel)
            have E10 : cT 1 i7 a7 = (cPaid (i 64) (i 70) x1 5 (cT0 1 i a)) := cP_end O7_0 (kj_five0 (oi6 c8 koi5))
            have E10_0 : i7 450 = (cPaid (i 64) (i 70) x1 5 (cT0 1 i a)).1 := (cT_1 E10).1
            have E10_1 : a7 8 = (cPaid (i 64) (i 70) x1 5 (cT0 1 i a)).2.1 := (cT_1 E10).2.1
            have E10_2 : a7 9 = (cPaid (i 64) (i 70) x1 5 (cT0 1 i a)).2.2.1 := (cT_1 E10).2.2.1
            have E10_3 : a7 2 = (cPaid (i 64) (i 70) x1 5 (cT0 1 i a)).2.2.2.1 := (cT_1 E10).2.2.2.1
            have E10_4 : i7 78 = (cPaid (i 64) (i 70) x1 5 (cT0 1 i a)).2.2.2.2.1 := (cT_1 E10).2.2.2.2.1
            have E10_5 : i7 79 = (cPaid (i 64) (i 70) x1 5 (cT0 1 i a)).2.2.2.2.2.1 := (cT_1 E10).2.2.2.2.2.1
            have E10_6 : a7 14 = (cPaid (i 64) (i 70) x1 5 (cT0 1 i a)).2.2.2.2.2.2.1 := (cT_1 E10).2.2.2.2.2.2.1
            have E10_r0 : a7 16 = (cPaid (i 64) (i 70) x1 5 (cT0 1 i a)).2.2.2.2.2.2.2 0 := (cT_1 E10).2.2.2.2.2.2.2 0 (by decide)
            have E10_r1 : a7 17 = (cPaid (i 64) (i 70) x1 5 (cT0 1 i a)).2.2.2.2.2.2.2 1 := (cT_1 E10).2.2.2.2.2.2.2 1 (by decide)
            have E10_r2 : a7 18 = (cPaid (i 64) (i 70) x1 5 (cT0 1 i a)).2.2.2.2.2.2.2 2 := (cT_1 E10).2.2.2.2.2.2.2 2 (by decide)
            have E10_r3 : a7 19 = (cPaid (i 64) (i 70) x1 5 (cT0 1 i a)).2.2.2.2.2.2.2 3 := (cT_1 E10).2.2.2.2.2.2.2 3 (by decide)
            have E10_r4 : a7 20 = (cPaid (i 64) (i 70) x1 5 (cT0 1 i a)).2.2.2.2.2.2.2 4 := (cT_1 E10).2.2.2.2.2.2.2 4 (by decide)
            have E10_r5 : a7 21 = (cPaid (i 64) (i 70) x1 5 (cT0 1 i a)).2.2.2.2.2.2.2 5 := (cT_1 E10).2.2.2.2.2.2.2 5 (by decide)
            have E10_r6 : a7 22 = (cPaid (i 64) (i 70) x1 5 (cT0 1 i a)).2.2.2.2.2.2.2 6 := (cT_1 E10).2.2.2.2.2.2.2 6 (by decide)
            have E10_r7 : a7 23 = (cPaid (i 64) (i 70) x1 5 (cT0 1 i a)).2.2.2.2.2.2.2 7 := (cT_1 E10).2.2.2.2.2.2.2 7 (by decide)
            have er11 : r7 0 = r 0 := hL7.fr 0 rfl
            have el12 : a7 (r 0 + 1) = a (r 0 + 1) := by rcases hr.1 with ⟨hz, _⟩ | ⟨hz, _⟩ <;> rw [hz] <;> exact hL7.fa _ rfl
            have el13 : a7 (r 0 + 2) = a (r 0 + 2) := by rcases hr.1 with ⟨hz, _⟩ | ⟨hz, _⟩ <;> rw [hz] <;> exact hL7.fa _ rfl
            have el14 : a7 (r 0 + 3) = a (r 0 + 3) := by rcases hr.1 with ⟨hz, _⟩ | ⟨hz, _⟩ <;> rw [hz] <;> exact hL7.fa _ rfl
            have el15 : i7 (64 * r 0) = i (64 * r 0) := by rcases hr.1 with ⟨hz, _⟩ | ⟨hz, _⟩ <;> rw [hz] <;> exact hL7.fi _ rfl
            have el16 : i7 (64 * r 0 + 3) = i (64 * r 0 + 3) := by rcases hr.1 with ⟨hz, _⟩ | ⟨hz, _⟩ <;> rw [hz] <;> exact hL7.fi _ rfl
            first | refine fo_goS mi_k29 fz29_82_4_86 [.int ((a 2).getD x1.toNatClampNeg 0), .int x1, .ref 1, .ref 1] (by rfl) ?_ | refine ft_go mi_k29 4 86 [(3, .int l3_7), (2, .int ((a 2).getD x1.toNatClampNeg 0)), (0, .ref 1), (1, .int x1)] [.int ((a 2).getD x1.toNatClampNeg 0), .int x1, .ref 1, .ref 1] i7 a7 q7 r7 (by rfl) ?_
            refine ko_callI mi_k29.1 (pc := 86) (ls := [(3, .int l3_7), (2, .int ((a 2).getD x1.toNatClampNeg 0)), (0, .ref 1), (1, .int x1)]) (st := [.int ((a 2).getD x1.toNatClampNeg 0), .int x1, .ref 1, .ref 1]) (h := ks i7 a7 q7 r7) (i := (.invokevirtual 100, 3, 31, 0, 9, 0, 223)) (mi_k29.2 _ _ (by rfl)) (ft_invS mi_pq31 (by rfl)) (cy := mi_c31) mi_pq31 rfl (ke31_1 hG9.I hG9.R x1 ((a 2).getD x1.toNatClampNeg 0) (oi67 fi_64.2 z5.1 z5.2)) (by decide) ?_
            intro vg17 ig17 ag17 qg17 rg17 kg17 hg17
            have hGg17 := kG_call hG9 kg17 (by decide +kernel)
            obtain ⟨hg17, og17⟩ := hg17
            have q18 : vg17 = cBuyV (i7 (64 * r7 0)) (a7 (r7 0 + 1)) (a7 (r7 0 + 2)) (a7 (r7 0 + 3)) (i7 (64 * r7 0 + 3)) ((a7 3).getD x1.toNatClampNeg 0) ((a 2).getD x1.toNatClampNeg 0) ((a7 4).getD x1.toNatClampNeg 0) (i7 73) ((a7 6).getD x1.toNatClampNeg 0) (i7 72) := og17
            have hJ19 := kG_i hGg17 80 rfl (v := vg17) (kd_bd _)
            first | refine fo_goI mi_k29 fz29_89_6_101 [.int vg17, .int x1, .ref 7] (ku ig17 80 vg17) (by rfl) ?_ | refine ft_go mi_k29 6 101 [(3, .int l3_7), (2, .int ((a 2).getD x1.toNatClampNeg 0)), (0, .ref 1), (1, .int x1)] [.int vg17, .int x1, .ref 7] (ku ig17 80 vg17) ag17 qg17 rg17 (by rfl) ?_
            have efig17_450 : (ig17 450).toInt = (i7 450).toInt := kg17.ti 450 rfl
            refine ko_callN mi_k29.1 (pc := 101) (ls := [(3, .int l3_7), (2, .int ((a 2).getD x1.toNatClampNeg 0)), (0, .ref 1), (1, .int x1)]) (st := [.int vg17, .int x1, .ref 7]) (h := ks (ku ig17 80 vg17) ag17 qg17 rg17) (i := (.invokevirtual 104, 3, 1, 0, 9, 0, 228)) (mi_k29.2 _ _ (by rfl)) (ft_invS mi_pq1 (by rfl)) (cy := mi_c1) mi_pq1 rfl (kf1_7 hJ19.I hJ19.R x1 vg17 (oi73 c8 efig17_450 p7_1 koi5)) (by decide) ?_
            intro ig20 ag20 qg20 rg20 kg20 hg20
            have hGg20 := kG_call hJ19 kg20 (by decide +kernel)
            obtain ⟨hg20, og20⟩ := hg20
            have q22 : ag20 8 = (ag17 8).set (ig17 450).toNatClampNeg x1 := og20.1
            have q23 : ag20 9 = (ag17 9).set (ig17 450).toNatClampNeg vg17 := og20.2.1
            have q24 : ig20 450 = ig17 450 + 1 := og20.2.2
            have b25 : ((-2147483648 : Int) ≤ (ig20 73).toInt) ∧ ((ig20 73).toInt ≤ 2147483647) := kd_bd (ig20 73)
            have hJ26 := kG_i hGg20 73 rfl (v := ((ig20 73) + 1)) (kd_bd _)
            first | refine fo_goI mi_k29 fz29_104_10_120 [.int x1, .ref 6, .int x1, .ref 6] (ku ig20 73 ((ig20 73) + 1)) (by rfl) ?_ | refine ft_go mi_k29 10 120 [(3, .int l3_7), (2, .int ((a 2).getD x1.toNatClampNeg 0)), (0, .ref 1), (1, .int x1)] [.int x1, .ref 6, .int x1, .ref 6] (ku ig20 73 ((ig20 73) + 1)) ag20 qg20 rg20 (by rfl) ?_
            refine ko_iald3 mi_k29.1 (n := 8) (c := 8) (ax := (0, 0, 0, 0, 0)) (mi_k29.2 _ _ (by rfl)) (by rfl) (ksG6 _ _ _ _) (hJ26.I.2.1 6) rfl (oi4 z5.1) (oi5 fi_64.2 z5.2) ?_
            have b27 : ((-2147483648 : Int) ≤ ((ag20 6).getD x1.toNatClampNeg 0).toInt) ∧ (((ag20 6).getD x1.toNatClampNeg 0).toInt ≤ 2147483647) := kd_bd ((ag20 6).getD x1.toNatClampNeg 0)
            first | refine fo_goS mi_k29 fz29_121_2_123 [.int (((ag20 6).getD x1.toNatClampNeg 0) + 1), .int x1, .ref 6] (by rfl) ?_ | refine ft_go mi_k29 2 123 [(3, .int l3_7), (2, .int ((a 2).getD x1.toNatClampNeg 0)), (0, .ref 1), (1, .int x1)] [.int (((ag20 6).getD x1.toNatClampNeg 0) + 1), .int x1, .ref 6] (ku ig20 73 ((ig20 73) + 1)) ag20 qg20 rg20 (by rfl) ?_
            refine ko_iast3 mi_k29.1 (n := 8) (c := 8) (ax := (0, 0, 0, 0, 0)) (mi_k29.2 _ _ (by rfl)) (by rfl) (ksG6 _ _ _ _) (ksA6 _ _ _ _) (hJ26.I.2.1 6) rfl (oi4 z5.1) (oi5 fi_64.2 z5.2) ?_
            intro a28 ea28 fa28
            have hJ28 := kG_a3 hJ26 6 rfl ea28 fa28 (kd_bd _)
            first | refine fo_goS mi_k29 fz29_124_4_130 [.int 0, .ref 14, .int 0, .ref 14] (by rfl) ?_ | refine ft_go mi_k29 4 130 [(3, .int l3_7), (2, .int ((a 2).getD x1.toNatClampNeg 0)), (0, .ref 1), (1, .int x1)] [.int 0, .ref 14, .int 0, .ref 14] (ku ig20 73 ((ig20 73) + 1)) a28 qg20 rg20 (by rfl) ?_
            refine ko_iald3 mi_k29.1 (n := 5) (c := 5) (ax := (0, 0, 0, 0, 0)) (mi_k29.2 _ _ (by rfl)) (by rfl) (ksG14 _ _ _ _) (hJ28.I.2.1 14) rfl (oi9 koi0) (oi74 koi0) ?_
            have b29 : ((-2147483648 : Int) ≤ ((a28 14).getD (0 : Int32).toNatClampNeg 0).toInt) ∧ (((a28 14).getD (0 : Int32).toNatClampNeg 0).toInt ≤ 2147483647) := kd_bd ((a28 14).getD (0 : Int32).toNatClampNeg 0)
            first | refine fo_goS mi_k29 fz29_131_2_133 [.int (((a28 14).getD (0 : Int32).toNatClampNeg 0) + 1), .int 0, .ref 14] (by rfl) ?_ | refine ft_go mi_k29 2 133 [(3, .int l3_7), (2, .int ((a 2).getD x1.toNatClampNeg 0)), (0, .ref 1), (1, .int x1)] [.int (((a28 14).getD (0 : Int32).toNatClampNeg 0) + 1), .int 0, .ref 14] (ku ig20 73 ((ig20 73) + 1)) a28 qg20 rg20 (by rfl) ?_
            refine ko_iast3 mi_k29.1 (n := 5) (c := 5) (ax := (0, 0, 0, 0, 0)) (mi_k29.2 _ _ (by rfl)) (by rfl) (ksG14 _ _ _ _) (ksA14 _ _ _ _) (hJ28.I.2.1 14) rfl (oi9 koi0) (oi74 koi0) ?_
            intro a30 ea30 fa30
            have hJ30 := kG_a3 hJ28 14 rfl ea30 fa30 (kd_bd _)
            first | refine fo_goS mi_k29 fz29_134_4_140 [.int 1, .ref 14, .int 1, .ref 14] (by rfl) ?_ | refine ft_go mi_k29 4 140 [(3, .int l3_7), (2, .int ((a 2).getD x1.toNatClampNeg 0)), (0, .ref 1), (1, .int x1)] [.int 1, .ref 14, .int 1, .ref 14] (ku ig20 73 ((ig20 73) + 1)) a30 qg20 rg20 (by rfl) ?_
            refine ko_iald3 mi_k29.1 (n := 5) (c := 5) (ax := (0, 0, 0, 0, 0)) (mi_k29.2 _ _ (by rfl)) (by rfl) (ksG14 _ _ _ _) (hJ30.I.2.1 14) rfl (oi11 koi1) (oi75 koi1) ?_
            have b31 : ((-2147483648 : Int) ≤ ((a30 14).getD (1 : Int32).toNatClampNeg 0).toInt) ∧ (((a30 14).getD (1 : Int32).toNatClampNeg 0).toInt ≤ 2147483647) := kd_bd ((a30 14).getD (1 : Int32).toNatClampNeg 0)
            have b32 : ((-2147483648 : Int) ≤ (ig20 79).toInt) ∧ ((ig20 79).toInt ≤ 2147483647) := kd_bd (ig20 79)
            first | refine fo_goS mi_k29 fz29_141_3_146 [.int (((a30 14).getD (1 : Int32).toNatClampNeg 0) + (ig20 79)), .int 1, .ref 14] (by rfl) ?_ | refine ft_go mi_k29 3 146 [(3, .int l3_7), (2, .int ((a 2).getD x1.toNatClampNeg 0)), (0, .ref 1), (1, .int x1)] [.int (((a30 14).getD (1 : Int32).toNatClampNeg 0) + (ig20 79)), .int 1, .ref 14] (ku ig20 73 ((ig20 73) + 1)) a30 qg20 rg20 (by rfl) ?_
            refine ko_iast3 mi_k29.1 (n := 5) (c := 5) (ax := (0, 0, 0, 0, 0)) (mi_k29.2 _ _ (by rfl)) (by rfl) (ksG14 _ _ _ _) (ksA14 _ _ _ _) (hJ30.I.2.1 14) rfl (oi11 koi1) (oi75 koi1) ?_
            intro a33 ea33 fa33
            have hJ33 := kG_a3 hJ30 14 rfl ea33 fa33 (kd_bd _)
            first | refine fo_goS mi_k29 fz29_147_2_151 [.int (ig20 79)] (by rfl) ?_ | refine ft_go mi_k29 2 151 [(3, .int l3_7), (2, .int ((a 2).getD x1.toNatClampNeg 0)), (0, .ref 1), (1, .int x1)] [.int (ig20 79)] (ku ig20 73 ((ig20 73) + 1)) a33 qg20 rg20 (by rfl) ?_
            exact ft_ret mi_k29 (by rfl) (hP (ig20 79) _ _ _ _ hJ33 ⟨trivial, ⟨(fun _ => (show ig20 450 = (cPaid (i 64) (i 70) x1 5 (cT0 1 i a)).1 + 1 from (by first | rfl | (simp only [q24, (show ig17 450 = i7 450 from kg17.fi 450 rfl), E10_0, er11, el12, el13, el14, el15, el16, sMn, sMx]; done) | (simp only [q24, (show ig17 450 = i7 450 from kg17.fi 450 rfl), E10_0, er11, el12, el13, el14, el15, el16, sMn, sMx]; rfl)))), (fun _ => (show a33 8 = (cPaid (i 64) (i 70) x1 5 (cT0 1 i a)).2.1.set (cPaid (i 64) (i 70) x1 5 (cT0 1 i a)).1.toNatClampNeg x1 from (by first | rfl | (simp only [fa33 8 (by decide), fa30 8 (by decide), fa28 8 (by decide), q22, kg17.fa 8 rfl, (show ig17 450 = i7 450 from kg17.fi 450 rfl), E10_0, E10_1, er11, el12, el13, el14, el15, el16, sMn, sMx]; done) | (simp only [fa33 8 (by decide), fa30 8 (by decide), fa28 8 (by decide), q22, kg17.fa 8 rfl, (show ig17 450 = i7 450 from kg17.fi 450 rfl), E10_0, E10_1, er11, el12, el13, el14, el15, el16, sMn, sMx]; rfl)))), (fun _ => (show a33 9 = (cPaid (i 64) (i 70) x1 5 (cT0 1 i a)).2.2.1.set (cPaid (i 64) (i 70) x1 5 (cT0 1 i a)).1.toNatClampNeg (cBuyV (i (64 * r 0)) (a (r 0 + 1)) (a (r 0 + 2)) (a (r 0 + 3)) (i (64 * r 0 + 3)) ((a 3).getD x1.toNatClampNeg 0) ((a 2).getD x1.toNatClampNeg 0) ((a 4).getD x1.toNatClampNeg 0) (i 73) ((a 6).getD x1.toNatClampNeg 0) (i 72)) from (by first | rfl | (simp only [fa33 9 (by decide), fa30 9 (by decide), fa28 9 (by decide), q23, kg17.fa 9 rfl, (show ig17 450 = i7 450 from kg17.fi 450 rfl), q18, hL7.fa 3 rfl, hL7.fa 4 rfl, (show i7 73 = i 73 from hL7.fi 73 rfl), hL7.fa 6 rfl, (show i7 72 = i 72 from hL7.fi 72 rfl), E10_0, E10_2, er11, el12, el13, el14, el15, el16, sMn, sMx]; done) | (simp only [fa33 9 (by decide), fa30 9 (by decide), fa28 9 (by decide), q23, kg17.fa 9 rfl, (show ig17 450 = i7 450 from kg17.fi 450 rfl), q18, hL7.fa 3 rfl, hL7.fa 4 rfl, (show i7 73 = i 73 from hL7.fi 73 rfl), hL7.fa 6 rfl, (show i7 72 = i 72 from hL7.fi 72 rfl), E10_0, E10_2, er11, el12, el13, el14, el15, el16, sMn, sMx]; rfl)))), (fun _ => (show a33 2 = (cPaid (i 64) (i 70) x1 5 (cT0 1 i a)).2.2.2.1 from (by first | rfl | (simp only [fa33 2 (by decide), fa30 2 (by decide), fa28 2 (by decide), kg20.fa 2 rfl, kg17.fa 2 rfl, E10_3, er11, el12, el13, el14, el15, el16, sMn, sMx]; done) | (simp only [fa33 2 (by decide), fa30 2 (by decide), fa28 2 (by decide), kg20.fa 2 rfl, kg17.fa 2 rfl, E10_3, er11, el12, el13, el14, el15, el16, sMn, sMx]; rfl)))), (fun _ => (show ig20 78 = (cPaid (i 64) (i 70) x1 5 (cT0 1 i a)).2.2.2.2.1 from (by first | rfl | (simp only [(show ig20 78 = ig17 78 from kg20.fi 78 rfl), (show ig17 78 = i7 78 from kg17.fi 78 rfl), E10_4, er11, el12, el13, el14, el15, el16, sMn, sMx]; done) | (simp only [(show ig20 78 = ig17 78 from kg20.fi 78 rfl), (show ig17 78 = i7 78 from kg17.fi 78 rfl), E10_4, er11, el12, el13, el14, el15, el16, sMn, sMx]; rfl)))), (fun _ => (show ig20 79 = (cPaid (i 64) (i 70) x1 5 (cT0 1 i a)).2.2.2.2.2.1 from (by first | rfl | (simp only [(show ig20 79 = ig17 79 from kg20.fi 79 rfl), (show ig17 79 = i7 79 from kg17.fi 79 rfl), E10_5, er11, el12, el13, el14, el15, el16, sMn, sMx]; done) | (simp only [(show ig20 79 = ig17 79 from kg20.fi 79 rfl), (show ig17 79 = i7 79 from kg17.fi 79 rfl), E10_5, er11, el12, el13, el14, el15, el16, sMn, sMx]; rfl)))), (fun _ => (show ig20 80 = (cBuyV (i (64 * r 0)) (a (r 0 + 1)) (a (r 0 + 2)) (a (r 0 + 3)) (i (64 * r 0 + 3)) ((a 3).getD x1.toNatClampNeg 0) ((a 2).getD x1.toNatClampNeg 0) ((a 4).getD x1.toNatClampNeg 0) (i 73) ((a 6).getD x1.toNatClampNeg 0) (i 72)) from (by first | rfl | (simp only [(show ig20 80 = vg17 from kg20.fi 80 rfl), q18, hL7.fa 3 rfl, hL7.fa 4 rfl, (show i7 73 = i 73 from hL7.fi 73 rfl), hL7.fa 6 rfl, (show i7 72 = i 72 from hL7.fi 72 rfl), er11, el12, el13, el14, el15, el16, sMn, sMx]; done) | (simp only [(show ig20 80 = vg17 from kg20.fi 80 rfl), q18, hL7.fa 3 rfl, hL7.fa 4 rfl, (show i7 73 = i 73 from hL7.fi 73 rfl), hL7.fa 6 rfl, (show i7 72 = i 72 from hL7.fi 72 rfl), er11, el12, el13, el14, el15, el16, sMn, sMx]; rfl)))), (fun _ => (show ((ig20 73) + 1) = i 73 + 1 from (by first | rfl | (simp only [(show ig20 73 = ig17 73 from kg20.fi 73 rfl), (show ig17 73 = i7 73 from kg17.fi 73 rfl), (show i7 73 = i 73 from hL7.fi 73 rfl), er11, el12, el13, el14, el15, el16, sMn, sMx]; done) | (simp only [(show ig20 73 = ig17 73 from kg20.fi 73 rfl), (show ig17 73 = i7 73 from kg17.fi 73 rfl), (show i7 73 = i 73 from hL7.fi 73 rfl), er11, el12, el13, el14, el15, el16, sMn, sMx]; rfl)))), (fun _ => (show a33 6 = (a 6).set x1.toNatClampNeg ((a 6).getD x1.toNatClampNeg 0 + 1) from (by first | rfl | (simp only [fa33 6 (by decide), fa30 6 (by decide), ea28, kg20.fa 6 rfl, kg17.fa 6 rfl, hL7.fa 6 rfl, er11, el12, el13, el14, el15, el16, sMn, sMx]; done) | (simp only [fa33 6 (by decide), fa30 6 (by decide), ea28, kg20.fa 6 rfl, kg17.fa 6 rfl, hL7.fa 6 rfl, er11, el12, el13, el14, el15, el16, sMn, sMx]; rfl)))), (fun _ => (show a33 14 = ((cPaid (i 64) (i 70) x1 5 (cT0 1 i a)).2.2.2.2.2.2.1.set (0 : Int32).toNatClampNeg ((cPaid (i 64) (i 70) x1 5 (cT0 1 i a)).2.2.2.2.2.2.1.getD (0 : Int32).toNatClampNeg 0 + 1)).set (1 : Int32).toNatClampNeg (((cPaid (i 64) (i 70) x1 5 (cT0 1 i a)).2.2.2.2.2.2.1.set (0 : Int32).toNatClampNeg ((cPaid (i 64) (i 70) x1 5 (cT0 1 i a)).2.2.2.2.2.2.1.getD (0 : Int32).toNatClampNeg 0 + 1)).getD (1 : Int32).toNatClampNeg 0 + (cPaid (i 64) (i 70) x1 5 (cT0 1 i a)).2.2.2.2.2.1) from (by first | rfl | (simp only [ea33, ea30, (show ig20 79 = ig17 79 from kg20.fi 79 rfl), (show ig17 79 = i7 79 from kg17.fi 79 rfl), E10_5, fa28 14 (by decide), kg20.fa 14 rfl, kg17.fa 14 rfl, E10_6, er11, el12, el13, el14, el15, el16, sMn, sMx]; done) | (simp only [ea33, ea30, (show ig20 79 = ig17 79 from kg20.fi 79 rfl), (show ig17 79 = i7 79 from kg17.fi 79 rfl), E10_5, fa28 14 (by decide), kg20.fa 14 rfl, kg17.fa 14 rfl, E10_6, er11, el12, el13, el14, el15, el16, sMn, sMx]; rfl)))), (fun _ => (show (ig20 79) = (cPaid (i 64) (i 70) x1 5 (cT0 1 i a)).2.2.2.2.2.1 from (by first | rfl | (simp only [(show ig20 79 = ig17 79 from kg20.fi 79 rfl), (show ig17 79 = i7 79 from kg17.fi 79 rfl), E10_5, er11, el12, el13, el14, el15, el16, sMn, sMx]; done) | (simp only [(show ig20 79 = ig17 79 from kg20.fi 79 rfl), (show ig17 79 = i7 79 from kg17.fi 79 rfl), E10_5, er11, el12, el13, el14, el15, el16, sMn, sMx]; rfl)))), (fun _ => (show a33 16 = (cPaid (i 64) (i 70) x1 5 (cT0 1 i a)).2.2.2.2.2.2.2 0 from (by first | rfl | (simp only [fa33 16 (by decide), fa30 16 (by decide), fa28 16 (by decide), kg20.fa 16 rfl, kg17.fa 16 rfl, E10_r0, er11, el12, el13, el14, el15, el16, sMn, sMx]; done) | (simp only [fa33 16 (by decide), fa30 16 (by decide), fa28 16 (by decide), kg20.fa 16 rfl, kg17.fa 16 rfl, E10_r0, er11, el12, el13, el14, el15, el16, sMn, sMx]; rfl)))), (fun _ => (show a33 17 = (cPaid (i 64) (i 70) x1 5 (cT0 1 i a)).2.2.2.2.2.2.2 1 from (by first | rfl | (simp only [fa33 17 (by decide), fa30 17 (by decide), fa28 17 (by decide), kg20.fa 17 rfl, kg17.fa 17 rfl, E10_r1, er11, el12, el13, el14, el15, el16, sMn, sMx]; done) | (simp only [fa33 17 (by decide), fa30 17 (by decide), fa28 17 (by decide), kg20.fa 17 rfl, kg17.fa 17 rfl, E10_r1, er11, el12, el13, el14, el15, el16, sMn, sMx]; rfl)))), (fun _ => (show a33 18 = (cPaid (i 64) (i 70) x1 5 (cT0 1 i a)).2.2.2.2.2.2.2 2 from (by first | rfl | (simp only [fa33 18 (by decide), fa30 18 (by decide), fa28 18 (by decide), kg20.fa 18 rfl, kg17.fa 18 rfl, E10_r2, er11, el12, el13, el14, el15, el16, sMn, sMx]; done) | (simp only [fa33 18 (by decide), fa30 18 (by decide), fa28 18 (by decide), kg20.fa 18 rfl, kg17.fa 18 rfl, E10_r2, er11, el12, el13, el14, el15, el16, sMn, sMx]; rfl)))), (fun _ => (show a33 19 = (cPaid (i 64) (i 70) x1 5 (cT0 1 i a)).2.2.2.2.2.2.2 3 from (by first | rfl | (simp only [fa33 19 (by decide), fa30 19 (by decide), fa28 19 (by decide), kg20.fa 19 rfl, kg17.fa 19 rfl, E10_r3, er11, el12, el13, el14, el15, el16, sMn, sMx]; done) | (simp only [fa33 19 (by decide), fa30 19 (by decide), fa28 19 (by decide), kg20.fa 19 rfl, kg17.fa 19 rfl, E10_r3, er11, el12, el13, el14, el15, el16, sMn, sMx]; rfl)))), (fun _ => (show a33 20 = (cPaid (i 64) (i 70) x1 5 (cT0 1 i a)).2.2.2.2.2.2.2 4 from (by first | rfl | (simp only [fa33 20 (by decide), fa30 20 (by decide), fa28 20 (by decide), kg20.fa 20 rfl, kg17.fa 20 rfl, E10_r4, er11, el12, el13, el14, el15, el16, sMn, sMx]; done) | (simp only [fa33 20 (by decide), fa30 20 (by decide), fa28 20 (by decide), kg20.fa 20 rfl, kg17.fa 20 rfl, E10_r4, er11, el12, el13, el14, el15, el16, sMn, sMx]; rfl)))), (fun _ => (show a33 21 = (cPaid (i 64) (i 70) x1 5 (cT0 1 i a)).2.2.2.2.2.2.2 5 from (by first | rfl | (simp only [fa33 21 (by decide), fa30 21 (by decide), fa28 21 (by decide), kg20.fa 21 rfl, kg17.fa 21 rfl, E10_r5, er11, el12, el13, el14, el15, el16, sMn, sMx]; done) | (simp only [fa33 21 (by decide), fa30 21 (by decide), fa28 21 (by decide), kg20.fa 21 rfl, kg17.fa 21 rfl, E10_r5, er11, el12, el13, el14, el15, el16, sMn, sMx]; rfl)))), (fun _ => (show a33 22 = (cPaid (i 64) (i 70) x1 5 (cT0 1 i a)).2.2.2.2.2.2.2 6 from (by first | rfl | (simp only [fa33 22 (by decide), fa30 22 (by decide), fa28 22 (by decide), kg20.fa 22 rfl, kg17.fa 22 rfl, E10_r6, er11, el12, el13, el14, el15, el16, sMn, sMx]; done) | (simp only [fa33 22 (by decide), fa30 22 (by decide), fa28 22 (by decide), kg20.fa 22 rfl, kg17.fa 22 rfl, E10_r6, er11, el12, el13, el14, el15, el16, sMn, sMx]; rfl)))), (fun _ => (show a33 23 = (cPaid (i 64) (i 70) x1 5 (cT0 1 i a)).2.2.2.2.2.2.2 7 from (by first | rfl | (simp only [fa33 23 (by decide), fa30 23 (by decide), fa28 23 (by decide), kg20.fa 23 rfl, kg17.fa 23 rfl, E10_r7, er11, el12, el13, el14, el15, el16, sMn, sMx]; done) | (simp only [fa33 23 (by decide), fa30 23 (by decide), fa28 23 (by decide), kg20.fa 23 rfl, kg17.fa 23 rfl, E10_r7, er11, el12, el13, el14, el15, el16, sMn, sMx]; rfl)))), (fun h => absurd h (oi78 c6 z5.1 z5.2 koi0)), (fun h => absurd h (oi78 c6 z5.1 z5.2 koi0)), (fun h => absurd h (oi78 c6 z5.1 z5.2 koi0)), (fun h => absurd h (oi78 c6 z5.1 z5.2 koi0)), (fun h => absurd h (oi78 c6 z5.1 z5.2 koi0)), (fun h => absurd h (oi78 c6 z5.1 z5.2 koi0)), (fun h => absurd h (oi78 c6 z5.1 z5.2 koi0)), (fun h => absurd h (oi78 c6 z5.1 z5.2 koi0)), (fun h => absurd h (oi78 c6 z5.1 z5.2 koi0)), (fun h => absurd h (oi78 c6 z5.1 z5.2 koi0)), (fun h => absurd h (oi78 c6 z5.1 z5.2 koi0)), (fun h => absurd h (oi78 c6 z5.1 z5.2 koi0)), (fun h => absurd h (oi78 c6 z5.1 z5.2 koi0)), (fun h => absurd h (oi78 c6 z5.1 z5.2 koi0)), (fun h => absurd h (oi78 c6 z5.1 z5.2 koi0)), (fun h => absurd h (oi78 c6 z5.1 z5.2 koi0)), (fun h => absurd h (oi78 c6 z5.1 z5.2 koi0)), (fun h => absurd h (oi78 c6 z5.1 z5.2 koi0)), (fun h => absurd h (oi78 c6 z5.1 z5.2 koi0))⟩⟩)
          ·
            have c34 : l3_7.toInt < (5 : Int32).toInt := kd_leF c; clear c
            have efi7_70 : (i7 70).toInt = (i 70).toInt := hL7.ti 70 rfl
            first | refine fo_goS mi_k29 fz29_57_5_68 [.int (i7 70), .int (i7 450)] (by rfl) ?_ | refine ft_go mi_k29 5 68 [(3, .int l3_7), (2, .int ((a 2).getD x1.toNatClampNeg 0)), (0, .ref 1), (1, .int x1)] [.int (i7 70), .int (i7 450)] i7 a7 q7 r7 (by rfl) ?_
            refine ft_ifS mi_k29 (decide ((i7 450) < (i7 70))) 82 71 [] (by rfl) (fun c => ?_) (fun c => ?_)
            ·
              have c35 : (i7 450).toInt < (i7 70).toInt := kd_lt c; clear c
              have hG36 := kG_call hJ3 hL7 (by decide +kernel)
              have E37 : cT 1 i7 a7 = (cPaid (i 64) (i 70) x1 5 (cT0 1 i a)) := cP_done O7_0 (oi39 c35 efi7_70)
              have E37_0 : i7 450 = (cPaid (i 64) (i 70) x1 5 (cT0 1 i a)).1 := (cT_1 E37).1
              have E37_1 : a7 8 = (cPaid (i 64) (i 70) x1 5 (cT0 1 i a)).2.1 := (cT_1 E37).2.1
              have E37_2 : a7 9 = (cPaid (i 64) (i 70) x1 5 (cT0 1 i a)).2.2.1 := (cT_1 E37).2.2.1
              have E37_3 : a7 2 = (cPaid (i 64) (i 70) x1 5 (cT0 1 i a)).2.2.2.1 := (cT_1 E37).2.2.2.1
              have E37_4 : i7 78 = (cPaid (i 64) (i 70) x1 5 (cT0 1 i a)).2.2.2.2.1 := (cT_1 E37).2.2.2.2.1
              have E37_5 : i7 79 = (cPaid (i 64) (i 70) x1 5 (cT0 1 i a)).2.2.2.2.2.1 := (cT_1 E37).2.2.2.2.2.1
              have E37_6 : a7 14 = (cPaid (i 64) (i 70) x1 5 (cT0 1 i a)).2.2.2.2.2.2.1 := (cT_1 E37).2.2.2.2.2.2.1
              have E37_r0 : a7 16 = (cPaid (i 64) (i 70) x1 5 (cT0 1 i a)).2.2.2.2.2.2.2 0 := (cT_1 E37).2.2.2.2.2.2.2 0 (by decide)
              have E37_r1 : a7 17 = (cPaid (i 64) (i 70) x1 5 (cT0 1 i a)).2.2.2.2.2.2.2 1 := (cT_1 E37).2.2.2.2.2.2.2 1 (by decide)
              have E37_r2 : a7 18 = (cPaid (i 64) (i 70) x1 5 (cT0 1 i a)).2.2.2.2.2.2.2 2 := (cT_1 E37).2.2.2.2.2.2.2 2 (by decide)
              have E37_r3 : a7 19 = (cPaid (i 64) (i 70) x1 5 (cT0 1 i a)).2.2.2.2.2.2.2 3 := (cT_1 E37).2.2.2.2.2.2.2 3 (by decide)
              have E37_r4 : a7 20 = (cPaid (i 64) (i 70) x1 5 (cT0 1 i a)).2.2.2.2.2.2.2 4 := (cT_1 E37).2.2.2.2.2.2.2 4 (by decide)
              have E37_r5 : a7 21 = (cPaid (i 64) (i 70) x1 5 (cT0 1 i a)).2.2.2.2.2.2.2 5 := (cT_1 E37).2.2.2.2.2.2.2 5 (by decide)
              have E37_r6 : a7 22 = (cPaid (i 64) (i 70) x1 5 (cT0 1 i a)).2.2.2.2.2.2.2 6 := (cT_1 E37).2.2.2.2.2.2.2 6 (by decide)
              have E37_r7 : a7 23 = (cPaid (i 64) (i 70) x1 5 (cT0 1 i a)).2.2.2.2.2.2.2 7 := (cT_1 E37).2.2.2.2.2.2.2 7 (by decide)
              have er38 : r7 0 = r 0 := hL7.fr 0 rfl
              have el39 : a7 (r 0 + 1) = a (r 0 + 1) := by rcases hr.1 with ⟨hz, _⟩ | ⟨hz, _⟩ <;> rw [hz] <;> exact hL7.fa _ rfl
              have el40 : a7 (r 0 + 2) = a (r 0 + 2) := by rcases hr.1 with ⟨hz, _⟩ | ⟨hz, _⟩ <;> rw [hz] <;> exact hL7.fa _ rfl
              have el41 : a7 (r 0 + 3) = a (r 0 + 3) := by rcases hr.1 with ⟨hz, _⟩ | ⟨hz, _⟩ <;> rw [hz] <;> exact hL7.fa _ rfl
              have el42 : i7 (64 * r 0) = i (64 * r 0) := by rcases hr.1 with ⟨hz, _⟩ | ⟨hz, _⟩ <;> rw [hz] <;> exact hL7.fi _ rfl
              have el43 : i7 (64 * r 0 + 3) = i (64 * r 0 + 3) := by rcases hr.1 with ⟨hz, _⟩ | ⟨hz, _⟩ <;> rw [hz] <;> exact hL7.fi _ rfl
              first | refine fo_goS mi_k29 fz29_82_4_86 [.int ((a 2).getD x1.toNatClampNeg 0), .int x1, .ref 1, .ref 1] (by rfl) ?_ | refine ft_go mi_k29 4 86 [(3, .int l3_7), (2, .int ((a 2).getD x1.toNatClampNeg 0)), (0, .ref 1), (1, .int x1)] [.int ((a 2).getD x1.toNatClampNeg 0), .int x1, .ref 1, .ref 1] i7 a7 q7 r7 (by rfl) ?_
              refine ko_callI mi_k29.1 (pc := 86) (ls := [(3, .int l3_7), (2, .int ((a 2).getD x1.toNatClampNeg 0)), (0, .ref 1), (1, .int x1)]) (st := [.int ((a 2).getD x1.toNatClampNeg 0), .int x1, .ref 1, .ref 1]) (h := ks i7 a7 q7 r7) (i := (.invokevirtual 100, 3, 31, 0, 9, 0, 223)) (mi_k29.2 _ _ (by rfl)) (ft_invS mi_pq31 (by rfl)) (cy := mi_c31) mi_pq31 rfl (ke31_1 hG36.I hG36.R x1 ((a 2).getD x1.toNatClampNeg 0) (oi67 fi_64.2 z5.1 z5.2)) (by decide) ?_
              intro vg44 ig44 ag44 qg44 rg44 kg44 hg44
              have hGg44 := kG_call hG36 kg44 (by decide +kernel)
              obtain ⟨hg44, og44⟩ := hg44
              have q45 : vg44 = cBuyV (i7 (64 * r7 0)) (a7 (r7 0 + 1)) (a7 (r7 0 + 2)) (a7 (r7 0 + 3)) (i7 (64 * r7 0 + 3)) ((a7 3).getD x1.toNatClampNeg 0) ((a 2).getD x1.toNatClampNeg 0) ((a7 4).getD x1.toNatClampNeg 0) (i7 73) ((a7 6).getD x1.toNatClampNeg 0) (i7 72) := og44
              have hJ46 := kG_i hGg44 80 rfl (v := vg44) (kd_bd _)
              first | refine fo_goI mi_k29 fz29_89_6_101 [.int vg44, .int x1, .ref 7] (ku ig44 80 vg44) (by rfl) ?_ | refine ft_go mi_k29 6 101 [(3, .int l3_7), (2, .int ((a 2).getD x1.toNatClampNeg 0)), (0, .ref 1), (1, .int x1)] [.int vg44, .int x1, .ref 7] (ku ig44 80 vg44) ag44 qg44 rg44 (by rfl) ?_
              have efig44_450 : (ig44 450).toInt = (i7 450).toInt := kg44.ti 450 rfl
              refine ko_callN mi_k29.1 (pc := 101) (ls := [(3, .int l3_7), (2, .int ((a 2).getD x1.toNatClampNeg 0)), (0, .ref 1), (1, .int x1)]) (st := [.int vg44, .int x1, .ref 7]) (h := ks (ku ig44 80 vg44) ag44 qg44 rg44) (i := (.invokevirtual 104, 3, 1, 0, 9, 0, 228)) (mi_k29.2 _ _ (by rfl)) (ft_invS mi_pq1 (by rfl)) (cy := mi_c1) mi_pq1 rfl (kf1_7 hJ46.I hJ46.R x1 vg44 (oi79 c35 efi7_70 efig44_450 hp0.2)) (by decide) ?_
              intro ig47 ag47 qg47 rg47 kg47 hg47
              have hGg47 := kG_call hJ46 kg47 (by decide +kernel)
              obtain ⟨hg47, og47⟩ := hg47
              have q49 : ag47 8 = (ag44 8).set (ig44 450).toNatClampNeg x1 := og47.1
              have q50 : ag47 9 = (ag44 9).set (ig44 450).toNatClampNeg vg44 := og47.2.1
              have q51 : ig47 450 = ig44 450 + 1 := og47.2.2
              have b52 : ((-2147483648 : Int) ≤ (ig47 73).toInt) ∧ ((ig47 73).toInt ≤ 2147483647) := kd_bd (ig47 73)
              have hJ53 := kG_i hGg47 73 rfl (v := ((ig47 73) + 1)) (kd_bd _)
              first | refine fo_goI mi_k29 fz29_104_10_120 [.int x1, .ref 6, .int x1, .ref 6] (ku ig47 73 ((ig47 73) + 1)) (by rfl) ?_ | refine ft_go mi_k29 10 120 [(3, .int l3_7), (2, .int ((a 2).getD x1.toNatClampNeg 0)), (0, .ref 1), (1, .int x1)] [.int x1, .ref 6, .int x1, .ref 6] (ku ig47 73 ((ig47 73) + 1)) ag47 qg47 rg47 (by rfl) ?_
              refine ko_iald3 mi_k29.1 (n := 8) (c := 8) (ax := (0, 0, 0, 0, 0)) (mi_k29.2 _ _ (by rfl)) (by rfl) (ksG6 _ _ _ _) (hJ53.I.2.1 6) rfl (oi4 z5.1) (oi5 fi_64.2 z5.2) ?_
              have b54 : ((-2147483648 : Int) ≤ ((ag47 6).getD x1.toNatClampNeg 0).toInt) ∧ (((ag47 6).getD x1.toNatClampNeg 0).toInt ≤ 2147483647) := kd_bd ((ag47 6).getD x1.toNatClampNeg 0)
              first | refine fo_goS mi_k29 fz29_121_2_123 [.int (((ag47 6).getD x1.toNatClampNeg 0) + 1), .int x1, .ref 6] (by rfl) ?_ | refine ft_go mi_k29 2 123 [(3, .int l3_7), (2, .int ((a 2).getD x1.toNatClampNeg 0)), (0, .ref 1), (1, .int x1)] [.int (((ag47 6).getD x1.toNatClampNeg 0) + 1), .int x1, .ref 6] (ku ig47 73 ((ig47 73) + 1)) ag47 qg47 rg47 (by rfl) ?_
              refine ko_iast3 mi_k29.1 (n := 8) (c := 8) (ax := (0, 0, 0, 0, 0)) (mi_k29.2 _ _ (by rfl)) (by rfl) (ksG6 _ _ _ _) (ksA6 _ _ _ _) (hJ53.I.2.1 6) rfl (oi4 z5.1) (oi5 fi_64.2 z5.2) ?_
              intro a55 ea55 fa55
              have hJ55 := kG_a3 hJ53 6 rfl ea55 fa55 (kd_bd _)
              first | refine fo_goS mi_k29 fz29_124_4_130 [.int 0, .ref 14, .int 0, .ref 14] (by rfl) ?_ | refine ft_go mi_k29 4 130 [(3, .int l3_7), (2, .int ((a 2).getD x1.toNatClampNeg 0)), (0, .ref 1), (1, .int x1)] [.int 0, .ref 14, .int 0, .ref 14] (ku ig47 73 ((ig47 73) + 1)) a55 qg47 rg47 (by rfl) ?_
              refine ko_iald3 mi_k29.1 (n := 5) (c := 5) (ax := (0, 0, 0, 0, 0)) (mi_k29.2 _ _ (by rfl)) (by rfl) (ksG14 _ _ _ _) (hJ55.I.2.1 14) rfl (oi9 koi0) (oi74 koi0) ?_
              have b56 : ((-2147483648 : Int) ≤ ((a55 14).getD (0 : Int32).toNatClampNeg 0).toInt) ∧ (((a55 14).getD (0 : Int32).toNatClampNeg 0).toInt ≤ 2147483647) := kd_bd ((a55 14).getD (0 : Int32).toNatClampNeg 0)
              first | refine fo_goS mi_k29 fz29_131_2_133 [.int (((a55 14).getD (0 : Int32).toNatClampNeg 0) + 1), .int 0, .ref 14] (by rfl) ?_ | refine ft_go mi_k29 2 133 [(3, .int l3_7), (2, .int ((a 2).getD x1.toNatClampNeg 0)), (0, .ref 1), (1, .int x1)] [.int (((a55 14).getD (0 : Int32).toNatClampNeg 0) + 1), .int 0, .ref 14] (ku ig47 73 ((ig47 73) + 1)) a55 qg47 rg47 (by rfl) ?_
              refine ko_iast3 mi_k29.1 (n := 5) (c := 5) (ax := (0, 0, 0, 0, 0)) (mi_k29.2 _ _ (by rfl)) (by rfl) (ksG14 _ _ _ _) (ksA14 _ _ _ _) (hJ55.I.2.1 14) rfl (oi9 koi0) (oi74 koi0) ?_
              intro a57 ea57 fa57
              have hJ57 := kG_a3 hJ55 14 rfl ea57 fa57 (kd_bd _)
              first | refine fo_goS mi_k29 fz29_134_4_140 [.int 1, .ref 14, .int 1, .ref 14] (by rfl) ?_ | refine ft_go mi_k29 4 140 [(3, .int l3_7), (2, .int ((a 2).getD x1.toNatClampNeg 0)), (0, .ref 1), (1, .int x1)] [.int 1, .ref 14, .int 1, .ref 14] (ku ig47 73 ((ig47 73) + 1)) a57 qg47 rg47 (by rfl) ?_
              refine ko_iald3 mi_k29.1 (n := 5) (c := 5) (ax := (0, 0, 0, 0, 0)) (mi_k29.2 _ _ (by rfl)) (by rfl) (ksG14 _ _ _ _) (hJ57.I.2.1 14) rfl (oi11 koi1) (oi75 koi1) ?_
              have b58 : ((-2147483648 : Int) ≤ ((a57 14).getD (1 : Int32).toNatClampNeg 0).toInt) ∧ (((a57 14).getD (1 : Int32).toNatClampNeg 0).toInt ≤ 2147483647) := kd_bd ((a57 14).getD (1 : Int32).toNatClampNeg 0)
              have b59 : ((-2147483648 : Int) ≤ (ig47 79).toInt) ∧ ((ig47 79).toInt ≤ 2147483647) := kd_bd (ig47 79)
              first | refine fo_goS mi_k29 fz29_141_3_146 [.int (((a57 14).getD (1 : Int32).toNatClampNeg 0) + (ig47 79)), .int 1, .ref 14] (by rfl) ?_ | refine ft_go mi_k29 3 146 [(3, .int l3_7), (2, .int ((a 2).getD x1.toNatClampNeg 0)), (0, .ref 1), (1, .int x1)] [.int (((a57 14).getD (1 : Int32).toNatClampNeg 0) + (ig47 79)), .int 1, .ref 14] (ku ig47 73 ((ig47 73) + 1)) a57 qg47 rg47 (by rfl) ?_
              refine ko_iast3 mi_k29.1 (n := 5) (c := 5) (ax := (0, 0, 0, 0, 0)) (mi_k29.2 _ _ (by rfl)) (by rfl) (ksG14 _ _ _ _) (ksA14 _ _ _ _) (hJ57.I.2.1 14) rfl (oi11 koi1) (oi75 koi1) ?_
              intro a60 ea60 fa60
              have hJ60 := kG_a3 hJ57 14 rfl ea60 fa60 (kd_bd _)
              first | refine fo_goS mi_k29 fz29_147_2_151 [.int (ig47 79)] (by rfl) ?_ | refine ft_go mi_k29 2 151 [(3, .int l3_7), (2, .int ((a 2).getD x1.toNatClampNeg 0)), (0, .ref 1), (1, .int x1)] [.int (ig47 79)] (ku ig47 73 ((ig47 73) + 1)) a60 qg47 rg47 (by rfl) ?_
              exact ft_ret mi_k29 (by rfl) (hP (ig47 79) _ _ _ _ hJ60 ⟨trivial, ⟨(fun _ => (show ig47 450 = (cPaid (i 64) (i 70) x1 5 (cT0 1 i a)).1 + 1 from (by first | rfl | (simp only [q51, (show ig44 450 = i7 450 from kg44.fi 450 rfl), E37_0, er38, el39, el40, el41, el42, el43, sMn, sMx]; done) | (simp only [q51, (show ig44 450 = i7 450 from kg44.fi 450 rfl), E37_0, er38, el39, el40, el41, el42, el43, sMn, sMx]; rfl)))), (fun _ => (show a60 8 = (cPaid (i 64) (i 70) x1 5 (cT0 1 i a)).2.1.set (cPaid (i 64) (i 70) x1 5 (cT0 1 i a)).1.toNatClampNeg x1 from (by first | rfl | (simp only [fa60 8 (by decide), fa57 8 (by decide), fa55 8 (by decide), q49, kg44.fa 8 rfl, (show ig44 450 = i7 450 from kg44.fi 450 rfl), E37_0, E37_1, er38, el39, el40, el41, el42, el43, sMn, sMx]; done) | (simp only [fa60 8 (by decide), fa57 8 (by decide), fa55 8 (by decide), q49, kg44.fa 8 rfl, (show ig44 450 = i7 450 from kg44.fi 450 rfl), E37_0, E37_1, er38, el39, el40, el41, el42, el43, sMn, sMx]; rfl)))), (fun _ => (show a60 9 = (cPaid (i 64) (i 70) x1 5 (cT0 1 i a)).2.2.1.set (cPaid (i 64) (i 70) x1 5 (cT0 1 i a)).1.toNatClampNeg (cBuyV (i (64 * r 0)) (a (r 0 + 1)) (a (r 0 + 2)) (a (r 0 + 3)) (i (64 * r 0 + 3)) ((a 3).getD x1.toNatClampNeg 0) ((a 2).getD x1.toNatClampNeg 0) ((a 4).getD x1.toNatClampNeg 0) (i 73) ((a 6).getD x1.toNatClampNeg 0) (i 72)) from (by first | rfl | (simp only [fa60 9 (by decide), fa57 9 (by decide), fa55 9 (by decide), q50, kg44.fa 9 rfl, (show ig44 450 = i7 450 from kg44.fi 450 rfl), q45, hL7.fa 3 rfl, hL7.fa 4 rfl, (show i7 73 = i 73 from hL7.fi 73 rfl), hL7.fa 6 rfl, (show i7 72 = i 72 from hL7.fi 72 rfl), E37_0, E37_2, er38, el39, el40, el41, el42, el43, sMn, sMx]; done) | (simp only [fa60 9 (by decide), fa57 9 (by decide), fa55 9 (by decide), q50, kg44.fa 9 rfl, (show ig44 450 = i7 450 from kg44.fi 450 rfl), q45, hL7.fa 3 rfl, hL7.fa 4 rfl, (show i7 73 = i 73 from hL7.fi 73 rfl), hL7.fa 6 rfl, (show i7 72 = i 72 from hL7.fi 72 rfl), E37_0, E37_2, er38, el39, el40, el41, el42, el43, sMn, sMx]; rfl)))), (fun _ => (show a60 2 = (cPaid (i 64) (i 70) x1 5 (cT0 1 i a)).2.2.2.1 from (by first | rfl | (simp only [fa60 2 (by decide), fa57 2 (by decide), fa55 2 (by decide), kg47.fa 2 rfl, kg44.fa 2 rfl, E37_3, er38, el39, el40, el41, el42, el43, sMn, sMx]; done) | (simp only [fa60 2 (by decide), fa57 2 (by decide), fa55 2 (by decide), kg47.fa 2 rfl, kg44.fa 2 rfl, E37_3, er38, el39, el40, el41, el42, el43, sMn, sMx]; rfl)))), (fun _ => (show ig47 78 = (cPaid (i 64) (i 70) x1 5 (cT0 1 i a)).2.2.2.2.1 from (by first | rfl | (simp only [(show ig47 78 = ig44 78 from kg47.fi 78 rfl), (show ig44 78 = i7 78 from kg44.fi 78 rfl), E37_4, er38, el39, el40, el41, el42, el43, sMn, sMx]; done) | (simp only [(show ig47 78 = ig44 78 from kg47.fi 78 rfl), (show ig44 78 = i7 78 from kg44.fi 78 rfl), E37_4, er38, el39, el40, el41, el42, el43, sMn, sMx]; rfl)))), (fun _ => (show ig47 79 = (cPaid (i 64) (i 70) x1 5 (cT0 1 i a)).2.2.2.2.2.1 from (by first | rfl | (simp only [(show ig47 79 = ig44 79 from kg47.fi 79 rfl), (show ig44 79 = i7 79 from kg44.fi 79 rfl), E37_5, er38, el39, el40, el41, el42, el43, sMn, sMx]; done) | (simp only [(show ig47 79 = ig44 79 from kg47.fi 79 rfl), (show ig44 79 = i7 79 from kg44.fi 79 rfl), E37_5, er38, el39, el40, el41, el42, el43, sMn, sMx]; rfl)))), (fun _ => (show ig47 80 = (cBuyV (i (64 * r 0)) (a (r 0 + 1)) (a (r 0 + 2)) (a (r 0 + 3)) (i (64 * r 0 + 3)) ((a 3).getD x1.toNatClampNeg 0) ((a 2).getD x1.toNatClampNeg 0) ((a 4).getD x1.toNatClampNeg 0) (i 73) ((a 6).getD x1.toNatClampNeg 0) (i 72)) from (by first | rfl | (simp only [(show ig47 80 = vg44 from kg47.fi 80 rfl), q45, hL7.fa 3 rfl, hL7.fa 4 rfl, (show i7 73 = i 73 from hL7.fi 73 rfl), hL7.fa 6 rfl, (show i7 72 = i 72 from hL7.fi 72 rfl), er38, el39, el40, el41, el42, el43, sMn, sMx]; done) | (simp only [(show ig47 80 = vg44 from kg47.fi 80 rfl), q45, hL7.fa 3 rfl, hL7.fa 4 rfl, (show i7 73 = i 73 from hL7.fi 73 rfl), hL7.fa 6 rfl, (show i7 72 = i 72 from hL7.fi 72 rfl), er38, el39, el40, el41, el42, el43, sMn, sMx]; rfl)))), (fun _ => (show ((ig47 73) + 1) = i 73 + 1 from (by first | rfl | (simp only [(show ig47 73 = ig44 73 from kg47.fi 73 rfl), (show ig44 73 = i7 73 from kg44.fi 73 rfl), (show i7 73 = i 73 from hL7.fi 73 rfl), er38, el39, el40, el41, el42, el43, sMn, sMx]; done) | (simp only [(show ig47 73 = ig44 73 from kg47.fi 73 rfl), (show ig44 73 = i7 73 from kg44.fi 73 rfl), (show i7 73 = i 73 from hL7.fi 73 rfl), er38, el39, el40, el41, el42, el43, sMn, sMx]; rfl)))), (fun _ => (show a60 6 = (a 6).set x1.toNatClampNeg ((a 6).getD x1.toNatClampNeg 0 + 1) from (by first | rfl | (simp only [fa60 6 (by decide), fa57 6 (by decide), ea55, kg47.fa 6 rfl, kg44.fa 6 rfl, hL7.fa 6 rfl, er38, el39, el40, el41, el42, el43, sMn, sMx]; done) | (simp only [fa60 6 (by decide), fa57 6 (by decide), ea55, kg47.fa 6 rfl, kg44.fa 6 rfl, hL7.fa 6 rfl, er38, el39, el40, el41, el42, el43, sMn, sMx]; rfl)))), (fun _ => (show a60 14 = ((cPaid (i 64) (i 70) x1 5 (cT0 1 i a)).2.2.2.2.2.2.1.set (0 : Int32).toNatClampNeg ((cPaid (i 64) (i 70) x1 5 (cT0 1 i a)).2.2.2.2.2.2.1.getD (0 : Int32).toNatClampNeg 0 + 1)).set (1 : Int32).toNatClampNeg (((cPaid (i 64) (i 70) x1 5 (cT0 1 i a)).2.2.2.2.2.2.1.set (0 : Int32).toNatClampNeg ((cPaid (i 64) (i 70) x1 5 (cT0 1 i a)).2.2.2.2.2.2.1.getD (0 : Int32).toNatClampNeg 0 + 1)).getD (1 : Int32).toNatClampNeg 0 + (cPaid (i 64) (i 70) x1 5 (cT0 1 i a)).2.2.2.2.2.1) from (by first | rfl | (simp only [ea60, ea57, (show ig47 79 = ig44 79 from kg47.fi 79 rfl), (show ig44 79 = i7 79 from kg44.fi 79 rfl), E37_5, fa55 14 (by decide), kg47.fa 14 rfl, kg44.fa 14 rfl, E37_6, er38, el39, el40, el41, el42, el43, sMn, sMx]; done) | (simp only [ea60, ea57, (show ig47 79 = ig44 79 from kg47.fi 79 rfl), (show ig44 79 = i7 79 from kg44.fi 79 rfl), E37_5, fa55 14 (by decide), kg47.fa 14 rfl, kg44.fa 14 rfl, E37_6, er38, el39, el40, el41, el42, el43, sMn, sMx]; rfl)))), (fun _ => (show (ig47 79) = (cPaid (i 64) (i 70) x1 5 (cT0 1 i a)).2.2.2.2.2.1 from (by first | rfl | (simp only [(show ig47 79 = ig44 79 from kg47.fi 79 rfl), (show ig44 79 = i7 79 from kg44.fi 79 rfl), E37_5, er38, el39, el40, el41, el42, el43, sMn, sMx]; done) | (simp only [(show ig47 79 = ig44 79 from kg47.fi 79 rfl), (show ig44 79 = i7 79 from kg44.fi 79 rfl), E37_5, er38, el39, el40, el41, el42, el43, sMn, sMx]; rfl)))), (fun _ => (show a60 16 = (cPaid (i 64) (i 70) x1 5 (cT0 1 i a)).2.2.2.2.2.2.2 0 from (by first | rfl | (simp only [fa60 16 (by decide), fa57 16 (by decide), fa55 16 (by decide), kg47.fa 16 rfl, kg44.fa 16 rfl, E37_r0, er38, el39, el40, el41, el42, el43, sMn, sMx]; done) | (simp only [fa60 16 (by decide), fa57 16 (by decide), fa55 16 (by decide), kg47.fa 16 rfl, kg44.fa 16 rfl, E37_r0, er38, el39, el40, el41, el42, el43, sMn, sMx]; rfl)))), (fun _ => (show a60 17 = (cPaid (i 64) (i 70) x1 5 (cT0 1 i a)).2.2.2.2.2.2.2 1 from (by first | rfl | (simp only [fa60 17 (by decide), fa57 17 (by decide), fa55 17 (by decide), kg47.fa 17 rfl, kg44.fa 17 rfl, E37_r1, er38, el39, el40, el41, el42, el43, sMn, sMx]; done) | (simp only [fa60 17 (by decide), fa57 17 (by decide), fa55 17 (by decide), kg47.fa 17 rfl, kg44.fa 17 rfl, E37_r1, er38, el39, el40, el41, el42, el43, sMn, sMx]; rfl)))), (fun _ => (show a60 18 = (cPaid (i 64) (i 70) x1 5 (cT0 1 i a)).2.2.2.2.2.2.2 2 from (by first | rfl | (simp only [fa60 18 (by decide), fa57 18 (by decide), fa55 18 (by decide), kg47.fa 18 rfl, kg44.fa 18 rfl, E37_r2, er38, el39, el40, el41, el42, el43, sMn, sMx]; done) | (simp only [fa60 18 (by decide), fa57 18 (by decide), fa55 18 (by decide), kg47.fa 18 rfl, kg44.fa 18 rfl, E37_r2, er38, el39, el40, el41, el42, el43, sMn, sMx]; rfl)))), (fun _ => (show a60 19 = (cPaid (i 64) (i 70) x1 5 (cT0 1 i a)).2.2.2.2.2.2.2 3 from (by first | rfl | (simp only [fa60 19 (by decide), fa57 19 (by decide), fa55 19 (by decide), kg47.fa 19 rfl, kg44.fa 19 rfl, E37_r3, er38, el39, el40, el41, el42, el43, sMn, sMx]; done) | (simp only [fa60 19 (by decide), fa57 19 (by decide), fa55 19 (by decide), kg47.fa 19 rfl, kg44.fa 19 rfl, E37_r3, er38, el39, el40, el41, el42, el43, sMn, sMx]; rfl)))), (fun _ => (show a60 20 = (cPaid (i 64) (i 70) x1 5 (cT0 1 i a)).2.2.2.2.2.2.2 4 from (by first | rfl | (simp only [fa60 20 (by decide), fa57 20 (by decide), fa55 20 (by decide), kg47.fa 20 rfl, kg44.fa 20 rfl, E37_r4, er38, el39, el40, el41, el42, el43, sMn, sMx]; done) | (simp only [fa60 20 (by decide), fa57 20 (by decide), fa55 20 (by decide), kg47.fa 20 rfl, kg44.fa 20 rfl, E37_r4, er38, el39, el40, el41, el42, el43, sMn, sMx]; rfl)))), (fun _ => (show a60 21 = (cPaid (i 64) (i 70) x1 5 (cT0 1 i a)).2.2.2.2.2.2.2 5 from (by first | rfl | (simp only [fa60 21 (by decide), fa57 21 (by decide), fa55 21 (by decide), kg47.fa 21 rfl, kg44.fa 21 rfl, E37_r5, er38, el39, el40, el41, el42, el43, sMn, sMx]; done) | (simp only [fa60 21 (by decide), fa57 21 (by decide), fa55 21 (by decide), kg47.fa 21 rfl, kg44.fa 21 rfl, E37_r5, er38, el39, el40, el41, el42, el43, sMn, sMx]; rfl)))), (fun _ => (show a60 22 = (cPaid (i 64) (i 70) x1 5 (cT0 1 i a)).2.2.2.2.2.2.2 6 from (by first | rfl | (simp only [fa60 22 (by decide), fa57 22 (by decide), fa55 22 (by decide), kg47.fa 22 rfl, kg44.fa 22 rfl, E37_r6, er38, el39, el40, el41, el42, el43, sMn, sMx]; done) | (simp only [fa60 22 (by decide), fa57 22 (by decide), fa55 22 (by decide), kg47.fa 22 rfl, kg44.fa 22 rfl, E37_r6, er38, el39, el40, el41, el42, el43, sMn, sMx]; rfl)))), (fun _ => (show a60 23 = (cPaid (i 64) (i 70) x1 5 (cT0 1 i a)).2.2.2.2.2.2.2 7 from (by first | rfl | (simp only [fa60 23 (by decide), fa57 23 (by decide), fa55 23 (by decide), kg47.fa 23 rfl, kg44.fa 23 rfl, E37_r7, er38, el39, el40, el41, el42, el43, sMn, sMx]; done) | (simp only [fa60 23 (by decide), fa57 23 (by decide), fa55 23 (by decide), kg47.fa 23 rfl, kg44.fa 23 rfl, E37_r7, er38, el39, el40, el41, el42, el43, sMn, sMx]; rfl)))), (fun h => absurd h (oi78 c6 z5.1 z5.2 koi0)), (fun h => absurd h (oi78 c6 z5.1 z5.2 koi0)), (fun h => absurd h (oi78 c6 z5.1 z5.2 koi0)), (fun h => absurd h (oi78 c6 z5.1 z5.2 koi0)), (fun h => absurd h (oi78 c6 z5.1 z5.2 koi0)), (fun h => absurd h (oi78 c6 z5.1 z5.2 koi0)), (fun h => absurd h (oi78 c6 z5.1 z5.2 koi0)), (fun h => absurd h (oi78 c6 z5.1 z5.2 koi0)), (fun h => absurd h (oi78 c6 z5.1 z5.2 koi0)), (fun h => absurd h (oi78 c6 z5.1 z5.2 koi0)), (fun h => absurd h (oi78 c6 z5.1 z5.2 koi0)), (fun h => absurd h (oi78 c6 z5.1 z5.2 koi0)), (fun h => absurd h (oi78 c6 z5.1 z5.2 koi0)), (fun h => absurd h (oi78 c6 z5.1 z5.2 koi0)), (fun h => absurd h (oi78 c6 z5.1 z5.2 koi0)), (fun h => absurd h (oi78 c6 z5.1 z5.2 koi0)), (fun h => absurd h (oi78 c6 z5.1 z5.2 koi0)), (fun h => absurd h (oi78 c6 z5.1 z5.2 koi0)), (fun h => absurd h (oi78 c6 z5.1 z5.2 koi0))⟩⟩)
            ·
              have c61 : (i7 70).toInt ≤ (i7 450).toInt := kd_ltF c; clear c
              first | refine fo_goS mi_k29 fz29_71_2_73 [.int x1, .ref 1] (by rfl) ?_ | refine ft_go mi_k29 2 73 [(3, .int l3_7), (2, .int ((a 2).getD x1.toNatClampNeg 0)), (0, .ref 1), (1, .int x1)] [.int x1, .ref 1] i7 a7 q7 r7 (by rfl) ?_
              refine ko_callN mi_k29.1 (pc := 73) (ls := [(3, .int l3_7), (2, .int ((a 2).getD x1.toNatClampNeg 0)), (0, .ref 1), (1, .int x1)]) (st := [.int x1, .ref 1]) (h := ks i7 a7 q7 r7) (i := (.invokevirtual 96, 3, 30, 0, 9, 0, 221)) (mi_k29.2 _ _ (by rfl)) (ft_invS mi_pq30 (by rfl)) (cy := mi_c30) mi_pq30 rfl (ke30_1 hL7.I hL7.R x1 (oi67 fi_64.2 z5.1 z5.2) (oi179 c61 efi7_70 hp0.1)) (by decide) ?_
              intro ig62 ag62 qg62 rg62 kg62 hg62
              have hGg62 := kG_call hL7 kg62 (by decide +kernel)
              obtain ⟨hg62, og62⟩ := hg62
              have z63 : (ig62 450).toInt = ((i7 450).toInt - 1) := hg62
              have s64 : (l3_7 + 1).toInt = l3_7.toInt + (1 : Int32).toInt := kd_add (oi32 p7_0 koi1) (oi180 c34 koi5 koi1)
              first | refine fo_goL mi_k29 fz29_50_2_52 [(3, .int (l3_7 + 1)), (2, .int ((a 2).getD x1.toNatClampNeg 0)), (0, .ref 1), (1, .int x1)] [] (by rfl) ?_ | refine fo_goL mi_k29 fz29_76_2_52 [(3, .int (l3_7 + 1)), (2, .int ((a 2).getD x1.toNatClampNeg 0)), (0, .ref 1), (1, .int x1)] [] (by rfl) ?_ | refine ft_go mi_k29 2 52 [(3, .int (l3_7 + 1)), (2, .int ((a 2).getD x1.toNatClampNeg 0)), (0, .ref 1), (1, .int x1)] [] ig62 ag62 qg62 rg62 (by rfl) ?_
              exact ih7 _ _ _ _ _ hGg62 (oi34 p7_0 s64 koi1) (oi181 p7_1 s64 z63 koi1) (cP_again (T := cT 1 i7 a7) O7_0 (kj_five (oi182 c34 koi5) (oi40 s64 koi1)) (oi183 c61 efi7_70) og62 (by first | rfl | (simp only [(show i7 64 = i 64 from hL7.fi 64 rfl), sMn, sMx]; done) | (simp only [(show i7 64 = i 64 from hL7.fi 64 rfl), sMn, sMx]; rfl))) (kj_meas (oi184 s64 koi1) (oi185 c34 koi5) hm7)
      have fi_450 : ((0 : Int) ≤ (i 450).toInt) ∧ ((i 450).toInt ≤ 5) := hJ3.I.1 450
      exact lp7 _ _ _ _ _ _ (kG_self _ hJ3.I hJ3.R) (oi9 koi0) (oi186 fi_450.2 koi0) (by rw [koi0]; rfl) (Nat.lt_succ_self _)
    ·
      have c65 : (i 71).toInt = (0 : Int32).toInt := kd_neF c; clear c
      first | refine fo_goS mi_k29 fz29_31_3_36 [.int x1, .ref 5] (by rfl) ?_ | refine ft_go mi_k29 3 36 [(0, .ref 1), (1, .int x1)] [.int x1, .ref 5] (ku (ku (ku i 78 8) 79 0) 80 0) a q r (by rfl) ?_
      refine ko_iald3 mi_k29.1 (n := 8) (c := 8) (ax := (0, 0, 0, 0, 0)) (mi_k29.2 _ _ (by rfl)) (by rfl) (ksG5 _ _ _ _) (hJ3.I.2.1 5) rfl (oi4 z5.1) (oi5 fi_64.2 z5.2) ?_
      first | refine ft_goS mi_k29 1 38 [.int 1, .int ((a 5).getD x1.toNatClampNeg 0)] (by rfl) ?_ | refine ft_go mi_k29 1 38 [(0, .ref 1), (1, .int x1)] [.int 1, .int ((a 5).getD x1.toNatClampNeg 0)] (ku (ku (ku i 78 8) 79 0) 80 0) a q r (by rfl) ?_
      refine ft_ifS mi_k29 (((a 5).getD x1.toNatClampNeg 0) != 1) 43 41 [] (by rfl) (fun c => ?_) (fun c => ?_)
      ·
        have c66 : ((a 5).getD x1.toNatClampNeg 0).toInt ≠ (1 : Int32).toInt := kd_ne c; clear c
        first | refine fo_goS mi_k29 fz29_43_3_48 [.int x1, .ref 2] (by rfl) ?_ | refine ft_go mi_k29 3 48 [(0, .ref 1), (1, .int x1)] [.int x1, .ref 2] (ku (ku (ku i 78 8) 79 0) 80 0) a q r (by rfl) ?_
        refine ko_iald3 mi_k29.1 (n := 8) (c := 8) (ax := (0, 0, 0, 0, 0)) (mi_k29.2 _ _ (by rfl)) (by rfl) (ksG2 _ _ _ _) (hJ3.I.2.1 2) rfl (oi4 z5.1) (oi5 fi_64.2 z5.2) ?_
        first | refine fo_goL mi_k29 fz29_49_3_52 [(3, .int 0), (2, .int ((a 2).getD x1.toNatClampNeg 0)), (0, .ref 1), (1, .int x1)] [] (by rfl) ?_ | refine ft_goL mi_k29 3 52 [(3, .int 0), (2, .int ((a 2).getD x1.toNatClampNeg 0)), (0, .ref 1), (1, .int x1)] [] (by rfl) ?_ | refine ft_go mi_k29 3 52 [(3, .int 0), (2, .int ((a 2).getD x1.toNatClampNeg 0)), (0, .ref 1), (1, .int x1)] [] (ku (ku (ku i 78 8) 79 0) 80 0) a q r (by rfl) ?_
        have lp67 : ∀ (nz : Nat) (i67 : Nat → Int32) (a67 : Nat → List Int32) (q67 : Nat → List Int64) (r67 : Nat → Nat) (l3_67 : Int32), kG yw29_1_L52 (ku (ku (ku i 78 8) 79 0) 80 0) a q r i67 a67 q67 r67 → (0 : Int) ≤ l3_67.toInt → (i67 450).toInt ≤ (5 - l3_67.toInt) → cPaid (i 64) (i 70) x1 (5 - l3_67.toInt).toNat (cT 1 i67 a67) = (cPaid (i 64) (i 70) x1 5 (cT0 1 i a)) → ((5 - l3_67.toInt)).toNat < nz → ko 7 (mi_h29, mi_c29) P (52, [(3, .int l3_67), (2, .int ((a 2).getD x1.toNatClampNeg 0)), (0, .ref 1), (1, .int x1)], [], (0, 0), ks i67 a67 q67 r67) := by
          intro nz
          induction nz with
          | zero =>
            intro _ _ _ _ _ _ _ _ _ hm
            exact absurd hm (Nat.not_lt_zero _)
          | succ nz ih67 =>
            intro i67 a67 q67 r67 l3_67 hL67 p67_0 p67_1 O67_0 hm67
            first | refine fo_goL mi_k29 fz29_52_2_54 [(3, .int l3_67), (2, .int ((a 2).getD x1.toNatClampNeg 0)), (0, .ref 1), (1, .int x1)] [.int 5, .int l3_67] (by rfl) ?_ | refine ft_go mi_k29 2 54 [(3, .int l3_67), (2, .int ((a 2).getD x1.toNatClampNeg 0)), (0, .ref 1), (1, .int x1)] [.int 5, .int l3_67] i67 a67 q67 r67 (by rfl) ?_
            refine ft_ifS mi_k29 (decide (5 ≤ l3_67)) 82 57 [] (by rfl) (fun c => ?_) (fun c => ?_)
            ·
              have c68 : (5 : Int32).toInt ≤ l3_67.toInt := kd_le c; clear c
              have hG69 := kG_call hJ3 hL67 (by decide +kernel)
              have E70 : cT 1 i67 a67 = (cPaid (i 64) (i 70) x1 5 (cT0 1 i a)) := cP_end O67_0 (kj_five0 (oi6 c68 koi5))
              have E70_0 : i67 450 = (cPaid (i 64) (i 70) x1 5 (cT0 1 i a)).1 := (cT_1 E70).1
              have E70_1 : a67 8 = (cPaid (i 64) (i 70) x1 5 (cT0 1 i a)).2.1 := (cT_1 E70).2.1
              have E70_2 : a67 9 = (cPaid (i 64) (i 70) x1 5 (cT0 1 i a)).2.2.1 := (cT_1 E70).2.2.1
              have E70_3 : a67 2 = (cPaid (i 64) (i 70) x1 5 (cT0 1 i a)).2.2.2.1 := (cT_1 E70).2.2.2.1
              have E70_4 : i67 78 = (cPaid (i 64) (i 70) x1 5 (cT0 1 i a)).2.2.2.2.1 := (cT_1 E70).2.2.2.2.1
              have E70_5 : i67 79 = (cPaid (i 64) (i 70) x1 5 (cT0 1 i a)).2.2.2.2.2.1 := (cT_1 E70).2.2.2.2.2.1
              have E70_6 : a67 14 = (cPaid (i 64) (i 70) x1 5 (cT0 1 i a)).2.2.2.2.2.2.1 := (cT_1 E70).2.2.2.2.2.2.1
              have E70_r0 : a67 16 = (cPaid (i 64) (i 70) x1 5 (cT0 1 i a)).2.2.2.2.2.2.2 0 := (cT_1 E70).2.2.2.2.2.2.2 0 (by decide)
              have E70_r1 : a67 17 = (cPaid (i 64) (i 70) x1 5 (cT0 1 i a)).2.2.2.2.2.2.2 1 := (cT_1 E70).2.2.2.2.2.2.2 1 (by decide)
              have E70_r2 : a67 18 = (cPaid (i 64) (i 70) x1 5 (cT0 1 i a)).2.2.2.2.2.2.2 2 := (cT_1 E70).2.2.2.2.2.2.2 2 (by decide)
              have E70_r3 : a67 19 = (cPaid (i 64) (i 70) x1 5 (cT0 1 i a)).2.2.2.2.2.2.2 3 := (cT_1 E70).2.2.2.2.2.2.2 3 (by decide)
              have E70_r4 : a67 20 = (cPaid (i 64) (i 70) x1 5 (cT0 1 i a)).2.2.2.2.2.2.2 4 := (cT_1 E70).2.2.2.2.2.2.2 4 (by decide)
              have E70_r5 : a67 21 = (cPaid (i 64) (i 70) x1 5 (cT0 1 i a)).2.2.2.2.2.2.2 5 := (cT_1 E70).2.2.2.2.2.2.2 5 (by decide)
              have E70_r6 : a67 22 = (cPaid (i 64) (i 70) x1 5 (cT0 1 i a)).2.2.2.2.2.2.2 6 := (cT_1 E70).2.2.2.2.2.2.2 6 (by decide)
              have E70_r7 : a67 23 = (cPaid (i 64) (i 70) x1 5 (cT0 1 i a)).2.2.2.2.2.2.2 7 := (cT_1 E70).2.2.2.2.2.2.2 7 (by decide)
              have er71 : r67 0 = r 0 := hL67.fr 0 rfl
              have el72 : a67 (r 0 + 1) = a (r 0 + 1) := by rcases hr.1 with ⟨hz, _⟩ | ⟨hz, _⟩ <;> rw [hz] <;> exact hL67.fa _ rfl
              have el73 : a67 (r 0 + 2) = a (r 0 + 2) := by rcases hr.1 with ⟨hz, _⟩ | ⟨hz, _⟩ <;> rw [hz] <;> exact hL67.fa _ rfl
              have el74 : a67 (r 0 + 3) = a (r 0 + 3) := by rcases hr.1 with ⟨hz, _⟩ | ⟨hz, _⟩ <;> rw [hz] <;> exact hL67.fa _ rfl
              have el75 : i67 (64 * r 0) = i (64 * r 0) := by rcases hr.1 with ⟨hz, _⟩ | ⟨hz, _⟩ <;> rw [hz] <;> exact hL67.fi _ rfl
              have el76 : i67 (64 * r 0 + 3) = i (64 * r 0 + 3) := by rcases hr.1 with ⟨hz, _⟩ | ⟨hz, _⟩ <;> rw [hz] <;> exact hL67.fi _ rfl
              first | refine fo_goS mi_k29 fz29_82_4_86 [.int ((a 2).getD x1.toNatClampNeg 0), .int x1, .ref 1, .ref 1] (by rfl) ?_ | refine ft_go mi_k29 4 86 [(3, .int l3_67), (2, .int ((a 2).getD x1.toNatClampNeg 0)), (0, .ref 1), (1, .int x1)] [.int ((a 2).getD x1.toNatClampNeg 0), .int x1, .ref 1, .ref 1] i67 a67 q67 r67 (by rfl) ?_
              refine ko_callI mi_k29.1 (pc := 86) (ls := [(3, .int l3_67), (2, .int ((a 2).getD x1.toNatClampNeg 0)), (0, .ref 1), (1, .int x1)]) (st := [.int ((a 2).getD x1.toNatClampNeg 0), .int x1, .ref 1, .ref 1]) (h := ks i67 a67 q67 r67) (i := (.invokevirtual 100, 3, 31, 0, 9, 0, 223)) (mi_k29.2 _ _ (by rfl)) (ft_invS mi_pq31 (by rfl)) (cy := mi_c31) mi_pq31 rfl (ke31_1 hG69.I hG69.R x1 ((a 2).getD x1.toNatClampNeg 0) (oi67 fi_64.2 z5.1 z5.2)) (by decide) ?_
              intro vg77 ig77 ag77 qg77 rg77 kg77 hg77
              have hGg77 := kG_call hG69 kg77 (by decide +kernel)
              obtain ⟨hg77, og77⟩ := hg77
              have q78 : vg77 = cBuyV (i67 (64 * r67 0)) (a67 (r67 0 + 1)) (a67 (r67 0 + 2)) (a67 (r67 0 + 3)) (i67 (64 * r67 0 + 3)) ((a67 3).getD x1.toNatClampNeg 0) ((a 2).getD x1.toNatClampNeg 0) ((a67 4).getD x1.toNatClampNeg 0) (i67 73) ((a67 6).getD x1.toNatClampNeg 0) (i67 72) := og77
              have hJ79 := kG_i hGg77 80 rfl (v := vg77) (kd_bd _)
              first | refine fo_goI mi_k29 fz29_89_6_101 [.int vg77, .int x1, .ref 7] (ku ig77 80 vg77) (by rfl) ?_ | refine ft_go mi_k29 6 101 [(3, .int l3_67), (2, .int ((a 2).getD x1.toNatClampNeg 0)), (0, .ref 1), (1, .int x1)] [.int vg77, .int x1, .ref 7] (ku ig77 80 vg77) ag77 qg77 rg77 (by rfl) ?_
              have efig77_450 : (ig77 450).toInt = (i67 450).toInt := kg77.ti 450 rfl
              refine ko_callN mi_k29.1 (pc := 101) (ls := [(3, .int l3_67), (2, .int ((a 2).getD x1.toNatClampNeg 0)), (0, .ref 1), (1, .int x1)]) (st := [.int vg77, .int x1, .ref 7]) (h := ks (ku ig77 80 vg77) ag77 qg77 rg77) (i := (.invokevirtual 104, 3, 1, 0, 9, 0, 228)) (mi_k29.2 _ _ (by rfl)) (ft_invS mi_pq1 (by rfl)) (cy := mi_c1) mi_pq1 rfl (kf1_7 hJ79.I hJ79.R x1 vg77 (oi73 c68 efig77_450 p67_1 koi5)) (by decide) ?_
              intro ig80 ag80 qg80 rg80 kg80 hg80
              have hGg80 := kG_call hJ79 kg80 (by decide +kernel)
              obtain ⟨hg80, og80⟩ := hg80
              have q82 : ag80 8 = (ag77 8).set (ig77 450).toNatClampNeg x1 := og80.1
              have q83 : ag80 9 = (ag77 9).set (ig77 450).toNatClampNeg vg77 := og80.2.1
              have q84 : ig80 450 = ig77 450 + 1 := og80.2.2
              have b85 : ((-2147483648 : Int) ≤ (ig80 73).toInt) ∧ ((ig80 73).toInt ≤ 2147483647) := kd_bd (ig80 73)
              have hJ86 := kG_i hGg80 73 rfl (v := ((ig80 73) + 1)) (kd_bd _)
              first | refine fo_goI mi_k29 fz29_104_10_120 [.int x1, .ref 6, .int x1, .ref 6] (ku ig80 73 ((ig80 73) + 1)) (by rfl) ?_ | refine ft_go mi_k29 10 120 [(3, .int l3_67), (2, .int ((a 2).getD x1.toNatClampNeg 0)), (0, .ref 1), (1, .int x1)] [.int x1, .ref 6, .int x1, .ref 6] (ku ig80 73 ((ig80 73) + 1)) ag80 qg80 rg80 (by rfl) ?_
              refine ko_iald3 mi_k29.1 (n := 8) (c := 8) (ax := (0, 0, 0, 0, 0)) (mi_k29.2 _ _ (by rfl)) (by rfl) (ksG6 _ _ _ _) (hJ86.I.2.1 6) rfl (oi4 z5.1) (oi5 fi_64.2 z5.2) ?_
              have b87 : ((-2147483648 : Int) ≤ ((ag80 6).getD x1.toNatClampNeg 0).toInt) ∧ (((ag80 6).getD x1.toNatClampNeg 0).toInt ≤ 2147483647) := kd_bd ((ag80 6).getD x1.toNatClampNeg 0)
              first | refine fo_goS mi_k29 fz29_121_2_123 [.int (((ag80 6).getD x1.toNatClampNeg 0) + 1), .int x1, .ref 6] (by rfl) ?_ | refine ft_go mi_k29 2 123 [(3, .int l3_67), (2, .int ((a 2).getD x1.toNatClampNeg 0)), (0, .ref 1), (1, .int x1)] [.int (((ag80 6).getD x1.toNatClampNeg 0) + 1), .int x1, .ref 6] (ku ig80 73 ((ig80 73) + 1)) ag80 qg80 rg80 (by rfl) ?_
              refine ko_iast3 mi_k29.1 (n := 8) (c := 8) (ax := (0, 0, 0, 0, 0)) (mi_k29.2 _ _ (by rfl)) (by rfl) (ksG6 _ _ _ _) (ksA6 _ _ _ _) (hJ86.I.2.1 6) rfl (oi4 z5.1) (oi5 fi_64.2 z5.2) ?_
              intro a88 ea88 fa88
              have hJ88 := kG_a3 hJ86 6 rfl ea88 fa88 (kd_bd _)
              first | refine fo_goS mi_k29 fz29_124_4_130 [.int 0, .ref 14, .int 0, .ref 14] (by rfl) ?_ | refine ft_go mi_k29 4 130 [(3, .int l3_67), (2, .int ((a 2).getD x1.toNatClampNeg 0)), (0, .ref 1), (1, .int x1)] [.int 0, .ref 14, .int 0, .ref 14] (ku ig80 73 ((ig80 73) + 1)) a88 qg80 rg80 (by rfl) ?_
              refine ko_iald3 mi_k29.1 (n := 5) (c := 5) (ax := (0, 0, 0, 0, 0)) (mi_k29.2 _ _ (by rfl)) (by rfl) (ksG14 _ _ _ _) (hJ88.I.2.1 14) rfl (oi9 koi0) (oi74 koi0) ?_
              have b89 : ((-2147483648 : Int) ≤ ((a88 14).getD (0 : Int32).toNatClampNeg 0).toInt) ∧ (((a88 14).getD (0 : Int32).toNatClampNeg 0).toInt ≤ 2147483647) := kd_bd ((a88 14).getD (0 : Int32).toNatClampNeg 0)
              first | refine fo_goS mi_k29 fz29_131_2_133 [.int (((a88 14).getD (0 : Int32).toNatClampNeg 0) + 1), .int 0, .ref 14] (by rfl) ?_ | refine ft_go mi_k29 2 133 [(3, .int l3_67), (2, .int ((a 2).getD x1.toNatClampNeg 0)), (0, .ref 1), (1, .int x1)] [.int (((a88 14).getD (0 : Int32).toNatClampNeg 0) + 1), .int 0, .ref 14] (ku ig80 73 ((ig80 73) + 1)) a88 qg80 rg80 (by rfl) ?_
              refine ko_iast3 mi_k29.1 (n := 5) (c := 5) (ax := (0, 0, 0, 0, 0)) (mi_k29.2 _ _ (by rfl)) (by rfl) (ksG14 _ _ _ _) (ksA14 _ _ _ _) (hJ88.I.2.1 14) rfl (oi9 koi0) (oi74 koi0) ?_
              intro a90 ea90 fa90
              have hJ90 := kG_a3 hJ88 14 rfl ea90 fa90 (kd_bd _)
              first | refine fo_goS mi_k29 fz29_134_4_140 [.int 1, .ref 14, .int 1, .ref 14] (by rfl) ?_ | refine ft_go mi_k29 4 140 [(3, .int l3_67), (2, .int ((a 2).getD x1.toNatClampNeg 0)), (0, .ref 1), (1, .int x1)] [.int 1, .ref 14, .int 1, .ref 14] (ku ig80 73 ((ig80 73) + 1)) a90 qg80 rg80 (by rfl) ?_
              refine ko_iald3 mi_k29.1 (n := 5) (c := 5) (ax := (0, 0, 0, 0, 0)) (mi_k29.2 _ _ (by rfl)) (by rfl) (ksG14 _ _ _ _) (hJ90.I.2.1 14) rfl (oi11 koi1) (oi75 koi1) ?_
              have b91 : ((-2147483648 : Int) ≤ ((a90 14).getD (1 : Int32).toNatClampNeg 0).toInt) ∧ (((a90 14).getD (1 : Int32).toNatClampNeg 0).toInt ≤ 2147483647) := kd_bd ((a90 14).getD (1 : Int32).toNatClampNeg 0)
              have b92 : ((-2147483648 : Int) ≤ (ig80 79).toInt) ∧ ((ig80 79).toInt ≤ 2147483647) := kd_bd (ig80 79)
              first | refine fo_goS mi_k29 fz29_141_3_146 [.int (((a90 14).getD (1 : Int32).toNatClampNeg 0) + (ig80 79)), .int 1, .ref 14] (by rfl) ?_ | refine ft_go mi_k29 3 146 [(3, .int l3_67), (2, .int ((a 2).getD x1.toNatClampNeg 0)), (0, .ref 1), (1, .int x1)] [.int (((a90 14).getD (1 : Int32).toNatClampNeg 0) + (ig80 79)), .int 1, .ref 14] (ku ig80 73 ((ig80 73) + 1)) a90 qg80 rg80 (by rfl) ?_
              refine ko_iast3 mi_k29.1 (n := 5) (c := 5) (ax := (0, 0, 0, 0, 0)) (mi_k29.2 _ _ (by rfl)) (by rfl) (ksG14 _ _ _ _) (ksA14 _ _ _ _) (hJ90.I.2.1 14) rfl (oi11 koi1) (oi75 koi1) ?_
              intro a93 ea93 fa93
              have hJ93 := kG_a3 hJ90 14 rfl ea93 fa93 (kd_bd _)
              first | refine fo_goS mi_k29 fz29_147_2_151 [.int (ig80 79)] (by rfl) ?_ | refine ft_go mi_k29 2 151 [(3, .int l3_67), (2, .int ((a 2).getD x1.toNatClampNeg 0)), (0, .ref 1), (1, .int x1)] [.int (ig80 79)] (ku ig80 73 ((ig80 73) + 1)) a93 qg80 rg80 (by rfl) ?_
              exact ft_ret mi_k29 (by rfl) (hP (ig80 79) _ _ _ _ hJ93 ⟨trivial, ⟨(fun _ => (show ig80 450 = (cPaid (i 64) (i 70) x1 5 (cT0 1 i a)).1 + 1 from (by first | rfl | (simp only [q84, (show ig77 450 = i67 450 from kg77.fi 450 rfl), E70_0, er71, el72, el73, el74, el75, el76, sMn, sMx]; done) | (simp only [q84, (show ig77 450 = i67 450 from kg77.fi 450 rfl), E70_0, er71, el72, el73, el74, el75, el76, sMn, sMx]; rfl)))), (fun _ => (show a93 8 = (cPaid (i 64) (i 70) x1 5 (cT0 1 i a)).2.1.set (cPaid (i 64) (i 70) x1 5 (cT0 1 i a)).1.toNatClampNeg x1 from (by first | rfl | (simp only [fa93 8 (by decide), fa90 8 (by decide), fa88 8 (by decide), q82, kg77.fa 8 rfl, (show ig77 450 = i67 450 from kg77.fi 450 rfl), E70_0, E70_1, er71, el72, el73, el74, el75, el76, sMn, sMx]; done) | (simp only [fa93 8 (by decide), fa90 8 (by decide), fa88 8 (by decide), q82, kg77.fa 8 rfl, (show ig77 450 = i67 450 from kg77.fi 450 rfl), E70_0, E70_1, er71, el72, el73, el74, el75, el76, sMn, sMx]; rfl)))), (fun _ => (show a93 9 = (cPaid (i 64) (i 70) x1 5 (cT0 1 i a)).2.2.1.set (cPaid (i 64) (i 70) x1 5 (cT0 1 i a)).1.toNatClampNeg (cBuyV (i (64 * r 0)) (a (r 0 + 1)) (a (r 0 + 2)) (a (r 0 + 3)) (i (64 * r 0 + 3)) ((a 3).getD x1.toNatClampNeg 0) ((a 2).getD x1.toNatClampNeg 0) ((a 4).getD x1.toNatClampNeg 0) (i 73) ((a 6).getD x1.toNatClampNeg 0) (i 72)) from (by first | rfl | (simp only [fa93 9 (by decide), fa90 9 (by decide), fa88 9 (by decide), q83, kg77.fa 9 rfl, (show ig77 450 = i67 450 from kg77.fi 450 rfl), q78, hL67.fa 3 rfl, hL67.fa 4 rfl, (show i67 73 = i 73 from hL67.fi 73 rfl), hL67.fa 6 rfl, (show i67 72 = i 72 from hL67.fi 72 rfl), E70_0, E70_2, er71, el72, el73, el74, el75, el76, sMn, sMx]; done) | (simp only [fa93 9 (by decide), fa90 9 (by decide), fa88 9 (by decide), q83, kg77.fa 9 rfl, (show ig77 450 = i67 450 from kg77.fi 450 rfl), q78, hL67.fa 3 rfl, hL67.fa 4 rfl, (show i67 73 = i 73 from hL67.fi 73 rfl), hL67.fa 6 rfl, (show i67 72 = i 72 from hL67.fi 72 rfl), E70_0, E70_2, er71, el72, el73, el74, el75, el76, sMn, sMx]; rfl)))), (fun _ => (show a93 2 = (cPaid (i 64) (i 70) x1 5 (cT0 1 i a)).2.2.2.1 from (by first | rfl | (simp only [fa93 2 (by decide), fa90 2 (by decide), fa88 2 (by decide), kg80.fa 2 rfl, kg77.fa 2 rfl, E70_3, er71, el72, el73, el74, el75, el76, sMn, sMx]; done) | (simp only [fa93 2 (by decide), fa90 2 (by decide), fa88 2 (by decide), kg80.fa 2 rfl, kg77.fa 2 rfl, E70_3, er71, el72, el73, el74, el75, el76, sMn, sMx]; rfl)))), (fun _ => (show ig80 78 = (cPaid (i 64) (i 70) x1 5 (cT0 1 i a)).2.2.2.2.1 from (by first | rfl | (simp only [(show ig80 78 = ig77 78 from kg80.fi 78 rfl), (show ig77 78 = i67 78 from kg77.fi 78 rfl), E70_4, er71, el72, el73, el74, el75, el76, sMn, sMx]; done) | (simp only [(show ig80 78 = ig77 78 from kg80.fi 78 rfl), (show ig77 78 = i67 78 from kg77.fi 78 rfl), E70_4, er71, el72, el73, el74, el75, el76, sMn, sMx]; rfl)))), (fun _ => (show ig80 79 = (cPaid (i 64) (i 70) x1 5 (cT0 1 i a)).2.2.2.2.2.1 from (by first | rfl | (simp only [(show ig80 79 = ig77 79 from kg80.fi 79 rfl), (show ig77 79 = i67 79 from kg77.fi 79 rfl), E70_5, er71, el72, el73, el74, el75, el76, sMn, sMx]; done) | (simp only [(show ig80 79 = ig77 79 from kg80.fi 79 rfl), (show ig77 79 = i67 79 from kg77.fi 79 rfl), E70_5, er71, el72, el73, el74, el75, el76, sMn, sMx]; rfl)))), (fun _ => (show ig80 80 = (cBuyV (i (64 * r 0)) (a (r 0 + 1)) (a (r 0 + 2)) (a (r 0 + 3)) (i (64 * r 0 + 3)) ((a 3).getD x1.toNatClampNeg 0) ((a 2).getD x1.toNatClampNeg 0) ((a 4).getD x1.toNatClampNeg 0) (i 73) ((a 6).getD x1.toNatClampNeg 0) (i 72)) from (by first | rfl | (simp only [(show ig80 80 = vg77 from kg80.fi 80 rfl), q78, hL67.fa 3 rfl, hL67.fa 4 rfl, (show i67 73 = i 73 from hL67.fi 73 rfl), hL67.fa 6 rfl, (show i67 72 = i 72 from hL67.fi 72 rfl), er71, el72, el73, el74, el75, el76, sMn, sMx]; done) | (simp only [(show ig80 80 = vg77 from kg80.fi 80 rfl), q78, hL67.fa 3 rfl, hL67.fa 4 rfl, (show i67 73 = i 73 from hL67.fi 73 rfl), hL67.fa 6 rfl, (show i67 72 = i 72 from hL67.fi 72 rfl), er71, el72, el73, el74, el75, el76, sMn, sMx]; rfl)))), (fun _ => (show ((ig80 73) + 1) = i 73 + 1 from (by first | rfl | (simp only [(show ig80 73 = ig77 73 from kg80.fi 73 rfl), (show ig77 73 = i67 73 from kg77.fi 73 rfl), (show i67 73 = i 73 from hL67.fi 73 rfl), er71, el72, el73, el74, el75, el76, sMn, sMx]; done) | (simp only [(show ig80 73 = ig77 73 from kg80.fi 73 rfl), (show ig77 73 = i67 73 from kg77.fi 73 rfl), (show i67 73 = i 73 from hL67.fi 73 rfl), er71, el72, el73, el74, el75, el76, sMn, sMx]; rfl)))), (fun _ => (show a93 6 = (a 6).set x1.toNatClampNeg ((a 6).getD x1.toNatClampNeg 0 + 1) from (by first | rfl | (simp only [fa93 6 (by decide), fa90 6 (by decide), ea88, kg80.fa 6 rfl, kg77.fa 6 rfl, hL67.fa 6 rfl, er71, el72, el73, el74, el75, el76, sMn, sMx]; done) | (simp only [fa93 6 (by decide), fa90 6 (by decide), ea88, kg80.fa 6 rfl, kg77.fa 6 rfl, hL67.fa 6 rfl, er71, el72, el73, el74, el75, el76, sMn, sMx]; rfl)))), (fun _ => (show a93 14 = ((cPaid (i 64) (i 70) x1 5 (cT0 1 i a)).2.2.2.2.2.2.1.set (0 : Int32).toNatClampNeg ((cPaid (i 64) (i 70) x1 5 (cT0 1 i a)).2.2.2.2.2.2.1.getD (0 : Int32).toNatClampNeg 0 + 1)).set (1 : Int32).toNatClampNeg (((cPaid (i 64) (i 70) x1 5 (cT0 1 i a)).2.2.2.2.2.2.1.set (0 : Int32).toNatClampNeg ((cPaid (i 64) (i 70) x1 5 (cT0 1 i a)).2.2.2.2.2.2.1.getD (0 : Int32).toNatClampNeg 0 + 1)).getD (1 : Int32).toNatClampNeg 0 + (cPaid (i 64) (i 70) x1 5 (cT0 1 i a)).2.2.2.2.2.1) from (by first | rfl | (simp only [ea93, ea90, (show ig80 79 = ig77 79 from kg80.fi 79 rfl), (show ig77 79 = i67 79 from kg77.fi 79 rfl), E70_5, fa88 14 (by decide), kg80.fa 14 rfl, kg77.fa 14 rfl, E70_6, er71, el72, el73, el74, el75, el76, sMn, sMx]; done) | (simp only [ea93, ea90, (show ig80 79 = ig77 79 from kg80.fi 79 rfl), (show ig77 79 = i67 79 from kg77.fi 79 rfl), E70_5, fa88 14 (by decide), kg80.fa 14 rfl, kg77.fa 14 rfl, E70_6, er71, el72, el73, el74, el75, el76, sMn, sMx]; rfl)))), (fun _ => (show (ig80 79) = (cPaid (i 64) (i 70) x1 5 (cT0 1 i a)).2.2.2.2.2.1 from (by first | rfl | (simp only [(show ig80 79 = ig77 79 from kg80.fi 79 rfl), (show ig77 79 = i67 79 from kg77.fi 79 rfl), E70_5, er71, el72, el73, el74, el75, el76, sMn, sMx]; done) | (simp only [(show ig80 79 = ig77 79 from kg80.fi 79 rfl), (show ig77 79 = i67 79 from kg77.fi 79 rfl), E70_5, er71, el72, el73, el74, el75, el76, sMn, sMx]; rfl)))), (fun _ => (show a93 16 = (cPaid (i 64) (i 70) x1 5 (cT0 1 i a)).2.2.2.2.2.2.2 0 from (by first | rfl | (simp only [fa93 16 (by decide), fa90 16 (by decide), fa88 16 (by decide), kg80.fa 16 rfl, kg77.fa 16 rfl, E70_r0, er71, el72, el73, el74, el75, el76, sMn, sMx]; done) | (simp only [fa93 16 (by decide), fa90 16 (by decide), fa88 16 (by decide), kg80.fa 16 rfl, kg77.fa 16 rfl, E70_r0, er71, el72, el73, el74, el75, el76, sMn, sMx]; rfl)))), (fun _ => (show a93 17 = (cPaid (i 64) (i 70) x1 5 (cT0 1 i a)).2.2.2.2.2.2.2 1 from (by first | rfl | (simp only [fa93 17 (by decide), fa90 17 (by decide), fa88 17 (by decide), kg80.fa 17 rfl, kg77.fa 17 rfl, E70_r1, er71, el72, el73, el74, el75, el76, sMn, sMx]; done) | (simp only [fa93 17 (by decide), fa90 17 (by decide), fa88 17 (by decide), kg80.fa 17 rfl, kg77.fa 17 rfl, E70_r1, er71, el72, el73, el74, el75, el76, sMn, sMx]; rfl)))), (fun _ => (show a93 18 = (cPaid (i 64) (i 70) x1 5 (cT0 1 i a)).2.2.2.2.2.2.2 2 from (by first | rfl | (simp only [fa93 18 (by decide), fa90 18 (by decide), fa88 18 (by decide), kg80.fa 18 rfl, kg77.fa 18 rfl, E70_r2, er71, el72, el73, el74, el75, el76, sMn, sMx]; done) | (simp only [fa93 18 (by decide), fa90 18 (by decide), fa88 18 (by decide), kg80.fa 18 rfl, kg77.fa 18 rfl, E70_r2, er71, el72, el73, el74, el75, el76, sMn, sMx]; rfl)))), (fun _ => (show a93 19 = (cPaid (i 64) (i 70) x1 5 (cT0 1 i a)).2.2.2.2.2.2.2 3 from (by first | rfl | (simp only [fa93 19 (by decide), fa90 19 (by decide), fa88 19 (by decide), kg80.fa 19 rfl, kg77.fa 19 rfl, E70_r3, er71, el72, el73, el74, el75, el76, sMn, sMx]; done) | (simp only [fa93 19 (by decide), fa90 19 (by decide), fa88 19 (by decide), kg80.fa 19 rfl, kg77.fa 19 rfl, E70_r3, er71, el72, el73, el74, el75, el76, sMn, sMx]; rfl)))), (fun _ => (show a93 20 = (cPaid (i 64) (i 70) x1 5 (cT0 1 i a)).2.2.2.2.2.2.2 4 from (by first | rfl | (simp only [fa93 20 (by decide), fa90 20 (by decide), fa88 20 (by decide), kg80.fa 20 rfl, kg77.fa 20 rfl, E70_r4, er71, el72, el73, el74, el75, el76, sMn, sMx]; done) | (simp only [fa93 20 (by decide), fa90 20 (by decide), fa88 20 (by decide), kg80.fa 20 rfl, kg77.fa 20 rfl, E70_r4, er71, el72, el73, el74, el75, el76, sMn, sMx]; rfl)))), (fun _ => (show a93 21 = (cPaid (i 64) (i 70) x1 5 (cT0 1 i a)).2.2.2.2.2.2.2 5 from (by first | rfl | (simp only [fa93 21 (by decide), fa90 21 (by decide), fa88 21 (by decide), kg80.fa 21 rfl, kg77.fa 21 rfl, E70_r5, er71, el72, el73, el74, el75, el76, sMn, sMx]; done) | (simp only [fa93 21 (by decide), fa90 21 (by decide), fa88 21 (by decide), kg80.fa 21 rfl, kg77.fa 21 rfl, E70_r5, er71, el72, el73, el74, el75, el76, sMn, sMx]; rfl)))), (fun _ => (show a93 22 = (cPaid (i 64) (i 70) x1 5 (cT0 1 i a)).2.2.2.2.2.2.2 6 from (by first | rfl | (simp only [fa93 22 (by decide), fa90 22 (by decide), fa88 22 (by decide), kg80.fa 22 rfl, kg77.fa 22 rfl, E70_r6, er71, el72, el73, el74, el75, el76, sMn, sMx]; done) | (simp only [fa93 22 (by decide), fa90 22 (by decide), fa88 22 (by decide), kg80.fa 22 rfl, kg77.fa 22 rfl, E70_r6, er71, el72, el73, el74, el75, el76, sMn, sMx]; rfl)))), (fun _ => (show a93 23 = (cPaid (i 64) (i 70) x1 5 (cT0 1 i a)).2.2.2.2.2.2.2 7 from (by first | rfl | (simp only [fa93 23 (by decide), fa90 23 (by decide), fa88 23 (by decide), kg80.fa 23 rfl, kg77.fa 23 rfl, E70_r7, er71, el72, el73, el74, el75, el76, sMn, sMx]; done) | (simp only [fa93 23 (by decide), fa90 23 (by decide), fa88 23 (by decide), kg80.fa 23 rfl, kg77.fa 23 rfl, E70_r7, er71, el72, el73, el74, el75, el76, sMn, sMx]; rfl)))), (fun h => absurd h (oi187 c66 z5.1 z5.2 koi1)), (fun h => absurd h (oi187 c66 z5.1 z5.2 koi1)), (fun h => absurd h (oi187 c66 z5.1 z5.2 koi1)), (fun h => absurd h (oi187 c66 z5.1 z5.2 koi1)), (fun h => absurd h (oi187 c66 z5.1 z5.2 koi1)), (fun h => absurd h (oi187 c66 z5.1 z5.2 koi1)), (fun h => absurd h (oi187 c66 z5.1 z5.2 koi1)), (fun h => absurd h (oi187 c66 z5.1 z5.2 koi1)), (fun h => absurd h (oi187 c66 z5.1 z5.2 koi1)), (fun h => absurd h (oi187 c66 z5.1 z5.2 koi1)), (fun h => absurd h (oi187 c66 z5.1 z5.2 koi1)), (fun h => absurd h (oi187 c66 z5.1 z5.2 koi1)), (fun h => absurd h (oi187 c66 z5.1 z5.2 koi1)), (fun h => absurd h (oi187 c66 z5.1 z5.2 koi1)), (fun h => absurd h (oi187 c66 z5.1 z5.2 koi1)), (fun h => absurd h (oi187 c66 z5.1 z5.2 koi1)), (fun h => absurd h (oi187 c66 z5.1 z5.2 koi1)), (fun h => absurd h (oi187 c66 z5.1 z5.2 koi1)), (fun h => absurd h (oi187 c66 z5.1 z5.2 koi1))⟩⟩)
            ·
              have c94 : l3_67.toInt < (5 : Int32).toInt := kd_leF c; clear c
              have efi67_70 : (i67 70).toInt = (i 70).toInt := hL67.ti 70 rfl
              first | refine fo_goS mi_k29 fz29_57_5_68 [.int (i67 70), .int (i67 450)] (by rfl) ?_ | refine ft_go mi_k29 5 68 [(3, .int l3_67), (2, .int ((a 2).getD x1.toNatClampNeg 0)), (0, .ref 1), (1, .int x1)] [.int (i67 70), .int (i67 450)] i67 a67 q67 r67 (by rfl) ?_
              refine ft_ifS mi_k29 (decide ((i67 450) < (i67 70))) 82 71 [] (by rfl) (fun c => ?_) (fun c => ?_)
              ·
                have c95 : (i67 450).toInt < (i67 70).toInt := kd_lt c; clear c
                have hG96 := kG_call hJ3 hL67 (by decide +kernel)
                have E97 : cT 1 i67 a67 = (cPaid (i 64) (i 70) x1 5 (cT0 1 i a)) := cP_done O67_0 (oi39 c95 efi67_70)
                have E97_0 : i67 450 = (cPaid (i 64) (i 70) x1 5 (cT0 1 i a)).1 := (cT_1 E97).1
                have E97_1 : a67 8 = (cPaid (i 64) (i 70) x1 5 (cT0 1 i a)).2.1 := (cT_1 E97).2.1
                have E97_2 : a67 9 = (cPaid (i 64) (i 70) x1 5 (cT0 1 i a)).2.2.1 := (cT_1 E97).2.2.1
                have E97_3 : a67 2 = (cPaid (i 64) (i 70) x1 5 (cT0 1 i a)).2.2.2.1 := (cT_1 E97).2.2.2.1
                have E97_4 : i67 78 = (cPaid (i 64) (i 70) x1 5 (cT0 1 i a)).2.2.2.2.1 := (cT_1 E97).2.2.2.2.1
                have E97_5 : i67 79 = (cPaid (i 64) (i 70) x1 5 (cT0 1 i a)).2.2.2.2.2.1 := (cT_1 E97).2.2.2.2.2.1
                have E97_6 : a67 14 = (cPaid (i 64) (i 70) x1 5 (cT0 1 i a)).2.2.2.2.2.2.1 := (cT_1 E97).2.2.2.2.2.2.1
                have E97_r0 : a67 16 = (cPaid (i 64) (i 70) x1 5 (cT0 1 i a)).2.2.2.2.2.2.2 0 := (cT_1 E97).2.2.2.2.2.2.2 0 (by decide)
                have E97_r1 : a67 17 = (cPaid (i 64) (i 70) x1 5 (cT0 1 i a)).2.2.2.2.2.2.2 1 := (cT_1 E97).2.2.2.2.2.2.2 1 (by decide)
                have E97_r2 : a67 18 = (cPaid (i 64) (i 70) x1 5 (cT0 1 i a)).2.2.2.2.2.2.2 2 := (cT_1 E97).2.2.2.2.2.2.2 2 (by decide)
                have E97_r3 : a67 19 = (cPaid (i 64) (i 70) x1 5 (cT0 1 i a)).2.2.2.2.2.2.2 3 := (cT_1 E97).2.2.2.2.2.2.2 3 (by decide)
                have E97_r4 : a67 20 = (cPaid (i 64) (i 70) x1 5 (cT0 1 i a)).2.2.2.2.2.2.2 4 := (cT_1 E97).2.2.2.2.2.2.2 4 (by decide)
                have E97_r5 : a67 21 = (cPaid (i 64) (i 70) x1 5 (cT0 1 i a)).2.2.2.2.2.2.2 5 := (cT_1 E97).2.2.2.2.2.2.2 5 (by decide)
                have E97_r6 : a67 22 = (cPaid (i 64) (i 70) x1 5 (cT0 1 i a)).2.2.2.2.2.2.2 6 := (cT_1 E97).2.2.2.2.2.2.2 6 (by decide)
                have E97_r7 : a67 23 = (cPaid (i 64) (i 70) x1 5 (cT0 1 i a)).2.2.2.2.2.2.2 7 := (cT_1 E97).2.2.2.2.2.2.2 7 (by decide)
                have er98 : r67 0 = r 0 := hL67.fr 0 rfl
                have el99 : a67 (r 0 + 1) = a (r 0 + 1) := by rcases hr.1 with ⟨hz, _⟩ | ⟨hz, _⟩ <;> rw [hz] <;> exact hL67.fa _ rfl
                have el100 : a67 (r 0 + 2) = a (r 0 + 2) := by rcases hr.1 with ⟨hz, _⟩ | ⟨hz, _⟩ <;> rw [hz] <;> exact hL67.fa _ rfl
                have el101 : a67 (r 0 + 3) = a (r 0 + 3) := by rcases hr.1 with ⟨hz, _⟩ | ⟨hz, _⟩ <;> rw [hz] <;> exact hL67.fa _ rfl
                have el102 : i67 (64 * r 0) = i (64 * r 0) := by rcases hr.1 with ⟨hz, _⟩ | ⟨hz, _⟩ <;> rw [hz] <;> exact hL67.fi _ rfl
                have el103 : i67 (64 * r 0 + 3) = i (64 * r 0 + 3) := by rcases hr.1 with ⟨hz, _⟩ | ⟨hz, _⟩ <;> rw [hz] <;> exact hL67.fi _ rfl
                first | refine fo_goS mi_k29 fz29_82_4_86 [.int ((a 2).getD x1.toNatClampNeg 0), .int x1, .ref 1, .ref 1] (by rfl) ?_ | refine ft_go mi_k29 4 86 [(3, .int l3_67), (2, .int ((a 2).getD x1.toNatClampNeg 0)), (0, .ref 1), (1, .int x1)] [.int ((a 2).getD x1.toNatClampNeg 0), .int x1, .ref 1, .ref 1] i67 a67 q67 r67 (by rfl) ?_
                refine ko_callI mi_k29.1 (pc := 86) (ls := [(3, .int l3_67), (2, .int ((a 2).getD x1.toNatClampNeg 0)), (0, .ref 1), (1, .int x1)]) (st := [.int ((a 2).getD x1.toNatClampNeg 0), .int x1, .ref 1, .ref 1]) (h := ks i67 a67 q67 r67) (i := (.invokevirtual 100, 3, 31, 0, 9, 0, 223)) (mi_k29.2 _ _ (by rfl)) (ft_invS mi_pq31 (by rfl)) (cy := mi_c31) mi_pq31 rfl (ke31_1 hG96.I hG96.R x1 ((a 2).getD x1.toNatClampNeg 0) (oi67 fi_64.2 z5.1 z5.2)) (by decide) ?_
                intro vg104 ig104 ag104 qg104 rg104 kg104 hg104
                have hGg104 := kG_call hG96 kg104 (by decide +kernel)
                obtain ⟨hg104, og104⟩ := hg104
                have q105 : vg104 = cBuyV (i67 (64 * r67 0)) (a67 (r67 0 + 1)) (a67 (r67 0 + 2)) (a67 (r67 0 + 3)) (i67 (64 * r67 0 + 3)) ((a67 3).getD x1.toNatClampNeg 0) ((a 2).getD x1.toNatClampNeg 0) ((a67 4).getD x1.toNatClampNeg 0) (i67 73) ((a67 6).getD x1.toNatClampNeg 0) (i67 72) := og104
                have hJ106 := kG_i hGg104 80 rfl (v := vg104) (kd_bd _)
                first | refine fo_goI mi_k29 fz29_89_6_101 [.int vg104, .int x1, .ref 7] (ku ig104 80 vg104) (by rfl) ?_ | refine ft_go mi_k29 6 101 [(3, .int l3_67), (2, .int ((a 2).getD x1.toNatClampNeg 0)), (0, .ref 1), (1, .int x1)] [.int vg104, .int x1, .ref 7] (ku ig104 80 vg104) ag104 qg104 rg104 (by rfl) ?_
                have efig104_450 : (ig104 450).toInt = (i67 450).toInt := kg104.ti 450 rfl
                refine ko_callN mi_k29.1 (pc := 101) (ls := [(3, .int l3_67), (2, .int ((a 2).getD x1.toNatClampNeg 0)), (0, .ref 1), (1, .int x1)]) (st := [.int vg104, .int x1, .ref 7]) (h := ks (ku ig104 80 vg104) ag104 qg104 rg104) (i := (.invokevirtual 104, 3, 1, 0, 9, 0, 228)) (mi_k29.2 _ _ (by rfl)) (ft_invS mi_pq1 (by rfl)) (cy := mi_c1) mi_pq1 rfl (kf1_7 hJ106.I hJ106.R x1 vg104 (oi79 c95 efi67_70 efig104_450 hp0.2)) (by decide) ?_
                intro ig107 ag107 qg107 rg107 kg107 hg107
                have hGg107 := kG_call hJ106 kg107 (by decide +kernel)
                obtain ⟨hg107, og107⟩ := hg107
                have q109 : ag107 8 = (ag104 8).set (ig104 450).toNatClampNeg x1 := og107.1
                have q110 : ag107 9 = (ag104 9).set (ig104 450).toNatClampNeg vg104 := og107.2.1
                have q111 : ig107 450 = ig104 450 + 1 := og107.2.2
                have b112 : ((-2147483648 : Int) ≤ (ig107 73).toInt) ∧ ((ig107 73).toInt ≤ 2147483647) := kd_bd (ig107 73)
                have hJ113 := kG_i hGg107 73 rfl (v := ((ig107 73) + 1)) (kd_bd _)
                first | refine fo_goI mi_k29 fz29_104_10_120 [.int x1, .ref 6, .int x1, .ref 6] (ku ig107 73 ((ig107 73) + 1)) (by rfl) ?_ | refine ft_go mi_k29 10 120 [(3, .int l3_67), (2, .int ((a 2).getD x1.toNatClampNeg 0)), (0, .ref 1), (1, .int x1)] [.int x1, .ref 6, .int x1, .ref 6] (ku ig107 73 ((ig107 73) + 1)) ag107 qg107 rg107 (by rfl) ?_
                refine ko_iald3 mi_k29.1 (n := 8) (c := 8) (ax := (0, 0, 0, 0, 0)) (mi_k29.2 _ _ (by rfl)) (by rfl) (ksG6 _ _ _ _) (hJ113.I.2.1 6) rfl (oi4 z5.1) (oi5 fi_64.2 z5.2) ?_
                have b114 : ((-2147483648 : Int) ≤ ((ag107 6).getD x1.toNatClampNeg 0).toInt) ∧ (((ag107 6).getD x1.toNatClampNeg 0).toInt ≤ 2147483647) := kd_bd ((ag107 6).getD x1.toNatClampNeg 0)
                first | refine fo_goS mi_k29 fz29_121_2_123 [.int (((ag107 6).getD x1.toNatClampNeg 0) + 1), .int x1, .ref 6] (by rfl) ?_ | refine ft_go mi_k29 2 123 [(3, .int l3_67), (2, .int ((a 2).getD x1.toNatClampNeg 0)), (0, .ref 1), (1, .int x1)] [.int (((ag107 6).getD x1.toNatClampNeg 0) + 1), .int x1, .ref 6] (ku ig107 73 ((ig107 73) + 1)) ag107 qg107 rg107 (by rfl) ?_
                refine ko_iast3 mi_k29.1 (n := 8) (c := 8) (ax := (0, 0, 0, 0, 0)) (mi_k29.2 _ _ (by rfl)) (by rfl) (ksG6 _ _ _ _) (ksA6 _ _ _ _) (hJ113.I.2.1 6) rfl (oi4 z5.1) (oi5 fi_64.2 z5.2) ?_
                intro a115 ea115 fa115
                have hJ115 := kG_a3 hJ113 6 rfl ea115 fa115 (kd_bd _)
                first | refine fo_goS mi_k29 fz29_124_4_130 [.int 0, .ref 14, .int 0, .ref 14] (by rfl) ?_ | refine ft_go mi_k29 4 130 [(3, .int l3_67), (2, .int ((a 2).getD x1.toNatClampNeg 0)), (0, .ref 1), (1, .int x1)] [.int 0, .ref 14, .int 0, .ref 14] (ku ig107 73 ((ig107 73) + 1)) a115 qg107 rg107 (by rfl) ?_
                refine ko_iald3 mi_k29.1 (n := 5) (c := 5) (ax := (0, 0, 0, 0, 0)) (mi_k29.2 _ _ (by rfl)) (by rfl) (ksG14 _ _ _ _) (hJ115.I.2.1 14) rfl (oi9 koi0) (oi74 koi0) ?_
                have b116 : ((-2147483648 : Int) ≤ ((a115 14).getD (0 : Int32).toNatClampNeg 0).toInt) ∧ (((a115 14).getD (0 : Int32).toNatClampNeg 0).toInt ≤ 2147483647) := kd_bd ((a115 14).getD (0 : Int32).toNatClampNeg 0)
                first | refine fo_goS mi_k29 fz29_131_2_133 [.int (((a115 14).getD (0 : Int32).toNatClampNeg 0) + 1), .int 0, .ref 14] (by rfl) ?_ | refine ft_go mi_k29 2 133 [(3, .int l3_67), (2, .int ((a 2).getD x1.toNatClampNeg 0)), (0, .ref 1), (1, .int x1)] [.int (((a115 14).getD (0 : Int32).toNatClampNeg 0) + 1), .int 0, .ref 14] (ku ig107 73 ((ig107 73) + 1)) a115 qg107 rg107 (by rfl) ?_
                refine ko_iast3 mi_k29.1 (n := 5) (c := 5) (ax := (0, 0, 0, 0, 0)) (mi_k29.2 _ _ (by rfl)) (by rfl) (ksG14 _ _ _ _) (ksA14 _ _ _ _) (hJ115.I.2.1 14) rfl (oi9 koi0) (oi74 koi0) ?_
                intro a117 ea117 fa117
                have hJ117 := kG_a3 hJ115 14 rfl ea117 fa117 (kd_bd _)
                first | refine fo_goS mi_k29 fz29_134_4_140 [.int 1, .ref 14, .int 1, .ref 14] (by rfl) ?_ | refine ft_go mi_k29 4 140 [(3, .int l3_67), (2, .int ((a 2).getD x1.toNatClampNeg 0)), (0, .ref 1), (1, .int x1)] [.int 1, .ref 14, .int 1, .ref 14] (ku ig107 73 ((ig107 73) + 1)) a117 qg107 rg107 (by rfl) ?_
                refine ko_iald3 mi_k29.1 (n := 5) (c := 5) (ax := (0, 0, 0, 0, 0)) (mi_k29.2 _ _ (by rfl)) (by rfl) (ksG14 _ _ _ _) (hJ117.I.2.1 14) rfl (oi11 koi1) (oi75 koi1) ?_
                have b118 : ((-2147483648 : Int) ≤ ((a117 14).getD (1 : Int32).toNatClampNeg 0).toInt) ∧ (((a117 14).getD (1 : Int32).toNatClampNeg 0).toInt ≤ 2147483647) := kd_bd ((a117 14).getD (1 : Int32).toNatClampNeg 0)
                have b119 : ((-2147483648 : Int) ≤ (ig107 79).toInt) ∧ ((ig107 79).toInt ≤ 2147483647) := kd_bd (ig107 79)
                first | refine fo_goS mi_k29 fz29_141_3_146 [.int (((a117 14).getD (1 : Int32).toNatClampNeg 0) + (ig107 79)), .int 1, .ref 14] (by rfl) ?_ | refine ft_go mi_k29 3 146 [(3, .int l3_67), (2, .int ((a 2).getD x1.toNatClampNeg 0)), (0, .ref 1), (1, .int x1)] [.int (((a117 14).getD (1 : Int32).toNatClampNeg 0) + (ig107 79)), .int 1, .ref 14] (ku ig107 73 ((ig107 73) + 1)) a117 qg107 rg107 (by rfl) ?_
                refine ko_iast3 mi_k29.1 (n := 5) (c := 5) (ax := (0, 0, 0, 0, 0)) (mi_k29.2 _ _ (by rfl)) (by rfl) (ksG14 _ _ _ _) (ksA14 _ _ _ _) (hJ117.I.2.1 14) rfl (oi11 koi1) (oi75 koi1) ?_
                intro a120 ea120 fa120
                have hJ120 := kG_a3 hJ117 14 rfl ea120 fa120 (kd_bd _)
                first | refine fo_goS mi_k29 fz29_147_2_151 [.int (ig107 79)] (by rfl) ?_ | refine ft_go mi_k29 2 151 [(3, .int l3_67), (2, .int ((a 2).getD x1.toNatClampNeg 0)), (0, .ref 1), (1, .int x1)] [.int (ig107 79)] (ku ig107 73 ((ig107 73) + 1)) a120 qg107 rg107 (by rfl) ?_
                exact ft_ret mi_k29 (by rfl) (hP (ig107 79) _ _ _ _ hJ120 ⟨trivial, ⟨(fun _ => (show ig107 450 = (cPaid (i 64) (i 70) x1 5 (cT0 1 i a)).1 + 1 from (by first | rfl | (simp only [q111, (show ig104 450 = i67 450 from kg104.fi 450 rfl), E97_0, er98, el99, el100, el101, el102, el103, sMn, sMx]; done) | (simp only [q111, (show ig104 450 = i67 450 from kg104.fi 450 rfl), E97_0, er98, el99, el100, el101, el102, el103, sMn, sMx]; rfl)))), (fun _ => (show a120 8 = (cPaid (i 64) (i 70) x1 5 (cT0 1 i a)).2.1.set (cPaid (i 64) (i 70) x1 5 (cT0 1 i a)).1.toNatClampNeg x1 from (by first | rfl | (simp only [fa120 8 (by decide), fa117 8 (by decide), fa115 8 (by decide), q109, kg104.fa 8 rfl, (show ig104 450 = i67 450 from kg104.fi 450 rfl), E97_0, E97_1, er98, el99, el100, el101, el102, el103, sMn, sMx]; done) | (simp only [fa120 8 (by decide), fa117 8 (by decide), fa115 8 (by decide), q109, kg104.fa 8 rfl, (show ig104 450 = i67 450 from kg104.fi 450 rfl), E97_0, E97_1, er98, el99, el100, el101, el102, el103, sMn, sMx]; rfl)))), (fun _ => (show a120 9 = (cPaid (i 64) (i 70) x1 5 (cT0 1 i a)).2.2.1.set (cPaid (i 64) (i 70) x1 5 (cT0 1 i a)).1.toNatClampNeg (cBuyV (i (64 * r 0)) (a (r 0 + 1)) (a (r 0 + 2)) (a (r 0 + 3)) (i (64 * r 0 + 3)) ((a 3).getD x1.toNatClampNeg 0) ((a 2).getD x1.toNatClampNeg 0) ((a 4).getD x1.toNatClampNeg 0) (i 73) ((a 6).getD x1.toNatClampNeg 0) (i 72)) from (by first | rfl | (simp only [fa120 9 (by decide), fa117 9 (by decide), fa115 9 (by decide), q110, kg104.fa 9 rfl, (show ig104 450 = i67 450 from kg104.fi 450 rfl), q105, hL67.fa 3 rfl, hL67.fa 4 rfl, (show i67 73 = i 73 from hL67.fi 73 rfl), hL67.fa 6 rfl, (show i67 72 = i 72 from hL67.fi 72 rfl), E97_0, E97_2, er98, el99, el100, el101, el102, el103, sMn, sMx]; done) | (simp only [fa120 9 (by decide), fa117 9 (by decide), fa115 9 (by decide), q110, kg104.fa 9 rfl, (show ig104 450 = i67 450 from kg104.fi 450 rfl), q105, hL67.fa 3 rfl, hL67.fa 4 rfl, (show i67 73 = i 73 from hL67.fi 73 rfl), hL67.fa 6 rfl, (show i67 72 = i 72 from hL67.fi 72 rfl), E97_0, E97_2, er98, el99, el100, el101, el102, el103, sMn, sMx]; rfl)))), (fun _ => (show a120 2 = (cPaid (i 64) (i 70) x1 5 (cT0 1 i a)).2.2.2.1 from (by first | rfl | (simp only [fa120 2 (by decide), fa117 2 (by decide), fa115 2 (by decide), kg107.fa 2 rfl, kg104.fa 2 rfl, E97_3, er98, el99, el100, el101, el102, el103, sMn, sMx]; done) | (simp only [fa120 2 (by decide), fa117 2 (by decide), fa115 2 (by decide), kg107.fa 2 rfl, kg104.fa 2 rfl, E97_3, er98, el99, el100, el101, el102, el103, sMn, sMx]; rfl)))), (fun _ => (show ig107 78 = (cPaid (i 64) (i 70) x1 5 (cT0 1 i a)).2.2.2.2.1 from (by first | rfl | (simp only [(show ig107 78 = ig104 78 from kg107.fi 78 rfl), (show ig104 78 = i67 78 from kg104.fi 78 rfl), E97_4, er98, el99, el100, el101, el102, el103, sMn, sMx]; done) | (simp only [(show ig107 78 = ig104 78 from kg107.fi 78 rfl), (show ig104 78 = i67 78 from kg104.fi 78 rfl), E97_4, er98, el99, el100, el101, el102, el103, sMn, sMx]; rfl)))), (fun _ => (show ig107 79 = (cPaid (i 64) (i 70) x1 5 (cT0 1 i a)).2.2.2.2.2.1 from (by first | rfl | (simp only [(show ig107 79 = ig104 79 from kg107.fi 79 rfl), (show ig104 79 = i67 79 from kg104.fi 79 rfl), E97_5, er98, el99, el100, el101, el102, el103, sMn, sMx]; done) | (simp only [(show ig107 79 = ig104 79 from kg107.fi 79 rfl), (show ig104 79 = i67 79 from kg104.fi 79 rfl), E97_5, er98, el99, el100, el101, el102, el103, sMn, sMx]; rfl)))), (fun _ => (show ig107 80 = (cBuyV (i (64 * r 0)) (a (r 0 + 1)) (a (r 0 + 2)) (a (r 0 + 3)) (i (64 * r 0 + 3)) ((a 3).getD x1.toNatClampNeg 0) ((a 2).getD x1.toNatClampNeg 0) ((a 4).getD x1.toNatClampNeg 0) (i 73) ((a 6).getD x1.toNatClampNeg 0) (i 72)) from (by first | rfl | (simp only [(show ig107 80 = vg104 from kg107.fi 80 rfl), q105, hL67.fa 3 rfl, hL67.fa 4 rfl, (show i67 73 = i 73 from hL67.fi 73 rfl), hL67.fa 6 rfl, (show i67 72 = i 72 from hL67.fi 72 rfl), er98, el99, el100, el101, el102, el103, sMn, sMx]; done) | (simp only [(show ig107 80 = vg104 from kg107.fi 80 rfl), q105, hL67.fa 3 rfl, hL67.fa 4 rfl, (show i67 73 = i 73 from hL67.fi 73 rfl), hL67.fa 6 rfl, (show i67 72 = i 72 from hL67.fi 72 rfl), er98, el99, el100, el101, el102, el103, sMn, sMx]; rfl)))), (fun _ => (show ((ig107 73) + 1) = i 73 + 1 from (by first | rfl | (simp only [(show ig107 73 = ig104 73 from kg107.fi 73 rfl), (show ig104 73 = i67 73 from kg104.fi 73 rfl), (show i67 73 = i 73 from hL67.fi 73 rfl), er98, el99, el100, el101, el102, el103, sMn, sMx]; done) | (simp only [(show ig107 73 = ig104 73 from kg107.fi 73 rfl), (show ig104 73 = i67 73 from kg104.fi 73 rfl), (show i67 73 = i 73 from hL67.fi 73 rfl), er98, el99, el100, el101, el102, el103, sMn, sMx]; rfl)))), (fun _ => (show a120 6 = (a 6).set x1.toNatClampNeg ((a 6).getD x1.toNatClampNeg 0 + 1) from (by first | rfl | (simp only [fa120 6 (by decide), fa117 6 (by decide), ea115, kg107.fa 6 rfl, kg104.fa 6 rfl, hL67.fa 6 rfl, er98, el99, el100, el101, el102, el103, sMn, sMx]; done) | (simp only [fa120 6 (by decide), fa117 6 (by decide), ea115, kg107.fa 6 rfl, kg104.fa 6 rfl, hL67.fa 6 rfl, er98, el99, el100, el101, el102, el103, sMn, sMx]; rfl)))), (fun _ => (show a120 14 = ((cPaid (i 64) (i 70) x1 5 (cT0 1 i a)).2.2.2.2.2.2.1.set (0 : Int32).toNatClampNeg ((cPaid (i 64) (i 70) x1 5 (cT0 1 i a)).2.2.2.2.2.2.1.getD (0 : Int32).toNatClampNeg 0 + 1)).set (1 : Int32).toNatClampNeg (((cPaid (i 64) (i 70) x1 5 (cT0 1 i a)).2.2.2.2.2.2.1.set (0 : Int32).toNatClampNeg ((cPaid (i 64) (i 70) x1 5 (cT0 1 i a)).2.2.2.2.2.2.1.getD (0 : Int32).toNatClampNeg 0 + 1)).getD (1 : Int32).toNatClampNeg 0 + (cPaid (i 64) (i 70) x1 5 (cT0 1 i a)).2.2.2.2.2.1) from (by first | rfl | (simp only [ea120, ea117, (show ig107 79 = ig104 79 from kg107.fi 79 rfl), (show ig104 79 = i67 79 from kg104.fi 79 rfl), E97_5, fa115 14 (by decide), kg107.fa 14 rfl, kg104.fa 14 rfl, E97_6, er98, el99, el100, el101, el102, el103, sMn, sMx]; done) | (simp only [ea120, ea117, (show ig107 79 = ig104 79 from kg107.fi 79 rfl), (show ig104 79 = i67 79 from kg104.fi 79 rfl), E97_5, fa115 14 (by decide), kg107.fa 14 rfl, kg104.fa 14 rfl, E97_6, er98, el99, el100, el101, el102, el103, sMn, sMx]; rfl)))), (fun _ => (show (ig107 79) = (cPaid (i 64) (i 70) x1 5 (cT0 1 i a)).2.2.2.2.2.1 from (by first | rfl | (simp only [(show ig107 79 = ig104 79 from kg107.fi 79 rfl), (show ig104 79 = i67 79 from kg104.fi 79 rfl), E97_5, er98, el99, el100, el101, el102, el103, sMn, sMx]; done) | (simp only [(show ig107 79 = ig104 79 from kg107.fi 79 rfl), (show ig104 79 = i67 79 from kg104.fi 79 rfl), E97_5, er98, el99, el100, el101, el102, el103, sMn, sMx]; rfl)))), (fun _ => (show a120 16 = (cPaid (i 64) (i 70) x1 5 (cT0 1 i a)).2.2.2.2.2.2.2 0 from (by first | rfl | (simp only [fa120 16 (by decide), fa117 16 (by decide), fa115 16 (by decide), kg107.fa 16 rfl, kg104.fa 16 rfl, E97_r0, er98, el99, el100, el101, el102, el103, sMn, sMx]; done) | (simp only [fa120 16 (by decide), fa117 16 (by decide), fa115 16 (by decide), kg107.fa 16 rfl, kg104.fa 16 rfl, E97_r0, er98, el99, el100, el101, el102, el103, sMn, sMx]; rfl)))), (fun _ => (show a120 17 = (cPaid (i 64) (i 70) x1 5 (cT0 1 i a)).2.2.2.2.2.2.2 1 from (by first | rfl | (simp only [fa120 17 (by decide), fa117 17 (by decide), fa115 17 (by decide), kg107.fa 17 rfl, kg104.fa 17 rfl, E97_r1, er98, el99, el100, el101, el102, el103, sMn, sMx]; done) | (simp only [fa120 17 (by decide), fa117 17 (by decide), fa115 17 (by decide), kg107.fa 17 rfl, kg104.fa 17 rfl, E97_r1, er98, el99, el100, el101, el102, el103, sMn, sMx]; rfl)))), (fun _ => (show a120 18 = (cPaid (i 64) (i 70) x1 5 (cT0 1 i a)).2.2.2.2.2.2.2 2 from (by first | rfl | (simp only [fa120 18 (by decide), fa117 18 (by decide), fa115 18 (by decide), kg107.fa 18 rfl, kg104.fa 18 rfl, E97_r2, er98, el99, el100, el101, el102, el103, sMn, sMx]; done) | (simp only [fa120 18 (by decide), fa117 18 (by decide), fa115 18 (by decide), kg107.fa 18 rfl, kg104.fa 18 rfl, E97_r2, er98, el99, el100, el101, el102, el103, sMn, sMx]; rfl)))), (fun _ => (show a120 19 = (cPaid (i 64) (i 70) x1 5 (cT0 1 i a)).2.2.2.2.2.2.2 3 from (by first | rfl | (simp only [fa120 19 (by decide), fa117 19 (by decide), fa115 19 (by decide), kg107.fa 19 rfl, kg104.fa 19 rfl, E97_r3, er98, el99, el100, el101, el102, el103, sMn, sMx]; done) | (simp only [fa120 19 (by decide), fa117 19 (by decide), fa115 19 (by decide), kg107.fa 19 rfl, kg104.fa 19 rfl, E97_r3, er98, el99, el100, el101, el102, el103, sMn, sMx]; rfl)))), (fun _ => (show a120 20 = (cPaid (i 64) (i 70) x1 5 (cT0 1 i a)).2.2.2.2.2.2.2 4 from (by first | rfl | (simp only [fa120 20 (by decide), fa117 20 (by decide), fa115 20 (by decide), kg107.fa 20 rfl, kg104.fa 20 rfl, E97_r4, er98, el99, el100, el101, el102, el103, sMn, sMx]; done) | (simp only [fa120 20 (by decide), fa117 20 (by decide), fa115 20 (by decide), kg107.fa 20 rfl, kg104.fa 20 rfl, E97_r4, er98, el99, el100, el101, el102, el103, sMn, sMx]; rfl)))), (fun _ => (show a120 21 = (cPaid (i 64) (i 70) x1 5 (cT0 1 i a)).2.2.2.2.2.2.2 5 from (by first | rfl | (simp only [fa120 21 (by decide), fa117 21 (by decide), fa115 21 (by decide), kg107.fa 21 rfl, kg104.fa 21 rfl, E97_r5, er98, el99, el100, el101, el102, el103, sMn, sMx]; done) | (simp only [fa120 21 (by decide), fa117 21 (by decide), fa115 21 (by decide), kg107.fa 21 rfl, kg104.fa 21 rfl, E97_r5, er98, el99, el100, el101, el102, el103, sMn, sMx]; rfl)))), (fun _ => (show a120 22 = (cPaid (i 64) (i 70) x1 5 (cT0 1 i a)).2.2.2.2.2.2.2 6 from (by first | rfl | (simp only [fa120 22 (by decide), fa117 22 (by decide), fa115 22 (by decide), kg107.fa 22 rfl, kg104.fa 22 rfl, E97_r6, er98, el99, el100, el101, el102, el103, sMn, sMx]; done) | (simp only [fa120 22 (by decide), fa117 22 (by decide), fa115 22 (by decide), kg107.fa 22 rfl, kg104.fa 22 rfl, E97_r6, er98, el99, el100, el101, el102, el103, sMn, sMx]; rfl)))), (fun _ => (show a120 23 = (cPaid (i 64) (i 70) x1 5 (cT0 1 i a)).2.2.2.2.2.2.2 7 from (by first | rfl | (simp only [fa120 23 (by decide), fa117 23 (by decide), fa115 23 (by decide), kg107.fa 23 rfl, kg104.fa 23 rfl, E97_r7, er98, el99, el100, el101, el102, el103, sMn, sMx]; done) | (simp only [fa120 23 (by decide), fa117 23 (by decide), fa115 23 (by decide), kg107.fa 23 rfl, kg104.fa 23 rfl, E97_r7, er98, el99, el100, el101, el102, el103, sMn, sMx]; rfl)))), (fun h => absurd h (oi187 c66 z5.1 z5.2 koi1)), (fun h => absurd h (oi187 c66 z5.1 z5.2 koi1)), (fun h => absurd h (oi187 c66 z5.1 z5.2 koi1)), (fun h => absurd h (oi187 c66 z5.1 z5.2 koi1)), (fun h => absurd h (oi187 c66 z5.1 z5.2 koi1)), (fun h => absurd h (oi187 c66 z5.1 z5.2 koi1)), (fun h => absurd h (oi187 c66 z5.1 z5.2 koi1)), (fun h => absurd h (oi187 c66 z5.1 z5.2 koi1)), (fun h => absurd h (oi187 c66 z5.1 z5.2 koi1)), (fun h => absurd h (oi187 c66 z5.1 z5.2 koi1)), (fun h => absurd h (oi187 c66 z5.1 z5.2 koi1)), (fun h => absurd h (oi187 c66 z5.1 z5.2 koi1)), (fun h => absurd h (oi187 c66 z5.1 z5.2 koi1)), (fun h => absurd h (oi187 c66 z5.1 z5.2 koi1)), (fun h => absurd h (oi187 c66 z5.1 z5.2 koi1)), (fun h => absurd h (oi187 c66 z5.1 z5.2 koi1)), (fun h => absurd h (oi187 c66 z5.1 z5.2 koi1)), (fun h => absurd h (oi187 c66 z5.1 z5.2 koi1)), (fun h => absurd h (oi187 c66 z5.1 z5.2 koi1))⟩⟩)
              ·
                have c121 : (i67 70).toInt ≤ (i67 450).toInt := kd_ltF c; clear c
                first | refine fo_goS mi_k29 fz29_71_2_73 [.int x1, .ref 1] (by rfl) ?_ | refine ft_go mi_k29 2 73 [(3, .int l3_67), (2, .int ((a 2).getD x1.toNatClampNeg 0)), (0, .ref 1), (1, .int x1)] [.int x1, .ref 1] i67 a67 q67 r67 (by rfl) ?_
                refine ko_callN mi_k29.1 (pc := 73) (ls := [(3, .int l3_67), (2, .int ((a 2).getD x1.toNatClampNeg 0)), (0, .ref 1), (1, .int x1)]) (st := [.int x1, .ref 1]) (h := ks i67 a67 q67 r67) (i := (.invokevirtual 96, 3, 30, 0, 9, 0, 221)) (mi_k29.2 _ _ (by rfl)) (ft_invS mi_pq30 (by rfl)) (cy := mi_c30) mi_pq30 rfl (ke30_1 hL67.I hL67.R x1 (oi67 fi_64.2 z5.1 z5.2) (oi179 c121 efi67_70 hp0.1)) (by decide) ?_
                intro ig122 ag122 qg122 rg122 kg122 hg122
                have hGg122 := kG_call hL67 kg122 (by decide +kernel)
                obtain ⟨hg122, og122⟩ := hg122
                have z123 : (ig122 450).toInt = ((i67 450).toInt - 1) := hg122
                have s124 : (l3_67 + 1).toInt = l3_67.toInt + (1 : Int32).toInt := kd_add (oi32 p67_0 koi1) (oi180 c94 koi5 koi1)
                first | refine fo_goL mi_k29 fz29_50_2_52 [(3, .int (l3_67 + 1)), (2, .int ((a 2).getD x1.toNatClampNeg 0)), (0, .ref 1), (1, .int x1)] [] (by rfl) ?_ | refine fo_goL mi_k29 fz29_76_2_52 [(3, .int (l3_67 + 1)), (2, .int ((a 2).getD x1.toNatClampNeg 0)), (0, .ref 1), (1, .int x1)] [] (by rfl) ?_ | refine ft_go mi_k29 2 52 [(3, .int (l3_67 + 1)), (2, .int ((a 2).getD x1.toNatClampNeg 0)), (0, .ref 1), (1, .int x1)] [] ig122 ag122 qg122 rg122 (by rfl) ?_
                exact ih67 _ _ _ _ _ hGg122 (oi34 p67_0 s124 koi1) (oi181 p67_1 s124 z123 koi1) (cP_again (T := cT 1 i67 a67) O67_0 (kj_five (oi182 c94 koi5) (oi40 s124 koi1)) (oi183 c121 efi67_70) og122 (by first | rfl | (simp only [(show i67 64 = i 64 from hL67.fi 64 rfl), sMn, sMx]; done) | (simp only [(show i67 64 = i 64 from hL67.fi 64 rfl), sMn, sMx]; rfl))) (kj_meas (oi184 s124 koi1) (oi185 c94 koi5) hm67)
        have fi_450 : ((0 : Int) ≤ (i 450).toInt) ∧ ((i 450).toInt ≤ 5) := hJ3.I.1 450
        exact lp67 _ _ _ _ _ _ (kG_self _ hJ3.I hJ3.R) (oi9 koi0) (oi186 fi_450.2 koi0) (by rw [koi0]; rfl) (Nat.lt_succ_self _)
      ·
        have c125 : ((a 5).getD x1.toNatClampNeg 0).toInt = (1 : Int32).toInt := kd_neF c; clear c
        first | refine ft_goS mi_k29 1 42 [.int 0] (by rfl) ?_ | refine ft_go mi_k29 1 42 [(0, .ref 1), (1, .int x1)] [.int 0] (ku (ku (ku i 78 8) 79 0) 80 0) a q r (by rfl) ?_
        exact ft_ret mi_k29 (by rfl) (hP 0 _ _ _ _ hJ3 ⟨trivial, ⟨(fun h => absurd h (oi188 c125 c65 koi1 koi0)), (fun h => absurd h (oi188 c125 c65 koi1 koi0)), (fun h => absurd h (oi188 c125 c65 koi1 koi0)), (fun h => absurd h (oi188 c125 c65 koi1 koi0)), (fun h => absurd h (oi188 c125 c65 koi1 koi0)), (fun h => absurd h (oi188 c125 c65 koi1 koi0)), (fun h => absurd h (oi188 c125 c65 koi1 koi0)), (fun h => absurd h (oi188 c125 c65 koi1 koi0)), (fun h => absurd h (oi188 c125 c65 koi1 koi0)), (fun h => absurd h (oi188 c125 c65 koi1 koi0)), (fun h => absurd h (oi188 c125 c65 koi1 koi0)), (fun h => absurd h (oi188 c125 c65 koi1 koi0)), (fun h => absurd h (oi188 c125 c65 koi1 koi0)), (fun h => absurd h (oi188 c125 c65 koi1 koi0)), (fun h => absurd h (oi188 c125 c65 koi1 koi0)), (fun h => absurd h (oi188 c125 c65 koi1 koi0)), (fun h => absurd h (oi188 c125 c65 koi1 koi0)), (fun h => absurd h (oi188 c125 c65 koi1 koi0)), (fun h => absurd h (oi188 c125 c65 koi1 koi0)), (fun _ => (show i 450 = i 450 from rfl)), (fun _ => (show a 8 = a 8 from rfl)), (fun _ => (show a 9 = a 9 from rfl)), (fun _ => (show a 2 = a 2 from rfl)), (fun _ => (show a 6 = a 6 from rfl)), (fun _ => (show a 14 = a 14 from rfl)), (fun _ => (show (8 : Int32) = 8 from (by first | rfl | (simp only [sMn, sMx]; done) | (simp only [sMn, sMx]; rfl)))), (fun _ => (show (0 : Int32) = 0 from (by first | rfl | (simp only [sMn, sMx]; done) | (simp only [sMn, sMx]; rfl)))), (fun _ => (show (0 : Int32) = 0 from (by first | rfl | (simp only [sMn, sMx]; done) | (simp only [sMn, sMx]; rfl)))), (fun _ => (show i 73 = i 73 from rfl)), (fun _ => (show (0 : Int32) = 0 from (by first | rfl | (simp only [sMn, sMx]; done) | (simp only [sMn, sMx]; rfl)))), (fun _ => (show a 16 = a 16 from rfl)), (fun _ => (show a 17 = a 17 from rfl)), (fun _ => (show a 18 = a 18 from rfl)), (fun _ => (show a 19 = a 19 from rfl)), (fun _ => (show a 20 = a 20 from rfl)), (fun _ => (show a 21 = a 21 from rfl)), (fun _ => (show a 22 = a 22 from rfl)), (fun _ => (show a 23 = a 23 from rfl))⟩⟩)
  ·
    subst eg4
    have z126 : ¬ (((0 : Int) ≤ x1.toInt) ∧ (x1.toInt < (i 64).toInt)) := hg4
    first | refine fo_goS mi_k29 fz29_21_2_42 [.int 0] (by rfl) ?_ | refine ft_goS mi_k29 2 42 [.int 0] (by rfl) ?_ | refine ft_go mi_k29 2 42 [(0, .ref 1), (1, .int x1)] [.int 0] (ku (ku (ku i 78 8) 79 0) 80 0) a q r (by rfl) ?_
    exact ft_ret mi_k29 (by rfl) (hP 0 _ _ _ _ hJ3 ⟨trivial, ⟨(fun h => absurd h (oi189 z126)), (fun h => absurd h (oi189 z126)), (fun h => absurd h (oi189 z126)), (fun h => absurd h (oi189 z126)), (fun h => absurd h (oi189 z126)), (fun h => absurd h (oi189 z126)), (fun h => absurd h (oi189 z126)), (fun h => absurd h (oi189 z126)), (fun h => absurd h (oi189 z126)), (fun h => absurd h (oi189 z126)), (fun h => absurd h (oi189 z126)), (fun h => absurd h (oi189 z126)), (fun h => absurd h (oi189 z126)), (fun h => absurd h (oi189 z126)), (fun h => absurd h (oi189 z126)), (fun h => absurd h (oi189 z126)), (fun h => absurd h (oi189 z126)), (fun h => absurd h (oi189 z126)), (fun h => absurd h (oi189 z126)), (fun _ => (show i 450 = i 450 from rfl)), (fun _ => (show a 8 = a 8 from rfl)), (fun _ => (show a 9 = a 9 from rfl)), (fun _ => (show a 2 = a 2 from rfl)), (fun _ => (show a 6 = a 6 from rfl)), (fun _ => (show a 14 = a 14 from rfl)), (fun _ => (show (8 : Int32) = 8 from (by first | rfl | (simp only [sMn, sMx]; done) | (simp only [sMn, sMx]; rfl)))), (fun _ => (show (0 : Int32) = 0 from (by first | rfl | (simp only [sMn, sMx]; done) | (simp only [sMn, sMx]; rfl)))), (fun _ => (show (0 : Int32) = 0 from (by first | rfl | (simp only [sMn, sMx]; done) | (simp only [sMn, sMx]; rfl)))), (fun _ => (show i 73 = i 73 from rfl)), (fun _ => (show (0 : Int32) = 0 from (by first | rfl | (simp only [sMn, sMx]; done) | (simp only [sMn, sMx]; rfl)))), (fun _ => (show a 16 = a 16 from rfl)), (fun _ => (show a 17 = a 17 from rfl)), (fun _ => (show a 18 = a 18 from rfl)), (fun _ => (show a 19 = a 19 from rfl)), (fun _ => (show a 20 = a 20 from rfl)), (fun _ => (show a 21 = a 21 from rfl)), (fun _ => (show a 22 = a 22 from rfl)), (fun _ => (show a 23 = a 23 from rfl))⟩⟩)
end
section
/-! AN EVENING, PURELY -/
def sZ : Nat → List Int32 → List Int32
  | 0, M => M
  | n + 1, M => (sZ n M).set (9 + n) 0
def sEnds (N : List Int32) : List Int32 := sZ 9 (N.set (8 : Int32).toNatClampNeg (sMn 99 (N.getD (8 : Int32).toNatClampNeg 0 + 1)))
theorem sZ_zero {z : Int32} (B : List Int32) (h : z.toInt = 9) : B = sZ (z.toInt - 9).toNat B := by rw [h]; rfl
theorem sZ_step {M M1 B : List Int32} {x x1 : Int32} (h : M = sZ (x.toInt - 9).toNat B) (h9 : 9 ≤ x.toInt) (h1 : x1.toInt = x.toInt + 1) (e : M1 = M.set x.toNatClampNeg 0) : M1 = sZ (x1.toInt - 9).toNat B := by
  have tx := Int32.toNat_toInt x
  rw [show (x1.toInt - 9).toNat = (x.toInt - 9).toNat + 1 by omega]
  unfold sZ
  rw [← h, e, show x.toNatClampNeg = 9 + (x.toInt - 9).toNat by omega]
theorem sZ_end {M B : List Int32} {x : Int32} (h : M = sZ (x.toInt - 9).toNat B) (hx : x.toInt = 18) : M = sZ 9 B := by rw [hx] at h; exact h
def kZr (l : List Int32) (x : Int) : Prop := ∀ j : Nat, (j : Int) < x → l.getD j 0 = 0
theorem kZr_zero {l : List Int32} {z : Int32} (h : z.toInt = 0) : kZr l z.toInt := fun j hj => by omega
theorem kZr_step {l l1 : List Int32} {x x1 : Int32} {n : Nat} (h : kZr l x.toInt) (hl : l.length = n) (h0 : 0 ≤ x.toInt) (hn : x.toInt < (n : Int)) (h1 : x1.toInt = x.toInt + 1) (e : l1 = l.set x.toNatClampNeg 0) : kZr l1 x1.toInt := by
  have tx := Int32.toNat_toInt x
  subst e
  intro j hj
  rw [kset_gI (by omega)]
  by_cases c : j = x.toNatClampNeg
  · rw [if_pos c]
  · rw [if_neg c]; exact h j (by omega)
theorem kZr_end {l : List Int32} {x : Int} {n : Nat} (h : kZr l x) (hl : l.length = n) (hx : (n : Int) ≤ x) : l = List.replicate n 0 := by
  refine List.ext_getElem (by rw [hl, List.length_replicate]) (fun j h1 h2 => ?_)
  have := h j (by omega)
  rw [List.getD_eq_getElem?_getD, List.getElem?_eq_getElem h1] at this
  rw [List.getElem_replicate]
  exact this
end
section
theorem koj1 : (1 : Int32).toInt = 1 := by decide
theorem koj0 : (0 : Int32).toInt = 0 := by decide
theorem koj8 : (8 : Int32).toInt = 8 := by decide
theorem koj3 : (3 : Int32).toInt = 3 := by decide
theorem koj9 : (9 : Int32).toInt = 9 := by decide
theorem koj18 : (18 : Int32).toInt = 18 := by decide
theorem koj999 : (999 : Int32).toInt = 999 := by decide
theorem koj4 : (4 : Int32).toInt = 4 := by decide
theorem oj0 {a0 a1 : Int} (h0 : a0 ≤ a1) (h1 : a0 = 8) : ((8 : Nat) : Int) ≤ a1 := by omega
theorem oj1 {a0 : Int} (h0 : a0 = 3) : (0 : Int) ≤ a0 := oz260 h0
theorem oj2 {a0 : Int} (h0 : a0 = 3) : a0 < 5 := oz550 h0
theorem oj3 {a0 : Int} (h0 : (0 : Int) ≤ a0) : (0 : Int) ≤ a0 := oz3 h0
theorem oj4 {a0 a1 : Int} (h0 : a0 < a1) (h1 : a1 = 8) : a0 < 8 := oz936 h0 h1
theorem oj5 {a0 a1 : Int} (h0 : (0 : Int) ≤ a0) (h1 : a1 = 1) : (-2147483648 : Int) ≤ a0 + a1 := oz12 h0 h1
theorem oj6 {a0 a1 a2 : Int} (h0 : a0 < a1) (h1 : a1 = 8) (h2 : a2 = 1) : a0 + a2 ≤ 2147483647 := oz474 h0 h1 h2
theorem oj7 {a0 a1 a2 : Int} (h0 : (0 : Int) ≤ a0) (h1 : a1 = a0 + a2) (h2 : a2 = 1) : (0 : Int) ≤ a1 := oz14 h0 h1 h2
theorem oj8 {a0 a1 : Int} (h0 : a0 < a1) (h1 : a1 = 8) : a0 < ((8 : Nat) : Int) := by omega
theorem oj9 {a0 a1 a2 : Int} (h0 : a0 = a1 + a2) (h1 : a2 = 1) : a0 = a1 + 1 := oz169 h0 h1
theorem oj10 {a0 a1 a2 : Int} (h0 : a0 = a1 + a2) (h1 : a2 = 1) : (8 - a0) < (8 - a1) := oz475 h0 h1
theorem oj11 {a0 a1 : Int} (h0 : a0 < a1) (h1 : a1 = 8) : (1 : Int) ≤ (8 - a0) := oz476 h0 h1
theorem oj12 {a0 : Int} (h0 : a0 = 0) : (0 : Int) ≤ a0 := oz46 h0
theorem oj13 {a0 : Int} (h0 : a0 = 8) : (0 : Int) ≤ a0 := oz85 h0
theorem oj14 {a0 : Int} (h0 : a0 = 8) : a0 < 31 := oz86 h0
theorem oj15 {a0 a1 : Int} (h0 : a0 = 8) : a0 = 18 → (0 : Int) ≤ a1 ∧ a1 ≤ 5 := oz98 h0
theorem oj16 {a0 a1 : Int} (h0 : a0 = 8) : 19 ≤ a0 → a0 ≤ 24 → (0 : Int) ≤ a1 ∧ a1 ≤ 7 := oz99 h0
theorem oj17 {a0 a1 : Int} (h0 : a0 ≤ a1) (h1 : a1 ≤ 18) (h2 : a0 = 18) : a1 = 18 := by omega
theorem oj18 {a0 : Int} (h0 : (9 : Int) ≤ a0) : (0 : Int) ≤ a0 := oz392 h0
theorem oj19 {a0 : Int} (h0 : a0 ≤ 18) : a0 < 31 := by omega
theorem oj20 {a0 a1 a2 : Int} (h0 : a0 < a1) (h1 : a1 = 18) (h2 : a2 = 0) : a0 = 18 → (0 : Int) ≤ a2 ∧ a2 ≤ 5 := oz394 h0 h1 h2
theorem oj21 {a0 a1 : Int} (h0 : a0 ≤ 18) (h1 : a1 = 0) : 19 ≤ a0 → a0 ≤ 24 → (0 : Int) ≤ a1 ∧ a1 ≤ 7 := by omega
theorem oj22 {a0 a1 : Int} (h0 : (9 : Int) ≤ a0) (h1 : a1 = 1) : (-2147483648 : Int) ≤ a0 + a1 := oz396 h0 h1
theorem oj23 {a0 a1 : Int} (h0 : a0 ≤ 18) (h1 : a1 = 1) : a0 + a1 ≤ 2147483647 := by omega
theorem oj24 {a0 a1 a2 a3 : Int} (h0 : a0 < a1) (h1 : (9 : Int) ≤ a0) (h2 : a2 = a0 + a3) (h3 : a1 = 18) (h4 : a3 = 1) : ((9 : Int) ≤ a2) ∧ (a2 ≤ 18) := by omega
theorem oj25 {a0 : Int} (h0 : (9 : Int) ≤ a0) : (9 : Int) ≤ a0 := by omega
theorem oj26 {a0 a1 a2 : Int} (h0 : a0 = a1 + a2) (h1 : a2 = 1) : (18 - a0) < (18 - a1) := oz399 h0 h1
theorem oj27 {a0 a1 : Int} (h0 : a0 < a1) (h1 : a1 = 18) : (1 : Int) ≤ (18 - a0) := oz400 h0 h1
theorem oj28 {a0 : Int} (h0 : a0 = 9) : ((9 : Int) ≤ a0) ∧ (a0 ≤ 18) := by omega
theorem oj35 {a0 a1 a2 a3 a4 : Int} (h0 : a0 = a1) : ¬ (((0 : Int) ≤ a0) ∧ (a0 < a2) ∧ ((0 : Int) ≤ a1) ∧ (a1 < a2) ∧ (a0 ≠ a1) ∧ ((1 : Int) ≤ a3) ∧ (a3 ≤ 999) ∧ (a3 ≤ a4)) := by omega
theorem oj36 {a0 a1 a2 a3 a4 : Int} (h0 : a0 = a1) : ¬ (((0 : Int) ≤ a0) ∧ (a0 < a2) ∧ ((0 : Int) ≤ a1) ∧ (a1 < a2) ∧ (a0 ≠ a1) ∧ ((1 : Int) ≤ a3) ∧ (a3 ≤ 999) ∧ (a4 < a3)) := by omega
theorem oj40 {a0 a1 : Int} (h0 : a0 ≤ 8) (h1 : a1 < a0) : a1 < 8 := oz974 h0 h1
theorem oj41 {a0 a1 : Int} (h0 : a0 ≤ a1) : (-2147483648 : Int) ≤ a1 - a0 := oz551 h0
theorem oj42 {a0 a1 a2 : Int} (h0 : a0 ≤ 2147483647) (h1 : a1 ≤ a2) (h2 : a1 = 1) : a0 - a2 ≤ 2147483647 := oz552 h0 h1 h2
theorem oj43 {a0 : Int} (h0 : a0 = 4) : (0 : Int) ≤ a0 := oz262 h0
theorem oj44 {a0 : Int} (h0 : a0 = 4) : a0 < 5 := oz555 h0
theorem oj45 {a0 a1 a2 a3 a4 a5 a6 : Int} (h0 : a0 ≠ a1) (h1 : a2 ≤ a3) (h2 : (0 : Int) ≤ a0) (h3 : a0 < a4) (h4 : (0 : Int) ≤ a1) (h5 : a1 < a4) (h6 : a5 ≤ a2) (h7 : a2 ≤ a6) (h8 : a5 = 1) (h9 : a6 = 999) : ¬ (¬ (((0 : Int) ≤ a0) ∧ (a0 < a4) ∧ ((0 : Int) ≤ a1) ∧ (a1 < a4) ∧ (a0 ≠ a1) ∧ ((1 : Int) ≤ a2) ∧ (a2 ≤ 999) ∧ (a2 ≤ a3))) := by omega
theorem oj46 {a0 a1 a2 a3 a4 : Int} (h0 : a0 ≤ a1) : ¬ (((0 : Int) ≤ a2) ∧ (a2 < a3) ∧ ((0 : Int) ≤ a4) ∧ (a4 < a3) ∧ (a2 ≠ a4) ∧ ((1 : Int) ≤ a0) ∧ (a0 ≤ 999) ∧ (a1 < a0)) := by omega
theorem oj47 {a0 a1 a2 a3 a4 a5 : Int} (h0 : a0 ≠ a1) (h1 : (0 : Int) ≤ a0) (h2 : a0 < a2) (h3 : (0 : Int) ≤ a1) (h4 : a1 < a2) (h5 : a3 ≤ a4) (h6 : a4 ≤ a5) (h7 : a3 = 1) (h8 : a5 = 999) : ¬ (¬ (((0 : Int) ≤ a0) ∧ (a0 < a2) ∧ ((0 : Int) ≤ a1) ∧ (a1 < a2) ∧ (a0 ≠ a1) ∧ ((1 : Int) ≤ a4) ∧ (a4 ≤ 999))) := by omega
theorem oj48 {a0 a1 a2 a3 a4 : Int} (h0 : a0 < a1) : ¬ (((0 : Int) ≤ a2) ∧ (a2 < a3) ∧ ((0 : Int) ≤ a4) ∧ (a4 < a3) ∧ (a2 ≠ a4) ∧ ((1 : Int) ≤ a1) ∧ (a1 ≤ 999) ∧ (a1 ≤ a0)) := by omega
theorem oj49 {a0 a1 a2 a3 a4 a5 a6 : Int} (h0 : ¬ ((a0 ≤ a1) ∧ (a1 ≤ a2))) (h1 : a0 = 1) (h2 : a2 = 999) : ¬ (((0 : Int) ≤ a3) ∧ (a3 < a4) ∧ ((0 : Int) ≤ a5) ∧ (a5 < a4) ∧ (a3 ≠ a5) ∧ ((1 : Int) ≤ a1) ∧ (a1 ≤ 999) ∧ (a1 ≤ a6)) := by omega
theorem oj50 {a0 a1 a2 a3 a4 a5 a6 : Int} (h0 : ¬ ((a0 ≤ a1) ∧ (a1 ≤ a2))) (h1 : a0 = 1) (h2 : a2 = 999) : ¬ (((0 : Int) ≤ a3) ∧ (a3 < a4) ∧ ((0 : Int) ≤ a5) ∧ (a5 < a4) ∧ (a3 ≠ a5) ∧ ((1 : Int) ≤ a1) ∧ (a1 ≤ 999) ∧ (a6 < a1)) := by omega
theorem oj51 {a0 a1 a2 a3 a4 : Int} (h0 : ¬ (((0 : Int) ≤ a0) ∧ (a0 < a1))) : ¬ (((0 : Int) ≤ a2) ∧ (a2 < a1) ∧ ((0 : Int) ≤ a0) ∧ (a0 < a1) ∧ (a2 ≠ a0) ∧ ((1 : Int) ≤ a3) ∧ (a3 ≤ 999) ∧ (a3 ≤ a4)) := by omega
theorem oj52 {a0 a1 a2 a3 a4 : Int} (h0 : ¬ (((0 : Int) ≤ a0) ∧ (a0 < a1))) : ¬ (((0 : Int) ≤ a2) ∧ (a2 < a1) ∧ ((0 : Int) ≤ a0) ∧ (a0 < a1) ∧ (a2 ≠ a0) ∧ ((1 : Int) ≤ a3) ∧ (a3 ≤ 999) ∧ (a4 < a3)) := by omega
theorem oj53 {a0 a1 a2 a3 a4 : Int} (h0 : ¬ (((0 : Int) ≤ a0) ∧ (a0 < a1))) : ¬ (((0 : Int) ≤ a0) ∧ (a0 < a1) ∧ ((0 : Int) ≤ a2) ∧ (a2 < a1) ∧ (a0 ≠ a2) ∧ ((1 : Int) ≤ a3) ∧ (a3 ≤ 999) ∧ (a3 ≤ a4)) := by omega
theorem oj54 {a0 a1 a2 a3 a4 : Int} (h0 : ¬ (((0 : Int) ≤ a0) ∧ (a0 < a1))) : ¬ (((0 : Int) ≤ a0) ∧ (a0 < a1) ∧ ((0 : Int) ≤ a2) ∧ (a2 < a1) ∧ (a0 ≠ a2) ∧ ((1 : Int) ≤ a3) ∧ (a3 ≤ 999) ∧ (a4 < a3)) := by omega
def yw32_1 : kW := ([72, 73], [6, 14], [], [])
def yw32_1_L22 : kW := ([], [6], [], [])
set_option maxRecDepth 100000 in
theorem ke32_1 {i : Nat → Int32} {a : Nat → List Int32} {q : Nat → List Int64} {r : Nat → Nat} (hI : kI i a q) (hr : kr r)  : km 1 32 [.ref 1] (ks i a q r) (kVN yw32_1 i a q r (fun i1 a1 q1 r1 => (True) ∧ (i1 72 = sMn 99 (i 72 + 1) ∧ i1 73 = 0 ∧ a1 6 = List.replicate 8 0 ∧ a1 14 = (a 14).set (3 : Int32).toNatClampNeg ((a 14).getD (3 : Int32).toNatClampNeg 0 + 1)))) := by
  have hG := kG_self yw32_1 hI hr
  refine km_ofN (q := (mi_h32, mi_c32)) rfl (by decide) (Nat.le_of_ble_eq_true rfl) ?_
  intro P hP
  have b1 : ((-2147483648 : Int) ≤ (i 72).toInt) ∧ ((i 72).toInt ≤ 2147483647) := kd_bd (i 72)
  first | refine fo_goL mi_k32 fz32_0_6_9 [(0, .ref 1)] [.int ((i 72) + 1), .int 99, .ref 1] (by rfl) ?_ | refine ft_go mi_k32 6 9 [(0, .ref 1)] [.int ((i 72) + 1), .int 99, .ref 1] i a q r (by rfl) ?_
  have m3 : (((bif decide (((i 72) + 1) < 99) then ((i 72) + 1) else 99).toInt ≤ (99 : Int32).toInt) ∧ ((bif decide (((i 72) + 1) < 99) then ((i 72) + 1) else 99).toInt ≤ ((i 72) + 1).toInt)) ∧ ((bif decide (((i 72) + 1) < 99) then ((i 72) + 1) else 99).toInt = (99 : Int32).toInt ∨ (bif decide (((i 72) + 1) < 99) then ((i 72) + 1) else 99).toInt = ((i 72) + 1).toInt) := kd_min
  first | refine ft_goS mi_k32 1 12 [.int (bif decide (((i 72) + 1) < 99) then ((i 72) + 1) else 99), .ref 1] (by rfl) ?_ | refine ft_go mi_k32 1 12 [(0, .ref 1)] [.int (bif decide (((i 72) + 1) < 99) then ((i 72) + 1) else 99), .ref 1] i a q r (by rfl) ?_
  generalize hm2 : (bif decide (((i 72) + 1) < 99) then ((i 72) + 1) else 99) = m2 at m3 ⊢
  have qm2 := hm2.symm
  have hJ4 := kG_i hG 72 rfl (v := m2) (kd_bd _)
  have hJ5 := kG_i hJ4 73 rfl (v := 0) (kd_bd _)
  first | refine fo_go mi_k32 fz32_12_6_22 [(1, .int 0), (0, .ref 1)] [] (ku (ku i 72 m2) 73 0) a q r (by rfl) ?_ | refine ft_goL mi_k32 6 22 [(1, .int 0), (0, .ref 1)] [] (by rfl) ?_ | refine ft_go mi_k32 6 22 [(1, .int 0), (0, .ref 1)] [] (ku (ku i 72 m2) 73 0) a q r (by rfl) ?_
  have lp6 : ∀ (nz : Nat) (i6 : Nat → Int32) (a6 : Nat → List Int32) (q6 : Nat → List Int64) (r6 : Nat → Nat) (l1_6 : Int32), kG yw32_1_L22 (ku (ku i 72 m2) 73 0) a q r i6 a6 q6 r6 → (0 : Int) ≤ l1_6.toInt → kZr (a6 6) l1_6.toInt → ((8 - l1_6.toInt)).toNat < nz → ko 1 (mi_h32, mi_c32) P (22, [(1, .int l1_6), (0, .ref 1)], [], (0, 0), ks i6 a6 q6 r6) := by
    intro nz
    induction nz with
    | zero =>
      intro _ _ _ _ _ _ _ _ hm
      exact absurd hm (Nat.not_lt_zero _)
    | succ nz ih6 =>
      intro i6 a6 q6 r6 l1_6 hL6 p6_0 O6_0 hm6
      first | refine fo_goL mi_k32 fz32_22_2_25 [(1, .int l1_6), (0, .ref 1)] [.int 8, .int l1_6] (by rfl) ?_ | refine ft_go mi_k32 2 25 [(1, .int l1_6), (0, .ref 1)] [.int 8, .int l1_6] i6 a6 q6 r6 (by rfl) ?_
      refine ft_ifS mi_k32 (decide (8 ≤ l1_6)) 41 28 [] (by rfl) (fun c => ?_) (fun c => ?_)
      ·
        have c7 : (8 : Int32).toInt ≤ l1_6.toInt := kd_le c; clear c
        have hG8 := kG_call hJ5 hL6 (by decide +kernel)
        have qz9 : a6 6 = List.replicate 8 0 := kZr_end O6_0 (hG8.I.2.1 6) (oj0 c7 koj8)
        first | refine fo_goS mi_k32 fz32_41_4_47 [.int 3, .ref 14, .int 3, .ref 14] (by rfl) ?_ | refine ft_go mi_k32 4 47 [(1, .int l1_6), (0, .ref 1)] [.int 3, .ref 14, .int 3, .ref 14] i6 a6 q6 r6 (by rfl) ?_
        refine ko_iald3 mi_k32.1 (n := 5) (c := 5) (ax := (0, 0, 0, 0, 0)) (mi_k32.2 _ _ (by rfl)) (by rfl) (ksG14 _ _ _ _) (hG8.I.2.1 14) rfl (oj1 koj3) (oj2 koj3) ?_
        have b10 : ((-2147483648 : Int) ≤ ((a6 14).getD (3 : Int32).toNatClampNeg 0).toInt) ∧ (((a6 14).getD (3 : Int32).toNatClampNeg 0).toInt ≤ 2147483647) := kd_bd ((a6 14).getD (3 : Int32).toNatClampNeg 0)
        first | refine fo_goS mi_k32 fz32_48_2_50 [.int (((a6 14).getD (3 : Int32).toNatClampNeg 0) + 1), .int 3, .ref 14] (by rfl) ?_ | refine ft_go mi_k32 2 50 [(1, .int l1_6), (0, .ref 1)] [.int (((a6 14).getD (3 : Int32).toNatClampNeg 0) + 1), .int 3, .ref 14] i6 a6 q6 r6 (by rfl) ?_
        refine ko_iast3 mi_k32.1 (n := 5) (c := 5) (ax := (0, 0, 0, 0, 0)) (mi_k32.2 _ _ (by rfl)) (by rfl) (ksG14 _ _ _ _) (ksA14 _ _ _ _) (hG8.I.2.1 14) rfl (oj1 koj3) (oj2 koj3) ?_
        intro a11 ea11 fa11
        have hJ11 := kG_a3 hG8 14 rfl ea11 fa11 (kd_bd _)
        exact ft_ret mi_k32 (by rfl) (hP  _ _ _ _ hJ11 ⟨trivial, ⟨(show i6 72 = sMn 99 (i 72 + 1) from (by first | rfl | (simp only [(show i6 72 = m2 from hL6.fi 72 rfl), qm2, sMn, sMx]; done) | (simp only [(show i6 72 = m2 from hL6.fi 72 rfl), qm2, sMn, sMx]; rfl))), (show i6 73 = 0 from (by first | rfl | (simp only [(show i6 73 = (0 : Int32) from hL6.fi 73 rfl), sMn, sMx]; done) | (simp only [(show i6 73 = (0 : Int32) from hL6.fi 73 rfl), sMn, sMx]; rfl))), (show a11 6 = List.replicate 8 0 from (by first | rfl | (simp only [fa11 6 (by decide), qz9, sMn, sMx]; done) | (simp only [fa11 6 (by decide), qz9, sMn, sMx]; rfl))), (show a11 14 = (a 14).set (3 : Int32).toNatClampNeg ((a 14).getD (3 : Int32).toNatClampNeg 0 + 1) from (by first | rfl | (simp only [ea11, hL6.fa 14 rfl, sMn, sMx]; done) | (simp only [ea11, hL6.fa 14 rfl, sMn, sMx]; rfl)))⟩⟩)
      ·
        have c12 : l1_6.toInt < (8 : Int32).toInt := kd_leF c; clear c
        first | refine fo_goS mi_k32 fz32_28_4_34 [.int 0, .int l1_6, .ref 6] (by rfl) ?_ | refine ft_go mi_k32 4 34 [(1, .int l1_6), (0, .ref 1)] [.int 0, .int l1_6, .ref 6] i6 a6 q6 r6 (by rfl) ?_
        refine ko_iast3 mi_k32.1 (n := 8) (c := 8) (ax := (0, 0, 0, 0, 0)) (mi_k32.2 _ _ (by rfl)) (by rfl) (ksG6 _ _ _ _) (ksA6 _ _ _ _) (hL6.I.2.1 6) rfl (oj3 p6_0) (oj4 c12 koj8) ?_
        intro a13 ea13 fa13
        have hJ13 := kG_a3 hL6 6 rfl ea13 fa13 (kd_bd _)
        have s14 : (l1_6 + 1).toInt = l1_6.toInt + (1 : Int32).toInt := kd_add (oj5 p6_0 koj1) (oj6 c12 koj8 koj1)
        first | refine fo_goL mi_k32 fz32_20_2_22 [(1, .int (l1_6 + 1)), (0, .ref 1)] [] (by rfl) ?_ | refine fo_goL mi_k32 fz32_35_2_22 [(1, .int (l1_6 + 1)), (0, .ref 1)] [] (by rfl) ?_ | refine ft_go mi_k32 2 22 [(1, .int (l1_6 + 1)), (0, .ref 1)] [] i6 a13 q6 r6 (by rfl) ?_
        exact ih6 _ _ _ _ _ hJ13 (oj7 p6_0 s14 koj1) (kZr_step O6_0 (hL6.I.2.1 6) (oj3 p6_0) (oj8 c12 koj8) (oj9 s14 koj1) ea13) (kj_meas (oj10 s14 koj1) (oj11 c12 koj8) hm6)
  exact lp6 _ _ _ _ _ _ (kG_self _ hJ5.I hJ5.R) (oj12 koj0) (kZr_zero koj0) (Nat.lt_succ_self _)
def yw32_50 : kW := ([3208, 3209], [55, 63], [], [])
def yw32_50_L22 : kW := ([], [55], [], [])
set_option maxRecDepth 100000 in
theorem ke32_50 {i : Nat → Int32} {a : Nat → List Int32} {q : Nat → List Int64} {r : Nat → Nat} (hI : kI i a q) (hr : kr r)  : km 1 32 [.ref 50] (ks i a q r) (kVN yw32_50 i a q r (fun i1 a1 q1 r1 => (True) ∧ (i1 3208 = sMn 99 (i 3208 + 1) ∧ i1 3209 = 0 ∧ a1 55 = List.replicate 8 0 ∧ a1 63 = (a 63).set (3 : Int32).toNatClampNeg ((a 63).getD (3 : Int32).toNatClampNeg 0 + 1)))) := by
  have hG := kG_self yw32_50 hI hr
  refine km_ofN (q := (mi_h32, mi_c32)) rfl (by decide) (Nat.le_of_ble_eq_true rfl) ?_
  intro P hP
  have b1 : ((-2147483648 : Int) ≤ (i 3208).toInt) ∧ ((i 3208).toInt ≤ 2147483647) := kd_bd (i 3208)
  first | refine fo_goL mi_k32 fz32_0_6_9 [(0, .ref 50)] [.int ((i 3208) + 1), .int 99, .ref 50] (by rfl) ?_ | refine ft_go mi_k32 6 9 [(0, .ref 50)] [.int ((i 3208) + 1), .int 99, .ref 50] i a q r (by rfl) ?_
  have m3 : (((bif decide (((i 3208) + 1) < 99) then ((i 3208) + 1) else 99).toInt ≤ (99 : Int32).toInt) ∧ ((bif decide (((i 3208) + 1) < 99) then ((i 3208) + 1) else 99).toInt ≤ ((i 3208) + 1).toInt)) ∧ ((bif decide (((i 3208) + 1) < 99) then ((i 3208) + 1) else 99).toInt = (99 : Int32).toInt ∨ (bif decide (((i 3208) + 1) < 99) then ((i 3208) + 1) else 99).toInt = ((i 3208) + 1).toInt) := kd_min
  first | refine ft_goS mi_k32 1 12 [.int (bif decide (((i 3208) + 1) < 99) then ((i 3208) + 1) else 99), .ref 50] (by rfl) ?_ | refine ft_go mi_k32 1 12 [(0, .ref 50)] [.int (bif decide (((i 3208) + 1) < 99) then ((i 3208) + 1) else 99), .ref 50] i a q r (by rfl) ?_
  generalize hm2 : (bif decide (((i 3208) + 1) < 99) then ((i 3208) + 1) else 99) = m2 at m3 ⊢
  have qm2 := hm2.symm
  have hJ4 := kG_i hG 3208 rfl (v := m2) (kd_bd _)
  have hJ5 := kG_i hJ4 3209 rfl (v := 0) (kd_bd _)
  first | refine fo_go mi_k32 fz32_12_6_22 [(1, .int 0), (0, .ref 50)] [] (ku (ku i 3208 m2) 3209 0) a q r (by rfl) ?_ | refine ft_goL mi_k32 6 22 [(1, .int 0), (0, .ref 50)] [] (by rfl) ?_ | refine ft_go mi_k32 6 22 [(1, .int 0), (0, .ref 50)] [] (ku (ku i 3208 m2) 3209 0) a q r (by rfl) ?_
  have lp6 : ∀ (nz : Nat) (i6 : Nat → Int32) (a6 : Nat → List Int32) (q6 : Nat → List Int64) (r6 : Nat → Nat) (l1_6 : Int32), kG yw32_50_L22 (ku (ku i 3208 m2) 3209 0) a q r i6 a6 q6 r6 → (0 : Int) ≤ l1_6.toInt → kZr (a6 55) l1_6.toInt → ((8 - l1_6.toInt)).toNat < nz → ko 1 (mi_h32, mi_c32) P (22, [(1, .int l1_6), (0, .ref 50)], [], (0, 0), ks i6 a6 q6 r6) := by
    intro nz
    induction nz with
    | zero =>
      intro _ _ _ _ _ _ _ _ hm
      exact absurd hm (Nat.not_lt_zero _)
    | succ nz ih6 =>
      intro i6 a6 q6 r6 l1_6 hL6 p6_0 O6_0 hm6
      first | refine fo_goL mi_k32 fz32_22_2_25 [(1, .int l1_6), (0, .ref 50)] [.int 8, .int l1_6] (by rfl) ?_ | refine ft_go mi_k32 2 25 [(1, .int l1_6), (0, .ref 50)] [.int 8, .int l1_6] i6 a6 q6 r6 (by rfl) ?_
      refine ft_ifS mi_k32 (decide (8 ≤ l1_6)) 41 28 [] (by rfl) (fun c => ?_) (fun c => ?_)
      ·
        have c7 : (8 : Int32).toInt ≤ l1_6.toInt := kd_le c; clear c
        have hG8 := kG_call hJ5 hL6 (by decide +kernel)
        have qz9 : a6 55 = List.replicate 8 0 := kZr_end O6_0 (hG8.I.2.1 55) (oj0 c7 koj8)
        first | refine fo_goS mi_k32 fz32_41_4_47 [.int 3, .ref 63, .int 3, .ref 63] (by rfl) ?_ | refine ft_go mi_k32 4 47 [(1, .int l1_6), (0, .ref 50)] [.int 3, .ref 63, .int 3, .ref 63] i6 a6 q6 r6 (by rfl) ?_
        refine ko_iald3 mi_k32.1 (n := 5) (c := 5) (ax := (0, 0, 0, 0, 0)) (mi_k32.2 _ _ (by rfl)) (by rfl) (ksG63 _ _ _ _) (hG8.I.2.1 63) rfl (oj1 koj3) (oj2 koj3) ?_
        have b10 : ((-2147483648 : Int) ≤ ((a6 63).getD (3 : Int32).toNatClampNeg 0).toInt) ∧ (((a6 63).getD (3 : Int32).toNatClampNeg 0).toInt ≤ 2147483647) := kd_bd ((a6 63).getD (3 : Int32).toNatClampNeg 0)
        first | refine fo_goS mi_k32 fz32_48_2_50 [.int (((a6 63).getD (3 : Int32).toNatClampNeg 0) + 1), .int 3, .ref 63] (by rfl) ?_ | refine ft_go mi_k32 2 50 [(1, .int l1_6), (0, .ref 50)] [.int (((a6 63).getD (3 : Int32).toNatClampNeg 0) + 1), .int 3, .ref 63] i6 a6 q6 r6 (by rfl) ?_
        refine ko_iast3 mi_k32.1 (n := 5) (c := 5) (ax := (0, 0, 0, 0, 0)) (mi_k32.2 _ _ (by rfl)) (by rfl) (ksG63 _ _ _ _) (ksA63 _ _ _ _) (hG8.I.2.1 63) rfl (oj1 koj3) (oj2 koj3) ?_
        intro a11 ea11 fa11
        have hJ11 := kG_a3 hG8 63 rfl ea11 fa11 (kd_bd _)
        exact ft_ret mi_k32 (by rfl) (hP  _ _ _ _ hJ11 ⟨trivial, ⟨(show i6 3208 = sMn 99 (i 3208 + 1) from (by first | rfl | (simp only [(show i6 3208 = m2 from hL6.fi 3208 rfl), qm2, sMn, sMx]; done) | (simp only [(show i6 3208 = m2 from hL6.fi 3208 rfl), qm2, sMn, sMx]; rfl))), (show i6 3209 = 0 from (by first | rfl | (simp only [(show i6 3209 = (0 : Int32) from hL6.fi 3209 rfl), sMn, sMx]; done) | (simp only [(show i6 3209 = (0 : Int32) from hL6.fi 3209 rfl), sMn, sMx]; rfl))), (show a11 55 = List.replicate 8 0 from (by first | rfl | (simp only [fa11 55 (by decide), qz9, sMn, sMx]; done) | (simp only [fa11 55 (by decide), qz9, sMn, sMx]; rfl))), (show a11 63 = (a 63).set (3 : Int32).toNatClampNeg ((a 63).getD (3 : Int32).toNatClampNeg 0 + 1) from (by first | rfl | (simp only [ea11, hL6.fa 63 rfl, sMn, sMx]; done) | (simp only [ea11, hL6.fa 63 rfl, sMn, sMx]; rfl)))⟩⟩)
      ·
        have c12 : l1_6.toInt < (8 : Int32).toInt := kd_leF c; clear c
        first | refine fo_goS mi_k32 fz32_28_4_34 [.int 0, .int l1_6, .ref 55] (by rfl) ?_ | refine ft_go mi_k32 4 34 [(1, .int l1_6), (0, .ref 50)] [.int 0, .int l1_6, .ref 55] i6 a6 q6 r6 (by rfl) ?_
        refine ko_iast3 mi_k32.1 (n := 8) (c := 8) (ax := (0, 0, 0, 0, 0)) (mi_k32.2 _ _ (by rfl)) (by rfl) (ksG55 _ _ _ _) (ksA55 _ _ _ _) (hL6.I.2.1 55) rfl (oj3 p6_0) (oj4 c12 koj8) ?_
        intro a13 ea13 fa13
        have hJ13 := kG_a3 hL6 55 rfl ea13 fa13 (kd_bd _)
        have s14 : (l1_6 + 1).toInt = l1_6.toInt + (1 : Int32).toInt := kd_add (oj5 p6_0 koj1) (oj6 c12 koj8 koj1)
        first | refine fo_goL mi_k32 fz32_20_2_22 [(1, .int (l1_6 + 1)), (0, .ref 50)] [] (by rfl) ?_ | refine fo_goL mi_k32 fz32_35_2_22 [(1, .int (l1_6 + 1)), (0, .ref 50)] [] (by rfl) ?_ | refine ft_go mi_k32 2 22 [(1, .int (l1_6 + 1)), (0, .ref 50)] [] i6 a13 q6 r6 (by rfl) ?_
        exact ih6 _ _ _ _ _ hJ13 (oj7 p6_0 s14 koj1) (kZr_step O6_0 (hL6.I.2.1 55) (oj3 p6_0) (oj8 c12 koj8) (oj9 s14 koj1) ea13) (kj_meas (oj10 s14 koj1) (oj11 c12 koj8) hm6)
  exact lp6 _ _ _ _ _ _ (kG_self _ hJ5.I hJ5.R) (oj12 koj0) (kZr_zero koj0) (Nat.lt_succ_self _)
def yw103_0 : kW := ([72, 73], [6, 14], [], [])
set_option maxRecDepth 100000 in
theorem ke103_0 {i : Nat → Int32} {a : Nat → List Int32} {q : Nat → List Int64} {r : Nat → Nat} (hI : kI i a q) (hr : kr r)  : km 3 103 [.ref 0] (ks i a q r) (kVI yw103_0 i a q r (fun v i1 a1 q1 r1 => (True) ∧ (i1 72 = sMn 99 (i 72 + 1) ∧ i1 73 = 0 ∧ a1 6 = List.replicate 8 0 ∧ a1 14 = (a 14).set (3 : Int32).toNatClampNeg ((a 14).getD (3 : Int32).toNatClampNeg 0 + 1) ∧ v = sMn 99 (i 72 + 1)))) := by
  have hG := kG_self yw103_0 hI hr
  refine km_ofI (q := (mi_h103, mi_c103)) rfl (by decide) (Nat.le_of_ble_eq_true rfl) ?_
  intro P hP
  first | refine ft_goL mi_k103 2 4 [(0, .ref 0)] [.ref 1] (by rfl) ?_ | refine ft_go mi_k103 2 4 [(0, .ref 0)] [.ref 1] i a q r (by rfl) ?_
  refine ko_callN mi_k103.1 (pc := 4) (ls := [(0, .ref 0)]) (st := [.ref 1]) (h := ks i a q r) (i := (.invokevirtual 258, 3, 32, 0, 9, 0, 283)) (mi_k103.2 _ _ (by rfl)) (ft_invS mi_pq32 (by rfl)) (cy := mi_c32) mi_pq32 rfl (ke32_1 hG.I hG.R ) (by decide) ?_
  intro ig1 ag1 qg1 rg1 kg1 hg1
  have hGg1 := kG_call hG kg1 (by decide +kernel)
  obtain ⟨hg1, og1⟩ := hg1
  have q2 : ig1 72 = sMn 99 (i 72 + 1) := og1.1
  have q3 : ig1 73 = 0 := og1.2.1
  have q4 : ag1 6 = List.replicate 8 0 := og1.2.2.1
  have q5 : ag1 14 = (a 14).set (3 : Int32).toNatClampNeg ((a 14).getD (3 : Int32).toNatClampNeg 0 + 1) := og1.2.2.2
  first | refine ft_goS mi_k103 3 14 [.int (ig1 72)] (by rfl) ?_ | refine ft_go mi_k103 3 14 [(0, .ref 0)] [.int (ig1 72)] ig1 ag1 qg1 rg1 (by rfl) ?_
  exact ft_ret mi_k103 (by rfl) (hP (ig1 72) _ _ _ _ hGg1 ⟨trivial, ⟨(show ig1 72 = sMn 99 (i 72 + 1) from (by first | rfl | (simp only [q2, sMn, sMx]; done) | (simp only [q2, sMn, sMx]; rfl))), (show ig1 73 = 0 from (by first | rfl | (simp only [q3, sMn, sMx]; done) | (simp only [q3, sMn, sMx]; rfl))), (show ag1 6 = List.replicate 8 0 from (by first | rfl | (simp only [q4, sMn, sMx]; done) | (simp only [q4, sMn, sMx]; rfl))), (show ag1 14 = (a 14).set (3 : Int32).toNatClampNeg ((a 14).getD (3 : Int32).toNatClampNeg 0 + 1) from (by first | rfl | (simp only [q5, sMn, sMx]; done) | (simp only [q5, sMn, sMx]; rfl))), (show (ig1 72) = sMn 99 (i 72 + 1) from (by first | rfl | (simp only [q2, sMn, sMx]; done) | (simp only [q2, sMn, sMx]; rfl)))⟩⟩)
def yw167_116 : kW := ([], [118], [], [])
def yw167_116_L24 : kW := ([], [118], [], [])
set_option maxRecDepth 100000 in
theorem ke167_116 {i : Nat → Int32} {a : Nat → List Int32} {q : Nat → List Int64} {r : Nat → Nat} (hI : kI i a q) (hr : kr r)  : km 1 167 [.ref 116] (ks i a q r) (kVN yw167_116 i a q r (fun i1 a1 q1 r1 => (True) ∧ a1 118 = sEnds (a 118))) := by
  have hG := kG_self yw167_116 hI hr
  refine km_ofN (q := (mi_h167, mi_c167)) rfl (by decide) (Nat.le_of_ble_eq_true rfl) ?_
  intro P hP
  first | refine fo_goL mi_k167 fz167_0_7_14 [(0, .ref 116)] [.int 8, .ref 118, .int 99, .int 8, .ref 118] (by rfl) ?_ | refine ft_go mi_k167 7 14 [(0, .ref 116)] [.int 8, .ref 118, .int 99, .int 8, .ref 118] i a q r (by rfl) ?_
  refine ko_iald3 mi_k167.1 (n := 31) (c := 31) (ax := (0, 0, 0, 0, 0)) (mi_k167.2 _ _ (by rfl)) (by rfl) (ksG118 _ _ _ _) (hG.I.2.1 118) rfl (oj13 koj8) (oj14 koj8) ?_
  have b1 : ((-2147483648 : Int) ≤ ((a 118).getD (8 : Int32).toNatClampNeg 0).toInt) ∧ (((a 118).getD (8 : Int32).toNatClampNeg 0).toInt ≤ 2147483647) := kd_bd ((a 118).getD (8 : Int32).toNatClampNeg 0)
  first | refine ft_goS mi_k167 2 17 [.int (((a 118).getD (8 : Int32).toNatClampNeg 0) + 1), .int 99, .int 8, .ref 118] (by rfl) ?_ | refine ft_go mi_k167 2 17 [(0, .ref 116)] [.int (((a 118).getD (8 : Int32).toNatClampNeg 0) + 1), .int 99, .int 8, .ref 118] i a q r (by rfl) ?_
  have m3 : (((bif decide ((((a 118).getD (8 : Int32).toNatClampNeg 0) + 1) < 99) then (((a 118).getD (8 : Int32).toNatClampNeg 0) + 1) else 99).toInt ≤ (99 : Int32).toInt) ∧ ((bif decide ((((a 118).getD (8 : Int32).toNatClampNeg 0) + 1) < 99) then (((a 118).getD (8 : Int32).toNatClampNeg 0) + 1) else 99).toInt ≤ (((a 118).getD (8 : Int32).toNatClampNeg 0) + 1).toInt)) ∧ ((bif decide ((((a 118).getD (8 : Int32).toNatClampNeg 0) + 1) < 99) then (((a 118).getD (8 : Int32).toNatClampNeg 0) + 1) else 99).toInt = (99 : Int32).toInt ∨ (bif decide ((((a 118).getD (8 : Int32).toNatClampNeg 0) + 1) < 99) then (((a 118).getD (8 : Int32).toNatClampNeg 0) + 1) else 99).toInt = (((a 118).getD (8 : Int32).toNatClampNeg 0) + 1).toInt) := kd_min
  first | refine ft_goS mi_k167 1 20 [.int (bif decide ((((a 118).getD (8 : Int32).toNatClampNeg 0) + 1) < 99) then (((a 118).getD (8 : Int32).toNatClampNeg 0) + 1) else 99), .int 8, .ref 118] (by rfl) ?_ | refine ft_go mi_k167 1 20 [(0, .ref 116)] [.int (bif decide ((((a 118).getD (8 : Int32).toNatClampNeg 0) + 1) < 99) then (((a 118).getD (8 : Int32).toNatClampNeg 0) + 1) else 99), .int 8, .ref 118] i a q r (by rfl) ?_
  generalize hm2 : (bif decide ((((a 118).getD (8 : Int32).toNatClampNeg 0) + 1) < 99) then (((a 118).getD (8 : Int32).toNatClampNeg 0) + 1) else 99) = m2 at m3 ⊢
  have qm2 := hm2.symm
  refine ko_iast3 mi_k167.1 (n := 31) (c := 31) (ax := (0, 0, 0, 0, 0)) (mi_k167.2 _ _ (by rfl)) (by rfl) (ksG118 _ _ _ _) (ksA118 _ _ _ _) (hG.I.2.1 118) rfl (oj13 koj8) (oj14 koj8) ?_
  intro a4 ea4 fa4
  have hJ4 := kG_a3 hG 118 rfl ea4 fa4 (kE_nset (p := 118) (by decide) (oj13 koj8) (oj15 koj8) (oj16 koj8))
  first | refine ft_goL mi_k167 2 24 [(1, .int 9), (0, .ref 116)] [] (by rfl) ?_ | refine ft_go mi_k167 2 24 [(1, .int 9), (0, .ref 116)] [] i a4 q r (by rfl) ?_
  have lp5 : ∀ (nz : Nat) (i5 : Nat → Int32) (a5 : Nat → List Int32) (q5 : Nat → List Int64) (r5 : Nat → Nat) (l1_5 : Int32), kG yw167_116_L24 i a4 q r i5 a5 q5 r5 → ((9 : Int) ≤ l1_5.toInt) ∧ (l1_5.toInt ≤ 18) → a5 118 = sZ (l1_5.toInt - 9).toNat (a4 118) → ((18 - l1_5.toInt)).toNat < nz → ko 1 (mi_h167, mi_c167) P (24, [(1, .int l1_5), (0, .ref 116)], [], (0, 0), ks i5 a5 q5 r5) := by
    intro nz
    induction nz with
    | zero =>
      intro _ _ _ _ _ _ _ _ hm
      exact absurd hm (Nat.not_lt_zero _)
    | succ nz ih5 =>
      intro i5 a5 q5 r5 l1_5 hL5 p5_0 O5_0 hm5
      first | refine ft_goL mi_k167 2 27 [(1, .int l1_5), (0, .ref 116)] [.int 18, .int l1_5] (by rfl) ?_ | refine ft_go mi_k167 2 27 [(1, .int l1_5), (0, .ref 116)] [.int 18, .int l1_5] i5 a5 q5 r5 (by rfl) ?_
      refine ft_ifS mi_k167 (decide (18 ≤ l1_5)) 43 30 [] (by rfl) (fun c => ?_) (fun c => ?_)
      ·
        have c6 : (18 : Int32).toInt ≤ l1_5.toInt := kd_le c; clear c
        have hG7 := kG_call hJ4 hL5 (by decide +kernel)
        have qz8 : a5 118 = sZ 9 (a4 118) := sZ_end O5_0 (oj17 c6 p5_0.2 koj18)
        exact ft_ret mi_k167 (by rfl) (hP  _ _ _ _ hG7 ⟨trivial, (show a5 118 = sEnds (a 118) from (by first | rfl | (simp only [qz8, ea4, qm2, sMn, sMx, sEnds]; done) | (simp only [qz8, ea4, qm2, sMn, sMx, sEnds]; rfl)))⟩)
      ·
        have c9 : l1_5.toInt < (18 : Int32).toInt := kd_leF c; clear c
        first | refine ft_goS mi_k167 4 36 [.int 0, .int l1_5, .ref 118] (by rfl) ?_ | refine ft_go mi_k167 4 36 [(1, .int l1_5), (0, .ref 116)] [.int 0, .int l1_5, .ref 118] i5 a5 q5 r5 (by rfl) ?_
        refine ko_iast3 mi_k167.1 (n := 31) (c := 31) (ax := (0, 0, 0, 0, 0)) (mi_k167.2 _ _ (by rfl)) (by rfl) (ksG118 _ _ _ _) (ksA118 _ _ _ _) (hL5.I.2.1 118) rfl (oj18 p5_0.1) (oj19 p5_0.2) ?_
        intro a10 ea10 fa10
        have hJ10 := kG_a3 hL5 118 rfl ea10 fa10 (kE_nset (p := 118) (by decide) (oj18 p5_0.1) (oj20 c9 koj18 koj0) (oj21 p5_0.2 koj0))
        have s11 : (l1_5 + 1).toInt = l1_5.toInt + (1 : Int32).toInt := kd_add (oj22 p5_0.1 koj1) (oj23 p5_0.2 koj1)
        first | refine ft_goL mi_k167 2 24 [(1, .int (l1_5 + 1)), (0, .ref 116)] [] (by rfl) ?_ | refine ft_go mi_k167 2 24 [(1, .int (l1_5 + 1)), (0, .ref 116)] [] i5 a10 q5 r5 (by rfl) ?_
        exact ih5 _ _ _ _ _ hJ10 (oj24 c9 p5_0.1 s11 koj18 koj1) (sZ_step O5_0 (oj25 p5_0.1) (oj9 s11 koj1) ea10) (kj_meas (oj26 s11 koj1) (oj27 c9 koj18) hm5)
  exact lp5 _ _ _ _ _ _ (kG_self _ hJ4.I hJ4.R) (oj28 koj9) (sZ_zero _ koj9) (Nat.lt_succ_self _)
def yw203_116 : kW := ([], [118, 130], [], [])
set_option maxRecDepth 100000 in
theorem ke203_116 {i : Nat → Int32} {a : Nat → List Int32} {q : Nat → List Int64} {r : Nat → Nat} (hI : kI i a q) (hr : kr r)  : km 3 203 [.ref 116] (ks i a q r) (kVI yw203_116 i a q r (fun v i1 a1 q1 r1 => (True) ∧ (a1 118 = sEnds (a 118) ∧ a1 130 = (a 130).set (3 : Int32).toNatClampNeg ((a 130).getD (3 : Int32).toNatClampNeg 0 + 1) ∧ v = (sEnds (a 118)).getD (8 : Int32).toNatClampNeg 0))) := by
  have hG := kG_self yw203_116 hI hr
  refine km_ofI (q := (mi_h203, mi_c203)) rfl (by decide) (Nat.le_of_ble_eq_true rfl) ?_
  intro P hP
  first | refine ft_goL mi_k203 1 1 [(0, .ref 116)] [.ref 116] (by rfl) ?_ | refine ft_go mi_k203 1 1 [(0, .ref 116)] [.ref 116] i a q r (by rfl) ?_
  refine ko_callN mi_k203.1 (pc := 1) (ls := [(0, .ref 116)]) (st := [.ref 116]) (h := ks i a q r) (i := (.invokevirtual 282, 3, 167, 0, 9, 0, 426)) (mi_k203.2 _ _ (by rfl)) (ft_invS mi_pq167 (by rfl)) (cy := mi_c167) mi_pq167 rfl (ke167_116 hG.I hG.R ) (by decide) ?_
  intro ig1 ag1 qg1 rg1 kg1 hg1
  have hGg1 := kG_call hG kg1 (by decide +kernel)
  obtain ⟨hg1, og1⟩ := hg1
  have q2 : ag1 118 = sEnds (a 118) := og1
  first | refine ft_goS mi_k203 4 10 [.int 3, .ref 130, .int 3, .ref 130] (by rfl) ?_ | refine ft_go mi_k203 4 10 [(0, .ref 116)] [.int 3, .ref 130, .int 3, .ref 130] ig1 ag1 qg1 rg1 (by rfl) ?_
  refine ko_iald3 mi_k203.1 (n := 5) (c := 5) (ax := (0, 0, 0, 0, 0)) (mi_k203.2 _ _ (by rfl)) (by rfl) (ksG130 _ _ _ _) (hGg1.I.2.1 130) rfl (oj1 koj3) (oj2 koj3) ?_
  have b3 : ((-2147483648 : Int) ≤ ((ag1 130).getD (3 : Int32).toNatClampNeg 0).toInt) ∧ (((ag1 130).getD (3 : Int32).toNatClampNeg 0).toInt ≤ 2147483647) := kd_bd ((ag1 130).getD (3 : Int32).toNatClampNeg 0)
  first | refine ft_goS mi_k203 2 13 [.int (((ag1 130).getD (3 : Int32).toNatClampNeg 0) + 1), .int 3, .ref 130] (by rfl) ?_ | refine ft_go mi_k203 2 13 [(0, .ref 116)] [.int (((ag1 130).getD (3 : Int32).toNatClampNeg 0) + 1), .int 3, .ref 130] ig1 ag1 qg1 rg1 (by rfl) ?_
  refine ko_iast3 mi_k203.1 (n := 5) (c := 5) (ax := (0, 0, 0, 0, 0)) (mi_k203.2 _ _ (by rfl)) (by rfl) (ksG130 _ _ _ _) (ksA130 _ _ _ _) (hGg1.I.2.1 130) rfl (oj1 koj3) (oj2 koj3) ?_
  intro a4 ea4 fa4
  have hJ4 := kG_a3 hGg1 130 rfl ea4 fa4 (kd_bd _)
  first | refine ft_goS mi_k203 3 20 [.int 8, .ref 118] (by rfl) ?_ | refine ft_go mi_k203 3 20 [(0, .ref 116)] [.int 8, .ref 118] ig1 a4 qg1 rg1 (by rfl) ?_
  refine ko_iald3 mi_k203.1 (n := 31) (c := 31) (ax := (0, 0, 0, 0, 0)) (mi_k203.2 _ _ (by rfl)) (by rfl) (ksG118 _ _ _ _) (hJ4.I.2.1 118) rfl (oj13 koj8) (oj14 koj8) ?_
  have u5 : ((a4 118).getD (8 : Int32).toNatClampNeg 0).toInt = ((ag1 118).getD (8 : Int32).toNatClampNeg 0).toInt := congrArg (fun z : List Int32 => (z.getD (8 : Int32).toNatClampNeg 0).toInt) (fa4 118 (by decide))
  exact ft_ret mi_k203 (by rfl) (hP ((a4 118).getD (8 : Int32).toNatClampNeg 0) _ _ _ _ hJ4 ⟨trivial, ⟨(show a4 118 = sEnds (a 118) from (by first | rfl | (simp only [fa4 118 (by decide), q2, sMn, sMx]; done) | (simp only [fa4 118 (by decide), q2, sMn, sMx]; rfl))), (show a4 130 = (a 130).set (3 : Int32).toNatClampNeg ((a 130).getD (3 : Int32).toNatClampNeg 0 + 1) from (by first | rfl | (simp only [ea4, kg1.fa 130 rfl, sMn, sMx]; done) | (simp only [ea4, kg1.fa 130 rfl, sMn, sMx]; rfl))), (show ((a4 118).getD (8 : Int32).toNatClampNeg 0) = (sEnds (a 118)).getD (8 : Int32).toNatClampNeg 0 from (by first | rfl | (simp only [fa4 118 (by decide), q2, sMn, sMx]; done) | (simp only [fa4 118 (by decide), q2, sMn, sMx]; rfl)))⟩⟩)
def yw104_0 : kW := ([], [2, 14], [], [])
set_option maxRecDepth 100000 in
theorem ke104_0 {i : Nat → Int32} {a : Nat → List Int32} {q : Nat → List Int64} {r : Nat → Nat} (hI : kI i a q) (hr : kr r) (x1 : Int32) (x2 : Int32) (x3 : Int32) : km 5 104 [.ref 0, .int x1, .int x2, .int x3] (ks i a q r) (kVI yw104_0 i a q r (fun v i1 a1 q1 r1 => (True) ∧ ((((0 : Int) ≤ x1.toInt) ∧ (x1.toInt < (i 64).toInt) ∧ ((0 : Int) ≤ x2.toInt) ∧ (x2.toInt < (i 64).toInt) ∧ (x1.toInt ≠ x2.toInt) ∧ ((1 : Int) ≤ x3.toInt) ∧ (x3.toInt ≤ 999) ∧ (x3.toInt ≤ ((a 2).getD x1.toNatClampNeg 0).toInt) → a1 2 = (((a 2).set x1.toNatClampNeg ((a 2).getD x1.toNatClampNeg 0 - x3)).set x2.toNatClampNeg (sMn 999 (((a 2).set x1.toNatClampNeg ((a 2).getD x1.toNatClampNeg 0 - x3)).getD x2.toNatClampNeg 0 + x3)))) ∧ (((0 : Int) ≤ x1.toInt) ∧ (x1.toInt < (i 64).toInt) ∧ ((0 : Int) ≤ x2.toInt) ∧ (x2.toInt < (i 64).toInt) ∧ (x1.toInt ≠ x2.toInt) ∧ ((1 : Int) ≤ x3.toInt) ∧ (x3.toInt ≤ 999) ∧ (x3.toInt ≤ ((a 2).getD x1.toNatClampNeg 0).toInt) → a1 14 = (a 14).set (4 : Int32).toNatClampNeg ((a 14).getD (4 : Int32).toNatClampNeg 0 + x3)) ∧ (((0 : Int) ≤ x1.toInt) ∧ (x1.toInt < (i 64).toInt) ∧ ((0 : Int) ≤ x2.toInt) ∧ (x2.toInt < (i 64).toInt) ∧ (x1.toInt ≠ x2.toInt) ∧ ((1 : Int) ≤ x3.toInt) ∧ (x3.toInt ≤ 999) ∧ (x3.toInt ≤ ((a 2).getD x1.toNatClampNeg 0).toInt) → v = (((a 2).set x1.toNatClampNeg ((a 2).getD x1.toNatClampNeg 0 - x3)).set x2.toNatClampNeg (sMn 999 (((a 2).set x1.toNatClampNeg ((a 2).getD x1.toNatClampNeg 0 - x3)).getD x2.toNatClampNeg 0 + x3))).getD x1.toNatClampNeg 0) ∧ (¬ (((0 : Int) ≤ x1.toInt) ∧ (x1.toInt < (i 64).toInt) ∧ ((0 : Int) ≤ x2.toInt) ∧ (x2.toInt < (i 64).toInt) ∧ (x1.toInt ≠ x2.toInt) ∧ ((1 : Int) ≤ x3.toInt) ∧ (x3.toInt ≤ 999) ∧ (x3.toInt ≤ ((a 2).getD x1.toNatClampNeg 0).toInt)) → a1 2 = a 2) ∧ (¬ (((0 : Int) ≤ x1.toInt) ∧ (x1.toInt < (i 64).toInt) ∧ ((0 : Int) ≤ x2.toInt) ∧ (x2.toInt < (i 64).toInt) ∧ (x1.toInt ≠ x2.toInt) ∧ ((1 : Int) ≤ x3.toInt) ∧ (x3.toInt ≤ 999) ∧ (x3.toInt ≤ ((a 2).getD x1.toNatClampNeg 0).toInt)) → a1 14 = a 14) ∧ (((0 : Int) ≤ x1.toInt) ∧ (x1.toInt < (i 64).toInt) ∧ ((0 : Int) ≤ x2.toInt) ∧ (x2.toInt < (i 64).toInt) ∧ (x1.toInt ≠ x2.toInt) ∧ ((1 : Int) ≤ x3.toInt) ∧ (x3.toInt ≤ 999) ∧ (((a 2).getD x1.toNatClampNeg 0).toInt < x3.toInt) → v = -5) ∧ (¬ (((0 : Int) ≤ x1.toInt) ∧ (x1.toInt < (i 64).toInt) ∧ ((0 : Int) ≤ x2.toInt) ∧ (x2.toInt < (i 64).toInt) ∧ (x1.toInt ≠ x2.toInt) ∧ ((1 : Int) ≤ x3.toInt) ∧ (x3.toInt ≤ 999)) → v = -1)))) := by
  have hG := kG_self yw104_0 hI hr
  refine km_ofI (q := (mi_h104, mi_c104)) rfl (by decide) (Nat.le_of_ble_eq_true rfl) ?_
  intro P hP
  first | refine ft_goL mi_k104 2 2 [(0, .ref 0), (1, .int x1), (2, .int x2), (3, .int x3)] [.int x1, .ref 0] (by rfl) ?_ | refine ft_go mi_k104 2 2 [(0, .ref 0), (1, .int x1), (2, .int x2), (3, .int x3)] [.int x1, .ref 0] i a q r (by rfl) ?_
  refine ko_callPI mi_k104.1 (pc := 2) (ls := [(0, .ref 0), (1, .int x1), (2, .int x2), (3, .int x3)]) (st := [.int x1, .ref 0]) (h := ks i a q r) (i := (.invokevirtual 141, 3, 123, 0, 9, 0, 162)) (mi_k104.2 _ _ (by rfl)) (ft_invS mi_pq123 (by rfl)) (cy := mi_c123) mi_pq123 rfl (kc123_0 hG.I hG.R x1) (by decide) ?_
  intro vg1 hg1
  rcases hg1 with ⟨eg1, hg1⟩ | ⟨eg1, hg1⟩
  ·
    subst eg1
    have fi_64 : ((0 : Int) ≤ (i 64).toInt) ∧ ((i 64).toInt ≤ 8) := hG.I.1 64
    have z2 : ((0 : Int) ≤ x1.toInt) ∧ (x1.toInt < (i 64).toInt) := hg1
    first | refine ft_goS mi_k104 3 10 [.int x2, .ref 0] (by rfl) ?_ | refine ft_go mi_k104 3 10 [(0, .ref 0), (1, .int x1), (2, .int x2), (3, .int x3)] [.int x2, .ref 0] i a q r (by rfl) ?_
    refine ko_callPI mi_k104.1 (pc := 10) (ls := [(0, .ref 0), (1, .int x1), (2, .int x2), (3, .int x3)]) (st := [.int x2, .ref 0]) (h := ks i a q r) (i := (.invokevirtual 141, 3, 123, 0, 9, 0, 162)) (mi_k104.2 _ _ (by rfl)) (ft_invS mi_pq123 (by rfl)) (cy := mi_c123) mi_pq123 rfl (kc123_0 hG.I hG.R x2) (by decide) ?_
    intro vg3 hg3
    rcases hg3 with ⟨eg3, hg3⟩ | ⟨eg3, hg3⟩
    ·
      subst eg3
      have z4 : ((0 : Int) ≤ x2.toInt) ∧ (x2.toInt < (i 64).toInt) := hg3
      first | refine ft_goS mi_k104 3 18 [.int x2, .int x1] (by rfl) ?_ | refine ft_go mi_k104 3 18 [(0, .ref 0), (1, .int x1), (2, .int x2), (3, .int x3)] [.int x2, .int x1] i a q r (by rfl) ?_
      refine ft_ifS mi_k104 (x1 == x2) 32 21 [] (by rfl) (fun c => ?_) (fun c => ?_)
      ·
        have c5 : x1.toInt = x2.toInt := kd_eq c; clear c
        first | refine ft_goS mi_k104 1 33 [.int (-1)] (by rfl) ?_ | refine ft_go mi_k104 1 33 [(0, .ref 0), (1, .int x1), (2, .int x2), (3, .int x3)] [.int (-1)] i a q r (by rfl) ?_
        exact ft_ret mi_k104 (by rfl) (hP (-1) _ _ _ _ hG ⟨trivial, ⟨(fun h => absurd h (oj35 c5)), (fun h => absurd h (oj35 c5)), (fun h => absurd h (oj35 c5)), (fun _ => (show a 2 = a 2 from rfl)), (fun _ => (show a 14 = a 14 from rfl)), (fun h => absurd h (oj36 c5)), (fun _ => (show ((-1) : Int32) = -1 from (by first | rfl | (simp only [sMn, sMx]; done) | (simp only [sMn, sMx]; rfl))))⟩⟩)
      ·
        have c6 : x1.toInt ≠ x2.toInt := kd_eqF c; clear c
        first | refine ft_goS mi_k104 3 26 [.int 999, .int 1, .int x3] (by rfl) ?_ | refine ft_go mi_k104 3 26 [(0, .ref 0), (1, .int x1), (2, .int x2), (3, .int x3)] [.int 999, .int 1, .int x3] i a q r (by rfl) ?_
        refine ko_callPI mi_k104.1 (pc := 26) (ls := [(0, .ref 0), (1, .int x1), (2, .int x2), (3, .int x3)]) (st := [.int 999, .int 1, .int x3]) (h := ks i a q r) (i := (.invokestatic 74, 3, 120, 0, 9, 0, 152)) (mi_k104.2 _ _ (by rfl)) (ft_invS mi_pq120 (by rfl)) (cy := mi_c120) mi_pq120 rfl (kc120 hG.I hG.R x3 1 999) (by decide) ?_
        intro vg7 hg7
        rcases hg7 with ⟨eg7, hg7⟩ | ⟨eg7, hg7⟩
        ·
          subst eg7
          have z8 : ((1 : Int32).toInt ≤ x3.toInt) ∧ (x3.toInt ≤ (999 : Int32).toInt) := hg7
          first | refine fo_goS mi_k104 fz104_29_5_42 [.int x1, .ref 2] (by rfl) ?_ | refine ft_go mi_k104 5 42 [(0, .ref 0), (1, .int x1), (2, .int x2), (3, .int x3)] [.int x1, .ref 2] i a q r (by rfl) ?_
          refine ko_iald3 mi_k104.1 (n := 8) (c := 8) (ax := (0, 0, 0, 0, 0)) (mi_k104.2 _ _ (by rfl)) (by rfl) (ksG2 _ _ _ _) (hG.I.2.1 2) rfl (oj3 z2.1) (oj40 fi_64.2 z2.2) ?_
          first | refine ft_goS mi_k104 1 44 [.int x3, .int ((a 2).getD x1.toNatClampNeg 0)] (by rfl) ?_ | refine ft_go mi_k104 1 44 [(0, .ref 0), (1, .int x1), (2, .int x2), (3, .int x3)] [.int x3, .int ((a 2).getD x1.toNatClampNeg 0)] i a q r (by rfl) ?_
          refine ft_ifS mi_k104 (decide (x3 ≤ ((a 2).getD x1.toNatClampNeg 0))) 50 47 [] (by rfl) (fun c => ?_) (fun c => ?_)
          ·
            have c9 : x3.toInt ≤ ((a 2).getD x1.toNatClampNeg 0).toInt := kd_le c; clear c
            first | refine fo_goS mi_k104 fz104_50_5_59 [.int x1, .ref 2, .int x1, .ref 2] (by rfl) ?_ | refine ft_go mi_k104 5 59 [(0, .ref 0), (1, .int x1), (2, .int x2), (3, .int x3)] [.int x1, .ref 2, .int x1, .ref 2] i a q r (by rfl) ?_
            refine ko_iald3 mi_k104.1 (n := 8) (c := 8) (ax := (0, 0, 0, 0, 0)) (mi_k104.2 _ _ (by rfl)) (by rfl) (ksG2 _ _ _ _) (hG.I.2.1 2) rfl (oj3 z2.1) (oj40 fi_64.2 z2.2) ?_
            have b10 : ((-2147483648 : Int) ≤ ((a 2).getD x1.toNatClampNeg 0).toInt) ∧ (((a 2).getD x1.toNatClampNeg 0).toInt ≤ 2147483647) := kd_bd ((a 2).getD x1.toNatClampNeg 0)
            have b11 : ((-2147483648 : Int) ≤ x3.toInt) ∧ (x3.toInt ≤ 2147483647) := kd_bd x3
            have s12 : (((a 2).getD x1.toNatClampNeg 0) - x3).toInt = ((a 2).getD x1.toNatClampNeg 0).toInt - x3.toInt := kd_sub (oj41 c9) (oj42 b10.2 z8.1 koj1)
            first | refine ft_goS mi_k104 2 62 [.int (((a 2).getD x1.toNatClampNeg 0) - x3), .int x1, .ref 2] (by rfl) ?_ | refine ft_go mi_k104 2 62 [(0, .ref 0), (1, .int x1), (2, .int x2), (3, .int x3)] [.int (((a 2).getD x1.toNatClampNeg 0) - x3), .int x1, .ref 2] i a q r (by rfl) ?_
            refine ko_iast3 mi_k104.1 (n := 8) (c := 8) (ax := (0, 0, 0, 0, 0)) (mi_k104.2 _ _ (by rfl)) (by rfl) (ksG2 _ _ _ _) (ksA2 _ _ _ _) (hG.I.2.1 2) rfl (oj3 z2.1) (oj40 fi_64.2 z2.2) ?_
            intro a13 ea13 fa13
            have hJ13 := kG_a3 hG 2 rfl ea13 fa13 (kd_bd _)
            first | refine fo_goS mi_k104 fz104_63_9_82 [.int x2, .ref 2, .int 999, .int x2, .ref 2] (by rfl) ?_ | refine ft_go mi_k104 9 82 [(0, .ref 0), (1, .int x1), (2, .int x2), (3, .int x3)] [.int x2, .ref 2, .int 999, .int x2, .ref 2] i a13 q r (by rfl) ?_
            refine ko_iald3 mi_k104.1 (n := 8) (c := 8) (ax := (0, 0, 0, 0, 0)) (mi_k104.2 _ _ (by rfl)) (by rfl) (ksG2 _ _ _ _) (hJ13.I.2.1 2) rfl (oj3 z4.1) (oj40 fi_64.2 z4.2) ?_
            have b14 : ((-2147483648 : Int) ≤ ((a13 2).getD x2.toNatClampNeg 0).toInt) ∧ (((a13 2).getD x2.toNatClampNeg 0).toInt ≤ 2147483647) := kd_bd ((a13 2).getD x2.toNatClampNeg 0)
            first | refine ft_goS mi_k104 2 85 [.int (((a13 2).getD x2.toNatClampNeg 0) + x3), .int 999, .int x2, .ref 2] (by rfl) ?_ | refine ft_go mi_k104 2 85 [(0, .ref 0), (1, .int x1), (2, .int x2), (3, .int x3)] [.int (((a13 2).getD x2.toNatClampNeg 0) + x3), .int 999, .int x2, .ref 2] i a13 q r (by rfl) ?_
            have m16 : (((bif decide ((((a13 2).getD x2.toNatClampNeg 0) + x3) < 999) then (((a13 2).getD x2.toNatClampNeg 0) + x3) else 999).toInt ≤ (999 : Int32).toInt) ∧ ((bif decide ((((a13 2).getD x2.toNatClampNeg 0) + x3) < 999) then (((a13 2).getD x2.toNatClampNeg 0) + x3) else 999).toInt ≤ (((a13 2).getD x2.toNatClampNeg 0) + x3).toInt)) ∧ ((bif decide ((((a13 2).getD x2.toNatClampNeg 0) + x3) < 999) then (((a13 2).getD x2.toNatClampNeg 0) + x3) else 999).toInt = (999 : Int32).toInt ∨ (bif decide ((((a13 2).getD x2.toNatClampNeg 0) + x3) < 999) then (((a13 2).getD x2.toNatClampNeg 0) + x3) else 999).toInt = (((a13 2).getD x2.toNatClampNeg 0) + x3).toInt) := kd_min
            first | refine ft_goS mi_k104 1 88 [.int (bif decide ((((a13 2).getD x2.toNatClampNeg 0) + x3) < 999) then (((a13 2).getD x2.toNatClampNeg 0) + x3) else 999), .int x2, .ref 2] (by rfl) ?_ | refine ft_go mi_k104 1 88 [(0, .ref 0), (1, .int x1), (2, .int x2), (3, .int x3)] [.int (bif decide ((((a13 2).getD x2.toNatClampNeg 0) + x3) < 999) then (((a13 2).getD x2.toNatClampNeg 0) + x3) else 999), .int x2, .ref 2] i a13 q r (by rfl) ?_
            generalize hm15 : (bif decide ((((a13 2).getD x2.toNatClampNeg 0) + x3) < 999) then (((a13 2).getD x2.toNatClampNeg 0) + x3) else 999) = m15 at m16 ⊢
            have qm15 := hm15.symm
            refine ko_iast3 mi_k104.1 (n := 8) (c := 8) (ax := (0, 0, 0, 0, 0)) (mi_k104.2 _ _ (by rfl)) (by rfl) (ksG2 _ _ _ _) (ksA2 _ _ _ _) (hJ13.I.2.1 2) rfl (oj3 z4.1) (oj40 fi_64.2 z4.2) ?_
            intro a17 ea17 fa17
            have hJ17 := kG_a3 hJ13 2 rfl ea17 fa17 (kd_bd _)
            first | refine fo_goS mi_k104 fz104_89_5_98 [.int 4, .ref 14, .int 4, .ref 14] (by rfl) ?_ | refine ft_go mi_k104 5 98 [(0, .ref 0), (1, .int x1), (2, .int x2), (3, .int x3)] [.int 4, .ref 14, .int 4, .ref 14] i a17 q r (by rfl) ?_
            refine ko_iald3 mi_k104.1 (n := 5) (c := 5) (ax := (0, 0, 0, 0, 0)) (mi_k104.2 _ _ (by rfl)) (by rfl) (ksG14 _ _ _ _) (hJ17.I.2.1 14) rfl (oj43 koj4) (oj44 koj4) ?_
            have b18 : ((-2147483648 : Int) ≤ ((a17 14).getD (4 : Int32).toNatClampNeg 0).toInt) ∧ (((a17 14).getD (4 : Int32).toNatClampNeg 0).toInt ≤ 2147483647) := kd_bd ((a17 14).getD (4 : Int32).toNatClampNeg 0)
            first | refine ft_goS mi_k104 2 101 [.int (((a17 14).getD (4 : Int32).toNatClampNeg 0) + x3), .int 4, .ref 14] (by rfl) ?_ | refine ft_go mi_k104 2 101 [(0, .ref 0), (1, .int x1), (2, .int x2), (3, .int x3)] [.int (((a17 14).getD (4 : Int32).toNatClampNeg 0) + x3), .int 4, .ref 14] i a17 q r (by rfl) ?_
            refine ko_iast3 mi_k104.1 (n := 5) (c := 5) (ax := (0, 0, 0, 0, 0)) (mi_k104.2 _ _ (by rfl)) (by rfl) (ksG14 _ _ _ _) (ksA14 _ _ _ _) (hJ17.I.2.1 14) rfl (oj43 koj4) (oj44 koj4) ?_
            intro a19 ea19 fa19
            have hJ19 := kG_a3 hJ17 14 rfl ea19 fa19 (kd_bd _)
            first | refine ft_goS mi_k104 4 110 [.int x1, .ref 2] (by rfl) ?_ | refine ft_go mi_k104 4 110 [(0, .ref 0), (1, .int x1), (2, .int x2), (3, .int x3)] [.int x1, .ref 2] i a19 q r (by rfl) ?_
            refine ko_iald3 mi_k104.1 (n := 8) (c := 8) (ax := (0, 0, 0, 0, 0)) (mi_k104.2 _ _ (by rfl)) (by rfl) (ksG2 _ _ _ _) (hJ19.I.2.1 2) rfl (oj3 z2.1) (oj40 fi_64.2 z2.2) ?_
            exact ft_ret mi_k104 (by rfl) (hP ((a19 2).getD x1.toNatClampNeg 0) _ _ _ _ hJ19 ⟨trivial, ⟨(fun _ => (show a19 2 = (((a 2).set x1.toNatClampNeg ((a 2).getD x1.toNatClampNeg 0 - x3)).set x2.toNatClampNeg (sMn 999 (((a 2).set x1.toNatClampNeg ((a 2).getD x1.toNatClampNeg 0 - x3)).getD x2.toNatClampNeg 0 + x3))) from (by first | rfl | (simp only [fa19 2 (by decide), ea17, ea13, qm15, sMn, sMx]; done) | (simp only [fa19 2 (by decide), ea17, ea13, qm15, sMn, sMx]; rfl)))), (fun _ => (show a19 14 = (a 14).set (4 : Int32).toNatClampNeg ((a 14).getD (4 : Int32).toNatClampNeg 0 + x3) from (by first | rfl | (simp only [ea19, fa17 14 (by decide), fa13 14 (by decide), sMn, sMx]; done) | (simp only [ea19, fa17 14 (by decide), fa13 14 (by decide), sMn, sMx]; rfl)))), (fun _ => (show ((a19 2).getD x1.toNatClampNeg 0) = (((a 2).set x1.toNatClampNeg ((a 2).getD x1.toNatClampNeg 0 - x3)).set x2.toNatClampNeg (sMn 999 (((a 2).set x1.toNatClampNeg ((a 2).getD x1.toNatClampNeg 0 - x3)).getD x2.toNatClampNeg 0 + x3))).getD x1.toNatClampNeg 0 from (by first | rfl | (simp only [fa19 2 (by decide), ea17, ea13, qm15, sMn, sMx]; done) | (simp only [fa19 2 (by decide), ea17, ea13, qm15, sMn, sMx]; rfl)))), (fun h => absurd h (oj45 c6 c9 z2.1 z2.2 z4.1 z4.2 z8.1 z8.2 koj1 koj999)), (fun h => absurd h (oj45 c6 c9 z2.1 z2.2 z4.1 z4.2 z8.1 z8.2 koj1 koj999)), (fun h => absurd h (oj46 c9)), (fun h => absurd h (oj47 c6 z2.1 z2.2 z4.1 z4.2 z8.1 z8.2 koj1 koj999))⟩⟩)
          ·
            have c20 : ((a 2).getD x1.toNatClampNeg 0).toInt < x3.toInt := kd_leF c; clear c
            first | refine ft_goS mi_k104 1 49 [.int (-5)] (by rfl) ?_ | refine ft_go mi_k104 1 49 [(0, .ref 0), (1, .int x1), (2, .int x2), (3, .int x3)] [.int (-5)] i a q r (by rfl) ?_
            exact ft_ret mi_k104 (by rfl) (hP (-5) _ _ _ _ hG ⟨trivial, ⟨(fun h => absurd h (oj48 c20)), (fun h => absurd h (oj48 c20)), (fun h => absurd h (oj48 c20)), (fun _ => (show a 2 = a 2 from rfl)), (fun _ => (show a 14 = a 14 from rfl)), (fun _ => (show ((-5) : Int32) = -5 from (by first | rfl | (simp only [sMn, sMx]; done) | (simp only [sMn, sMx]; rfl)))), (fun h => absurd h (oj47 c6 z2.1 z2.2 z4.1 z4.2 z8.1 z8.2 koj1 koj999))⟩⟩)
        ·
          subst eg7
          have z21 : ¬ (((1 : Int32).toInt ≤ x3.toInt) ∧ (x3.toInt ≤ (999 : Int32).toInt)) := hg7
          first | refine fo_goS mi_k104 fz104_5_2_33 [.int (-1)] (by rfl) ?_ | refine fo_goS mi_k104 fz104_13_2_33 [.int (-1)] (by rfl) ?_ | refine fo_goS mi_k104 fz104_29_2_33 [.int (-1)] (by rfl) ?_ | refine ft_goS mi_k104 2 33 [.int (-1)] (by rfl) ?_ | refine ft_go mi_k104 2 33 [(0, .ref 0), (1, .int x1), (2, .int x2), (3, .int x3)] [.int (-1)] i a q r (by rfl) ?_
          exact ft_ret mi_k104 (by rfl) (hP (-1) _ _ _ _ hG ⟨trivial, ⟨(fun h => absurd h (oj49 z21 koj1 koj999)), (fun h => absurd h (oj49 z21 koj1 koj999)), (fun h => absurd h (oj49 z21 koj1 koj999)), (fun _ => (show a 2 = a 2 from rfl)), (fun _ => (show a 14 = a 14 from rfl)), (fun h => absurd h (oj50 z21 koj1 koj999)), (fun _ => (show ((-1) : Int32) = -1 from (by first | rfl | (simp only [sMn, sMx]; done) | (simp only [sMn, sMx]; rfl))))⟩⟩)
    ·
      subst eg3
      have z22 : ¬ (((0 : Int) ≤ x2.toInt) ∧ (x2.toInt < (i 64).toInt)) := hg3
      first | refine fo_goS mi_k104 fz104_5_2_33 [.int (-1)] (by rfl) ?_ | refine fo_goS mi_k104 fz104_13_2_33 [.int (-1)] (by rfl) ?_ | refine fo_goS mi_k104 fz104_29_2_33 [.int (-1)] (by rfl) ?_ | refine ft_goS mi_k104 2 33 [.int (-1)] (by rfl) ?_ | refine ft_go mi_k104 2 33 [(0, .ref 0), (1, .int x1), (2, .int x2), (3, .int x3)] [.int (-1)] i a q r (by rfl) ?_
      exact ft_ret mi_k104 (by rfl) (hP (-1) _ _ _ _ hG ⟨trivial, ⟨(fun h => absurd h (oj51 z22)), (fun h => absurd h (oj51 z22)), (fun h => absurd h (oj51 z22)), (fun _ => (show a 2 = a 2 from rfl)), (fun _ => (show a 14 = a 14 from rfl)), (fun h => absurd h (oj52 z22)), (fun _ => (show ((-1) : Int32) = -1 from (by first | rfl | (simp only [sMn, sMx]; done) | (simp only [sMn, sMx]; rfl))))⟩⟩)
  ·
    subst eg1
    have z23 : ¬ (((0 : Int) ≤ x1.toInt) ∧ (x1.toInt < (i 64).toInt)) := hg1
    first | refine fo_goS mi_k104 fz104_5_2_33 [.int (-1)] (by rfl) ?_ | refine fo_goS mi_k104 fz104_13_2_33 [.int (-1)] (by rfl) ?_ | refine fo_goS mi_k104 fz104_29_2_33 [.int (-1)] (by rfl) ?_ | refine ft_goS mi_k104 2 33 [.int (-1)] (by rfl) ?_ | refine ft_go mi_k104 2 33 [(0, .ref 0), (1, .int x1), (2, .int x2), (3, .int x3)] [.int (-1)] i a q r (by rfl) ?_
    exact ft_ret mi_k104 (by rfl) (hP (-1) _ _ _ _ hG ⟨trivial, ⟨(fun h => absurd h (oj53 z23)), (fun h => absurd h (oj53 z23)), (fun h => absurd h (oj53 z23)), (fun _ => (show a 2 = a 2 from rfl)), (fun _ => (show a 14 = a 14 from rfl)), (fun h => absurd h (oj54 z23)), (fun _ => (show ((-1) : Int32) = -1 from (by first | rfl | (simp only [sMn, sMx]; done) | (simp only [sMn, sMx]; rfl))))⟩⟩)
end
section
theorem kok1 : (1 : Int32).toInt = 1 := by decide
theorem kok999 : (999 : Int32).toInt = 999 := by decide
theorem kok4 : (4 : Int32).toInt = 4 := by decide
theorem ok7 {a0 a1 a2 a3 a4 : Int} (h0 : a0 = a1) : ¬ (((0 : Int) ≤ a0) ∧ (a0 < a2) ∧ ((0 : Int) ≤ a1) ∧ (a1 < a2) ∧ (a0 ≠ a1) ∧ ((1 : Int) ≤ a3) ∧ (a3 ≤ 999) ∧ (a3 ≤ a4)) := oj35 h0
theorem ok8 {a0 a1 a2 a3 a4 : Int} (h0 : a0 = a1) : ¬ (((0 : Int) ≤ a0) ∧ (a0 < a2) ∧ ((0 : Int) ≤ a1) ∧ (a1 < a2) ∧ (a0 ≠ a1) ∧ ((1 : Int) ≤ a3) ∧ (a3 ≤ 999) ∧ (a4 < a3)) := oj36 h0
theorem ok9 {a0 : Int} (h0 : (0 : Int) ≤ a0) : (0 : Int) ≤ a0 := oz3 h0
theorem ok10 {a0 a1 : Int} (h0 : a0 ≤ 8) (h1 : a1 < a0) : a1 < 31 := oz385 h0 h1
theorem ok11 {a0 a1 : Int} (h0 : a0 ≤ a1) : (-2147483648 : Int) ≤ a1 - a0 := oz551 h0
theorem ok12 {a0 a1 a2 : Int} (h0 : a0 ≤ 2147483647) (h1 : a1 ≤ a2) (h2 : a1 = 1) : a0 - a2 ≤ 2147483647 := oz552 h0 h1 h2
theorem ok13 {a0 a1 a2 : Int} (h0 : a0 ≤ 8) (h1 : a1 < a0) : a1 = 18 → (0 : Int) ≤ a2 ∧ a2 ≤ 5 := oz553 h0 h1
theorem ok14 {a0 a1 a2 : Int} (h0 : a0 ≤ 8) (h1 : a1 < a0) : 19 ≤ a1 → a1 ≤ 24 → (0 : Int) ≤ a2 ∧ a2 ≤ 7 := oz554 h0 h1
theorem ok15 {a0 a1 : Int} (h0 : a0 ≠ a1) : a1 ≠ a0 := oz351 h0
theorem ok16 {a0 : Int} (h0 : a0 = 4) : (0 : Int) ≤ a0 := oz262 h0
theorem ok17 {a0 : Int} (h0 : a0 = 4) : a0 < 5 := oz555 h0
theorem ok18 {a0 a1 : Int} (h0 : a0 ≠ a1) : a0 ≠ a1 := oz556 h0
theorem ok19 {a0 a1 a2 a3 a4 a5 a6 : Int} (h0 : a0 ≤ a1) (h1 : a2 ≠ a3) (h2 : (0 : Int) ≤ a2) (h3 : a2 < a4) (h4 : (0 : Int) ≤ a3) (h5 : a3 < a4) (h6 : a5 ≤ a0) (h7 : a0 ≤ a6) (h8 : a5 = 1) (h9 : a6 = 999) : ¬ (¬ (((0 : Int) ≤ a2) ∧ (a2 < a4) ∧ ((0 : Int) ≤ a3) ∧ (a3 < a4) ∧ (a2 ≠ a3) ∧ ((1 : Int) ≤ a0) ∧ (a0 ≤ 999) ∧ (a0 ≤ a1))) := by omega
theorem ok20 {a0 a1 a2 a3 a4 : Int} (h0 : a0 ≤ a1) : ¬ (((0 : Int) ≤ a2) ∧ (a2 < a3) ∧ ((0 : Int) ≤ a4) ∧ (a4 < a3) ∧ (a2 ≠ a4) ∧ ((1 : Int) ≤ a0) ∧ (a0 ≤ 999) ∧ (a1 < a0)) := oj46 h0
theorem ok21 {a0 a1 a2 a3 a4 a5 : Int} (h0 : a0 ≠ a1) (h1 : (0 : Int) ≤ a0) (h2 : a0 < a2) (h3 : (0 : Int) ≤ a1) (h4 : a1 < a2) (h5 : a3 ≤ a4) (h6 : a4 ≤ a5) (h7 : a3 = 1) (h8 : a5 = 999) : ¬ (¬ (((0 : Int) ≤ a0) ∧ (a0 < a2) ∧ ((0 : Int) ≤ a1) ∧ (a1 < a2) ∧ (a0 ≠ a1) ∧ ((1 : Int) ≤ a4) ∧ (a4 ≤ 999))) := oj47 h0 h1 h2 h3 h4 h5 h6 h7 h8
theorem ok22 {a0 a1 a2 a3 a4 : Int} (h0 : a0 < a1) : ¬ (((0 : Int) ≤ a2) ∧ (a2 < a3) ∧ ((0 : Int) ≤ a4) ∧ (a4 < a3) ∧ (a2 ≠ a4) ∧ ((1 : Int) ≤ a1) ∧ (a1 ≤ 999) ∧ (a1 ≤ a0)) := oj48 h0
theorem ok23 {a0 a1 a2 a3 a4 a5 a6 : Int} (h0 : ¬ ((a0 ≤ a1) ∧ (a1 ≤ a2))) (h1 : a0 = 1) (h2 : a2 = 999) : ¬ (((0 : Int) ≤ a3) ∧ (a3 < a4) ∧ ((0 : Int) ≤ a5) ∧ (a5 < a4) ∧ (a3 ≠ a5) ∧ ((1 : Int) ≤ a1) ∧ (a1 ≤ 999) ∧ (a1 ≤ a6)) := oj49 h0 h1 h2
theorem ok24 {a0 a1 a2 a3 a4 a5 a6 : Int} (h0 : ¬ ((a0 ≤ a1) ∧ (a1 ≤ a2))) (h1 : a0 = 1) (h2 : a2 = 999) : ¬ (((0 : Int) ≤ a3) ∧ (a3 < a4) ∧ ((0 : Int) ≤ a5) ∧ (a5 < a4) ∧ (a3 ≠ a5) ∧ ((1 : Int) ≤ a1) ∧ (a1 ≤ 999) ∧ (a6 < a1)) := oj50 h0 h1 h2
theorem ok25 {a0 a1 a2 a3 a4 : Int} (h0 : ¬ (((0 : Int) ≤ a0) ∧ (a0 < a1))) : ¬ (((0 : Int) ≤ a2) ∧ (a2 < a1) ∧ ((0 : Int) ≤ a0) ∧ (a0 < a1) ∧ (a2 ≠ a0) ∧ ((1 : Int) ≤ a3) ∧ (a3 ≤ 999) ∧ (a3 ≤ a4)) := oj51 h0
theorem ok26 {a0 a1 a2 a3 a4 : Int} (h0 : ¬ (((0 : Int) ≤ a0) ∧ (a0 < a1))) : ¬ (((0 : Int) ≤ a2) ∧ (a2 < a1) ∧ ((0 : Int) ≤ a0) ∧ (a0 < a1) ∧ (a2 ≠ a0) ∧ ((1 : Int) ≤ a3) ∧ (a3 ≤ 999) ∧ (a4 < a3)) := oj52 h0
theorem ok27 {a0 a1 a2 a3 a4 : Int} (h0 : ¬ (((0 : Int) ≤ a0) ∧ (a0 < a1))) : ¬ (((0 : Int) ≤ a0) ∧ (a0 < a1) ∧ ((0 : Int) ≤ a2) ∧ (a2 < a1) ∧ (a0 ≠ a2) ∧ ((1 : Int) ≤ a3) ∧ (a3 ≤ 999) ∧ (a3 ≤ a4)) := oj53 h0
theorem ok28 {a0 a1 a2 a3 a4 : Int} (h0 : ¬ (((0 : Int) ≤ a0) ∧ (a0 < a1))) : ¬ (((0 : Int) ≤ a0) ∧ (a0 < a1) ∧ ((0 : Int) ≤ a2) ∧ (a2 < a1) ∧ (a0 ≠ a2) ∧ ((1 : Int) ≤ a3) ∧ (a3 ≤ 999) ∧ (a4 < a3)) := oj54 h0
def yw204_116 : kW := ([], [118, 130], [], [])
set_option maxRecDepth 100000 in
theorem ke204_116 {i : Nat → Int32} {a : Nat → List Int32} {q : Nat → List Int64} {r : Nat → Nat} (hI : kI i a q) (hr : kr r) (x1 : Int32) (x2 : Int32) (x3 : Int32) : km 5 204 [.ref 116, .int x1, .int x2, .int x3] (ks i a q r) (kVI yw204_116 i a q r (fun v i1 a1 q1 r1 => (True) ∧ ((((0 : Int) ≤ x1.toInt) ∧ (x1.toInt < (i 7424).toInt) ∧ ((0 : Int) ≤ x2.toInt) ∧ (x2.toInt < (i 7424).toInt) ∧ (x1.toInt ≠ x2.toInt) ∧ ((1 : Int) ≤ x3.toInt) ∧ (x3.toInt ≤ 999) ∧ (x3.toInt ≤ ((a 118).getD x1.toNatClampNeg 0).toInt) → a1 118 = (((a 118).set x1.toNatClampNeg ((a 118).getD x1.toNatClampNeg 0 - x3)).set x2.toNatClampNeg (sMn 999 (((a 118).set x1.toNatClampNeg ((a 118).getD x1.toNatClampNeg 0 - x3)).getD x2.toNatClampNeg 0 + x3)))) ∧ (((0 : Int) ≤ x1.toInt) ∧ (x1.toInt < (i 7424).toInt) ∧ ((0 : Int) ≤ x2.toInt) ∧ (x2.toInt < (i 7424).toInt) ∧ (x1.toInt ≠ x2.toInt) ∧ ((1 : Int) ≤ x3.toInt) ∧ (x3.toInt ≤ 999) ∧ (x3.toInt ≤ ((a 118).getD x1.toNatClampNeg 0).toInt) → a1 130 = (a 130).set (4 : Int32).toNatClampNeg ((a 130).getD (4 : Int32).toNatClampNeg 0 + x3)) ∧ (((0 : Int) ≤ x1.toInt) ∧ (x1.toInt < (i 7424).toInt) ∧ ((0 : Int) ≤ x2.toInt) ∧ (x2.toInt < (i 7424).toInt) ∧ (x1.toInt ≠ x2.toInt) ∧ ((1 : Int) ≤ x3.toInt) ∧ (x3.toInt ≤ 999) ∧ (x3.toInt ≤ ((a 118).getD x1.toNatClampNeg 0).toInt) → v = (((a 118).set x1.toNatClampNeg ((a 118).getD x1.toNatClampNeg 0 - x3)).set x2.toNatClampNeg (sMn 999 (((a 118).set x1.toNatClampNeg ((a 118).getD x1.toNatClampNeg 0 - x3)).getD x2.toNatClampNeg 0 + x3))).getD x1.toNatClampNeg 0) ∧ (¬ (((0 : Int) ≤ x1.toInt) ∧ (x1.toInt < (i 7424).toInt) ∧ ((0 : Int) ≤ x2.toInt) ∧ (x2.toInt < (i 7424).toInt) ∧ (x1.toInt ≠ x2.toInt) ∧ ((1 : Int) ≤ x3.toInt) ∧ (x3.toInt ≤ 999) ∧ (x3.toInt ≤ ((a 118).getD x1.toNatClampNeg 0).toInt)) → a1 118 = a 118) ∧ (¬ (((0 : Int) ≤ x1.toInt) ∧ (x1.toInt < (i 7424).toInt) ∧ ((0 : Int) ≤ x2.toInt) ∧ (x2.toInt < (i 7424).toInt) ∧ (x1.toInt ≠ x2.toInt) ∧ ((1 : Int) ≤ x3.toInt) ∧ (x3.toInt ≤ 999) ∧ (x3.toInt ≤ ((a 118).getD x1.toNatClampNeg 0).toInt)) → a1 130 = a 130) ∧ (((0 : Int) ≤ x1.toInt) ∧ (x1.toInt < (i 7424).toInt) ∧ ((0 : Int) ≤ x2.toInt) ∧ (x2.toInt < (i 7424).toInt) ∧ (x1.toInt ≠ x2.toInt) ∧ ((1 : Int) ≤ x3.toInt) ∧ (x3.toInt ≤ 999) ∧ (((a 118).getD x1.toNatClampNeg 0).toInt < x3.toInt) → v = -5) ∧ (¬ (((0 : Int) ≤ x1.toInt) ∧ (x1.toInt < (i 7424).toInt) ∧ ((0 : Int) ≤ x2.toInt) ∧ (x2.toInt < (i 7424).toInt) ∧ (x1.toInt ≠ x2.toInt) ∧ ((1 : Int) ≤ x3.toInt) ∧ (x3.toInt ≤ 999)) → v = -1)))) := by
  have hG := kG_self yw204_116 hI hr
  refine km_ofI (q := (mi_h204, mi_c204)) rfl (by decide) (Nat.le_of_ble_eq_true rfl) ?_
  intro P hP
  first | refine ft_goL mi_k204 2 2 [(0, .ref 116), (1, .int x1), (2, .int x2), (3, .int x3)] [.int x1, .ref 116] (by rfl) ?_ | refine ft_go mi_k204 2 2 [(0, .ref 116), (1, .int x1), (2, .int x2), (3, .int x3)] [.int x1, .ref 116] i a q r (by rfl) ?_
  refine ko_callPI mi_k204.1 (pc := 2) (ls := [(0, .ref 116), (1, .int x1), (2, .int x2), (3, .int x3)]) (st := [.int x1, .ref 116]) (h := ks i a q r) (i := (.invokevirtual 137, 3, 132, 0, 9, 0, 387)) (mi_k204.2 _ _ (by rfl)) (ft_invS mi_pq132 (by rfl)) (cy := mi_c132) mi_pq132 rfl (kc132_116 hG.I hG.R x1) (by decide) ?_
  intro vg1 hg1
  rcases hg1 with ⟨eg1, hg1⟩ | ⟨eg1, hg1⟩
  ·
    subst eg1
    have fi_7424 : ((0 : Int) ≤ (i 7424).toInt) ∧ ((i 7424).toInt ≤ 8) := hG.I.1 7424
    have z2 : ((0 : Int) ≤ x1.toInt) ∧ (x1.toInt < (i 7424).toInt) := hg1
    first | refine ft_goS mi_k204 3 10 [.int x2, .ref 116] (by rfl) ?_ | refine ft_go mi_k204 3 10 [(0, .ref 116), (1, .int x1), (2, .int x2), (3, .int x3)] [.int x2, .ref 116] i a q r (by rfl) ?_
    refine ko_callPI mi_k204.1 (pc := 10) (ls := [(0, .ref 116), (1, .int x1), (2, .int x2), (3, .int x3)]) (st := [.int x2, .ref 116]) (h := ks i a q r) (i := (.invokevirtual 137, 3, 132, 0, 9, 0, 387)) (mi_k204.2 _ _ (by rfl)) (ft_invS mi_pq132 (by rfl)) (cy := mi_c132) mi_pq132 rfl (kc132_116 hG.I hG.R x2) (by decide) ?_
    intro vg3 hg3
    rcases hg3 with ⟨eg3, hg3⟩ | ⟨eg3, hg3⟩
    ·
      subst eg3
      have z4 : ((0 : Int) ≤ x2.toInt) ∧ (x2.toInt < (i 7424).toInt) := hg3
      first | refine ft_goS mi_k204 3 18 [.int x2, .int x1] (by rfl) ?_ | refine ft_go mi_k204 3 18 [(0, .ref 116), (1, .int x1), (2, .int x2), (3, .int x3)] [.int x2, .int x1] i a q r (by rfl) ?_
      refine ft_ifS mi_k204 (x1 == x2) 32 21 [] (by rfl) (fun c => ?_) (fun c => ?_)
      ·
        have c5 : x1.toInt = x2.toInt := kd_eq c; clear c
        first | refine ft_goS mi_k204 1 33 [.int (-1)] (by rfl) ?_ | refine ft_go mi_k204 1 33 [(0, .ref 116), (1, .int x1), (2, .int x2), (3, .int x3)] [.int (-1)] i a q r (by rfl) ?_
        exact ft_ret mi_k204 (by rfl) (hP (-1) _ _ _ _ hG ⟨trivial, ⟨(fun h => absurd h (ok7 c5)), (fun h => absurd h (ok7 c5)), (fun h => absurd h (ok7 c5)), (fun _ => (show a 118 = a 118 from rfl)), (fun _ => (show a 130 = a 130 from rfl)), (fun h => absurd h (ok8 c5)), (fun _ => (show ((-1) : Int32) = -1 from (by first | rfl | (simp only [sMn, sMx]; done) | (simp only [sMn, sMx]; rfl))))⟩⟩)
      ·
        have c6 : x1.toInt ≠ x2.toInt := kd_eqF c; clear c
        first | refine ft_goS mi_k204 3 26 [.int 999, .int 1, .int x3] (by rfl) ?_ | refine ft_go mi_k204 3 26 [(0, .ref 116), (1, .int x1), (2, .int x2), (3, .int x3)] [.int 999, .int 1, .int x3] i a q r (by rfl) ?_
        refine ko_callPI mi_k204.1 (pc := 26) (ls := [(0, .ref 116), (1, .int x1), (2, .int x2), (3, .int x3)]) (st := [.int 999, .int 1, .int x3]) (h := ks i a q r) (i := (.invokestatic 119, 3, 131, 0, 9, 0, 379)) (mi_k204.2 _ _ (by rfl)) (ft_invS mi_pq131 (by rfl)) (cy := mi_c131) mi_pq131 rfl (kc131 hG.I hG.R x3 1 999) (by decide) ?_
        intro vg7 hg7
        rcases hg7 with ⟨eg7, hg7⟩ | ⟨eg7, hg7⟩
        ·
          subst eg7
          have z8 : ((1 : Int32).toInt ≤ x3.toInt) ∧ (x3.toInt ≤ (999 : Int32).toInt) := hg7
          first | refine ft_goS mi_k204 4 39 [.int x1, .ref 118] (by rfl) ?_ | refine ft_go mi_k204 4 39 [(0, .ref 116), (1, .int x1), (2, .int x2), (3, .int x3)] [.int x1, .ref 118] i a q r (by rfl) ?_
          refine ko_iald3 mi_k204.1 (n := 31) (c := 31) (ax := (0, 0, 0, 0, 0)) (mi_k204.2 _ _ (by rfl)) (by rfl) (ksG118 _ _ _ _) (hG.I.2.1 118) rfl (ok9 z2.1) (ok10 fi_7424.2 z2.2) ?_
          have r9 : ((x1.toInt = 18 → (0 : Int) ≤ ((a 118).getD x1.toNatClampNeg 0).toInt ∧ ((a 118).getD x1.toNatClampNeg 0).toInt ≤ 5)) ∧ ((19 ≤ x1.toInt → x1.toInt ≤ 24 → (0 : Int) ≤ ((a 118).getD x1.toNatClampNeg 0).toInt ∧ ((a 118).getD x1.toNatClampNeg 0).toInt ≤ 7)) := kE_ncond (p := 118) hG.I (by decide) (j := x1) (ok9 z2.1)
          first | refine ft_goS mi_k204 1 41 [.int x3, .int ((a 118).getD x1.toNatClampNeg 0)] (by rfl) ?_ | refine ft_go mi_k204 1 41 [(0, .ref 116), (1, .int x1), (2, .int x2), (3, .int x3)] [.int x3, .int ((a 118).getD x1.toNatClampNeg 0)] i a q r (by rfl) ?_
          refine ft_ifS mi_k204 (decide (x3 ≤ ((a 118).getD x1.toNatClampNeg 0))) 47 44 [] (by rfl) (fun c => ?_) (fun c => ?_)
          ·
            have c10 : x3.toInt ≤ ((a 118).getD x1.toNatClampNeg 0).toInt := kd_le c; clear c
            first | refine ft_goS mi_k204 4 53 [.int x1, .ref 118, .int x1, .ref 118] (by rfl) ?_ | refine ft_go mi_k204 4 53 [(0, .ref 116), (1, .int x1), (2, .int x2), (3, .int x3)] [.int x1, .ref 118, .int x1, .ref 118] i a q r (by rfl) ?_
            refine ko_iald3 mi_k204.1 (n := 31) (c := 31) (ax := (0, 0, 0, 0, 0)) (mi_k204.2 _ _ (by rfl)) (by rfl) (ksG118 _ _ _ _) (hG.I.2.1 118) rfl (ok9 z2.1) (ok10 fi_7424.2 z2.2) ?_
            have b11 : ((-2147483648 : Int) ≤ ((a 118).getD x1.toNatClampNeg 0).toInt) ∧ (((a 118).getD x1.toNatClampNeg 0).toInt ≤ 2147483647) := kd_bd ((a 118).getD x1.toNatClampNeg 0)
            have b12 : ((-2147483648 : Int) ≤ x3.toInt) ∧ (x3.toInt ≤ 2147483647) := kd_bd x3
            have s13 : (((a 118).getD x1.toNatClampNeg 0) - x3).toInt = ((a 118).getD x1.toNatClampNeg 0).toInt - x3.toInt := kd_sub (ok11 c10) (ok12 b11.2 z8.1 kok1)
            first | refine ft_goS mi_k204 2 56 [.int (((a 118).getD x1.toNatClampNeg 0) - x3), .int x1, .ref 118] (by rfl) ?_ | refine ft_go mi_k204 2 56 [(0, .ref 116), (1, .int x1), (2, .int x2), (3, .int x3)] [.int (((a 118).getD x1.toNatClampNeg 0) - x3), .int x1, .ref 118] i a q r (by rfl) ?_
            refine ko_iast3 mi_k204.1 (n := 31) (c := 31) (ax := (0, 0, 0, 0, 0)) (mi_k204.2 _ _ (by rfl)) (by rfl) (ksG118 _ _ _ _) (ksA118 _ _ _ _) (hG.I.2.1 118) rfl (ok9 z2.1) (ok10 fi_7424.2 z2.2) ?_
            intro a14 ea14 fa14
            have hJ14 := kG_a3 hG 118 rfl ea14 fa14 (kE_nset (p := 118) (by decide) (ok9 z2.1) (ok13 fi_7424.2 z2.2) (ok14 fi_7424.2 z2.2))
            first | refine fo_goS mi_k204 fz204_57_7_70 [.int x2, .ref 118, .int 999, .int x2, .ref 118] (by rfl) ?_ | refine ft_go mi_k204 7 70 [(0, .ref 116), (1, .int x1), (2, .int x2), (3, .int x3)] [.int x2, .ref 118, .int 999, .int x2, .ref 118] i a14 q r (by rfl) ?_
            refine ko_iald3 mi_k204.1 (n := 31) (c := 31) (ax := (0, 0, 0, 0, 0)) (mi_k204.2 _ _ (by rfl)) (by rfl) (ksG118 _ _ _ _) (hJ14.I.2.1 118) rfl (ok9 z4.1) (ok10 fi_7424.2 z4.2) ?_
            have r15 : ((x2.toInt = 18 → (0 : Int) ≤ ((a14 118).getD x2.toNatClampNeg 0).toInt ∧ ((a14 118).getD x2.toNatClampNeg 0).toInt ≤ 5)) ∧ ((19 ≤ x2.toInt → x2.toInt ≤ 24 → (0 : Int) ≤ ((a14 118).getD x2.toNatClampNeg 0).toInt ∧ ((a14 118).getD x2.toNatClampNeg 0).toInt ≤ 7)) := kE_ncond (p := 118) hJ14.I (by decide) (j := x2) (ok9 z4.1)
            have u16 : ((a14 118).getD x2.toNatClampNeg 0).toInt = ((a 118).getD x2.toNatClampNeg 0).toInt := congrArg Int32.toInt ((congrArg (fun z : List Int32 => z.getD x2.toNatClampNeg 0) ea14).trans (kgs_ne (ok9 z4.1) (ok9 z2.1) (ok15 c6)))
            have b17 : ((-2147483648 : Int) ≤ ((a14 118).getD x2.toNatClampNeg 0).toInt) ∧ (((a14 118).getD x2.toNatClampNeg 0).toInt ≤ 2147483647) := kd_bd ((a14 118).getD x2.toNatClampNeg 0)
            first | refine ft_goS mi_k204 2 73 [.int (((a14 118).getD x2.toNatClampNeg 0) + x3), .int 999, .int x2, .ref 118] (by rfl) ?_ | refine ft_go mi_k204 2 73 [(0, .ref 116), (1, .int x1), (2, .int x2), (3, .int x3)] [.int (((a14 118).getD x2.toNatClampNeg 0) + x3), .int 999, .int x2, .ref 118] i a14 q r (by rfl) ?_
            have m19 : (((bif decide ((((a14 118).getD x2.toNatClampNeg 0) + x3) < 999) then (((a14 118).getD x2.toNatClampNeg 0) + x3) else 999).toInt ≤ (999 : Int32).toInt) ∧ ((bif decide ((((a14 118).getD x2.toNatClampNeg 0) + x3) < 999) then (((a14 118).getD x2.toNatClampNeg 0) + x3) else 999).toInt ≤ (((a14 118).getD x2.toNatClampNeg 0) + x3).toInt)) ∧ ((bif decide ((((a14 118).getD x2.toNatClampNeg 0) + x3) < 999) then (((a14 118).getD x2.toNatClampNeg 0) + x3) else 999).toInt = (999 : Int32).toInt ∨ (bif decide ((((a14 118).getD x2.toNatClampNeg 0) + x3) < 999) then (((a14 118).getD x2.toNatClampNeg 0) + x3) else 999).toInt = (((a14 118).getD x2.toNatClampNeg 0) + x3).toInt) := kd_min
            first | refine ft_goS mi_k204 1 76 [.int (bif decide ((((a14 118).getD x2.toNatClampNeg 0) + x3) < 999) then (((a14 118).getD x2.toNatClampNeg 0) + x3) else 999), .int x2, .ref 118] (by rfl) ?_ | refine ft_go mi_k204 1 76 [(0, .ref 116), (1, .int x1), (2, .int x2), (3, .int x3)] [.int (bif decide ((((a14 118).getD x2.toNatClampNeg 0) + x3) < 999) then (((a14 118).getD x2.toNatClampNeg 0) + x3) else 999), .int x2, .ref 118] i a14 q r (by rfl) ?_
            generalize hm18 : (bif decide ((((a14 118).getD x2.toNatClampNeg 0) + x3) < 999) then (((a14 118).getD x2.toNatClampNeg 0) + x3) else 999) = m18 at m19 ⊢
            have qm18 := hm18.symm
            refine ko_iast3 mi_k204.1 (n := 31) (c := 31) (ax := (0, 0, 0, 0, 0)) (mi_k204.2 _ _ (by rfl)) (by rfl) (ksG118 _ _ _ _) (ksA118 _ _ _ _) (hJ14.I.2.1 118) rfl (ok9 z4.1) (ok10 fi_7424.2 z4.2) ?_
            intro a20 ea20 fa20
            have hJ20 := kG_a3 hJ14 118 rfl ea20 fa20 (kE_nset (p := 118) (by decide) (ok9 z4.1) (ok13 fi_7424.2 z4.2) (ok14 fi_7424.2 z4.2))
            first | refine ft_goS mi_k204 4 83 [.int 4, .ref 130, .int 4, .ref 130] (by rfl) ?_ | refine ft_go mi_k204 4 83 [(0, .ref 116), (1, .int x1), (2, .int x2), (3, .int x3)] [.int 4, .ref 130, .int 4, .ref 130] i a20 q r (by rfl) ?_
            refine ko_iald3 mi_k204.1 (n := 5) (c := 5) (ax := (0, 0, 0, 0, 0)) (mi_k204.2 _ _ (by rfl)) (by rfl) (ksG130 _ _ _ _) (hJ20.I.2.1 130) rfl (ok16 kok4) (ok17 kok4) ?_
            have b21 : ((-2147483648 : Int) ≤ ((a20 130).getD (4 : Int32).toNatClampNeg 0).toInt) ∧ (((a20 130).getD (4 : Int32).toNatClampNeg 0).toInt ≤ 2147483647) := kd_bd ((a20 130).getD (4 : Int32).toNatClampNeg 0)
            first | refine ft_goS mi_k204 2 86 [.int (((a20 130).getD (4 : Int32).toNatClampNeg 0) + x3), .int 4, .ref 130] (by rfl) ?_ | refine ft_go mi_k204 2 86 [(0, .ref 116), (1, .int x1), (2, .int x2), (3, .int x3)] [.int (((a20 130).getD (4 : Int32).toNatClampNeg 0) + x3), .int 4, .ref 130] i a20 q r (by rfl) ?_
            refine ko_iast3 mi_k204.1 (n := 5) (c := 5) (ax := (0, 0, 0, 0, 0)) (mi_k204.2 _ _ (by rfl)) (by rfl) (ksG130 _ _ _ _) (ksA130 _ _ _ _) (hJ20.I.2.1 130) rfl (ok16 kok4) (ok17 kok4) ?_
            intro a22 ea22 fa22
            have hJ22 := kG_a3 hJ20 130 rfl ea22 fa22 (kd_bd _)
            first | refine ft_goS mi_k204 3 92 [.int x1, .ref 118] (by rfl) ?_ | refine ft_go mi_k204 3 92 [(0, .ref 116), (1, .int x1), (2, .int x2), (3, .int x3)] [.int x1, .ref 118] i a22 q r (by rfl) ?_
            refine ko_iald3 mi_k204.1 (n := 31) (c := 31) (ax := (0, 0, 0, 0, 0)) (mi_k204.2 _ _ (by rfl)) (by rfl) (ksG118 _ _ _ _) (hJ22.I.2.1 118) rfl (ok9 z2.1) (ok10 fi_7424.2 z2.2) ?_
            have r23 : ((x1.toInt = 18 → (0 : Int) ≤ ((a22 118).getD x1.toNatClampNeg 0).toInt ∧ ((a22 118).getD x1.toNatClampNeg 0).toInt ≤ 5)) ∧ ((19 ≤ x1.toInt → x1.toInt ≤ 24 → (0 : Int) ≤ ((a22 118).getD x1.toNatClampNeg 0).toInt ∧ ((a22 118).getD x1.toNatClampNeg 0).toInt ≤ 7)) := kE_ncond (p := 118) hJ22.I (by decide) (j := x1) (ok9 z2.1)
            have u24 : ((a14 118).getD x1.toNatClampNeg 0).toInt = (((a 118).getD x1.toNatClampNeg 0) - x3).toInt := congrArg Int32.toInt ((congrArg (fun z : List Int32 => z.getD x1.toNatClampNeg 0) ea14).trans (kgs_eq2 (n := 31) (c := 31) (hG.I.2.1 118) rfl (ok9 z2.1) (ok10 fi_7424.2 z2.2)))
            have u25 : ((a20 118).getD x1.toNatClampNeg 0).toInt = ((a14 118).getD x1.toNatClampNeg 0).toInt := congrArg Int32.toInt ((congrArg (fun z : List Int32 => z.getD x1.toNatClampNeg 0) ea20).trans (kgs_ne (ok9 z2.1) (ok9 z4.1) (ok18 c6)))
            have u26 : ((a22 118).getD x1.toNatClampNeg 0).toInt = ((a20 118).getD x1.toNatClampNeg 0).toInt := congrArg (fun z : List Int32 => (z.getD x1.toNatClampNeg 0).toInt) (fa22 118 (by decide))
            exact ft_ret mi_k204 (by rfl) (hP ((a22 118).getD x1.toNatClampNeg 0) _ _ _ _ hJ22 ⟨trivial, ⟨(fun _ => (show a22 118 = (((a 118).set x1.toNatClampNeg ((a 118).getD x1.toNatClampNeg 0 - x3)).set x2.toNatClampNeg (sMn 999 (((a 118).set x1.toNatClampNeg ((a 118).getD x1.toNatClampNeg 0 - x3)).getD x2.toNatClampNeg 0 + x3))) from (by first | rfl | (simp only [fa22 118 (by decide), ea20, ea14, qm18, sMn, sMx]; done) | (simp only [fa22 118 (by decide), ea20, ea14, qm18, sMn, sMx]; rfl)))), (fun _ => (show a22 130 = (a 130).set (4 : Int32).toNatClampNeg ((a 130).getD (4 : Int32).toNatClampNeg 0 + x3) from (by first | rfl | (simp only [ea22, fa20 130 (by decide), fa14 130 (by decide), sMn, sMx]; done) | (simp only [ea22, fa20 130 (by decide), fa14 130 (by decide), sMn, sMx]; rfl)))), (fun _ => (show ((a22 118).getD x1.toNatClampNeg 0) = (((a 118).set x1.toNatClampNeg ((a 118).getD x1.toNatClampNeg 0 - x3)).set x2.toNatClampNeg (sMn 999 (((a 118).set x1.toNatClampNeg ((a 118).getD x1.toNatClampNeg 0 - x3)).getD x2.toNatClampNeg 0 + x3))).getD x1.toNatClampNeg 0 from (by first | rfl | (simp only [fa22 118 (by decide), ea20, ea14, qm18, sMn, sMx]; done) | (simp only [fa22 118 (by decide), ea20, ea14, qm18, sMn, sMx]; rfl)))), (fun h => absurd h (ok19 c10 c6 z2.1 z2.2 z4.1 z4.2 z8.1 z8.2 kok1 kok999)), (fun h => absurd h (ok19 c10 c6 z2.1 z2.2 z4.1 z4.2 z8.1 z8.2 kok1 kok999)), (fun h => absurd h (ok20 c10)), (fun h => absurd h (ok21 c6 z2.1 z2.2 z4.1 z4.2 z8.1 z8.2 kok1 kok999))⟩⟩)
          ·
            have c27 : ((a 118).getD x1.toNatClampNeg 0).toInt < x3.toInt := kd_leF c; clear c
            first | refine ft_goS mi_k204 1 46 [.int (-5)] (by rfl) ?_ | refine ft_go mi_k204 1 46 [(0, .ref 116), (1, .int x1), (2, .int x2), (3, .int x3)] [.int (-5)] i a q r (by rfl) ?_
            exact ft_ret mi_k204 (by rfl) (hP (-5) _ _ _ _ hG ⟨trivial, ⟨(fun h => absurd h (ok22 c27)), (fun h => absurd h (ok22 c27)), (fun h => absurd h (ok22 c27)), (fun _ => (show a 118 = a 118 from rfl)), (fun _ => (show a 130 = a 130 from rfl)), (fun _ => (show ((-5) : Int32) = -5 from (by first | rfl | (simp only [sMn, sMx]; done) | (simp only [sMn, sMx]; rfl)))), (fun h => absurd h (ok21 c6 z2.1 z2.2 z4.1 z4.2 z8.1 z8.2 kok1 kok999))⟩⟩)
        ·
          subst eg7
          have z28 : ¬ (((1 : Int32).toInt ≤ x3.toInt) ∧ (x3.toInt ≤ (999 : Int32).toInt)) := hg7
          first | refine fo_goS mi_k204 fz204_5_2_33 [.int (-1)] (by rfl) ?_ | refine fo_goS mi_k204 fz204_13_2_33 [.int (-1)] (by rfl) ?_ | refine fo_goS mi_k204 fz204_29_2_33 [.int (-1)] (by rfl) ?_ | refine ft_goS mi_k204 2 33 [.int (-1)] (by rfl) ?_ | refine ft_go mi_k204 2 33 [(0, .ref 116), (1, .int x1), (2, .int x2), (3, .int x3)] [.int (-1)] i a q r (by rfl) ?_
          exact ft_ret mi_k204 (by rfl) (hP (-1) _ _ _ _ hG ⟨trivial, ⟨(fun h => absurd h (ok23 z28 kok1 kok999)), (fun h => absurd h (ok23 z28 kok1 kok999)), (fun h => absurd h (ok23 z28 kok1 kok999)), (fun _ => (show a 118 = a 118 from rfl)), (fun _ => (show a 130 = a 130 from rfl)), (fun h => absurd h (ok24 z28 kok1 kok999)), (fun _ => (show ((-1) : Int32) = -1 from (by first | rfl | (simp only [sMn, sMx]; done) | (simp only [sMn, sMx]; rfl))))⟩⟩)
    ·
      subst eg3
      have z29 : ¬ (((0 : Int) ≤ x2.toInt) ∧ (x2.toInt < (i 7424).toInt)) := hg3
      first | refine fo_goS mi_k204 fz204_5_2_33 [.int (-1)] (by rfl) ?_ | refine fo_goS mi_k204 fz204_13_2_33 [.int (-1)] (by rfl) ?_ | refine fo_goS mi_k204 fz204_29_2_33 [.int (-1)] (by rfl) ?_ | refine ft_goS mi_k204 2 33 [.int (-1)] (by rfl) ?_ | refine ft_go mi_k204 2 33 [(0, .ref 116), (1, .int x1), (2, .int x2), (3, .int x3)] [.int (-1)] i a q r (by rfl) ?_
      exact ft_ret mi_k204 (by rfl) (hP (-1) _ _ _ _ hG ⟨trivial, ⟨(fun h => absurd h (ok25 z29)), (fun h => absurd h (ok25 z29)), (fun h => absurd h (ok25 z29)), (fun _ => (show a 118 = a 118 from rfl)), (fun _ => (show a 130 = a 130 from rfl)), (fun h => absurd h (ok26 z29)), (fun _ => (show ((-1) : Int32) = -1 from (by first | rfl | (simp only [sMn, sMx]; done) | (simp only [sMn, sMx]; rfl))))⟩⟩)
  ·
    subst eg1
    have z30 : ¬ (((0 : Int) ≤ x1.toInt) ∧ (x1.toInt < (i 7424).toInt)) := hg1
    first | refine fo_goS mi_k204 fz204_5_2_33 [.int (-1)] (by rfl) ?_ | refine fo_goS mi_k204 fz204_13_2_33 [.int (-1)] (by rfl) ?_ | refine fo_goS mi_k204 fz204_29_2_33 [.int (-1)] (by rfl) ?_ | refine ft_goS mi_k204 2 33 [.int (-1)] (by rfl) ?_ | refine ft_go mi_k204 2 33 [(0, .ref 116), (1, .int x1), (2, .int x2), (3, .int x3)] [.int (-1)] i a q r (by rfl) ?_
    exact ft_ret mi_k204 (by rfl) (hP (-1) _ _ _ _ hG ⟨trivial, ⟨(fun h => absurd h (ok27 z30)), (fun h => absurd h (ok27 z30)), (fun h => absurd h (ok27 z30)), (fun _ => (show a 118 = a 118 from rfl)), (fun _ => (show a 130 = a 130 from rfl)), (fun h => absurd h (ok28 z30)), (fun _ => (show ((-1) : Int32) = -1 from (by first | rfl | (simp only [sMn, sMx]; done) | (simp only [sMn, sMx]; rfl))))⟩⟩)
end
section
/-! TWO MARKETS ALIKE, PURELY -/
theorem cpy_g {l g : List Int32} {sp dp n j : Nat} (h1 : sp + n ≤ l.length) (h2 : dp + n ≤ g.length) : (mi_cpy l g sp dp n).getD j 0 = if dp ≤ j ∧ j < dp + n then l.getD (sp + (j - dp)) 0 else g.getD j 0 := by
  have h := congrFun (mi_cpy_get (l := l) (g := g) (sp := sp) (dp := dp) (n := n) 0 h1 h2) j
  exact h
/-- b buyers; purses P, how often O, the day, how many came, the debts of the class: as the reference's 31 numbers N -/
def mNow (b : Int32) (P O : List Int32) (dy cm op : Int32) (Wh Mu N : List Int32) : Prop :=
  (∀ j : Nat, j < 8 → P.getD j 0 = N.getD j 0) ∧ dy = N.getD 8 0 ∧ cm = N.getD 9 0 ∧ (∀ j : Nat, j < 8 → O.getD j 0 = N.getD (10 + j) 0) ∧ op = N.getD 18 0 ∧ (∀ j : Nat, (j : Int) < op.toInt → Wh.getD j 0 = N.getD (19 + j) 0 ∧ Mu.getD j 0 = N.getD (25 + j) 0 ∧ 0 ≤ (Wh.getD j 0).toInt ∧ (Wh.getD j 0).toInt < b.toInt)
def mLen (T : kCt) : Prop := T.2.1.length = 5 ∧ T.2.2.1.length = 5 ∧ T.2.2.2.1.length = 8 ∧ T.2.2.2.2.2.2.1.length = 5 ∧ ∀ u : Nat, u < 8 → (T.2.2.2.2.2.2.2 u).length = 8
/-- payments: the class's tuple as the reference's -/
def mP (b base : Int32) (L0 O : List Int32) (dy cm : Int32) (T : kCt) (S : kSt) : Prop :=
  mNow b T.2.2.2.1 O dy cm T.1 T.2.1 T.2.2.1 S.1 ∧ T.2.2.2.2.1 = S.2.1 ∧ T.2.2.2.2.2.1 = S.2.2.1 ∧ T.2.2.2.2.2.2.1.getD 2 0 = base + S.2.2.2.1 ∧ (∀ j : Nat, j ≠ 2 → T.2.2.2.2.2.2.1.getD j 0 = L0.getD j 0) ∧ mLen T ∧ S.1.length = 31 ∧ S.2.2.2.2.length = 64
def mF (T : kCt) (S : kSt) : Prop := ∀ u c : Nat, u < 8 → c < 8 → (T.2.2.2.2.2.2.2 u).getD c 0 = S.2.2.2.2.getD (8 * u + c) 0
theorem sSh_get {N : List Int32} (hN : N.length = 31) : ∀ n : Nat, n ≤ 4 → (sSh n N).length = 31 ∧ ∀ j : Nat, (sSh n N).getD j 0 = if (19 ≤ j ∧ j < 19 + n) ∨ (25 ≤ j ∧ j < 25 + n) then N.getD (j + 1) 0 else N.getD j 0
  | 0, _ => ⟨hN, fun j => by rw [if_neg (by omega)]; rfl⟩
  | n + 1, hn => by
    obtain ⟨hl, ih⟩ := sSh_get hN n (by omega)
    unfold sSh
    refine ⟨by rw [List.length_set, List.length_set]; exact hl, fun j => ?_⟩
    have e1 : ∀ m : Nat, ((sSh n N).set (19 + n) ((sSh n N).getD (20 + n) 0)).getD m 0 = if m = 19 + n then (sSh n N).getD (20 + n) 0 else (sSh n N).getD m 0 := fun m => kset_gI (by omega)
    rw [kset_gI (by rw [List.length_set]; omega), e1, e1, ih j, ih (20 + n), ih (26 + n)]
    (repeat' split) <;> first | rfl | (exfalso; omega) | (congr 1; omega)
theorem sDrop_get {N : List Int32} (hN : N.length = 31) (h1 : 1 ≤ (N.getD 18 0).toInt) (h5 : (N.getD 18 0).toInt ≤ 5) : (N.getD 18 0 - 1).toInt = (N.getD 18 0).toInt - 1 ∧ (sDrop N).length = 31 ∧ ∀ j : Nat, (sDrop N).getD j 0 = if j = 18 then N.getD 18 0 - 1 else if (19 ≤ j ∧ (j : Int) < 18 + (N.getD 18 0).toInt) ∨ (25 ≤ j ∧ (j : Int) < 24 + (N.getD 18 0).toInt) then N.getD (j + 1) 0 else N.getD j 0 := by
  have e1 : (N.getD 18 0 - 1).toInt = (N.getD 18 0).toInt - 1 := by
    have := kd_sub (x := N.getD 18 0) (y := 1) (by rw [(by decide : (1 : Int32).toInt = 1)]; omega) (by rw [(by decide : (1 : Int32).toInt = 1)]; omega)
    rw [this, (by decide : (1 : Int32).toInt = 1)]
  obtain ⟨hl, hg⟩ := sSh_get (N := N.set 18 (N.getD 18 0 - 1)) (by rw [List.length_set]; exact hN) (N.getD 18 0 - 1).toInt.toNat (by omega)
  refine ⟨e1, hl, fun j => ?_⟩
  unfold sDrop
  have e2 : ∀ m : Nat, (N.set 18 (N.getD 18 0 - 1)).getD m 0 = if m = 18 then N.getD 18 0 - 1 else N.getD m 0 := fun m => kset_gI (by omega)
  rw [hg j, e2, e2]
  (repeat' split) <;> first | rfl | (exfalso; omega) | (congr 1; omega)
theorem mNow_18 {b : Int32} {P O : List Int32} {dy cm op : Int32} {Wh Mu N : List Int32} (h : mNow b P O dy cm op Wh Mu N) : op = N.getD 18 0 := h.2.2.2.2.1
/-- the oldest debt gone -/
theorem mDrop {b : Int32} {P O : List Int32} {dy cm op : Int32} {Wh Mu N : List Int32} (h : mNow b P O dy cm op Wh Mu N) (hN : N.length = 31) (hW : Wh.length = 5) (hM : Mu.length = 5) (h1 : 1 ≤ op.toInt) (h5 : op.toInt ≤ 5) : mNow b P O dy cm (op - 1) (mi_cpy Wh Wh 1 0 (op - 1).toNatClampNeg) (mi_cpy Mu Mu 1 0 (op - 1).toNatClampNeg) (sDrop N) := by
  obtain ⟨g1, g2, g3, g4, g5, g6⟩ := h
  subst g5
  obtain ⟨e1, hl, hg⟩ := sDrop_get hN h1 h5
  have tn := Int32.toNat_toInt (N.getD 18 0 - 1)
  refine ⟨fun j hj => ?_, ?_, ?_, fun j hj => ?_, ?_, fun j hj => ?_⟩
  · rw [hg j, if_neg (by omega), if_neg (by omega)]; exact g1 j hj
  · rw [hg 8, if_neg (by omega), if_neg (by omega)]; exact g2
  · rw [hg 9, if_neg (by omega), if_neg (by omega)]; exact g3
  · rw [hg (10 + j), if_neg (by omega), if_neg (by omega)]; exact g4 j hj
  · rw [hg 18, if_pos rfl]
  · obtain ⟨q1, q2, q3, q4⟩ := g6 (j + 1) (by omega)
    rw [cpy_g (by omega) (by omega), cpy_g (by omega) (by omega), if_pos (by omega), if_pos (by omega), hg (19 + j), hg (25 + j), if_neg (by omega), if_pos (by omega), if_neg (by omega), if_pos (by omega), show 1 + (j - 0) = j + 1 by omega, show 19 + j + 1 = 19 + (j + 1) by omega, show 25 + j + 1 = 25 + (j + 1) by omega]
    exact ⟨q1, q2, q3, q4⟩
theorem mIx {w c : Int32} (h0 : 0 ≤ w.toInt) (h1 : w.toInt < 8) (h2 : 0 ≤ c.toInt) (h3 : c.toInt < 8) : (8 * w + c).toNatClampNeg = 8 * w.toNatClampNeg + c.toNatClampNeg := by
  have e0 : (8 * w).toInt = 8 * w.toInt := kd_cmul 8 (by decide) (by omega) (by omega)
  have e1 : (8 * w + c).toInt = (8 * w).toInt + c.toInt := kd_add (by omega) (by omega)
  have t1 := Int32.toNat_toInt (8 * w + c)
  have t2 := Int32.toNat_toInt w
  have t3 := Int32.toNat_toInt c
  omega
/-- the purses behind a payment -/
theorem mGive {P N : List Int32} {w c k : Nat} {x y : Int32} (hP : P.length = 8) (hN : N.length = 31) (hw : w < 8) (hc : c < 8) (h : ∀ j : Nat, j < 8 → P.getD j 0 = N.getD j 0) (_ : k = k) :
    (∀ j : Nat, j < 8 → ((P.set w (P.getD w 0 - x)).set c (sMn 999 ((P.set w (P.getD w 0 - x)).getD c 0 + y))).getD j 0 = ((N.set w (N.getD w 0 - x)).set c (sMn 999 ((N.set w (N.getD w 0 - x)).getD c 0 + y))).getD j 0) ∧ (∀ j : Nat, 8 ≤ j → ((N.set w (N.getD w 0 - x)).set c (sMn 999 ((N.set w (N.getD w 0 - x)).getD c 0 + y))).getD j 0 = N.getD j 0) := by
  constructor
  · intro j hj
    have e1 : ∀ (v z : Int32), ((P.set w v).set c z).getD j 0 = if j = c then z else if j = w then v else P.getD j 0 := fun v z => by rw [kset_gI (by rw [List.length_set]; omega), kset_gI (by omega)]
    have e2 : ∀ (v z : Int32), ((N.set w v).set c z).getD j 0 = if j = c then z else if j = w then v else N.getD j 0 := fun v z => by rw [kset_gI (by rw [List.length_set]; omega), kset_gI (by omega)]
    have e3 : ∀ (v : Int32), (P.set w v).getD c 0 = if c = w then v else P.getD c 0 := fun v => kset_gI (by omega)
    have e4 : ∀ (v : Int32), (N.set w v).getD c 0 = if c = w then v else N.getD c 0 := fun v => kset_gI (by omega)
    rw [e1, e2, e3, e4, h w hw, h c hc, h j hj]
  · intro j hj
    rw [kset_gI (by rw [List.length_set]; omega), if_neg (by omega), kset_gI (by omega), if_neg (by omega)]
theorem mNow_N {b : Int32} {P P1 O : List Int32} {dy cm op : Int32} {Wh Mu N N1 : List Int32} (h : mNow b P O dy cm op Wh Mu N) (h1 : ∀ j : Nat, j < 8 → P1.getD j 0 = N1.getD j 0) (h2 : ∀ j : Nat, 8 ≤ j → N1.getD j 0 = N.getD j 0) : mNow b P1 O dy cm op Wh Mu N1 := by
  obtain ⟨g1, g2, g3, g4, g5, g6⟩ := h
  refine ⟨h1, by rw [h2 8 (by omega)]; exact g2, by rw [h2 9 (by omega)]; exact g3, fun j hj => by rw [h2 (10 + j) (by omega)]; exact g4 j hj, by rw [h2 18 (by omega)]; exact g5, fun j hj => by rw [h2 (19 + j) (by omega), h2 (25 + j) (by omega)]; exact g6 j hj⟩
theorem pay_same {b base c : Int32} {L0 O : List Int32} {dy cm : Int32} {T : kCt} {S : kSt} (h : mP b base L0 O dy cm T S) (hb : b.toInt ≤ 8) (hc0 : 0 ≤ c.toInt) (hcb : c.toInt < b.toInt) (h1 : 1 ≤ T.1.toInt) (h5 : T.1.toInt ≤ 5) : mP b base L0 O dy cm (cPay b c T) (sPay c S) ∧ (cPay b c T).1.toInt = T.1.toInt - 1 ∧ (mF T S → mF (cPay b c T) (sPay c S)) := by
  obtain ⟨op, Wh, Mu, P, py, pd, L, F⟩ := T
  obtain ⟨N, py2, pd2, la, Fl⟩ := S
  obtain ⟨hn, e1, e2, e3, e4, ⟨l1, l2, l3, l4, l5⟩, l6, l7⟩ := h
  dsimp only at hn e1 e2 e3 e4 l1 l2 l3 l4 l5 l6 l7 h1 h5
  subst e1
  subst e2
  have hd := mDrop hn l6 l1 l2 h1 h5
  obtain ⟨q1, q2, q3, q4⟩ := hn.2.2.2.2.2 0 (by omega)
  have eop := mNow_18 hn
  obtain ⟨d1, d2, d3⟩ := sDrop_get l6 (by rw [← eop]; exact h1) (by rw [← eop]; exact h5)
  rw [← eop] at d1
  have tw := Int32.toNat_toInt (N.getD 19 0)
  have tc := Int32.toNat_toInt c
  have to := Int32.toNat_toInt (op - 1)
  have q1 : Wh.getD 0 0 = N.getD 19 0 := q1
  have q2 : Mu.getD 0 0 = N.getD 25 0 := q2
  rw [q1] at q3 q4
  have ew : (sDrop N).getD (N.getD 19 0).toNatClampNeg 0 = N.getD (N.getD 19 0).toNatClampNeg 0 := by rw [d3, if_neg (by omega), if_neg (by omega)]
  have ep : P.getD (N.getD 19 0).toNatClampNeg 0 = N.getD (N.getD 19 0).toNatClampNeg 0 := hn.1 _ (by omega)
  have ec : cCoin (op, Wh, Mu, P, py, pd, L, F) = sCoin N := by
    unfold cCoin sCoin
    dsimp only
    rw [q1, q2, ew, ep]
  by_cases cc : (N.getD 19 0).toInt = c.toInt
  · have e1 : cPay b c (op, Wh, Mu, P, py, pd, L, F) = cRest (op, Wh, Mu, P, py, pd, L, F) := if_neg (fun z => z.1 (by dsimp only; rw [q1]; exact cc))
    have e2 : sPay c (N, py, pd, la, Fl) = (sDrop N, if py.toInt = 8 then N.getD 19 0 else py, pd, la, Fl) := if_pos cc
    rw [e1, e2]
    unfold cRest
    dsimp only
    refine ⟨⟨hd, by dsimp only; rw [q1], rfl, e3, e4, ⟨?_, ?_, l3, l4, l5⟩, d2, l7⟩, d1, fun z => z⟩
    · rw [mi_cpy_len (by omega) (by omega)]; exact l1
    · rw [mi_cpy_len (by omega) (by omega)]; exact l2
  · have e1 : cPay b c (op, Wh, Mu, P, py, pd, L, F) = cGive c (op, Wh, Mu, P, py, pd, L, F) := if_pos ⟨by dsimp only; rw [q1]; exact cc, by dsimp only; rw [q1]; exact q3, by dsimp only; rw [q1]; exact q4⟩
    have e2 : sPay c (N, py, pd, la, Fl) = (sGive c N, if py.toInt = 8 then N.getD 19 0 else py, pd + sCoin N, la + (N.getD 25 0 - sCoin N), Fl.set (8 * N.getD 19 0 + c).toNatClampNeg (Fl.getD (8 * N.getD 19 0 + c).toNatClampNeg 0 + sCoin N)) := if_neg cc
    rw [e1, e2]
    unfold cGive
    rw [ec]
    unfold sGive
    dsimp only
    rw [q1, q2]
    obtain ⟨g1, g2⟩ := mGive (k := 0) (P := P) (N := sDrop N) (w := (N.getD 19 0).toNatClampNeg) (c := c.toNatClampNeg) (x := sCoin N) (y := sCoin N) l3 d2 (by omega) (by omega) (fun j hj => hd.1 j hj) rfl
    have ix := mIx (w := N.getD 19 0) (c := c) q3 (by omega) hc0 (by omega)
    refine ⟨⟨mNow_N hd g1 g2, rfl, rfl, ?_, ?_, ⟨?_, ?_, ?_, ?_, ?_⟩, ?_, ?_⟩, d1, ?_⟩
    · dsimp only
      rw [kset_gI (by omega), if_pos rfl, e3, Int32.add_assoc]
    · intro j hj
      dsimp only
      rw [kset_gI (by omega), if_neg hj]
      exact e4 j hj
    · dsimp only; rw [mi_cpy_len (by omega) (by omega)]; exact l1
    · dsimp only; rw [mi_cpy_len (by omega) (by omega)]; exact l2
    · dsimp only; rw [List.length_set, List.length_set]; exact l3
    · dsimp only; rw [List.length_set]; exact l4
    · intro u hu
      dsimp only
      cases Nat.beq u (N.getD 19 0).toNatClampNeg with
      | true => exact List.length_set.trans (l5 u hu)
      | false => exact l5 u hu
    · dsimp only; rw [List.length_set, List.length_set]; exact d2
    · dsimp only; rw [List.length_set]; exact l7
    · intro hF u v hu hv
      dsimp only
      rw [ix, kset_gI (by omega)]
      have hF := hF u v hu hv
      dsimp only at hF
      cases eb : Nat.beq u (N.getD 19 0).toNatClampNeg with
      | true =>
        have eu := Nat.eq_of_beq_eq_true eb
        show ((F u).set c.toNatClampNeg ((F u).getD c.toNatClampNeg 0 + sCoin N)).getD v 0 = _
        rw [kset_gI (by rw [l5 u hu]; omega)]
        by_cases cv : v = c.toNatClampNeg
        · rw [if_pos cv, if_pos (by omega), ← eu, ← cv, hF]
        · rw [if_neg cv, if_neg (by omega), hF]
      | false =>
        have eu : u ≠ (N.getD 19 0).toNatClampNeg := fun z => by rw [z, Nat.beq_refl] at eb; cases eb
        show (F u).getD v 0 = _
        rw [if_neg (by omega), hF]
theorem paid_same {b base c t3 : Int32} {L0 O : List Int32} {dy cm : Int32} (hb : b.toInt ≤ 8) (hc0 : 0 ≤ c.toInt) (hcb : c.toInt < b.toInt) (ht : 1 ≤ t3.toInt) : ∀ (n m : Nat) (T : kCt) (S : kSt), mP b base L0 O dy cm T S → T.1.toInt ≤ n → T.1.toInt ≤ m → T.1.toInt ≤ 5 → 0 ≤ T.1.toInt → mP b base L0 O dy cm (cPaid b t3 c n T) (sPaid t3 c m S) ∧ ((cPaid b t3 c n T).1.toInt < t3.toInt ∧ 0 ≤ (cPaid b t3 c n T).1.toInt) ∧ (mF T S → mF (cPaid b t3 c n T) (sPaid t3 c m S))
  | 0, m, T, S, h, hn, hm, h5, h0 => by
    rw [cPaid_done (by omega), sPaid_done (by rw [← mNow_18 h.1]; omega)]
    exact ⟨h, ⟨by omega, h0⟩, fun z => z⟩
  | n + 1, m, T, S, h, hn, hm, h5, h0 => by
    by_cases cc : t3.toInt ≤ T.1.toInt
    · obtain ⟨g1, g2, g3⟩ := pay_same h hb hc0 hcb (by omega) h5
      cases m with
      | zero => omega
      | succ m =>
        rw [cPaid_more cc, show sPaid t3 c (m + 1) S = sPaid t3 c m (sPay c S) from if_pos (by rw [← mNow_18 h.1]; exact cc)]
        obtain ⟨k1, k2, k3⟩ := paid_same hb hc0 hcb ht n m _ _ g1 (by omega) (by omega) (by omega) (by omega)
        exact ⟨k1, k2, fun z => k3 (g3 z)⟩
    · rw [cPaid_done (by omega), sPaid_done (by rw [← mNow_18 h.1]; omega)]
      exact ⟨h, ⟨by omega, h0⟩, fun z => z⟩
/-- one has come in -/
theorem come_now {b c bu : Int32} {P O : List Int32} {dy cm op : Int32} {Wh Mu N : List Int32} (h : mNow b P O dy cm op Wh Mu N) (hb : b.toInt ≤ 8) (hc0 : 0 ≤ c.toInt) (hcb : c.toInt < b.toInt) (h0 : 0 ≤ op.toInt) (h4 : op.toInt ≤ 4) (hO : O.length = 8) (hW : Wh.length = 5) (hM : Mu.length = 5) (hN : N.length = 31) : mNow b P (O.set c.toNatClampNeg (O.getD c.toNatClampNeg 0 + 1)) dy (cm + 1) (op + 1) (Wh.set op.toNatClampNeg c) (Mu.set op.toNatClampNeg bu) (sCome c bu N) ∧ (sCome c bu N).length = 31 ∧ (op + 1).toInt = op.toInt + 1 := by
  obtain ⟨g1, g2, g3, g4, g5, g6⟩ := h
  have k18 : (18 : Int32).toNatClampNeg = 18 := by decide
  have k9 : (9 : Int32).toNatClampNeg = 9 := by decide
  have tc := Int32.toNat_toInt c
  have to := Int32.toNat_toInt op
  have e1 : (op + 1).toInt = op.toInt + 1 := by
    have := kd_add (x := op) (y := 1) (by rw [(by decide : (1 : Int32).toInt = 1)]; omega) (by rw [(by decide : (1 : Int32).toInt = 1)]; omega)
    rw [this, (by decide : (1 : Int32).toInt = 1)]
  have i1 : (19 + op).toNatClampNeg = 19 + op.toNatClampNeg := by
    have e : (19 + op).toInt = (19 : Int32).toInt + op.toInt := kd_add (by rw [(by decide : (19 : Int32).toInt = 19)]; omega) (by rw [(by decide : (19 : Int32).toInt = 19)]; omega)
    rw [(by decide : (19 : Int32).toInt = 19)] at e
    have := Int32.toNat_toInt (19 + op)
    omega
  have i2 : (25 + op).toNatClampNeg = 25 + op.toNatClampNeg := by
    have e : (25 + op).toInt = (25 : Int32).toInt + op.toInt := kd_add (by rw [(by decide : (25 : Int32).toInt = 25)]; omega) (by rw [(by decide : (25 : Int32).toInt = 25)]; omega)
    rw [(by decide : (25 : Int32).toInt = 25)] at e
    have := Int32.toNat_toInt (25 + op)
    omega
  have i3 : (10 + c).toNatClampNeg = 10 + c.toNatClampNeg := by
    have e : (10 + c).toInt = (10 : Int32).toInt + c.toInt := kd_add (by rw [(by decide : (10 : Int32).toInt = 10)]; omega) (by rw [(by decide : (10 : Int32).toInt = 10)]; omega)
    rw [(by decide : (10 : Int32).toInt = 10)] at e
    have := Int32.toNat_toInt (10 + c)
    omega
  -- the five stores
  have s1 : sC1 c N = N.set (19 + op.toNatClampNeg) c := by unfold sC1; rw [k18, ← g5, i1]
  have f1 : (N.set (19 + op.toNatClampNeg) c).getD 18 0 = op := by rw [kset_gI (by omega), if_neg (by omega), ← g5]
  have s2 : sC2 bu (sC1 c N) = (N.set (19 + op.toNatClampNeg) c).set (25 + op.toNatClampNeg) bu := by rw [s1]; unfold sC2; rw [k18, f1, i2]
  have f2 : ((N.set (19 + op.toNatClampNeg) c).set (25 + op.toNatClampNeg) bu).getD 18 0 = op := by rw [kset_gI (by rw [List.length_set]; omega), if_neg (by omega), f1]
  have s3 : sC3 (sC2 bu (sC1 c N)) = ((N.set (19 + op.toNatClampNeg) c).set (25 + op.toNatClampNeg) bu).set 18 (op + 1) := by rw [s2]; unfold sC3; rw [k18, f2]
  have f3 : (((N.set (19 + op.toNatClampNeg) c).set (25 + op.toNatClampNeg) bu).set 18 (op + 1)).getD 9 0 = cm := by
    rw [kset_gI (by rw [List.length_set, List.length_set]; omega), if_neg (by omega), kset_gI (by rw [List.length_set]; omega), if_neg (by omega), kset_gI (by omega), if_neg (by omega), ← g3]
  have s4 : sC4 (sC3 (sC2 bu (sC1 c N))) = (((N.set (19 + op.toNatClampNeg) c).set (25 + op.toNatClampNeg) bu).set 18 (op + 1)).set 9 (cm + 1) := by rw [s3]; unfold sC4; rw [k9, f3]
  have f4 : ((((N.set (19 + op.toNatClampNeg) c).set (25 + op.toNatClampNeg) bu).set 18 (op + 1)).set 9 (cm + 1)).getD (10 + c.toNatClampNeg) 0 = O.getD c.toNatClampNeg 0 := by
    rw [kset_gI (by rw [List.length_set, List.length_set, List.length_set]; omega), if_neg (by omega), kset_gI (by rw [List.length_set, List.length_set]; omega), if_neg (by omega), kset_gI (by rw [List.length_set]; omega), if_neg (by omega), kset_gI (by omega), if_neg (by omega), g4 _ (by omega)]
  have s5 : sCome c bu N = ((((N.set (19 + op.toNatClampNeg) c).set (25 + op.toNatClampNeg) bu).set 18 (op + 1)).set 9 (cm + 1)).set (10 + c.toNatClampNeg) (O.getD c.toNatClampNeg 0 + 1) := by
    unfold sCome
    rw [s4]
    unfold sC5
    rw [i3, f4]
  have G : ∀ j : Nat, (sCome c bu N).getD j 0 = if j = 10 + c.toNatClampNeg then O.getD c.toNatClampNeg 0 + 1 else if j = 9 then cm + 1 else if j = 18 then op + 1 else if j = 25 + op.toNatClampNeg then bu else if j = 19 + op.toNatClampNeg then c else N.getD j 0 := fun j => by
    rw [s5, kset_gI (by rw [List.length_set, List.length_set, List.length_set, List.length_set]; omega), kset_gI (by rw [List.length_set, List.length_set, List.length_set]; omega), kset_gI (by rw [List.length_set, List.length_set]; omega), kset_gI (by rw [List.length_set]; omega), kset_gI (by omega)]
  refine ⟨⟨fun j hj => ?_, ?_, ?_, fun j hj => ?_, ?_, fun j hj => ?_⟩, by rw [s5, List.length_set, List.length_set, List.length_set, List.length_set, List.length_set]; exact hN, e1⟩
  · rw [G j, if_neg (by omega), if_neg (by omega), if_neg (by omega), if_neg (by omega), if_neg (by omega)]; exact g1 j hj
  · rw [G 8, if_neg (by omega), if_neg (by omega), if_neg (by omega), if_neg (by omega), if_neg (by omega)]; exact g2
  · rw [G 9, if_neg (by omega), if_pos rfl]
  · rw [G (10 + j), kset_gI (by omega)]
    by_cases cj : j = c.toNatClampNeg
    · rw [if_pos cj, if_pos (by omega)]
    · rw [if_neg cj, if_neg (by omega), if_neg (by omega), if_neg (by omega), if_neg (by omega), if_neg (by omega)]; exact g4 j hj
  · rw [G 18, if_neg (by omega), if_neg (by omega), if_pos rfl]
  · rw [kset_gI (by omega), kset_gI (by omega), G (19 + j), G (25 + j)]
    by_cases cj : j = op.toNatClampNeg
    · rw [if_pos cj, if_pos cj, if_neg (by omega), if_neg (by omega), if_neg (by omega), if_neg (by omega), if_pos (by omega), if_neg (by omega), if_neg (by omega), if_neg (by omega), if_pos (by omega)]
      exact ⟨rfl, rfl, hc0, hcb⟩
    · rw [if_neg cj, if_neg cj, if_neg (by omega), if_neg (by omega), if_neg (by omega), if_neg (by omega), if_neg (by omega), if_neg (by omega), if_neg (by omega), if_neg (by omega), if_neg (by omega), if_neg (by omega)]
      exact g6 j (by omega)
/-- an evening -/
theorem sZ_get {M : List Int32} (hM : M.length = 31) : ∀ n : Nat, n ≤ 9 → (sZ n M).length = 31 ∧ ∀ j : Nat, (sZ n M).getD j 0 = if 9 ≤ j ∧ j < 9 + n then 0 else M.getD j 0
  | 0, _ => ⟨hM, fun j => by rw [if_neg (by omega)]; rfl⟩
  | n + 1, hn => by
    obtain ⟨hl, ih⟩ := sZ_get hM n (by omega)
    unfold sZ
    refine ⟨by rw [List.length_set]; exact hl, fun j => ?_⟩
    rw [kset_gI (by omega), ih j]
    by_cases c : j = 9 + n
    · rw [if_pos c, if_pos (by omega)]
    · rw [if_neg c]
      by_cases c2 : 9 ≤ j ∧ j < 9 + n
      · rw [if_pos c2, if_pos (by omega)]
      · rw [if_neg c2, if_neg (by omega)]
theorem ends_now {b : Int32} {P O : List Int32} {dy cm op : Int32} {Wh Mu N : List Int32} (h : mNow b P O dy cm op Wh Mu N) (hN : N.length = 31) : mNow b P (List.replicate 8 0) (sMn 99 (dy + 1)) 0 op Wh Mu (sEnds N) ∧ (sEnds N).length = 31 := by
  obtain ⟨g1, g2, g3, g4, g5, g6⟩ := h
  have k8 : (8 : Int32).toNatClampNeg = 8 := by decide
  obtain ⟨hl, hg⟩ := sZ_get (M := N.set 8 (sMn 99 (N.getD 8 0 + 1))) (by rw [List.length_set]; exact hN) 9 (Nat.le_refl _)
  have e : sEnds N = sZ 9 (N.set 8 (sMn 99 (N.getD 8 0 + 1))) := by unfold sEnds; rw [k8]
  rw [e]
  have G : ∀ j : Nat, (sZ 9 (N.set 8 (sMn 99 (N.getD 8 0 + 1)))).getD j 0 = if 9 ≤ j ∧ j < 18 then 0 else if j = 8 then sMn 99 (N.getD 8 0 + 1) else N.getD j 0 := fun j => by
    rw [hg j, kset_gI (by omega)]
  refine ⟨⟨fun j hj => ?_, ?_, ?_, fun j hj => ?_, ?_, fun j hj => ?_⟩, hl⟩
  · rw [G j, if_neg (by omega), if_neg (by omega)]; exact g1 j hj
  · rw [G 8, if_neg (by omega), if_pos rfl, ← g2]
  · rw [G 9, if_pos (by omega)]
  · rw [G (10 + j), if_pos (by omega), List.getD_eq_getElem?_getD, List.getElem?_replicate]
    by_cases c : j < 8
    · rw [if_pos c]; rfl
    · rw [if_neg c]; rfl
  · rw [G 18, if_neg (by omega), if_neg (by omega)]; exact g5
  · rw [G (19 + j), G (25 + j), if_neg (by omega), if_neg (by omega), if_neg (by omega), if_neg (by omega)]
    exact g6 j hj
/-- a gift; any purses set alike -/
theorem gift_now {b c d v : Int32} {P O : List Int32} {dy cm op : Int32} {Wh Mu N : List Int32} (h : mNow b P O dy cm op Wh Mu N) (hb : b.toInt ≤ 8) (hc : 0 ≤ c.toInt ∧ c.toInt < b.toInt) (hd : 0 ≤ d.toInt ∧ d.toInt < b.toInt) (hP : P.length = 8) (hN : N.length = 31) : mNow b ((P.set c.toNatClampNeg (P.getD c.toNatClampNeg 0 - v)).set d.toNatClampNeg (sMn 999 ((P.set c.toNatClampNeg (P.getD c.toNatClampNeg 0 - v)).getD d.toNatClampNeg 0 + v))) O dy cm op Wh Mu ((N.set c.toNatClampNeg (N.getD c.toNatClampNeg 0 - v)).set d.toNatClampNeg (sMn 999 ((N.set c.toNatClampNeg (N.getD c.toNatClampNeg 0 - v)).getD d.toNatClampNeg 0 + v))) := by
  have tc := Int32.toNat_toInt c
  have td := Int32.toNat_toInt d
  obtain ⟨g1, g2⟩ := mGive (k := 0) (P := P) (N := N) (w := c.toNatClampNeg) (c := d.toNatClampNeg) (x := v) (y := v) hP hN (by omega) (by omega) h.1 rfl
  exact mNow_N h g1 g2
/-! THE LAW'S VALUE: one function for both -/
def kBuy (told : Int32) (LV : List Int32 → Int32) (w pu h c o d : Int32) : Int32 := sMx 0 (sMn 99 (if told.toInt = 0 then 5 * w + h - 2 * o else LV [w, pu, h, c, o, d]))
/-- the class's law says LV, whatever lies on its stack -/
def kLv (LV : List Int32 → Int32) (st wi : List Int32) (len : Int32) : Prop := ∀ (stk : List Int32) (w pu h c o d : Int32), stk.length = 121 → lRun st wi [w, pu, h, c, o, d] len 121 0 (stk, 0) = LV [w, pu, h, c, o, d]
theorem kBuy_c {told : Int32} {LV : List Int32 → Int32} {st wi stk : List Int32} {len w pu h c o d : Int32} (H : told.toInt ≠ 0 → kLv LV st wi len) (hs : stk.length = 121) : cBuyV told st wi stk len w pu h c o d = kBuy told LV w pu h c o d := by
  unfold cBuyV kBuy
  by_cases c0 : told.toInt = 0
  · rw [if_pos c0, if_pos c0]
  · rw [if_neg c0, if_neg c0, H c0 stk w pu h c o d hs]
theorem kBuy_r {told : Int32} {as sy en L : List Int32} {ln : Int32} {w pu h c o d : Int32} : rBuyV told (wLaw as sy en L [w, pu, h, c, o, d] ln.toInt.toNat 0) w h o = kBuy told (fun nm => wLaw as sy en L nm ln.toInt.toNat 0) w pu h c o d := rfl
end
section
/-! THE NUMBERS OF mend(), AND CHANGES, PURELY -/
abbrev kNt : Type := List Int32 × List Int32 × List Int32 × List Int32 × Int32 × Int32 × Int32
abbrev kTold (b n w : Int32) : Prop := (0 ≤ w.toInt ∧ w.toInt ≤ 3 ∧ 0 ≤ n.toInt ∧ n.toInt < b.toInt) ∨ (4 ≤ w.toInt ∧ w.toInt ≤ 6 ∧ n.toInt = 0)
abbrev kFit (w v : Int32) : Prop := (w.toInt = 0 ∧ 0 ≤ v.toInt ∧ v.toInt ≤ 999) ∨ ((w.toInt = 1 ∨ w.toInt = 2) ∧ 0 ≤ v.toInt ∧ v.toInt ≤ 9) ∨ ((w.toInt = 3 ∨ w.toInt = 5) ∧ 0 ≤ v.toInt ∧ v.toInt ≤ 1) ∨ (w.toInt = 4 ∧ 1 ≤ v.toInt ∧ v.toInt ≤ 5) ∨ (w.toInt = 6 ∧ 0 ≤ v.toInt ∧ v.toInt ≤ 99)
theorem kFit_0 {w v : Int32} (h : w.toInt = 0) : kFit w v ↔ (0 ≤ v.toInt ∧ v.toInt ≤ 999) := by constructor <;> intro z <;> omega
theorem kFit_1 {w v : Int32} (h : w.toInt = 1) : kFit w v ↔ (0 ≤ v.toInt ∧ v.toInt ≤ 9) := by constructor <;> intro z <;> omega
theorem kFit_2 {w v : Int32} (h : w.toInt = 2) : kFit w v ↔ (0 ≤ v.toInt ∧ v.toInt ≤ 9) := by constructor <;> intro z <;> omega
theorem kFit_3 {w v : Int32} (h : w.toInt = 3) : kFit w v ↔ (0 ≤ v.toInt ∧ v.toInt ≤ 1) := by constructor <;> intro z <;> omega
theorem kFit_4 {w v : Int32} (h : w.toInt = 4) : kFit w v ↔ (1 ≤ v.toInt ∧ v.toInt ≤ 5) := by constructor <;> intro z <;> omega
theorem kFit_5 {w v : Int32} (h : w.toInt = 5) : kFit w v ↔ (0 ≤ v.toInt ∧ v.toInt ≤ 1) := by constructor <;> intro z <;> omega
theorem kFit_6 {w v : Int32} (h : w.toInt = 6) : kFit w v ↔ (0 ≤ v.toInt ∧ v.toInt ≤ 99) := by constructor <;> intro z <;> omega
def cGet (b n w : Int32) (T : kNt) : Int32 :=
  if w.toInt = 4 then T.2.2.2.2.1 else if w.toInt = 5 then T.2.2.2.2.2.1 else if w.toInt = 6 then T.2.2.2.2.2.2
  else if 0 ≤ n.toInt ∧ n.toInt < b.toInt then
    (if w.toInt = 0 then T.1.getD n.toNatClampNeg 0 else if w.toInt = 1 then T.2.1.getD n.toNatClampNeg 0 else if w.toInt = 2 then T.2.2.1.getD n.toNatClampNeg 0 else T.2.2.2.1.getD n.toNatClampNeg 0)
  else -1
def cSet (b n w v : Int32) (T : kNt) : kNt :=
  if w.toInt = 4 then (T.1, T.2.1, T.2.2.1, T.2.2.2.1, v, T.2.2.2.2.2.1, T.2.2.2.2.2.2) else if w.toInt = 5 then (T.1, T.2.1, T.2.2.1, T.2.2.2.1, T.2.2.2.2.1, v, T.2.2.2.2.2.2) else if w.toInt = 6 then (T.1, T.2.1, T.2.2.1, T.2.2.2.1, T.2.2.2.2.1, T.2.2.2.2.2.1, v)
  else if 0 ≤ n.toInt ∧ n.toInt < b.toInt then
    (if w.toInt = 0 then (T.1.set n.toNatClampNeg v, T.2.1, T.2.2.1, T.2.2.2.1, T.2.2.2.2.1, T.2.2.2.2.2.1, T.2.2.2.2.2.2) else if w.toInt = 1 then (T.1, T.2.1.set n.toNatClampNeg v, T.2.2.1, T.2.2.2.1, T.2.2.2.2.1, T.2.2.2.2.2.1, T.2.2.2.2.2.2) else if w.toInt = 2 then (T.1, T.2.1, T.2.2.1.set n.toNatClampNeg v, T.2.2.2.1, T.2.2.2.2.1, T.2.2.2.2.2.1, T.2.2.2.2.2.2) else (T.1, T.2.1, T.2.2.1, T.2.2.2.1.set n.toNatClampNeg v, T.2.2.2.2.1, T.2.2.2.2.2.1, T.2.2.2.2.2.2))
  else T
/-- changes: number, what, before, after, kept, done -/
abbrev kCg : Type := List Int32 × List Int32 × List Int32 × List Int32 × Int32 × Int32
def nAdd (n w u v : Int32) (G : kCg) : kCg :=
  if 40 ≤ G.2.2.2.2.2.toInt then ((mi_cpy G.1 G.1 (1 : Int32).toNatClampNeg (0 : Int32).toNatClampNeg (39 : Int32).toNatClampNeg).set (39 : Int32).toNatClampNeg n, (mi_cpy G.2.1 G.2.1 (1 : Int32).toNatClampNeg (0 : Int32).toNatClampNeg (39 : Int32).toNatClampNeg).set (39 : Int32).toNatClampNeg w, (mi_cpy G.2.2.1 G.2.2.1 (1 : Int32).toNatClampNeg (0 : Int32).toNatClampNeg (39 : Int32).toNatClampNeg).set (39 : Int32).toNatClampNeg u, (mi_cpy G.2.2.2.1 G.2.2.2.1 (1 : Int32).toNatClampNeg (0 : Int32).toNatClampNeg (39 : Int32).toNatClampNeg).set (39 : Int32).toNatClampNeg v, 40, 40)
  else (G.1.set G.2.2.2.2.2.toNatClampNeg n, G.2.1.set G.2.2.2.2.2.toNatClampNeg w, G.2.2.1.set G.2.2.2.2.2.toNatClampNeg u, G.2.2.2.1.set G.2.2.2.2.2.toNatClampNeg v, G.2.2.2.2.2 + 1, G.2.2.2.2.2 + 1)
def cMend (b n w v : Int32) (T : kNt) (G : kCg) : Int32 × kNt × kCg :=
  if kTold b n w ∧ kFit w v then (if (cGet b n w T).toInt = v.toInt then (cGet b n w T, T, G) else (cGet b n w T, cSet b n w v T, nAdd n w (cGet b n w T) v G)) else (-1, T, G)
def nOf (b n w : Int32) (T : kNt) : Int32 := if kTold b n w then cGet b n w T else -1
def cUndo (b : Int32) (T : kNt) (G : kCg) : Int32 × kNt × kCg :=
  if G.2.2.2.2.2.toInt ≤ 0 then (-5, T, G)
  else (G.2.2.2.2.2 - 1, cSet b (G.1.getD (G.2.2.2.2.2 - 1).toNatClampNeg 0) (G.2.1.getD (G.2.2.2.2.2 - 1).toNatClampNeg 0) (G.2.2.1.getD (G.2.2.2.2.2 - 1).toNatClampNeg 0) T, (G.1, G.2.1, G.2.2.1, G.2.2.2.1, G.2.2.2.2.1, G.2.2.2.2.2 - 1))
def cRedo (b : Int32) (T : kNt) (G : kCg) : Int32 × kNt × kCg :=
  if G.2.2.2.2.1.toInt ≤ G.2.2.2.2.2.toInt then (-5, T, G)
  else (G.2.2.2.2.1 - (G.2.2.2.2.2 + 1), cSet b (G.1.getD G.2.2.2.2.2.toNatClampNeg 0) (G.2.1.getD G.2.2.2.2.2.toNatClampNeg 0) (G.2.2.2.1.getD G.2.2.2.2.2.toNatClampNeg 0) T, (G.1, G.2.1, G.2.2.1, G.2.2.2.1, G.2.2.2.2.1, G.2.2.2.2.2 + 1))
/-! the reference: now, ways, third, dogs; changed, changes, done -/
abbrev kRt : Type := List Int32 × List Int32 × Int32 × Int32
abbrev kRg : Type := List Int32 × Int32 × Int32
def rGet (n w : Int32) (R : kRt) : Int32 :=
  if w.toInt = 0 then R.1.getD n.toNatClampNeg 0 else if w.toInt = 4 then R.2.2.1 else if w.toInt = 5 then R.2.2.2 else if w.toInt = 6 then R.1.getD (8 : Int32).toNatClampNeg 0 else R.2.1.getD (8 * w - 8 + n).toNatClampNeg 0
def rSet (n w v : Int32) (R : kRt) : kRt :=
  if w.toInt = 0 then (R.1.set n.toNatClampNeg v, R.2.1, R.2.2.1, R.2.2.2) else if w.toInt = 4 then (R.1, R.2.1, v, R.2.2.2) else if w.toInt = 5 then (R.1, R.2.1, R.2.2.1, v) else if w.toInt = 6 then (R.1.set (8 : Int32).toNatClampNeg v, R.2.1, R.2.2.1, R.2.2.2) else (R.1, R.2.1.set (8 * w - 8 + n).toNatClampNeg v, R.2.2.1, R.2.2.2)
def rShf (L : List Int32) : List Int32 := L.drop 4 ++ L.drop 156
def rPut (n w u v d : Int32) (L : List Int32) : List Int32 := (((L.set (4 * d).toNatClampNeg n).set (4 * d + 1).toNatClampNeg w).set (4 * d + 2).toNatClampNeg u).set (4 * d + 3).toNatClampNeg v
def rAdd (n w u v : Int32) (G : kRg) : kRg :=
  if G.2.2.toInt = 40 then (rPut n w u v (G.2.2 - 1) (rShf G.1), G.2.2 - 1 + 1, G.2.2 - 1 + 1) else (rPut n w u v G.2.2 G.1, G.2.2 + 1, G.2.2 + 1)
def rMend (b n w v : Int32) (R : kRt) (G : kRg) : Int32 × kRt × kRg :=
  if kTold b n w ∧ kFit w v then (if (rGet n w R).toInt = v.toInt then (rGet n w R, R, G) else (rGet n w R, rSet n w v R, rAdd n w (rGet n w R) v G)) else (-1, R, G)
def rOf (b n w : Int32) (R : kRt) : Int32 := if kTold b n w then rGet n w R else -1
def rUndo (R : kRt) (G : kRg) : Int32 × kRt × kRg :=
  if G.2.2.toInt = 0 then (-5, R, G) else (G.2.2 - 1, rSet (G.1.getD (4 * (G.2.2 - 1)).toNatClampNeg 0) (G.1.getD (4 * (G.2.2 - 1) + 1).toNatClampNeg 0) (G.1.getD (4 * (G.2.2 - 1) + 2).toNatClampNeg 0) R, (G.1, G.2.1, G.2.2 - 1))
def rRedo (R : kRt) (G : kRg) : Int32 × kRt × kRg :=
  if G.2.2.toInt = G.2.1.toInt then (-5, R, G) else (G.2.1 - (G.2.2 + 1), rSet (G.1.getD (4 * G.2.2).toNatClampNeg 0) (G.1.getD (4 * G.2.2 + 1).toNatClampNeg 0) (G.1.getD (4 * G.2.2 + 3).toNatClampNeg 0) R, (G.1, G.2.1, G.2.2 + 1))
/-! alike -/
def nRel (T : kNt) (R : kRt) : Prop := (∀ j : Nat, j < 8 → T.1.getD j 0 = R.1.getD j 0) ∧ (∀ j : Nat, j < 8 → T.2.1.getD j 0 = R.2.1.getD j 0 ∧ T.2.2.1.getD j 0 = R.2.1.getD (8 + j) 0 ∧ T.2.2.2.1.getD j 0 = R.2.1.getD (16 + j) 0) ∧ T.2.2.2.2.1 = R.2.2.1 ∧ T.2.2.2.2.2.1 = R.2.2.2 ∧ T.2.2.2.2.2.2 = R.1.getD 8 0
def nLen (T : kNt) (R : kRt) : Prop := T.1.length = 8 ∧ T.2.1.length = 8 ∧ T.2.2.1.length = 8 ∧ T.2.2.2.1.length = 8 ∧ R.1.length = 31 ∧ R.2.1.length = 24
theorem rIx {n w : Int32} (hn : 0 ≤ n.toInt) (hn8 : n.toInt < 8) (hw : 1 ≤ w.toInt) (hw3 : w.toInt ≤ 3) : (8 * w - 8 + n).toNatClampNeg = 8 * (w.toNatClampNeg - 1) + n.toNatClampNeg := by
  have e0 : (8 * w).toInt = 8 * w.toInt := kd_cmul 8 (by decide) (by omega) (by omega)
  have k8 : (8 : Int32).toInt = 8 := by decide
  have e1 : (8 * w - 8).toInt = (8 * w).toInt - (8 : Int32).toInt := kd_sub (by omega) (by omega)
  have e2 : (8 * w - 8 + n).toInt = (8 * w - 8).toInt + n.toInt := kd_add (by omega) (by omega)
  have t1 := Int32.toNat_toInt (8 * w - 8 + n)
  have t2 := Int32.toNat_toInt w
  have t3 := Int32.toNat_toInt n
  omega
theorem get_rel {b n w : Int32} {T : kNt} {R : kRt} (h : nRel T R) (hb : b.toInt ≤ 8) (ht : kTold b n w) : cGet b n w T = rGet n w R := by
  obtain ⟨h1, h2, h3, h4, h5⟩ := h
  have tn := Int32.toNat_toInt n
  have tw := Int32.toNat_toInt w
  unfold cGet rGet
  rcases ht with ⟨g1, g2, g3, g4⟩ | ⟨g1, g2, g3⟩
  · have n4 : ¬ (w.toInt = 4) := by omega
    have n5 : ¬ (w.toInt = 5) := by omega
    have n6 : ¬ (w.toInt = 6) := by omega
    simp only [if_neg n4, if_neg n5, if_neg n6, if_pos (show 0 ≤ n.toInt ∧ n.toInt < b.toInt from ⟨g3, g4⟩)]
    by_cases c0 : w.toInt = 0
    · simp only [if_pos c0]; exact h1 _ (by omega)
    · obtain ⟨q1, q2, q3⟩ := h2 n.toNatClampNeg (by omega)
      simp only [if_neg c0]
      rw [rIx g3 (by omega) (by omega) g2]
      by_cases c1 : w.toInt = 1
      · rw [if_pos c1, show w.toNatClampNeg - 1 = 0 by omega, Nat.mul_zero, Nat.zero_add]; exact q1
      · simp only [if_neg c1]
        by_cases c2 : w.toInt = 2
        · rw [if_pos c2, show w.toNatClampNeg - 1 = 1 by omega]; exact q2
        · rw [if_neg c2, show w.toNatClampNeg - 1 = 2 by omega]; exact q3
  · by_cases c4 : w.toInt = 4
    · have n0 : ¬ (w.toInt = 0) := by omega
      simp only [if_pos c4, if_neg n0]; exact h3
    · have n0 : ¬ (w.toInt = 0) := by omega
      simp only [if_neg c4, if_neg n0]
      by_cases c5 : w.toInt = 5
      · simp only [if_pos c5]; exact h4
      · have c6 : w.toInt = 6 := by omega
        simp only [if_neg c5, if_pos c6]; exact h5
theorem set_rel {b n w v : Int32} {T : kNt} {R : kRt} (h : nRel T R) (hl : nLen T R) (hb : b.toInt ≤ 8) (ht : kTold b n w) : nRel (cSet b n w v T) (rSet n w v R) ∧ (∀ j : Nat, 9 ≤ j → (rSet n w v R).1.getD j 0 = R.1.getD j 0) ∧ (∀ j : Nat, b.toInt ≤ j → (rSet n w v R).2.1.getD (16 + j) 0 = R.2.1.getD (16 + j) 0) := by
  obtain ⟨h1, h2, h3, h4, h5⟩ := h
  obtain ⟨l1, l2, l3, l4, l5, l6⟩ := hl
  have tn := Int32.toNat_toInt n
  have tw := Int32.toNat_toInt w
  have k8 : (8 : Int32).toNatClampNeg = 8 := by decide
  unfold cSet rSet
  rcases ht with ⟨g1, g2, g3, g4⟩ | ⟨g1, g2, g3⟩
  · have n4 : ¬ (w.toInt = 4) := by omega
    have n5 : ¬ (w.toInt = 5) := by omega
    have n6 : ¬ (w.toInt = 6) := by omega
    simp only [if_neg n4, if_neg n5, if_neg n6, if_pos (show 0 ≤ n.toInt ∧ n.toInt < b.toInt from ⟨g3, g4⟩)]
    by_cases c0 : w.toInt = 0
    · simp only [if_pos c0]
      refine ⟨⟨fun j hj => ?_, h2, h3, h4, ?_⟩, fun j hj => ?_, fun j hj => by first | rfl | trivial⟩
      · try dsimp only
        rw [kset_gI (by omega), kset_gI (by omega), h1 j hj]
      · try dsimp only
        rw [kset_gI (by omega), if_neg (by omega)]; exact h5
      · try dsimp only
        rw [kset_gI (by omega), if_neg (by omega)]
    · simp only [if_neg c0]
      rw [rIx g3 (by omega) (by omega) g2]
      by_cases c1 : w.toInt = 1
      · simp only [if_pos c1]
        refine ⟨⟨h1, fun j hj => ?_, h3, h4, h5⟩, fun j hj => by first | rfl | trivial, fun j hj => ?_⟩
        · try dsimp only
          obtain ⟨q1, q2, q3⟩ := h2 j hj
          rw [kset_gI (by omega), kset_gI (by omega), kset_gI (by omega), kset_gI (by omega), if_neg (by omega : ¬ (8 + j = _)), if_neg (by omega : ¬ (16 + j = _))]
          refine ⟨?_, q2, q3⟩
          by_cases cj : j = n.toNatClampNeg
          · rw [if_pos cj, if_pos (by omega)]
          · rw [if_neg cj, if_neg (by omega)]; exact q1
        · try dsimp only
          rw [kset_gI (by omega), if_neg (by omega)]
      · simp only [if_neg c1]
        by_cases c2 : w.toInt = 2
        · simp only [if_pos c2]
          refine ⟨⟨h1, fun j hj => ?_, h3, h4, h5⟩, fun j hj => by first | rfl | trivial, fun j hj => ?_⟩
          · try dsimp only
            obtain ⟨q1, q2, q3⟩ := h2 j hj
            rw [kset_gI (by omega), kset_gI (by omega), kset_gI (by omega), kset_gI (by omega), if_neg (by omega : ¬ (j = 8 * _ + _)), if_neg (by omega : ¬ (16 + j = _))]
            refine ⟨q1, ?_, q3⟩
            by_cases cj : j = n.toNatClampNeg
            · rw [if_pos cj, if_pos (by omega)]
            · rw [if_neg cj, if_neg (by omega)]; exact q2
          · try dsimp only
            rw [kset_gI (by omega), if_neg (by omega)]
        · simp only [if_neg c2]
          refine ⟨⟨h1, fun j hj => ?_, h3, h4, h5⟩, fun j hj => by first | rfl | trivial, fun j hj => ?_⟩
          · try dsimp only
            obtain ⟨q1, q2, q3⟩ := h2 j hj
            rw [kset_gI (by omega), kset_gI (by omega), kset_gI (by omega), kset_gI (by omega), if_neg (by omega : ¬ (j = 8 * _ + _)), if_neg (by omega : ¬ (8 + j = _))]
            refine ⟨q1, q2, ?_⟩
            by_cases cj : j = n.toNatClampNeg
            · rw [if_pos cj, if_pos (by omega)]
            · rw [if_neg cj, if_neg (by omega)]; exact q3
          · try dsimp only
            rw [kset_gI (by omega), if_neg (by omega)]
  · by_cases c4 : w.toInt = 4
    · have n0 : ¬ (w.toInt = 0) := by omega
      simp only [if_pos c4, if_neg n0]
      exact ⟨⟨h1, h2, rfl, h4, h5⟩, fun j hj => by first | rfl | trivial, fun j hj => by first | rfl | trivial⟩
    · have n0 : ¬ (w.toInt = 0) := by omega
      simp only [if_neg c4, if_neg n0]
      by_cases c5 : w.toInt = 5
      · simp only [if_pos c5]
        exact ⟨⟨h1, h2, h3, rfl, h5⟩, fun j hj => by first | rfl | trivial, fun j hj => by first | rfl | trivial⟩
      · have c6 : w.toInt = 6 := by omega
        simp only [if_neg c5, if_pos c6, k8]
        refine ⟨⟨fun j hj => ?_, h2, h3, h4, ?_⟩, fun j hj => ?_, fun j hj => by first | rfl | trivial⟩
        · try dsimp only
          rw [kset_gI (by omega), if_neg (by omega)]; exact h1 j hj
        · try dsimp only
          rw [kset_gI (by omega), if_pos rfl]
        · try dsimp only
          rw [kset_gI (by omega), if_neg (by omega)]
def gOne (b : Int32) (G : kCg) (L : List Int32) (j : Nat) : Prop := G.1.getD j 0 = L.getD (4 * j) 0 ∧ G.2.1.getD j 0 = L.getD (4 * j + 1) 0 ∧ G.2.2.1.getD j 0 = L.getD (4 * j + 2) 0 ∧ G.2.2.2.1.getD j 0 = L.getD (4 * j + 3) 0 ∧ kTold b (G.1.getD j 0) (G.2.1.getD j 0)
def gRel (b : Int32) (G : kCg) (R : kRg) : Prop := G.2.2.2.2.1 = R.2.1 ∧ G.2.2.2.2.2 = R.2.2 ∧ (0 ≤ R.2.2.toInt ∧ R.2.2.toInt ≤ R.2.1.toInt ∧ R.2.1.toInt ≤ 40) ∧ ∀ j : Nat, (j : Int) < R.2.1.toInt → gOne b G R.1 j
def gLen (G : kCg) (R : kRg) : Prop := G.1.length = 40 ∧ G.2.1.length = 40 ∧ G.2.2.1.length = 40 ∧ G.2.2.2.1.length = 40 ∧ R.1.length = 160
theorem rShf_g {L : List Int32} (h : L.length = 160) (j : Nat) (hj : j < 156) : (rShf L).getD j 0 = L.getD (j + 4) 0 ∧ (rShf L).length = 160 := by
  unfold rShf
  refine ⟨?_, by rw [List.length_append, List.length_drop, List.length_drop]; omega⟩
  rw [List.getD_eq_getElem?_getD, List.getElem?_append_left (by rw [List.length_drop]; omega), List.getElem?_drop, ← List.getD_eq_getElem?_getD, show 4 + j = j + 4 by omega]
theorem rPut_g {n w u v d : Int32} {L : List Int32} {D : Nat} (hL : L.length = 160) (h0 : d.toInt = (D : Int)) (h1 : D < 40) (j : Nat) : (rPut n w u v d L).length = 160 ∧ (rPut n w u v d L).getD j 0 = if j = 4 * D + 3 then v else if j = 4 * D + 2 then u else if j = 4 * D + 1 then w else if j = 4 * D then n else L.getD j 0 := by
  have e0 : (4 * d).toInt = 4 * d.toInt := kd_cmul 4 (by decide) (by omega) (by omega)
  have k1 : (1 : Int32).toInt = 1 := by decide
  have k2 : (2 : Int32).toInt = 2 := by decide
  have k3 : (3 : Int32).toInt = 3 := by decide
  have e1 : (4 * d + 1).toInt = (4 * d).toInt + (1 : Int32).toInt := kd_add (by omega) (by omega)
  have e2 : (4 * d + 2).toInt = (4 * d).toInt + (2 : Int32).toInt := kd_add (by omega) (by omega)
  have e3 : (4 * d + 3).toInt = (4 * d).toInt + (3 : Int32).toInt := kd_add (by omega) (by omega)
  have t0 := Int32.toNat_toInt (4 * d)
  have t1 := Int32.toNat_toInt (4 * d + 1)
  have t2 := Int32.toNat_toInt (4 * d + 2)
  have t3 := Int32.toNat_toInt (4 * d + 3)
  unfold rPut
  rw [show (4 * d).toNatClampNeg = 4 * D by omega, show (4 * d + 1).toNatClampNeg = 4 * D + 1 by omega, show (4 * d + 2).toNatClampNeg = 4 * D + 2 by omega, show (4 * d + 3).toNatClampNeg = 4 * D + 3 by omega]
  refine ⟨by rw [List.length_set, List.length_set, List.length_set, List.length_set]; exact hL, ?_⟩
  rw [kset_gI (by rw [List.length_set, List.length_set, List.length_set]; omega), kset_gI (by rw [List.length_set, List.length_set]; omega), kset_gI (by rw [List.length_set]; omega), kset_gI (by omega)]
theorem rPut_4 {n w u v d : Int32} {L : List Int32} {D : Nat} (hL : L.length = 160) (h0 : d.toInt = (D : Int)) (h1 : D < 40) (j : Nat) : (rPut n w u v d L).getD (4 * j) 0 = (if j = D then n else L.getD (4 * j) 0) ∧ (rPut n w u v d L).getD (4 * j + 1) 0 = (if j = D then w else L.getD (4 * j + 1) 0) ∧ (rPut n w u v d L).getD (4 * j + 2) 0 = (if j = D then u else L.getD (4 * j + 2) 0) ∧ (rPut n w u v d L).getD (4 * j + 3) 0 = (if j = D then v else L.getD (4 * j + 3) 0) := by
  rw [(rPut_g hL h0 h1 (4 * j)).2, (rPut_g hL h0 h1 (4 * j + 1)).2, (rPut_g hL h0 h1 (4 * j + 2)).2, (rPut_g hL h0 h1 (4 * j + 3)).2]
  refine ⟨?_, ?_, ?_, ?_⟩ <;> (repeat' split) <;> first | rfl | (exfalso; omega)
theorem add_rel {b n w u v : Int32} {G : kCg} {R : kRg} (h : gRel b G R) (hl : gLen G R) (ht : kTold b n w) : gRel b (nAdd n w u v G) (rAdd n w u v R) := by
  obtain ⟨G1, G2, G3, G4, gk, gd⟩ := G
  obtain ⟨L, rk, rd⟩ := R
  obtain ⟨e1, e2, ⟨h0, h1, h2⟩, h3⟩ := h
  obtain ⟨l1, l2, l3, l4, l5⟩ := hl
  dsimp only at e1 e2 h0 h1 h2 h3 l1 l2 l3 l4 l5
  subst e1
  subst e2
  have k1 : (1 : Int32).toNatClampNeg = 1 := by decide
  have k0 : (0 : Int32).toNatClampNeg = 0 := by decide
  have k39 : (39 : Int32).toNatClampNeg = 39 := by decide
  have k1i : (1 : Int32).toInt = 1 := by decide
  have k40 : (40 : Int32).toInt = 40 := by decide
  unfold nAdd rAdd
  by_cases c : gd.toInt = 40
  · have hc : (40 : Int) ≤ (G1, G2, G3, G4, gk, gd).2.2.2.2.2.toInt := by dsimp only; omega
    have hr : (L, gk, gd).2.2.toInt = 40 := c
    rw [if_pos hc, if_pos hr]
    dsimp only
    have ed : (gd - 1).toInt = ((39 : Nat) : Int) := by
      have := kd_sub (x := gd) (y := 1) (by omega) (by omega)
      omega
    have e4 : gd - 1 + 1 = 40 := kj_v (by
      have := kd_add (x := gd - 1) (y := 1) (by omega) (by omega)
      omega)
    rw [e4, k1, k0, k39]
    refine ⟨rfl, rfl, ⟨by dsimp only; omega, by dsimp only; omega, by dsimp only; omega⟩, fun j hj => ?_⟩
    have hj : (j : Int) < 40 := hj
    obtain ⟨p0, p1, p2, p3⟩ := rPut_4 (n := n) (w := w) (u := u) (v := v) (L := rShf L) (rShf_g l5 0 (by omega)).2 ed (by omega) j
    have c0 : ∀ (l : List Int32) (x : Int32), l.length = 40 → ((mi_cpy l l 1 0 39).set 39 x).getD j 0 = if j = 39 then x else l.getD (j + 1) 0 := fun l x hl => by
      rw [kset_gI (by rw [mi_cpy_len (by omega) (by omega)]; omega)]
      by_cases cj : j = 39
      · rw [if_pos cj, if_pos cj]
      · rw [if_neg cj, if_neg cj, cpy_g (by omega) (by omega), if_pos (by omega), show 1 + (j - 0) = j + 1 by omega]
    unfold gOne
    dsimp only
    rw [p0, p1, p2, p3, c0 _ _ l1, c0 _ _ l2, c0 _ _ l3, c0 _ _ l4]
    by_cases cj : j = 39
    · simp only [if_pos cj, true_and]
      exact ht
    · have q := h3 (j + 1) (by omega)
      unfold gOne at q
      dsimp only at q
      have z0 := (rShf_g l5 (4 * j) (by omega)).1
      have z1 := (rShf_g l5 (4 * j + 1) (by omega)).1
      have z2 := (rShf_g l5 (4 * j + 2) (by omega)).1
      have z3 := (rShf_g l5 (4 * j + 3) (by omega)).1
      rw [show 4 * j + 4 = 4 * (j + 1) by omega] at z0
      rw [show 4 * j + 1 + 4 = 4 * (j + 1) + 1 by omega] at z1
      rw [show 4 * j + 2 + 4 = 4 * (j + 1) + 2 by omega] at z2
      rw [show 4 * j + 3 + 4 = 4 * (j + 1) + 3 by omega] at z3
      simp only [if_neg cj, z0, z1, z2, z3]
      exact q
  · have hc : ¬ ((40 : Int) ≤ (G1, G2, G3, G4, gk, gd).2.2.2.2.2.toInt) := by dsimp only; omega
    have hr : ¬ ((L, gk, gd).2.2.toInt = 40) := c
    rw [if_neg hc, if_neg hr]
    dsimp only
    have td := Int32.toNat_toInt gd
    have e1 : (gd + 1).toInt = gd.toInt + 1 := by
      have := kd_add (x := gd) (y := 1) (by omega) (by omega)
      omega
    refine ⟨rfl, rfl, ⟨by dsimp only; omega, by dsimp only; omega, by dsimp only; omega⟩, fun j hj => ?_⟩
    have hj : (j : Int) < (gd + 1).toInt := hj
    obtain ⟨p0, p1, p2, p3⟩ := rPut_4 (n := n) (w := w) (u := u) (v := v) (D := gd.toNatClampNeg) (d := gd) l5 (by omega) (by omega) j
    have c0 : ∀ (l : List Int32) (x : Int32), l.length = 40 → (l.set gd.toNatClampNeg x).getD j 0 = if j = gd.toNatClampNeg then x else l.getD j 0 := fun l x hl => kset_gI (by omega)
    unfold gOne
    dsimp only
    rw [p0, p1, p2, p3, c0 _ _ l1, c0 _ _ l2, c0 _ _ l3, c0 _ _ l4]
    by_cases cj : j = gd.toNatClampNeg
    · simp only [if_pos cj, true_and]
      exact ht
    · have q := h3 j (by omega)
      simp only [if_neg cj]
      exact q
def mnRel (b : Int32) (X : Int32 × kNt × kCg) (Y : Int32 × kRt × kRg) : Prop := X.1 = Y.1 ∧ nRel X.2.1 Y.2.1 ∧ gRel b X.2.2 Y.2.2
def mnKeep (b : Int32) (R : kRt) (Y : Int32 × kRt × kRg) : Prop := (∀ j : Nat, 9 ≤ j → Y.2.1.1.getD j 0 = R.1.getD j 0) ∧ (∀ j : Nat, b.toInt ≤ j → Y.2.1.2.1.getD (16 + j) 0 = R.2.1.getD (16 + j) 0)
theorem mend_rel {b n w v : Int32} {T : kNt} {R : kRt} {G : kCg} {C : kRg} (h : nRel T R) (hl : nLen T R) (hg : gRel b G C) (hgl : gLen G C) (hb : b.toInt ≤ 8) : mnRel b (cMend b n w v T G) (rMend b n w v R C) ∧ mnKeep b R (rMend b n w v R C) := by
  unfold cMend rMend
  by_cases c : kTold b n w ∧ kFit w v
  · rw [if_pos c, if_pos c, ← get_rel h hb c.1]
    by_cases c2 : (cGet b n w T).toInt = v.toInt
    · rw [if_pos c2, if_pos c2]
      exact ⟨⟨rfl, h, hg⟩, fun j _ => rfl, fun j _ => rfl⟩
    · rw [if_neg c2, if_neg c2]
      obtain ⟨s1, s2, s3⟩ := set_rel (v := v) h hl hb c.1
      exact ⟨⟨rfl, s1, add_rel hg hgl c.1⟩, s2, s3⟩
  · rw [if_neg c, if_neg c]
    exact ⟨⟨rfl, h, hg⟩, fun j _ => rfl, fun j _ => rfl⟩
theorem gIx {d : Int32} {D : Nat} (h0 : d.toInt = (D : Int)) (h1 : D < 40) : d.toNatClampNeg = D ∧ (4 * d).toNatClampNeg = 4 * D ∧ (4 * d + 1).toNatClampNeg = 4 * D + 1 ∧ (4 * d + 2).toNatClampNeg = 4 * D + 2 ∧ (4 * d + 3).toNatClampNeg = 4 * D + 3 := by
  have e0 : (4 * d).toInt = 4 * d.toInt := kd_cmul 4 (by decide) (by omega) (by omega)
  have k1 : (1 : Int32).toInt = 1 := by decide
  have k2 : (2 : Int32).toInt = 2 := by decide
  have k3 : (3 : Int32).toInt = 3 := by decide
  have e1 : (4 * d + 1).toInt = (4 * d).toInt + (1 : Int32).toInt := kd_add (by omega) (by omega)
  have e2 : (4 * d + 2).toInt = (4 * d).toInt + (2 : Int32).toInt := kd_add (by omega) (by omega)
  have e3 : (4 * d + 3).toInt = (4 * d).toInt + (3 : Int32).toInt := kd_add (by omega) (by omega)
  have t := Int32.toNat_toInt d
  have t0 := Int32.toNat_toInt (4 * d)
  have t1 := Int32.toNat_toInt (4 * d + 1)
  have t2 := Int32.toNat_toInt (4 * d + 2)
  have t3 := Int32.toNat_toInt (4 * d + 3)
  omega
theorem undo_rel {b : Int32} {T : kNt} {R : kRt} {G : kCg} {C : kRg} (h : nRel T R) (hl : nLen T R) (hg : gRel b G C) (hb : b.toInt ≤ 8) : mnRel b (cUndo b T G) (rUndo R C) ∧ mnKeep b R (rUndo R C) := by
  obtain ⟨G1, G2, G3, G4, gk, gd⟩ := G
  obtain ⟨L, rk, rd⟩ := C
  obtain ⟨e1, e2, ⟨h0, h1, h2⟩, h3⟩ := hg
  dsimp only at e1 e2 h0 h1 h2 h3
  subst e1
  subst e2
  unfold cUndo rUndo
  dsimp only
  by_cases c : gd.toInt = 0
  · rw [if_pos (by omega), if_pos c]
    exact ⟨⟨rfl, h, rfl, rfl, ⟨h0, h1, h2⟩, h3⟩, fun j _ => rfl, fun j _ => rfl⟩
  · rw [if_neg (by omega), if_neg c]
    have k1 : (1 : Int32).toInt = 1 := by decide
    have ed : (gd - 1).toInt = gd.toInt - 1 := by
      have := kd_sub (x := gd) (y := 1) (by omega) (by omega)
      omega
    obtain ⟨i0, i1, i2, i3, i4⟩ := gIx (d := gd - 1) (D := (gd.toInt - 1).toNat) (by omega) (by omega)
    obtain ⟨q1, q2, q3, q4, q5⟩ := h3 (gd.toInt - 1).toNat (by omega)
    dsimp only at q1 q2 q3 q4 q5
    rw [i0, i1, i2, i3, ← q1, ← q2, ← q3]
    obtain ⟨s1, s2, s3⟩ := set_rel (v := G3.getD (gd.toInt - 1).toNat 0) h hl hb q5
    exact ⟨⟨rfl, s1, rfl, rfl, ⟨by dsimp only; omega, by dsimp only; omega, h2⟩, h3⟩, s2, s3⟩
theorem redo_rel {b : Int32} {T : kNt} {R : kRt} {G : kCg} {C : kRg} (h : nRel T R) (hl : nLen T R) (hg : gRel b G C) (hb : b.toInt ≤ 8) : mnRel b (cRedo b T G) (rRedo R C) ∧ mnKeep b R (rRedo R C) := by
  obtain ⟨G1, G2, G3, G4, gk, gd⟩ := G
  obtain ⟨L, rk, rd⟩ := C
  obtain ⟨e1, e2, ⟨h0, h1, h2⟩, h3⟩ := hg
  dsimp only at e1 e2 h0 h1 h2 h3
  subst e1
  subst e2
  unfold cRedo rRedo
  dsimp only
  by_cases c : gd.toInt = gk.toInt
  · rw [if_pos (by omega), if_pos c]
    exact ⟨⟨rfl, h, rfl, rfl, ⟨h0, h1, h2⟩, h3⟩, fun j _ => rfl, fun j _ => rfl⟩
  · rw [if_neg (by omega), if_neg c]
    have k1 : (1 : Int32).toInt = 1 := by decide
    have ed : (gd + 1).toInt = gd.toInt + 1 := by
      have := kd_add (x := gd) (y := 1) (by omega) (by omega)
      omega
    obtain ⟨i0, i1, i2, i3, i4⟩ := gIx (d := gd) (D := gd.toInt.toNat) (by omega) (by omega)
    obtain ⟨q1, q2, q3, q4, q5⟩ := h3 gd.toInt.toNat (by omega)
    dsimp only at q1 q2 q3 q4 q5
    rw [i0, i1, i2, i4, ← q1, ← q2, ← q4]
    obtain ⟨s1, s2, s3⟩ := set_rel (v := G4.getD gd.toInt.toNat 0) h hl hb q5
    exact ⟨⟨rfl, s1, rfl, rfl, ⟨by dsimp only; omega, by dsimp only; omega, h2⟩, h3⟩, s2, s3⟩
/-- more buyers: what is told stays told -/
theorem told_up {b b1 n w : Int32} (h : b.toInt ≤ b1.toInt) (ht : kTold b n w) : kTold b1 n w := by omega
theorem gRel_up {b b1 : Int32} {G : kCg} {R : kRg} (h : b.toInt ≤ b1.toInt) (hg : gRel b G R) : gRel b1 G R :=
  ⟨hg.1, hg.2.1, hg.2.2.1, fun j hj => by obtain ⟨q1, q2, q3, q4, q5⟩ := hg.2.2.2 j hj; exact ⟨q1, q2, q3, q4, told_up h q5⟩⟩
end
section
theorem kou4 : (4 : Int32).toInt = 4 := by decide
theorem kou5 : (5 : Int32).toInt = 5 := by decide
theorem kou6 : (6 : Int32).toInt = 6 := by decide
theorem kou0 : (0 : Int32).toInt = 0 := by decide
theorem kou1 : (1 : Int32).toInt = 1 := by decide
theorem kou39 : (39 : Int32).toInt = 39 := by decide
theorem kou40 : (40 : Int32).toInt = 40 := by decide
theorem kou999 : (999 : Int32).toInt = 999 := by decide
theorem kou3 : (3 : Int32).toInt = 3 := by decide
theorem kou99 : (99 : Int32).toInt = 99 := by decide
theorem ou0 {a0 : Int} (h0 : a0 = 4) : a0 = 4 := oz1446 h0
theorem ou1 {a0 : Int} (h0 : a0 = 5) : ¬ (a0 = 4) := by omega
theorem ou2 {a0 : Int} (h0 : a0 = 5) : a0 = 5 := oz1470 h0
theorem ou3 {a0 : Int} (h0 : a0 = 6) : ¬ (a0 = 4) := by omega
theorem ou4 {a0 : Int} (h0 : a0 = 6) : ¬ (a0 = 5) := by omega
theorem ou5 {a0 : Int} (h0 : a0 = 6) : a0 = 6 := oz1484 h0
theorem ou6 {a0 : Int} (h0 : ¬ (a0 = 4)) (h1 : ¬ (a0 = 5)) (h2 : ¬ (a0 = 6)) : a0 < 4 ∨ 6 < a0 := oz972 h0 h1 h2
theorem ou11 {a0 : Int} (h0 : a0 = 0) : a0 = 0 := oz236 h0
theorem ou12 {a0 : Int} (h0 : a0 = 1) : a0 = 1 := oz1381 h0
theorem ou13 {a0 : Int} (h0 : a0 = 2) : a0 = 2 := oz1411 h0
theorem ou14 {a0 : Int} (h0 : ¬ (a0 = 0)) (h1 : ¬ (a0 = 1)) (h2 : ¬ (a0 = 2)) : a0 < 0 ∨ 2 < a0 := oz973 h0 h1 h2
theorem ou15 {a0 : Int} (h0 : ¬ (a0 = 0)) (h1 : ¬ (a0 = 1)) (h2 : ¬ (a0 = 2)) : (a0 ≠ 0) ∧ (a0 ≠ 1) ∧ (a0 ≠ 2) := by omega
theorem ou16 {a0 : Int} (h0 : (0 : Int) ≤ a0) : (0 : Int) ≤ a0 := oz3 h0
theorem ou17 {a0 a1 : Int} (h0 : a0 ≤ 8) (h1 : a1 < a0) : a1 < 8 := oz974 h0 h1
theorem ou18 {a0 : Int} (h0 : a0 = 0) : ¬ (a0 = 4) := by omega
theorem ou19 {a0 : Int} (h0 : a0 = 0) : ¬ (a0 = 5) := by omega
theorem ou20 {a0 : Int} (h0 : a0 = 0) : ¬ (a0 = 6) := by omega
theorem ou21 {a0 a1 : Int} (h0 : (0 : Int) ≤ a0) (h1 : a0 < a1) : ((0 : Int) ≤ a0) ∧ (a0 < a1) := oz967 h0 h1
theorem ou22 {a0 : Int} (h0 : a0 = 1) : ¬ (a0 = 4) := by omega
theorem ou23 {a0 : Int} (h0 : a0 = 1) : ¬ (a0 = 5) := by omega
theorem ou24 {a0 : Int} (h0 : a0 = 1) : ¬ (a0 = 6) := by omega
theorem ou25 {a0 : Int} (h0 : a0 = 1) : ¬ (a0 = 0) := by omega
theorem ou26 {a0 : Int} (h0 : a0 = 2) : ¬ (a0 = 4) := by omega
theorem ou27 {a0 : Int} (h0 : a0 = 2) : ¬ (a0 = 5) := by omega
theorem ou28 {a0 : Int} (h0 : a0 = 2) : ¬ (a0 = 6) := by omega
theorem ou29 {a0 : Int} (h0 : a0 = 2) : ¬ (a0 = 0) := by omega
theorem ou30 {a0 : Int} (h0 : a0 = 2) : ¬ (a0 = 1) := by omega
theorem ou31 {a0 : Int} (h0 : ¬ (a0 = 4)) : ¬ (a0 = 4) := by omega
theorem ou32 {a0 : Int} (h0 : ¬ (a0 = 4)) (h1 : ¬ (a0 = 5)) : ¬ (a0 = 5) := by omega
theorem ou33 {a0 : Int} (h0 : ¬ (a0 = 4)) (h1 : ¬ (a0 = 5)) (h2 : ¬ (a0 = 6)) : ¬ (a0 = 6) := by omega
theorem ou34 {a0 : Int} (h0 : a0 ≠ 0) : ¬ (a0 = 0) := by omega
theorem ou35 {a0 : Int} (h0 : a0 ≠ 0) (h1 : a0 ≠ 1) : ¬ (a0 = 1) := by omega
theorem ou36 {a0 : Int} (h0 : a0 ≠ 0) (h1 : a0 ≠ 1) (h2 : a0 ≠ 2) : ¬ (a0 = 2) := by omega
theorem ou37 {a0 a1 : Int} (h0 : ¬ (((0 : Int) ≤ a0) ∧ (a0 < a1))) : ¬ (((0 : Int) ≤ a0) ∧ (a0 < a1)) := oz968 h0
theorem ou38 {a0 a1 : Int} (h0 : a0 ≠ a1) (h1 : a1 = 4) : ¬ (a0 = 4) := by omega
theorem ou39 {a0 a1 a2 : Int} (h0 : a0 ≠ a1) (h1 : a0 ≠ a2) (h2 : a1 = 4) (h3 : a2 = 5) : ¬ (a0 = 5) := by omega
theorem ou40 {a0 a1 a2 a3 : Int} (h0 : a0 ≠ a1) (h1 : a0 ≠ a2) (h2 : a0 ≠ a3) (h3 : a1 = 4) (h4 : a2 = 5) (h5 : a3 = 6) : ¬ (a0 = 6) := by omega
theorem ou41 {a0 a1 : Int} (h0 : a0 = a1) (h1 : a1 = 6) : ¬ (a0 = 4) := by omega
theorem ou42 {a0 a1 : Int} (h0 : a0 = a1) (h1 : a1 = 6) : ¬ (a0 = 5) := by omega
theorem ou43 {a0 a1 : Int} (h0 : a0 = a1) (h1 : a1 = 6) : a0 = 6 := by omega
theorem ou44 {a0 a1 : Int} (h0 : a0 = a1) (h1 : a1 = 5) : ¬ (a0 = 4) := by omega
theorem ou45 {a0 a1 : Int} (h0 : a0 = a1) (h1 : a1 = 5) : a0 = 5 := by omega
theorem ou46 {a0 a1 : Int} (h0 : a0 = a1) (h1 : a1 = 4) : a0 = 4 := by omega
theorem ou47 {a0 : Int} (h0 : a0 = 39) : (0 : Int) ≤ a0 := oz977 h0
theorem ou48 {a0 : Int} (h0 : a0 = 39) : a0 ≤ 40 := oz978 h0
theorem ou49 {a0 : Int} (h0 : a0 = 1) : (0 : Int) ≤ a0 := oz246 h0
theorem ou50 {a0 : Int} (h0 : a0 = 0) : (0 : Int) ≤ a0 := oz46 h0
theorem ou51 {a0 a1 : Int} (h0 : a0 = 1) (h1 : a1 = 39) : a0 + a1 ≤ 40 := oz979 h0 h1
theorem ou52 {a0 a1 : Int} (h0 : a0 = 0) (h1 : a1 = 39) : a0 + a1 ≤ 40 := oz980 h0 h1
theorem ou53 {a0 : Int} (h0 : a0 = 39) : a0 = 39 := oz981 h0
theorem ou54 {a0 a1 : Int} (h0 : a0 < a1) (h1 : a1 = 40) : a0 < 40 := oz975 h0 h1
theorem ou55 {a0 a1 : Int} (h0 : (0 : Int) ≤ a0) (h1 : a1 = 1) : (-2147483648 : Int) ≤ a0 + a1 := oz12 h0 h1
theorem ou56 {a0 a1 : Int} (h0 : a0 ≤ 40) (h1 : a1 = 1) : a0 + a1 ≤ 2147483647 := oz120 h0 h1
theorem ou57 {a0 a1 a2 : Int} (h0 : (0 : Int) ≤ a0) (h1 : a1 = a0 + a2) (h2 : a2 = 1) : (0 : Int) ≤ a1 := oz14 h0 h1 h2
theorem ou58 {a0 a1 a2 a3 : Int} (h0 : a0 < a1) (h1 : a2 = a0 + a3) (h2 : a1 = 40) (h3 : a3 = 1) : a2 ≤ 40 := oz976 h0 h1 h2 h3
theorem ou59 {a0 a1 : Int} (h0 : a0 < a1) (h1 : a1 = 40) : ¬ ((40 : Int) ≤ a0) := by omega
theorem ou60 {a0 : Int} (h0 : a0 = 39) : a0 < 40 := oz982 h0
theorem ou61 {a0 a1 : Int} (h0 : a0 = 39) (h1 : a1 = 1) : (-2147483648 : Int) ≤ a0 + a1 := oz983 h0 h1
theorem ou62 {a0 a1 a2 : Int} (h0 : a0 = a1 + a2) (h1 : a1 = 39) (h2 : a2 = 1) : (0 : Int) ≤ a0 := oz984 h0 h1 h2
theorem ou63 {a0 a1 a2 : Int} (h0 : a0 = a1 + a2) (h1 : a1 = 39) (h2 : a2 = 1) : a0 ≤ 40 := oz985 h0 h1 h2
theorem ou64 {a0 a1 : Int} (h0 : a0 ≤ a1) (h1 : a0 = 40) : (40 : Int) ≤ a1 := by omega
theorem ou74 {a0 a1 a2 : Int} (h0 : (((0 : Int) ≤ a0) ∧ (a0 ≤ 3) ∧ ((0 : Int) ≤ a1) ∧ (a1 < a2)) ∨ (((4 : Int) ≤ a0) ∧ (a0 ≤ 6) ∧ (a1 = 0))) : (((0 : Int) ≤ a0) ∧ (a0 ≤ 3) ∧ ((0 : Int) ≤ a1) ∧ (a1 < a2)) ∨ (((4 : Int) ≤ a0) ∧ (a0 ≤ 6) ∧ (a1 = 0)) := by omega
theorem ou75 {a0 a1 a2 : Int} (h0 : (0 : Int) ≤ a0) (h1 : ¬ ((((0 : Int) ≤ a1) ∧ (a1 ≤ 3) ∧ ((0 : Int) ≤ a2) ∧ (a2 < a0)) ∨ (((4 : Int) ≤ a1) ∧ (a1 ≤ 6) ∧ (a2 = 0)))) : ¬ ((((0 : Int) ≤ a1) ∧ (a1 ≤ 3) ∧ ((0 : Int) ≤ a2) ∧ (a2 < a0)) ∨ (((4 : Int) ≤ a1) ∧ (a1 ≤ 6) ∧ (a2 = 0))) := by omega
theorem ou80 {a0 a1 a2 : Int} (h0 : a0 ≤ a1) (h1 : a1 ≤ a2) (h2 : a0 = 0) (h3 : a2 = 999) : ((0 : Int) ≤ a1) ∧ (a1 ≤ 999) := by omega
theorem ou81 {a0 a1 a2 : Int} (h0 : ¬ ((a0 ≤ a1) ∧ (a1 ≤ a2))) (h1 : a0 = 0) (h2 : a2 = 999) : ¬ (((0 : Int) ≤ a1) ∧ (a1 ≤ 999)) := by omega
theorem ou82 {a0 a1 : Int} (h0 : ¬ ((a0 ≤ a0) ∧ (a0 ≤ a1))) (h1 : a0 = 0) (h2 : a1 = 6) : False := by omega
theorem ou83 {a0 a1 a2 : Int} (h0 : a0 = 0) (h1 : (((0 : Int) ≤ a0) ∧ (a0 ≤ 3) ∧ ((0 : Int) ≤ a1) ∧ (a1 < a2)) ∨ (((4 : Int) ≤ a0) ∧ (a0 ≤ 6) ∧ (a1 = 0))) : (((0 : Int) ≤ a0) ∧ (a0 ≤ 3) ∧ ((0 : Int) ≤ a1) ∧ (a1 < a2)) ∨ (((4 : Int) ≤ a0) ∧ (a0 ≤ 6) ∧ (a1 = 0)) := by omega
theorem ou84 {a0 : Int} (h0 : (0 : Int) ≤ a0) (h1 : a0 ≤ 999) : (0 : Int) ≤ a0 ∧ a0 ≤ 999 := by omega
theorem ou85 {a0 a1 a2 : Int} (h0 : a0 = a1) (h1 : a0 = a2) : a2 = a1 := by omega
theorem ou86 {a0 a1 a2 : Int} (h0 : a0 ≠ a1) (h1 : a0 = a2) : ¬ (a2 = a1) := by omega
theorem ou87 {a0 : Int} (h0 : ¬ (((0 : Int) ≤ a0) ∧ (a0 ≤ 999))) : ¬ ((0 : Int) ≤ a0 ∧ a0 ≤ 999) := by omega
theorem ou92 {a0 a1 a2 : Int} (h0 : a0 = 1) (h1 : (((0 : Int) ≤ a0) ∧ (a0 ≤ 3) ∧ ((0 : Int) ≤ a1) ∧ (a1 < a2)) ∨ (((4 : Int) ≤ a0) ∧ (a0 ≤ 6) ∧ (a1 = 0))) : (((0 : Int) ≤ a0) ∧ (a0 ≤ 3) ∧ ((0 : Int) ≤ a1) ∧ (a1 < a2)) ∨ (((4 : Int) ≤ a0) ∧ (a0 ≤ 6) ∧ (a1 = 0)) := by omega
theorem ou93 {a0 : Int} (h0 : (0 : Int) ≤ a0) (h1 : a0 ≤ 9) : (0 : Int) ≤ a0 ∧ a0 ≤ 9 := by omega
theorem ou94 {a0 : Int} (h0 : ¬ (((0 : Int) ≤ a0) ∧ (a0 ≤ 9))) : ¬ ((0 : Int) ≤ a0 ∧ a0 ≤ 9) := by omega
theorem ou98 {a0 a1 a2 : Int} (h0 : a0 = 2) (h1 : (((0 : Int) ≤ a0) ∧ (a0 ≤ 3) ∧ ((0 : Int) ≤ a1) ∧ (a1 < a2)) ∨ (((4 : Int) ≤ a0) ∧ (a0 ≤ 6) ∧ (a1 = 0))) : (((0 : Int) ≤ a0) ∧ (a0 ≤ 3) ∧ ((0 : Int) ≤ a1) ∧ (a1 < a2)) ∨ (((4 : Int) ≤ a0) ∧ (a0 ≤ 6) ∧ (a1 = 0)) := by omega
theorem ou101 {a0 a1 a2 : Int} (h0 : a0 ≤ a1) (h1 : a1 ≤ a2) (h2 : a0 = 0) (h3 : a2 = 1) : ((0 : Int) ≤ a1) ∧ (a1 ≤ 1) := by omega
theorem ou102 {a0 a1 a2 : Int} (h0 : ¬ ((a0 ≤ a1) ∧ (a1 ≤ a2))) (h1 : a0 = 0) (h2 : a2 = 1) : ¬ (((0 : Int) ≤ a1) ∧ (a1 ≤ 1)) := by omega
theorem ou103 {a0 a1 a2 : Int} (h0 : ¬ ((a0 ≤ a1) ∧ (a1 ≤ a2))) (h1 : a0 = 0) (h2 : a1 = 3) (h3 : a2 = 6) : False := by omega
theorem ou104 {a0 a1 a2 : Int} (h0 : a0 = 3) (h1 : (((0 : Int) ≤ a0) ∧ (a0 ≤ 3) ∧ ((0 : Int) ≤ a1) ∧ (a1 < a2)) ∨ (((4 : Int) ≤ a0) ∧ (a0 ≤ 6) ∧ (a1 = 0))) : (((0 : Int) ≤ a0) ∧ (a0 ≤ 3) ∧ ((0 : Int) ≤ a1) ∧ (a1 < a2)) ∨ (((4 : Int) ≤ a0) ∧ (a0 ≤ 6) ∧ (a1 = 0)) := by omega
theorem ou105 {a0 : Int} (h0 : a0 = 3) : a0 = 3 := oz1421 h0
theorem ou106 {a0 : Int} (h0 : (0 : Int) ≤ a0) (h1 : a0 ≤ 1) : (0 : Int) ≤ a0 ∧ a0 ≤ 1 := by omega
theorem ou107 {a0 : Int} (h0 : ¬ (((0 : Int) ≤ a0) ∧ (a0 ≤ 1))) : ¬ ((0 : Int) ≤ a0 ∧ a0 ≤ 1) := by omega
theorem ou110 {a0 a1 a2 : Int} (h0 : a0 ≤ a1) (h1 : a1 ≤ a2) (h2 : a0 = 1) (h3 : a2 = 5) : ((1 : Int) ≤ a1) ∧ (a1 ≤ 5) := oz1227 h0 h1 h2 h3
theorem ou111 {a0 a1 a2 : Int} (h0 : ¬ ((a0 ≤ a1) ∧ (a1 ≤ a2))) (h1 : a0 = 1) (h2 : a2 = 5) : ¬ (((1 : Int) ≤ a1) ∧ (a1 ≤ 5)) := by omega
theorem ou112 {a0 a1 a2 : Int} (h0 : ¬ ((a0 ≤ a1) ∧ (a1 ≤ a2))) (h1 : a0 = 0) (h2 : a1 = 4) (h3 : a2 = 6) : False := by omega
theorem ou113 {a0 a1 a2 : Int} (h0 : a0 = 4) (h1 : (((0 : Int) ≤ a0) ∧ (a0 ≤ 3) ∧ ((0 : Int) ≤ a1) ∧ (a1 < a2)) ∨ (((4 : Int) ≤ a0) ∧ (a0 ≤ 6) ∧ (a1 = 0))) : (((0 : Int) ≤ a0) ∧ (a0 ≤ 3) ∧ ((0 : Int) ≤ a1) ∧ (a1 < a2)) ∨ (((4 : Int) ≤ a0) ∧ (a0 ≤ 6) ∧ (a1 = 0)) := by omega
theorem ou114 {a0 : Int} (h0 : (1 : Int) ≤ a0) (h1 : a0 ≤ 5) : (1 : Int) ≤ a0 ∧ a0 ≤ 5 := by omega
theorem ou115 {a0 : Int} (h0 : ¬ (((1 : Int) ≤ a0) ∧ (a0 ≤ 5))) : ¬ ((1 : Int) ≤ a0 ∧ a0 ≤ 5) := by omega
theorem ou118 {a0 a1 a2 : Int} (h0 : ¬ ((a0 ≤ a1) ∧ (a1 ≤ a2))) (h1 : a0 = 0) (h2 : a1 = 5) (h3 : a2 = 6) : False := by omega
theorem ou119 {a0 a1 a2 : Int} (h0 : a0 = 5) (h1 : (((0 : Int) ≤ a0) ∧ (a0 ≤ 3) ∧ ((0 : Int) ≤ a1) ∧ (a1 < a2)) ∨ (((4 : Int) ≤ a0) ∧ (a0 ≤ 6) ∧ (a1 = 0))) : (((0 : Int) ≤ a0) ∧ (a0 ≤ 3) ∧ ((0 : Int) ≤ a1) ∧ (a1 < a2)) ∨ (((4 : Int) ≤ a0) ∧ (a0 ≤ 6) ∧ (a1 = 0)) := by omega
theorem ou122 {a0 a1 a2 : Int} (h0 : a0 ≤ a1) (h1 : a1 ≤ a2) (h2 : a0 = 0) (h3 : a2 = 99) : ((0 : Int) ≤ a1) ∧ (a1 ≤ 99) := by omega
theorem ou123 {a0 a1 a2 : Int} (h0 : ¬ ((a0 ≤ a1) ∧ (a1 ≤ a2))) (h1 : a0 = 0) (h2 : a2 = 99) : ¬ (((0 : Int) ≤ a1) ∧ (a1 ≤ 99)) := by omega
theorem ou124 {a0 a1 : Int} (h0 : ¬ ((a0 ≤ a1) ∧ (a1 ≤ a1))) (h1 : a0 = 0) (h2 : a1 = 6) : False := by omega
theorem ou125 {a0 a1 a2 : Int} (h0 : a0 = 6) (h1 : (((0 : Int) ≤ a0) ∧ (a0 ≤ 3) ∧ ((0 : Int) ≤ a1) ∧ (a1 < a2)) ∨ (((4 : Int) ≤ a0) ∧ (a0 ≤ 6) ∧ (a1 = 0))) : (((0 : Int) ≤ a0) ∧ (a0 ≤ 3) ∧ ((0 : Int) ≤ a1) ∧ (a1 < a2)) ∨ (((4 : Int) ≤ a0) ∧ (a0 ≤ 6) ∧ (a1 = 0)) := by omega
theorem ou126 {a0 : Int} (h0 : (0 : Int) ≤ a0) (h1 : a0 ≤ 99) : (0 : Int) ≤ a0 ∧ a0 ≤ 99 := by omega
theorem ou127 {a0 : Int} (h0 : ¬ (((0 : Int) ≤ a0) ∧ (a0 ≤ 99))) : ¬ ((0 : Int) ≤ a0 ∧ a0 ≤ 99) := by omega
theorem ou128 {a0 a1 a2 : Int} (h0 : ¬ (a0 = 4)) (h1 : ¬ (a0 = 5)) (h2 : ¬ (a0 = 6)) (h3 : ¬ (a0 = 0)) (h4 : ¬ (a0 = 1)) (h5 : ¬ (a0 = 2)) (h6 : ¬ (a0 = 3)) (h7 : (((0 : Int) ≤ a0) ∧ (a0 ≤ 3) ∧ ((0 : Int) ≤ a1) ∧ (a1 < a2)) ∨ (((4 : Int) ≤ a0) ∧ (a0 ≤ 6) ∧ (a1 = 0))) : False := by omega
theorem ou129 {a0 a1 a2 : Int} (h0 : a0 < a1) (h1 : a0 = 0) (h2 : a2 = 1) : (-2147483648 : Int) ≤ a1 - a2 := oz1040 h0 h1 h2
theorem ou130 {a0 a1 : Int} (h0 : a0 ≤ 40) (h1 : a1 = 1) : a0 - a1 ≤ 2147483647 := oz130 h0 h1
theorem ou131 {a0 a1 a2 a3 : Int} (h0 : a0 < a1) (h1 : a2 = a1 - a3) (h2 : a0 = 0) (h3 : a3 = 1) : (0 : Int) ≤ a2 := oz1041 h0 h1 h2 h3
theorem ou132 {a0 a1 a2 : Int} (h0 : a0 ≤ 40) (h1 : a1 = a0 - a2) (h2 : a2 = 1) : a1 ≤ 40 := oz132 h0 h1 h2
theorem ou133 {a0 a1 a2 : Int} (h0 : a0 ≤ 40) (h1 : a1 = a0 - a2) (h2 : a2 = 1) : a1 < 40 := oz1233 h0 h1 h2
theorem ou134 {a0 a1 : Int} (h0 : a0 < a1) (h1 : a0 = 0) : ¬ (a1 ≤ 0) := by omega
theorem ou135 {a0 a1 : Int} (h0 : a0 ≤ a1) (h1 : a1 = 0) : a0 ≤ 0 := by omega
theorem ou136 {a0 a1 : Int} (h0 : a0 < a1) (h1 : a1 ≤ 40) : a0 < 40 := oz1234 h0 h1
theorem ou137 {a0 a1 a2 a3 a4 : Int} (h0 : a0 < a1) (h1 : a2 = a0) (h2 : a1 ≤ 40) (h3 : a3 = a2 + a4) (h4 : a4 = 1) : a3 ≤ 40 := oz1235 h0 h1 h2 h3 h4
theorem ou138 {a0 a1 a2 a3 : Int} (h0 : (0 : Int) ≤ a0) (h1 : a1 ≤ 40) (h2 : a2 = a1 + a3) (h3 : a3 = 1) : (-2147483648 : Int) ≤ a0 - a2 := oz189 h0 h1 h2 h3
theorem ou139 {a0 a1 a2 a3 : Int} (h0 : a0 ≤ 40) (h1 : (0 : Int) ≤ a1) (h2 : a2 = a1 + a3) (h3 : a3 = 1) : a0 - a2 ≤ 2147483647 := oz190 h0 h1 h2 h3
theorem ou140 {a0 a1 : Int} (h0 : a0 < a1) : ¬ (a1 ≤ a0) := by omega
theorem ou141 {a0 a1 : Int} (h0 : a0 ≤ a1) : a0 ≤ a1 := oz173 h0
set_option maxRecDepth 100000 in
theorem ke26_1 {i : Nat → Int32} {a : Nat → List Int32} {q : Nat → List Int64} {r : Nat → Nat} (hI : kI i a q) (hr : kr r) (x1 : Int32) : km 1 26 [.ref 1, .int x1] (ks i a q r) (kPR (ks i a q r) (fun v => (v = 2 ∧ (x1.toInt = 0)) ∨ (v = 3 ∧ (x1.toInt = 1)) ∨ (v = 4 ∧ (x1.toInt = 2)) ∨ (v = 5 ∧ ((x1.toInt ≠ 0) ∧ (x1.toInt ≠ 1) ∧ (x1.toInt ≠ 2))))) := by
  have hG := kG_self kW0 hI hr
  refine km_ofPR (q := (mi_h26, mi_c26)) rfl (by decide) (Nat.le_of_ble_eq_true rfl) ?_
  intro P hP
  first | refine ft_goL mi_k26 1 1 [(0, .ref 1), (1, .int x1)] [.int x1] (by rfl) ?_ | refine ft_go mi_k26 1 1 [(0, .ref 1), (1, .int x1)] [.int x1] i a q r (by rfl) ?_
  by_cases w1 : x1.toInt = 0
  ·
    refine ft_swx mi_k26 (pc := 1) (v := 0) (t := 28) (kj_eq w1 (by decide) : x1 = 0) (by decide +kernel) ?_
    first | refine ft_goS mi_k26 2 32 [.ref 2] (by rfl) ?_ | refine ft_go mi_k26 2 32 [(0, .ref 1), (1, .int x1)] [.ref 2] i a q r (by rfl) ?_
    exact ft_ret mi_k26 (by rfl) (hP 2 (Or.inl ⟨rfl, (ou11 w1)⟩))
  by_cases w2 : x1.toInt = 1
  ·
    refine ft_swx mi_k26 (pc := 1) (v := 1) (t := 33) (kj_eq w2 (by decide) : x1 = 1) (by decide +kernel) ?_
    first | refine ft_goS mi_k26 2 37 [.ref 3] (by rfl) ?_ | refine ft_go mi_k26 2 37 [(0, .ref 1), (1, .int x1)] [.ref 3] i a q r (by rfl) ?_
    exact ft_ret mi_k26 (by rfl) (hP 3 (Or.inr (Or.inl ⟨rfl, (ou12 w2)⟩)))
  by_cases w3 : x1.toInt = 2
  ·
    refine ft_swx mi_k26 (pc := 1) (v := 2) (t := 38) (kj_eq w3 (by decide) : x1 = 2) (by decide +kernel) ?_
    first | refine ft_goS mi_k26 2 42 [.ref 4] (by rfl) ?_ | refine ft_go mi_k26 2 42 [(0, .ref 1), (1, .int x1)] [.ref 4] i a q r (by rfl) ?_
    exact ft_ret mi_k26 (by rfl) (hP 4 (Or.inr (Or.inr (Or.inl ⟨rfl, (ou13 w3)⟩))))
  refine ko_sw (ls := [(0, .ref 1), (1, .int x1)]) (r := []) (h := ks i a q r) mi_in26 (v := x1) (i := (.tableswitch 42 0 2 #[27, 32, 37], 27, 0, 0, 0, 0, 0)) (by rfl) rfl (ou14 w1 w2 w3) 43 (by rfl) ?_
  first | refine ft_goS mi_k26 2 47 [.ref 5] (by rfl) ?_ | refine ft_go mi_k26 2 47 [(0, .ref 1), (1, .int x1)] [.ref 5] i a q r (by rfl) ?_
  exact ft_ret mi_k26 (by rfl) (hP 5 (Or.inr (Or.inr (Or.inr (⟨rfl, (ou15 w1 w2 w3)⟩)))))
set_option maxRecDepth 100000 in
theorem ke27_1 {i : Nat → Int32} {a : Nat → List Int32} {q : Nat → List Int64} {r : Nat → Nat} (hI : kI i a q) (hr : kr r) (x1 : Int32) (x2 : Int32) : km 3 27 [.ref 1, .int x1, .int x2] (ks i a q r) (kPI (ks i a q r) (fun v => (True) ∧ v = cGet (i 64) x1 x2 (a 2, a 3, a 4, a 5, i 70, i 71, i 72))) := by
  have hG := kG_self kW0 hI hr
  refine km_ofPI (q := (mi_h27, mi_c27)) rfl (by decide) (Nat.le_of_ble_eq_true rfl) ?_
  intro P hP
  first | refine ft_goL mi_k27 1 1 [(0, .ref 1), (1, .int x1), (2, .int x2)] [.int x2] (by rfl) ?_ | refine ft_go mi_k27 1 1 [(0, .ref 1), (1, .int x1), (2, .int x2)] [.int x2] i a q r (by rfl) ?_
  by_cases w1 : x2.toInt = 4
  ·
    refine ft_swx mi_k27 (pc := 1) (v := 4) (t := 28) (kj_eq w1 (by decide) : x2 = 4) (by decide +kernel) ?_
    first | refine ft_goS mi_k27 2 32 [.int (i 70)] (by rfl) ?_ | refine ft_go mi_k27 2 32 [(0, .ref 1), (1, .int x1), (2, .int x2)] [.int (i 70)] i a q r (by rfl) ?_
    have bw2 : x2.toInt = 4 := (ou0 w1)
    exact ft_ret mi_k27 (by rfl) (hP (i 70) ⟨trivial, (show (i 70) = cGet (i 64) x1 x2 (a 2, a 3, a 4, a 5, i 70, i 71, i 72) from (by unfold cGet; simp only [if_pos bw2]; first | done | rfl | (simp only [sMn, sMx]; done) | (simp only [sMn, sMx]; rfl)))⟩)
  by_cases w3 : x2.toInt = 5
  ·
    refine ft_swx mi_k27 (pc := 1) (v := 5) (t := 33) (kj_eq w3 (by decide) : x2 = 5) (by decide +kernel) ?_
    first | refine ft_goS mi_k27 2 37 [.int (i 71)] (by rfl) ?_ | refine ft_go mi_k27 2 37 [(0, .ref 1), (1, .int x1), (2, .int x2)] [.int (i 71)] i a q r (by rfl) ?_
    have bw4 : ¬ (x2.toInt = 4) := (ou1 w3)
    have bw5 : x2.toInt = 5 := (ou2 w3)
    exact ft_ret mi_k27 (by rfl) (hP (i 71) ⟨trivial, (show (i 71) = cGet (i 64) x1 x2 (a 2, a 3, a 4, a 5, i 70, i 71, i 72) from (by unfold cGet; simp only [if_neg bw4, if_pos bw5]; first | done | rfl | (simp only [sMn, sMx]; done) | (simp only [sMn, sMx]; rfl)))⟩)
  by_cases w6 : x2.toInt = 6
  ·
    refine ft_swx mi_k27 (pc := 1) (v := 6) (t := 38) (kj_eq w6 (by decide) : x2 = 6) (by decide +kernel) ?_
    first | refine ft_goS mi_k27 2 42 [.int (i 72)] (by rfl) ?_ | refine ft_go mi_k27 2 42 [(0, .ref 1), (1, .int x1), (2, .int x2)] [.int (i 72)] i a q r (by rfl) ?_
    have bw7 : ¬ (x2.toInt = 4) := (ou3 w6)
    have bw8 : ¬ (x2.toInt = 5) := (ou4 w6)
    have bw9 : x2.toInt = 6 := (ou5 w6)
    exact ft_ret mi_k27 (by rfl) (hP (i 72) ⟨trivial, (show (i 72) = cGet (i 64) x1 x2 (a 2, a 3, a 4, a 5, i 70, i 71, i 72) from (by unfold cGet; simp only [if_neg bw7, if_neg bw8, if_pos bw9]; first | done | rfl | (simp only [sMn, sMx]; done) | (simp only [sMn, sMx]; rfl)))⟩)
  refine ko_sw (ls := [(0, .ref 1), (1, .int x1), (2, .int x2)]) (r := []) (h := ks i a q r) mi_in27 (v := x2) (i := (.tableswitch 42 4 6 #[27, 32, 37], 27, 0, 0, 0, 0, 0)) (by rfl) rfl (ou6 w1 w3 w6) 43 (by rfl) ?_
  first | refine ft_goS mi_k27 2 45 [.int x1, .ref 1] (by rfl) ?_ | refine ft_go mi_k27 2 45 [(0, .ref 1), (1, .int x1), (2, .int x2)] [.int x1, .ref 1] i a q r (by rfl) ?_
  refine ko_callPI mi_k27.1 (pc := 45) (ls := [(0, .ref 1), (1, .int x1), (2, .int x2)]) (st := [.int x1, .ref 1]) (h := ks i a q r) (i := (.invokevirtual 85, 3, 24, 0, 9, 0, 165)) (mi_k27.2 _ _ (by rfl)) (ft_invS mi_pq24 (by rfl)) (cy := mi_c24) mi_pq24 rfl (kc24_1 hG.I hG.R x1) (by decide) ?_
  intro vg10 hg10
  rcases hg10 with ⟨eg10, hg10⟩ | ⟨eg10, hg10⟩
  ·
    subst eg10
    have fi_64 : ((0 : Int) ≤ (i 64).toInt) ∧ ((i 64).toInt ≤ 8) := hG.I.1 64
    have z11 : ((0 : Int) ≤ x1.toInt) ∧ (x1.toInt < (i 64).toInt) := hg10
    first | refine fo_goS mi_k27 fz27_48_3_53 [.int x2, .ref 1] (by rfl) ?_ | refine ft_go mi_k27 3 53 [(0, .ref 1), (1, .int x1), (2, .int x2)] [.int x2, .ref 1] i a q r (by rfl) ?_
    refine ko_callPR mi_k27.1 (pc := 53) (ls := [(0, .ref 1), (1, .int x1), (2, .int x2)]) (st := [.int x2, .ref 1]) (h := ks i a q r) (i := (.invokevirtual 89, 3, 26, 0, 9, 0, 166)) (mi_k27.2 _ _ (by rfl)) (ft_invS mi_pq26 (by rfl)) (cy := mi_c26) mi_pq26 rfl (ke26_1 hG.I hG.R x2) (by decide) ?_
    intro vg12 hg12
    rcases hg12 with ⟨eg12, hg12⟩ | ⟨eg12, hg12⟩ | ⟨eg12, hg12⟩ | ⟨eg12, hg12⟩
    ·
      subst eg12
      have z13 : x2.toInt = 0 := hg12
      first | refine fo_goS mi_k27 fz27_56_1_57 [.int x1, .ref 2] (by rfl) ?_ | refine ft_go mi_k27 1 57 [(0, .ref 1), (1, .int x1), (2, .int x2)] [.int x1, .ref 2] i a q r (by rfl) ?_
      refine ko_iald3 mi_k27.1 (n := 8) (c := 8) (ax := (0, 0, 0, 0, 0)) (mi_k27.2 _ _ (by rfl)) (by rfl) (ksG2 _ _ _ _) (hG.I.2.1 2) rfl (ou16 z11.1) (ou17 fi_64.2 z11.2) ?_
      first | refine fo_goS mi_k27 fz27_58_1_62 [.int ((a 2).getD x1.toNatClampNeg 0)] (by rfl) ?_ | refine fo_goS mi_k27 fz27_61_1_62 [.int ((a 2).getD x1.toNatClampNeg 0)] (by rfl) ?_ | refine ft_go mi_k27 1 62 [(0, .ref 1), (1, .int x1), (2, .int x2)] [.int ((a 2).getD x1.toNatClampNeg 0)] i a q r (by rfl) ?_
      have bw14 : ¬ (x2.toInt = 4) := (ou18 z13)
      have bw15 : ¬ (x2.toInt = 5) := (ou19 z13)
      have bw16 : ¬ (x2.toInt = 6) := (ou20 z13)
      have bw17 : ((0 : Int) ≤ x1.toInt) ∧ (x1.toInt < (i 64).toInt) := (ou21 z11.1 z11.2)
      have bw18 : x2.toInt = 0 := (ou11 z13)
      exact ft_ret mi_k27 (by rfl) (hP ((a 2).getD x1.toNatClampNeg 0) ⟨trivial, (show ((a 2).getD x1.toNatClampNeg 0) = cGet (i 64) x1 x2 (a 2, a 3, a 4, a 5, i 70, i 71, i 72) from (by unfold cGet; simp only [if_neg bw14, if_neg bw15, if_neg bw16, if_pos bw17, if_pos bw18]; first | done | rfl | (simp only [sMn, sMx]; done) | (simp only [sMn, sMx]; rfl)))⟩)
    ·
      subst eg12
      have z19 : x2.toInt = 1 := hg12
      first | refine fo_goS mi_k27 fz27_56_1_57 [.int x1, .ref 3] (by rfl) ?_ | refine ft_go mi_k27 1 57 [(0, .ref 1), (1, .int x1), (2, .int x2)] [.int x1, .ref 3] i a q r (by rfl) ?_
      refine ko_iald3 mi_k27.1 (n := 8) (c := 8) (ax := (0, 0, 0, 0, 0)) (mi_k27.2 _ _ (by rfl)) (by rfl) (ksG3 _ _ _ _) (hG.I.2.1 3) rfl (ou16 z11.1) (ou17 fi_64.2 z11.2) ?_
      first | refine fo_goS mi_k27 fz27_58_1_62 [.int ((a 3).getD x1.toNatClampNeg 0)] (by rfl) ?_ | refine fo_goS mi_k27 fz27_61_1_62 [.int ((a 3).getD x1.toNatClampNeg 0)] (by rfl) ?_ | refine ft_go mi_k27 1 62 [(0, .ref 1), (1, .int x1), (2, .int x2)] [.int ((a 3).getD x1.toNatClampNeg 0)] i a q r (by rfl) ?_
      have bw20 : ¬ (x2.toInt = 4) := (ou22 z19)
      have bw21 : ¬ (x2.toInt = 5) := (ou23 z19)
      have bw22 : ¬ (x2.toInt = 6) := (ou24 z19)
      have bw23 : ((0 : Int) ≤ x1.toInt) ∧ (x1.toInt < (i 64).toInt) := (ou21 z11.1 z11.2)
      have bw24 : ¬ (x2.toInt = 0) := (ou25 z19)
      have bw25 : x2.toInt = 1 := (ou12 z19)
      exact ft_ret mi_k27 (by rfl) (hP ((a 3).getD x1.toNatClampNeg 0) ⟨trivial, (show ((a 3).getD x1.toNatClampNeg 0) = cGet (i 64) x1 x2 (a 2, a 3, a 4, a 5, i 70, i 71, i 72) from (by unfold cGet; simp only [if_neg bw20, if_neg bw21, if_neg bw22, if_pos bw23, if_neg bw24, if_pos bw25]; first | done | rfl | (simp only [sMn, sMx]; done) | (simp only [sMn, sMx]; rfl)))⟩)
    ·
      subst eg12
      have z26 : x2.toInt = 2 := hg12
      first | refine fo_goS mi_k27 fz27_56_1_57 [.int x1, .ref 4] (by rfl) ?_ | refine ft_go mi_k27 1 57 [(0, .ref 1), (1, .int x1), (2, .int x2)] [.int x1, .ref 4] i a q r (by rfl) ?_
      refine ko_iald3 mi_k27.1 (n := 8) (c := 8) (ax := (0, 0, 0, 0, 0)) (mi_k27.2 _ _ (by rfl)) (by rfl) (ksG4 _ _ _ _) (hG.I.2.1 4) rfl (ou16 z11.1) (ou17 fi_64.2 z11.2) ?_
      first | refine fo_goS mi_k27 fz27_58_1_62 [.int ((a 4).getD x1.toNatClampNeg 0)] (by rfl) ?_ | refine fo_goS mi_k27 fz27_61_1_62 [.int ((a 4).getD x1.toNatClampNeg 0)] (by rfl) ?_ | refine ft_go mi_k27 1 62 [(0, .ref 1), (1, .int x1), (2, .int x2)] [.int ((a 4).getD x1.toNatClampNeg 0)] i a q r (by rfl) ?_
      have bw27 : ¬ (x2.toInt = 4) := (ou26 z26)
      have bw28 : ¬ (x2.toInt = 5) := (ou27 z26)
      have bw29 : ¬ (x2.toInt = 6) := (ou28 z26)
      have bw30 : ((0 : Int) ≤ x1.toInt) ∧ (x1.toInt < (i 64).toInt) := (ou21 z11.1 z11.2)
      have bw31 : ¬ (x2.toInt = 0) := (ou29 z26)
      have bw32 : ¬ (x2.toInt = 1) := (ou30 z26)
      have bw33 : x2.toInt = 2 := (ou13 z26)
      exact ft_ret mi_k27 (by rfl) (hP ((a 4).getD x1.toNatClampNeg 0) ⟨trivial, (show ((a 4).getD x1.toNatClampNeg 0) = cGet (i 64) x1 x2 (a 2, a 3, a 4, a 5, i 70, i 71, i 72) from (by unfold cGet; simp only [if_neg bw27, if_neg bw28, if_neg bw29, if_pos bw30, if_neg bw31, if_neg bw32, if_pos bw33]; first | done | rfl | (simp only [sMn, sMx]; done) | (simp only [sMn, sMx]; rfl)))⟩)
    ·
      subst eg12
      have z34 : (x2.toInt ≠ 0) ∧ (x2.toInt ≠ 1) ∧ (x2.toInt ≠ 2) := hg12
      first | refine fo_goS mi_k27 fz27_56_1_57 [.int x1, .ref 5] (by rfl) ?_ | refine ft_go mi_k27 1 57 [(0, .ref 1), (1, .int x1), (2, .int x2)] [.int x1, .ref 5] i a q r (by rfl) ?_
      refine ko_iald3 mi_k27.1 (n := 8) (c := 8) (ax := (0, 0, 0, 0, 0)) (mi_k27.2 _ _ (by rfl)) (by rfl) (ksG5 _ _ _ _) (hG.I.2.1 5) rfl (ou16 z11.1) (ou17 fi_64.2 z11.2) ?_
      first | refine fo_goS mi_k27 fz27_58_1_62 [.int ((a 5).getD x1.toNatClampNeg 0)] (by rfl) ?_ | refine fo_goS mi_k27 fz27_61_1_62 [.int ((a 5).getD x1.toNatClampNeg 0)] (by rfl) ?_ | refine ft_go mi_k27 1 62 [(0, .ref 1), (1, .int x1), (2, .int x2)] [.int ((a 5).getD x1.toNatClampNeg 0)] i a q r (by rfl) ?_
      have bw35 : ¬ (x2.toInt = 4) := (ou31 w1)
      have bw36 : ¬ (x2.toInt = 5) := (ou32 w1 w3)
      have bw37 : ¬ (x2.toInt = 6) := (ou33 w1 w3 w6)
      have bw38 : ((0 : Int) ≤ x1.toInt) ∧ (x1.toInt < (i 64).toInt) := (ou21 z11.1 z11.2)
      have bw39 : ¬ (x2.toInt = 0) := (ou34 z34.1)
      have bw40 : ¬ (x2.toInt = 1) := (ou35 z34.1 z34.2.1)
      have bw41 : ¬ (x2.toInt = 2) := (ou36 z34.1 z34.2.1 z34.2.2)
      exact ft_ret mi_k27 (by rfl) (hP ((a 5).getD x1.toNatClampNeg 0) ⟨trivial, (show ((a 5).getD x1.toNatClampNeg 0) = cGet (i 64) x1 x2 (a 2, a 3, a 4, a 5, i 70, i 71, i 72) from (by unfold cGet; simp only [if_neg bw35, if_neg bw36, if_neg bw37, if_pos bw38, if_neg bw39, if_neg bw40, if_neg bw41]; first | done | rfl | (simp only [sMn, sMx]; done) | (simp only [sMn, sMx]; rfl)))⟩)
  ·
    subst eg10
    have z42 : ¬ (((0 : Int) ≤ x1.toInt) ∧ (x1.toInt < (i 64).toInt)) := hg10
    first | refine ft_goS mi_k27 2 62 [.int (-1)] (by rfl) ?_ | refine ft_go mi_k27 2 62 [(0, .ref 1), (1, .int x1), (2, .int x2)] [.int (-1)] i a q r (by rfl) ?_
    have bw43 : ¬ (x2.toInt = 4) := (ou31 w1)
    have bw44 : ¬ (x2.toInt = 5) := (ou32 w1 w3)
    have bw45 : ¬ (x2.toInt = 6) := (ou33 w1 w3 w6)
    have bw46 : ¬ (((0 : Int) ≤ x1.toInt) ∧ (x1.toInt < (i 64).toInt)) := (ou37 z42)
    exact ft_ret mi_k27 (by rfl) (hP (-1) ⟨trivial, (show ((-1) : Int32) = cGet (i 64) x1 x2 (a 2, a 3, a 4, a 5, i 70, i 71, i 72) from (by unfold cGet; simp only [if_neg bw43, if_neg bw44, if_neg bw45, if_neg bw46]; first | done | rfl | (simp only [sMn, sMx]; done) | (simp only [sMn, sMx]; rfl)))⟩)
def yw28_1 : kW := ([70, 71, 72], [2, 3, 4, 5], [], [])
set_option maxRecDepth 100000 in
theorem ke28_1 {i : Nat → Int32} {a : Nat → List Int32} {q : Nat → List Int64} {r : Nat → Nat} (hI : kI i a q) (hr : kr r) (x1 : Int32) (x2 : Int32) (x3 : Int32) : km 3 28 [.ref 1, .int x1, .int x2, .int x3] (ks i a q r) (kVN yw28_1 i a q r (fun i1 a1 q1 r1 => (True) ∧ (a1 2 = (cSet (i 64) x1 x2 x3 (a 2, a 3, a 4, a 5, i 70, i 71, i 72)).1 ∧ a1 3 = (cSet (i 64) x1 x2 x3 (a 2, a 3, a 4, a 5, i 70, i 71, i 72)).2.1 ∧ a1 4 = (cSet (i 64) x1 x2 x3 (a 2, a 3, a 4, a 5, i 70, i 71, i 72)).2.2.1 ∧ a1 5 = (cSet (i 64) x1 x2 x3 (a 2, a 3, a 4, a 5, i 70, i 71, i 72)).2.2.2.1 ∧ i1 70 = (cSet (i 64) x1 x2 x3 (a 2, a 3, a 4, a 5, i 70, i 71, i 72)).2.2.2.2.1 ∧ i1 71 = (cSet (i 64) x1 x2 x3 (a 2, a 3, a 4, a 5, i 70, i 71, i 72)).2.2.2.2.2.1 ∧ i1 72 = (cSet (i 64) x1 x2 x3 (a 2, a 3, a 4, a 5, i 70, i 71, i 72)).2.2.2.2.2.2))) := by
  have hG := kG_self yw28_1 hI hr
  refine km_ofN (q := (mi_h28, mi_c28)) rfl (by decide) (Nat.le_of_ble_eq_true rfl) ?_
  intro P hP
  first | refine ft_goL mi_k28 2 2 [(0, .ref 1), (1, .int x1), (2, .int x2), (3, .int x3)] [.int 4, .int x2] (by rfl) ?_ | refine ft_go mi_k28 2 2 [(0, .ref 1), (1, .int x1), (2, .int x2), (3, .int x3)] [.int 4, .int x2] i a q r (by rfl) ?_
  refine ft_ifS mi_k28 (x2 != 4) 13 5 [] (by rfl) (fun c => ?_) (fun c => ?_)
  ·
    have c1 : x2.toInt ≠ (4 : Int32).toInt := kd_ne c; clear c
    first | refine ft_goS mi_k28 2 15 [.int 5, .int x2] (by rfl) ?_ | refine ft_go mi_k28 2 15 [(0, .ref 1), (1, .int x1), (2, .int x2), (3, .int x3)] [.int 5, .int x2] i a q r (by rfl) ?_
    refine ft_ifS mi_k28 (x2 != 5) 26 18 [] (by rfl) (fun c => ?_) (fun c => ?_)
    ·
      have c2 : x2.toInt ≠ (5 : Int32).toInt := kd_ne c; clear c
      first | refine ft_goS mi_k28 2 29 [.int 6, .int x2] (by rfl) ?_ | refine ft_go mi_k28 2 29 [(0, .ref 1), (1, .int x1), (2, .int x2), (3, .int x3)] [.int 6, .int x2] i a q r (by rfl) ?_
      refine ft_ifS mi_k28 (x2 != 6) 40 32 [] (by rfl) (fun c => ?_) (fun c => ?_)
      ·
        have c3 : x2.toInt ≠ (6 : Int32).toInt := kd_ne c; clear c
        first | refine ft_goS mi_k28 2 42 [.int x1, .ref 1] (by rfl) ?_ | refine ft_go mi_k28 2 42 [(0, .ref 1), (1, .int x1), (2, .int x2), (3, .int x3)] [.int x1, .ref 1] i a q r (by rfl) ?_
        refine ko_callPI mi_k28.1 (pc := 42) (ls := [(0, .ref 1), (1, .int x1), (2, .int x2), (3, .int x3)]) (st := [.int x1, .ref 1]) (h := ks i a q r) (i := (.invokevirtual 85, 3, 24, 0, 9, 0, 165)) (mi_k28.2 _ _ (by rfl)) (ft_invS mi_pq24 (by rfl)) (cy := mi_c24) mi_pq24 rfl (kc24_1 hG.I hG.R x1) (by decide) ?_
        intro vg4 hg4
        rcases hg4 with ⟨eg4, hg4⟩ | ⟨eg4, hg4⟩
        ·
          subst eg4
          have fi_64 : ((0 : Int) ≤ (i 64).toInt) ∧ ((i 64).toInt ≤ 8) := hG.I.1 64
          have z5 : ((0 : Int) ≤ x1.toInt) ∧ (x1.toInt < (i 64).toInt) := hg4
          first | refine fo_goS mi_k28 fz28_45_3_50 [.int x2, .ref 1] (by rfl) ?_ | refine ft_go mi_k28 3 50 [(0, .ref 1), (1, .int x1), (2, .int x2), (3, .int x3)] [.int x2, .ref 1] i a q r (by rfl) ?_
          refine ko_callPR mi_k28.1 (pc := 50) (ls := [(0, .ref 1), (1, .int x1), (2, .int x2), (3, .int x3)]) (st := [.int x2, .ref 1]) (h := ks i a q r) (i := (.invokevirtual 89, 3, 26, 0, 9, 0, 166)) (mi_k28.2 _ _ (by rfl)) (ft_invS mi_pq26 (by rfl)) (cy := mi_c26) mi_pq26 rfl (ke26_1 hG.I hG.R x2) (by decide) ?_
          intro vg6 hg6
          rcases hg6 with ⟨eg6, hg6⟩ | ⟨eg6, hg6⟩ | ⟨eg6, hg6⟩ | ⟨eg6, hg6⟩
          ·
            subst eg6
            have z7 : x2.toInt = 0 := hg6
            first | refine fo_goS mi_k28 fz28_53_2_55 [.int x3, .int x1, .ref 2] (by rfl) ?_ | refine ft_go mi_k28 2 55 [(0, .ref 1), (1, .int x1), (2, .int x2), (3, .int x3)] [.int x3, .int x1, .ref 2] i a q r (by rfl) ?_
            refine ko_iast3 mi_k28.1 (n := 8) (c := 8) (ax := (0, 0, 0, 0, 0)) (mi_k28.2 _ _ (by rfl)) (by rfl) (ksG2 _ _ _ _) (ksA2 _ _ _ _) (hG.I.2.1 2) rfl (ou16 z5.1) (ou17 fi_64.2 z5.2) ?_
            intro a8 ea8 fa8
            have hJ8 := kG_a3 hG 2 rfl ea8 fa8 (kd_bd _)
            have bw9 : ¬ (x2.toInt = 4) := (ou18 z7)
            have bw10 : ¬ (x2.toInt = 5) := (ou19 z7)
            have bw11 : ¬ (x2.toInt = 6) := (ou20 z7)
            have bw12 : ((0 : Int) ≤ x1.toInt) ∧ (x1.toInt < (i 64).toInt) := (ou21 z5.1 z5.2)
            have bw13 : x2.toInt = 0 := (ou11 z7)
            exact ft_ret mi_k28 (by rfl) (hP  _ _ _ _ hJ8 ⟨trivial, ⟨(show a8 2 = (cSet (i 64) x1 x2 x3 (a 2, a 3, a 4, a 5, i 70, i 71, i 72)).1 from (by unfold cSet; simp only [if_neg bw9, if_neg bw10, if_neg bw11, if_pos bw12, if_pos bw13]; first | done | rfl | (simp only [ea8, sMn, sMx]; done) | (simp only [ea8, sMn, sMx]; rfl))), (show a8 3 = (cSet (i 64) x1 x2 x3 (a 2, a 3, a 4, a 5, i 70, i 71, i 72)).2.1 from (by unfold cSet; simp only [if_neg bw9, if_neg bw10, if_neg bw11, if_pos bw12, if_pos bw13]; first | done | rfl | (simp only [fa8 3 (by decide), sMn, sMx]; done) | (simp only [fa8 3 (by decide), sMn, sMx]; rfl))), (show a8 4 = (cSet (i 64) x1 x2 x3 (a 2, a 3, a 4, a 5, i 70, i 71, i 72)).2.2.1 from (by unfold cSet; simp only [if_neg bw9, if_neg bw10, if_neg bw11, if_pos bw12, if_pos bw13]; first | done | rfl | (simp only [fa8 4 (by decide), sMn, sMx]; done) | (simp only [fa8 4 (by decide), sMn, sMx]; rfl))), (show a8 5 = (cSet (i 64) x1 x2 x3 (a 2, a 3, a 4, a 5, i 70, i 71, i 72)).2.2.2.1 from (by unfold cSet; simp only [if_neg bw9, if_neg bw10, if_neg bw11, if_pos bw12, if_pos bw13]; first | done | rfl | (simp only [fa8 5 (by decide), sMn, sMx]; done) | (simp only [fa8 5 (by decide), sMn, sMx]; rfl))), (show i 70 = (cSet (i 64) x1 x2 x3 (a 2, a 3, a 4, a 5, i 70, i 71, i 72)).2.2.2.2.1 from (by unfold cSet; simp only [if_neg bw9, if_neg bw10, if_neg bw11, if_pos bw12, if_pos bw13]; first | done | rfl | (simp only [sMn, sMx]; done) | (simp only [sMn, sMx]; rfl))), (show i 71 = (cSet (i 64) x1 x2 x3 (a 2, a 3, a 4, a 5, i 70, i 71, i 72)).2.2.2.2.2.1 from (by unfold cSet; simp only [if_neg bw9, if_neg bw10, if_neg bw11, if_pos bw12, if_pos bw13]; first | done | rfl | (simp only [sMn, sMx]; done) | (simp only [sMn, sMx]; rfl))), (show i 72 = (cSet (i 64) x1 x2 x3 (a 2, a 3, a 4, a 5, i 70, i 71, i 72)).2.2.2.2.2.2 from (by unfold cSet; simp only [if_neg bw9, if_neg bw10, if_neg bw11, if_pos bw12, if_pos bw13]; first | done | rfl | (simp only [sMn, sMx]; done) | (simp only [sMn, sMx]; rfl)))⟩⟩)
          ·
            subst eg6
            have z14 : x2.toInt = 1 := hg6
            first | refine fo_goS mi_k28 fz28_53_2_55 [.int x3, .int x1, .ref 3] (by rfl) ?_ | refine ft_go mi_k28 2 55 [(0, .ref 1), (1, .int x1), (2, .int x2), (3, .int x3)] [.int x3, .int x1, .ref 3] i a q r (by rfl) ?_
            refine ko_iast3 mi_k28.1 (n := 8) (c := 8) (ax := (0, 0, 0, 0, 0)) (mi_k28.2 _ _ (by rfl)) (by rfl) (ksG3 _ _ _ _) (ksA3 _ _ _ _) (hG.I.2.1 3) rfl (ou16 z5.1) (ou17 fi_64.2 z5.2) ?_
            intro a15 ea15 fa15
            have hJ15 := kG_a3 hG 3 rfl ea15 fa15 (kd_bd _)
            have bw16 : ¬ (x2.toInt = 4) := (ou22 z14)
            have bw17 : ¬ (x2.toInt = 5) := (ou23 z14)
            have bw18 : ¬ (x2.toInt = 6) := (ou24 z14)
            have bw19 : ((0 : Int) ≤ x1.toInt) ∧ (x1.toInt < (i 64).toInt) := (ou21 z5.1 z5.2)
            have bw20 : ¬ (x2.toInt = 0) := (ou25 z14)
            have bw21 : x2.toInt = 1 := (ou12 z14)
            exact ft_ret mi_k28 (by rfl) (hP  _ _ _ _ hJ15 ⟨trivial, ⟨(show a15 2 = (cSet (i 64) x1 x2 x3 (a 2, a 3, a 4, a 5, i 70, i 71, i 72)).1 from (by unfold cSet; simp only [if_neg bw16, if_neg bw17, if_neg bw18, if_pos bw19, if_neg bw20, if_pos bw21]; first | done | rfl | (simp only [fa15 2 (by decide), sMn, sMx]; done) | (simp only [fa15 2 (by decide), sMn, sMx]; rfl))), (show a15 3 = (cSet (i 64) x1 x2 x3 (a 2, a 3, a 4, a 5, i 70, i 71, i 72)).2.1 from (by unfold cSet; simp only [if_neg bw16, if_neg bw17, if_neg bw18, if_pos bw19, if_neg bw20, if_pos bw21]; first | done | rfl | (simp only [ea15, sMn, sMx]; done) | (simp only [ea15, sMn, sMx]; rfl))), (show a15 4 = (cSet (i 64) x1 x2 x3 (a 2, a 3, a 4, a 5, i 70, i 71, i 72)).2.2.1 from (by unfold cSet; simp only [if_neg bw16, if_neg bw17, if_neg bw18, if_pos bw19, if_neg bw20, if_pos bw21]; first | done | rfl | (simp only [fa15 4 (by decide), sMn, sMx]; done) | (simp only [fa15 4 (by decide), sMn, sMx]; rfl))), (show a15 5 = (cSet (i 64) x1 x2 x3 (a 2, a 3, a 4, a 5, i 70, i 71, i 72)).2.2.2.1 from (by unfold cSet; simp only [if_neg bw16, if_neg bw17, if_neg bw18, if_pos bw19, if_neg bw20, if_pos bw21]; first | done | rfl | (simp only [fa15 5 (by decide), sMn, sMx]; done) | (simp only [fa15 5 (by decide), sMn, sMx]; rfl))), (show i 70 = (cSet (i 64) x1 x2 x3 (a 2, a 3, a 4, a 5, i 70, i 71, i 72)).2.2.2.2.1 from (by unfold cSet; simp only [if_neg bw16, if_neg bw17, if_neg bw18, if_pos bw19, if_neg bw20, if_pos bw21]; first | done | rfl | (simp only [sMn, sMx]; done) | (simp only [sMn, sMx]; rfl))), (show i 71 = (cSet (i 64) x1 x2 x3 (a 2, a 3, a 4, a 5, i 70, i 71, i 72)).2.2.2.2.2.1 from (by unfold cSet; simp only [if_neg bw16, if_neg bw17, if_neg bw18, if_pos bw19, if_neg bw20, if_pos bw21]; first | done | rfl | (simp only [sMn, sMx]; done) | (simp only [sMn, sMx]; rfl))), (show i 72 = (cSet (i 64) x1 x2 x3 (a 2, a 3, a 4, a 5, i 70, i 71, i 72)).2.2.2.2.2.2 from (by unfold cSet; simp only [if_neg bw16, if_neg bw17, if_neg bw18, if_pos bw19, if_neg bw20, if_pos bw21]; first | done | rfl | (simp only [sMn, sMx]; done) | (simp only [sMn, sMx]; rfl)))⟩⟩)
          ·
            subst eg6
            have z22 : x2.toInt = 2 := hg6
            first | refine fo_goS mi_k28 fz28_53_2_55 [.int x3, .int x1, .ref 4] (by rfl) ?_ | refine ft_go mi_k28 2 55 [(0, .ref 1), (1, .int x1), (2, .int x2), (3, .int x3)] [.int x3, .int x1, .ref 4] i a q r (by rfl) ?_
            refine ko_iast3 mi_k28.1 (n := 8) (c := 8) (ax := (0, 0, 0, 0, 0)) (mi_k28.2 _ _ (by rfl)) (by rfl) (ksG4 _ _ _ _) (ksA4 _ _ _ _) (hG.I.2.1 4) rfl (ou16 z5.1) (ou17 fi_64.2 z5.2) ?_
            intro a23 ea23 fa23
            have hJ23 := kG_a3 hG 4 rfl ea23 fa23 (kd_bd _)
            have bw24 : ¬ (x2.toInt = 4) := (ou26 z22)
            have bw25 : ¬ (x2.toInt = 5) := (ou27 z22)
            have bw26 : ¬ (x2.toInt = 6) := (ou28 z22)
            have bw27 : ((0 : Int) ≤ x1.toInt) ∧ (x1.toInt < (i 64).toInt) := (ou21 z5.1 z5.2)
            have bw28 : ¬ (x2.toInt = 0) := (ou29 z22)
            have bw29 : ¬ (x2.toInt = 1) := (ou30 z22)
            have bw30 : x2.toInt = 2 := (ou13 z22)
            exact ft_ret mi_k28 (by rfl) (hP  _ _ _ _ hJ23 ⟨trivial, ⟨(show a23 2 = (cSet (i 64) x1 x2 x3 (a 2, a 3, a 4, a 5, i 70, i 71, i 72)).1 from (by unfold cSet; simp only [if_neg bw24, if_neg bw25, if_neg bw26, if_pos bw27, if_neg bw28, if_neg bw29, if_pos bw30]; first | done | rfl | (simp only [fa23 2 (by decide), sMn, sMx]; done) | (simp only [fa23 2 (by decide), sMn, sMx]; rfl))), (show a23 3 = (cSet (i 64) x1 x2 x3 (a 2, a 3, a 4, a 5, i 70, i 71, i 72)).2.1 from (by unfold cSet; simp only [if_neg bw24, if_neg bw25, if_neg bw26, if_pos bw27, if_neg bw28, if_neg bw29, if_pos bw30]; first | done | rfl | (simp only [fa23 3 (by decide), sMn, sMx]; done) | (simp only [fa23 3 (by decide), sMn, sMx]; rfl))), (show a23 4 = (cSet (i 64) x1 x2 x3 (a 2, a 3, a 4, a 5, i 70, i 71, i 72)).2.2.1 from (by unfold cSet; simp only [if_neg bw24, if_neg bw25, if_neg bw26, if_pos bw27, if_neg bw28, if_neg bw29, if_pos bw30]; first | done | rfl | (simp only [ea23, sMn, sMx]; done) | (simp only [ea23, sMn, sMx]; rfl))), (show a23 5 = (cSet (i 64) x1 x2 x3 (a 2, a 3, a 4, a 5, i 70, i 71, i 72)).2.2.2.1 from (by unfold cSet; simp only [if_neg bw24, if_neg bw25, if_neg bw26, if_pos bw27, if_neg bw28, if_neg bw29, if_pos bw30]; first | done | rfl | (simp only [fa23 5 (by decide), sMn, sMx]; done) | (simp only [fa23 5 (by decide), sMn, sMx]; rfl))), (show i 70 = (cSet (i 64) x1 x2 x3 (a 2, a 3, a 4, a 5, i 70, i 71, i 72)).2.2.2.2.1 from (by unfold cSet; simp only [if_neg bw24, if_neg bw25, if_neg bw26, if_pos bw27, if_neg bw28, if_neg bw29, if_pos bw30]; first | done | rfl | (simp only [sMn, sMx]; done) | (simp only [sMn, sMx]; rfl))), (show i 71 = (cSet (i 64) x1 x2 x3 (a 2, a 3, a 4, a 5, i 70, i 71, i 72)).2.2.2.2.2.1 from (by unfold cSet; simp only [if_neg bw24, if_neg bw25, if_neg bw26, if_pos bw27, if_neg bw28, if_neg bw29, if_pos bw30]; first | done | rfl | (simp only [sMn, sMx]; done) | (simp only [sMn, sMx]; rfl))), (show i 72 = (cSet (i 64) x1 x2 x3 (a 2, a 3, a 4, a 5, i 70, i 71, i 72)).2.2.2.2.2.2 from (by unfold cSet; simp only [if_neg bw24, if_neg bw25, if_neg bw26, if_pos bw27, if_neg bw28, if_neg bw29, if_pos bw30]; first | done | rfl | (simp only [sMn, sMx]; done) | (simp only [sMn, sMx]; rfl)))⟩⟩)
          ·
            subst eg6
            have z31 : (x2.toInt ≠ 0) ∧ (x2.toInt ≠ 1) ∧ (x2.toInt ≠ 2) := hg6
            first | refine fo_goS mi_k28 fz28_53_2_55 [.int x3, .int x1, .ref 5] (by rfl) ?_ | refine ft_go mi_k28 2 55 [(0, .ref 1), (1, .int x1), (2, .int x2), (3, .int x3)] [.int x3, .int x1, .ref 5] i a q r (by rfl) ?_
            refine ko_iast3 mi_k28.1 (n := 8) (c := 8) (ax := (0, 0, 0, 0, 0)) (mi_k28.2 _ _ (by rfl)) (by rfl) (ksG5 _ _ _ _) (ksA5 _ _ _ _) (hG.I.2.1 5) rfl (ou16 z5.1) (ou17 fi_64.2 z5.2) ?_
            intro a32 ea32 fa32
            have hJ32 := kG_a3 hG 5 rfl ea32 fa32 (kd_bd _)
            have bw33 : ¬ (x2.toInt = 4) := (ou38 c1 kou4)
            have bw34 : ¬ (x2.toInt = 5) := (ou39 c1 c2 kou4 kou5)
            have bw35 : ¬ (x2.toInt = 6) := (ou40 c1 c2 c3 kou4 kou5 kou6)
            have bw36 : ((0 : Int) ≤ x1.toInt) ∧ (x1.toInt < (i 64).toInt) := (ou21 z5.1 z5.2)
            have bw37 : ¬ (x2.toInt = 0) := (ou34 z31.1)
            have bw38 : ¬ (x2.toInt = 1) := (ou35 z31.1 z31.2.1)
            have bw39 : ¬ (x2.toInt = 2) := (ou36 z31.1 z31.2.1 z31.2.2)
            exact ft_ret mi_k28 (by rfl) (hP  _ _ _ _ hJ32 ⟨trivial, ⟨(show a32 2 = (cSet (i 64) x1 x2 x3 (a 2, a 3, a 4, a 5, i 70, i 71, i 72)).1 from (by unfold cSet; simp only [if_neg bw33, if_neg bw34, if_neg bw35, if_pos bw36, if_neg bw37, if_neg bw38, if_neg bw39]; first | done | rfl | (simp only [fa32 2 (by decide), sMn, sMx]; done) | (simp only [fa32 2 (by decide), sMn, sMx]; rfl))), (show a32 3 = (cSet (i 64) x1 x2 x3 (a 2, a 3, a 4, a 5, i 70, i 71, i 72)).2.1 from (by unfold cSet; simp only [if_neg bw33, if_neg bw34, if_neg bw35, if_pos bw36, if_neg bw37, if_neg bw38, if_neg bw39]; first | done | rfl | (simp only [fa32 3 (by decide), sMn, sMx]; done) | (simp only [fa32 3 (by decide), sMn, sMx]; rfl))), (show a32 4 = (cSet (i 64) x1 x2 x3 (a 2, a 3, a 4, a 5, i 70, i 71, i 72)).2.2.1 from (by unfold cSet; simp only [if_neg bw33, if_neg bw34, if_neg bw35, if_pos bw36, if_neg bw37, if_neg bw38, if_neg bw39]; first | done | rfl | (simp only [fa32 4 (by decide), sMn, sMx]; done) | (simp only [fa32 4 (by decide), sMn, sMx]; rfl))), (show a32 5 = (cSet (i 64) x1 x2 x3 (a 2, a 3, a 4, a 5, i 70, i 71, i 72)).2.2.2.1 from (by unfold cSet; simp only [if_neg bw33, if_neg bw34, if_neg bw35, if_pos bw36, if_neg bw37, if_neg bw38, if_neg bw39]; first | done | rfl | (simp only [ea32, sMn, sMx]; done) | (simp only [ea32, sMn, sMx]; rfl))), (show i 70 = (cSet (i 64) x1 x2 x3 (a 2, a 3, a 4, a 5, i 70, i 71, i 72)).2.2.2.2.1 from (by unfold cSet; simp only [if_neg bw33, if_neg bw34, if_neg bw35, if_pos bw36, if_neg bw37, if_neg bw38, if_neg bw39]; first | done | rfl | (simp only [sMn, sMx]; done) | (simp only [sMn, sMx]; rfl))), (show i 71 = (cSet (i 64) x1 x2 x3 (a 2, a 3, a 4, a 5, i 70, i 71, i 72)).2.2.2.2.2.1 from (by unfold cSet; simp only [if_neg bw33, if_neg bw34, if_neg bw35, if_pos bw36, if_neg bw37, if_neg bw38, if_neg bw39]; first | done | rfl | (simp only [sMn, sMx]; done) | (simp only [sMn, sMx]; rfl))), (show i 72 = (cSet (i 64) x1 x2 x3 (a 2, a 3, a 4, a 5, i 70, i 71, i 72)).2.2.2.2.2.2 from (by unfold cSet; simp only [if_neg bw33, if_neg bw34, if_neg bw35, if_pos bw36, if_neg bw37, if_neg bw38, if_neg bw39]; first | done | rfl | (simp only [sMn, sMx]; done) | (simp only [sMn, sMx]; rfl)))⟩⟩)
        ·
          subst eg4
          have z40 : ¬ (((0 : Int) ≤ x1.toInt) ∧ (x1.toInt < (i 64).toInt)) := hg4
          first | refine ft_goS mi_k28 1 56 [] (by rfl) ?_ | refine ft_go mi_k28 1 56 [(0, .ref 1), (1, .int x1), (2, .int x2), (3, .int x3)] [] i a q r (by rfl) ?_
          have bw41 : ¬ (x2.toInt = 4) := (ou38 c1 kou4)
          have bw42 : ¬ (x2.toInt = 5) := (ou39 c1 c2 kou4 kou5)
          have bw43 : ¬ (x2.toInt = 6) := (ou40 c1 c2 c3 kou4 kou5 kou6)
          have bw44 : ¬ (((0 : Int) ≤ x1.toInt) ∧ (x1.toInt < (i 64).toInt)) := (ou37 z40)
          exact ft_ret mi_k28 (by rfl) (hP  _ _ _ _ hG ⟨trivial, ⟨(show a 2 = (cSet (i 64) x1 x2 x3 (a 2, a 3, a 4, a 5, i 70, i 71, i 72)).1 from (by unfold cSet; simp only [if_neg bw41, if_neg bw42, if_neg bw43, if_neg bw44]; first | done | rfl | (simp only [sMn, sMx]; done) | (simp only [sMn, sMx]; rfl))), (show a 3 = (cSet (i 64) x1 x2 x3 (a 2, a 3, a 4, a 5, i 70, i 71, i 72)).2.1 from (by unfold cSet; simp only [if_neg bw41, if_neg bw42, if_neg bw43, if_neg bw44]; first | done | rfl | (simp only [sMn, sMx]; done) | (simp only [sMn, sMx]; rfl))), (show a 4 = (cSet (i 64) x1 x2 x3 (a 2, a 3, a 4, a 5, i 70, i 71, i 72)).2.2.1 from (by unfold cSet; simp only [if_neg bw41, if_neg bw42, if_neg bw43, if_neg bw44]; first | done | rfl | (simp only [sMn, sMx]; done) | (simp only [sMn, sMx]; rfl))), (show a 5 = (cSet (i 64) x1 x2 x3 (a 2, a 3, a 4, a 5, i 70, i 71, i 72)).2.2.2.1 from (by unfold cSet; simp only [if_neg bw41, if_neg bw42, if_neg bw43, if_neg bw44]; first | done | rfl | (simp only [sMn, sMx]; done) | (simp only [sMn, sMx]; rfl))), (show i 70 = (cSet (i 64) x1 x2 x3 (a 2, a 3, a 4, a 5, i 70, i 71, i 72)).2.2.2.2.1 from (by unfold cSet; simp only [if_neg bw41, if_neg bw42, if_neg bw43, if_neg bw44]; first | done | rfl | (simp only [sMn, sMx]; done) | (simp only [sMn, sMx]; rfl))), (show i 71 = (cSet (i 64) x1 x2 x3 (a 2, a 3, a 4, a 5, i 70, i 71, i 72)).2.2.2.2.2.1 from (by unfold cSet; simp only [if_neg bw41, if_neg bw42, if_neg bw43, if_neg bw44]; first | done | rfl | (simp only [sMn, sMx]; done) | (simp only [sMn, sMx]; rfl))), (show i 72 = (cSet (i 64) x1 x2 x3 (a 2, a 3, a 4, a 5, i 70, i 71, i 72)).2.2.2.2.2.2 from (by unfold cSet; simp only [if_neg bw41, if_neg bw42, if_neg bw43, if_neg bw44]; first | done | rfl | (simp only [sMn, sMx]; done) | (simp only [sMn, sMx]; rfl)))⟩⟩)
      ·
        have c45 : x2.toInt = (6 : Int32).toInt := kd_neF c; clear c
        have hJ46 := kG_i hG 72 rfl (v := x3) (kd_bd _)
        first | refine fo_goI mi_k28 fz28_5_4_56 [] (ku i 72 x3) (by rfl) ?_ | refine fo_goI mi_k28 fz28_18_4_56 [] (ku i 72 x3) (by rfl) ?_ | refine fo_goI mi_k28 fz28_32_4_56 [] (ku i 72 x3) (by rfl) ?_ | refine ft_goS mi_k28 4 56 [] (by rfl) ?_ | refine ft_go mi_k28 4 56 [(0, .ref 1), (1, .int x1), (2, .int x2), (3, .int x3)] [] (ku i 72 x3) a q r (by rfl) ?_
        have bw47 : ¬ (x2.toInt = 4) := (ou41 c45 kou6)
        have bw48 : ¬ (x2.toInt = 5) := (ou42 c45 kou6)
        have bw49 : x2.toInt = 6 := (ou43 c45 kou6)
        exact ft_ret mi_k28 (by rfl) (hP  _ _ _ _ hJ46 ⟨trivial, ⟨(show a 2 = (cSet (i 64) x1 x2 x3 (a 2, a 3, a 4, a 5, i 70, i 71, i 72)).1 from (by unfold cSet; simp only [if_neg bw47, if_neg bw48, if_pos bw49]; first | done | rfl | (simp only [sMn, sMx]; done) | (simp only [sMn, sMx]; rfl))), (show a 3 = (cSet (i 64) x1 x2 x3 (a 2, a 3, a 4, a 5, i 70, i 71, i 72)).2.1 from (by unfold cSet; simp only [if_neg bw47, if_neg bw48, if_pos bw49]; first | done | rfl | (simp only [sMn, sMx]; done) | (simp only [sMn, sMx]; rfl))), (show a 4 = (cSet (i 64) x1 x2 x3 (a 2, a 3, a 4, a 5, i 70, i 71, i 72)).2.2.1 from (by unfold cSet; simp only [if_neg bw47, if_neg bw48, if_pos bw49]; first | done | rfl | (simp only [sMn, sMx]; done) | (simp only [sMn, sMx]; rfl))), (show a 5 = (cSet (i 64) x1 x2 x3 (a 2, a 3, a 4, a 5, i 70, i 71, i 72)).2.2.2.1 from (by unfold cSet; simp only [if_neg bw47, if_neg bw48, if_pos bw49]; first | done | rfl | (simp only [sMn, sMx]; done) | (simp only [sMn, sMx]; rfl))), (show i 70 = (cSet (i 64) x1 x2 x3 (a 2, a 3, a 4, a 5, i 70, i 71, i 72)).2.2.2.2.1 from (by unfold cSet; simp only [if_neg bw47, if_neg bw48, if_pos bw49]; first | done | rfl | (simp only [sMn, sMx]; done) | (simp only [sMn, sMx]; rfl))), (show i 71 = (cSet (i 64) x1 x2 x3 (a 2, a 3, a 4, a 5, i 70, i 71, i 72)).2.2.2.2.2.1 from (by unfold cSet; simp only [if_neg bw47, if_neg bw48, if_pos bw49]; first | done | rfl | (simp only [sMn, sMx]; done) | (simp only [sMn, sMx]; rfl))), (show x3 = (cSet (i 64) x1 x2 x3 (a 2, a 3, a 4, a 5, i 70, i 71, i 72)).2.2.2.2.2.2 from (by unfold cSet; simp only [if_neg bw47, if_neg bw48, if_pos bw49]; first | done | rfl | (simp only [sMn, sMx]; done) | (simp only [sMn, sMx]; rfl)))⟩⟩)
    ·
      have c50 : x2.toInt = (5 : Int32).toInt := kd_neF c; clear c
      have hJ51 := kG_i hG 71 rfl (v := x3) (kd_bd _)
      first | refine fo_goI mi_k28 fz28_5_4_56 [] (ku i 71 x3) (by rfl) ?_ | refine fo_goI mi_k28 fz28_18_4_56 [] (ku i 71 x3) (by rfl) ?_ | refine fo_goI mi_k28 fz28_32_4_56 [] (ku i 71 x3) (by rfl) ?_ | refine ft_goS mi_k28 4 56 [] (by rfl) ?_ | refine ft_go mi_k28 4 56 [(0, .ref 1), (1, .int x1), (2, .int x2), (3, .int x3)] [] (ku i 71 x3) a q r (by rfl) ?_
      have bw52 : ¬ (x2.toInt = 4) := (ou44 c50 kou5)
      have bw53 : x2.toInt = 5 := (ou45 c50 kou5)
      exact ft_ret mi_k28 (by rfl) (hP  _ _ _ _ hJ51 ⟨trivial, ⟨(show a 2 = (cSet (i 64) x1 x2 x3 (a 2, a 3, a 4, a 5, i 70, i 71, i 72)).1 from (by unfold cSet; simp only [if_neg bw52, if_pos bw53]; first | done | rfl | (simp only [sMn, sMx]; done) | (simp only [sMn, sMx]; rfl))), (show a 3 = (cSet (i 64) x1 x2 x3 (a 2, a 3, a 4, a 5, i 70, i 71, i 72)).2.1 from (by unfold cSet; simp only [if_neg bw52, if_pos bw53]; first | done | rfl | (simp only [sMn, sMx]; done) | (simp only [sMn, sMx]; rfl))), (show a 4 = (cSet (i 64) x1 x2 x3 (a 2, a 3, a 4, a 5, i 70, i 71, i 72)).2.2.1 from (by unfold cSet; simp only [if_neg bw52, if_pos bw53]; first | done | rfl | (simp only [sMn, sMx]; done) | (simp only [sMn, sMx]; rfl))), (show a 5 = (cSet (i 64) x1 x2 x3 (a 2, a 3, a 4, a 5, i 70, i 71, i 72)).2.2.2.1 from (by unfold cSet; simp only [if_neg bw52, if_pos bw53]; first | done | rfl | (simp only [sMn, sMx]; done) | (simp only [sMn, sMx]; rfl))), (show i 70 = (cSet (i 64) x1 x2 x3 (a 2, a 3, a 4, a 5, i 70, i 71, i 72)).2.2.2.2.1 from (by unfold cSet; simp only [if_neg bw52, if_pos bw53]; first | done | rfl | (simp only [sMn, sMx]; done) | (simp only [sMn, sMx]; rfl))), (show x3 = (cSet (i 64) x1 x2 x3 (a 2, a 3, a 4, a 5, i 70, i 71, i 72)).2.2.2.2.2.1 from (by unfold cSet; simp only [if_neg bw52, if_pos bw53]; first | done | rfl | (simp only [sMn, sMx]; done) | (simp only [sMn, sMx]; rfl))), (show i 72 = (cSet (i 64) x1 x2 x3 (a 2, a 3, a 4, a 5, i 70, i 71, i 72)).2.2.2.2.2.2 from (by unfold cSet; simp only [if_neg bw52, if_pos bw53]; first | done | rfl | (simp only [sMn, sMx]; done) | (simp only [sMn, sMx]; rfl)))⟩⟩)
  ·
    have c54 : x2.toInt = (4 : Int32).toInt := kd_neF c; clear c
    have hJ55 := kG_i hG 70 rfl (v := x3) (kd_bd _)
    first | refine fo_goI mi_k28 fz28_5_4_56 [] (ku i 70 x3) (by rfl) ?_ | refine fo_goI mi_k28 fz28_18_4_56 [] (ku i 70 x3) (by rfl) ?_ | refine fo_goI mi_k28 fz28_32_4_56 [] (ku i 70 x3) (by rfl) ?_ | refine ft_goS mi_k28 4 56 [] (by rfl) ?_ | refine ft_go mi_k28 4 56 [(0, .ref 1), (1, .int x1), (2, .int x2), (3, .int x3)] [] (ku i 70 x3) a q r (by rfl) ?_
    have bw56 : x2.toInt = 4 := (ou46 c54 kou4)
    exact ft_ret mi_k28 (by rfl) (hP  _ _ _ _ hJ55 ⟨trivial, ⟨(show a 2 = (cSet (i 64) x1 x2 x3 (a 2, a 3, a 4, a 5, i 70, i 71, i 72)).1 from (by unfold cSet; simp only [if_pos bw56]; first | done | rfl | (simp only [sMn, sMx]; done) | (simp only [sMn, sMx]; rfl))), (show a 3 = (cSet (i 64) x1 x2 x3 (a 2, a 3, a 4, a 5, i 70, i 71, i 72)).2.1 from (by unfold cSet; simp only [if_pos bw56]; first | done | rfl | (simp only [sMn, sMx]; done) | (simp only [sMn, sMx]; rfl))), (show a 4 = (cSet (i 64) x1 x2 x3 (a 2, a 3, a 4, a 5, i 70, i 71, i 72)).2.2.1 from (by unfold cSet; simp only [if_pos bw56]; first | done | rfl | (simp only [sMn, sMx]; done) | (simp only [sMn, sMx]; rfl))), (show a 5 = (cSet (i 64) x1 x2 x3 (a 2, a 3, a 4, a 5, i 70, i 71, i 72)).2.2.2.1 from (by unfold cSet; simp only [if_pos bw56]; first | done | rfl | (simp only [sMn, sMx]; done) | (simp only [sMn, sMx]; rfl))), (show x3 = (cSet (i 64) x1 x2 x3 (a 2, a 3, a 4, a 5, i 70, i 71, i 72)).2.2.2.2.1 from (by unfold cSet; simp only [if_pos bw56]; first | done | rfl | (simp only [sMn, sMx]; done) | (simp only [sMn, sMx]; rfl))), (show i 71 = (cSet (i 64) x1 x2 x3 (a 2, a 3, a 4, a 5, i 70, i 71, i 72)).2.2.2.2.2.1 from (by unfold cSet; simp only [if_pos bw56]; first | done | rfl | (simp only [sMn, sMx]; done) | (simp only [sMn, sMx]; rfl))), (show i 72 = (cSet (i 64) x1 x2 x3 (a 2, a 3, a 4, a 5, i 70, i 71, i 72)).2.2.2.2.2.2 from (by unfold cSet; simp only [if_pos bw56]; first | done | rfl | (simp only [sMn, sMx]; done) | (simp only [sMn, sMx]; rfl)))⟩⟩)
def yw6_89 : kW := ([5701], [90, 91, 92, 93], [], [])
set_option maxRecDepth 100000 in
theorem ke6_89 {i : Nat → Int32} {a : Nat → List Int32} {q : Nat → List Int64} {r : Nat → Nat} (hI : kI i a q) (hr : kr r)  : km 1 6 [.ref 89] (ks i a q r) (kVN yw6_89 i a q r (fun i1 a1 q1 r1 => ((i1 5701).toInt = 39) ∧ (a1 90 = mi_cpy (a 90) (a 90) (1 : Int32).toNatClampNeg (0 : Int32).toNatClampNeg (39 : Int32).toNatClampNeg ∧ a1 91 = mi_cpy (a 91) (a 91) (1 : Int32).toNatClampNeg (0 : Int32).toNatClampNeg (39 : Int32).toNatClampNeg ∧ a1 92 = mi_cpy (a 92) (a 92) (1 : Int32).toNatClampNeg (0 : Int32).toNatClampNeg (39 : Int32).toNatClampNeg ∧ a1 93 = mi_cpy (a 93) (a 93) (1 : Int32).toNatClampNeg (0 : Int32).toNatClampNeg (39 : Int32).toNatClampNeg ∧ i1 5701 = 39))) := by
  have hG := kG_self yw6_89 hI hr
  refine km_ofN (q := (mi_h6, mi_c6)) rfl (by decide) (Nat.le_of_ble_eq_true rfl) ?_
  intro P hP
  have hJ1 := kG_i hG 5701 rfl (v := 39) ⟨(ou47 kou39), (ou48 kou39)⟩
  first | refine fo_go mi_k6 fz6_0_11_20 [(0, .ref 89)] [.int 39, .int 0, .ref 90, .int 1, .ref 90] (ku i 5701 39) a q r (by rfl) ?_ | refine ft_go mi_k6 11 20 [(0, .ref 89)] [.int 39, .int 0, .ref 90, .int 1, .ref 90] (ku i 5701 39) a q r (by rfl) ?_
  refine ko_copyI3 mi_k6.1 (n := 40) (c := 40) (m := 40) (b := 40) (mi_k6.2 _ _ (by rfl)) (by rfl) (by rfl) (by rfl) (ksG90 _ _ _ _) (ksG90 _ _ _ _) (ksA90 _ _ _ _) (hJ1.I.2.1 90) rfl (hJ1.I.2.1 90) rfl (ou47 kou39) (ou49 kou1) (ou50 kou0) (ou51 kou1 kou39) (ou52 kou0 kou39) ?_
  intro a3 ea3 fa3
  have hJ3 := kG_al3 hJ1 90 rfl ea3 fa3 (kcpy_len2 (n := 40) (c := 40) (m := 40) (b := 40) (sp := 1) (dp := 0) (n1 := 39) (hJ1.I.2.1 90) rfl (hJ1.I.2.1 90) rfl (ou47 kou39) (ou49 kou1) (ou50 kou0) (ou51 kou1 kou39) (ou52 kou0 kou39)) (fun _ => kd_bd _)
  first | refine fo_goS mi_k6 fz6_23_8_37 [.int 39, .int 0, .ref 91, .int 1, .ref 91] (by rfl) ?_ | refine ft_go mi_k6 8 37 [(0, .ref 89)] [.int 39, .int 0, .ref 91, .int 1, .ref 91] (ku i 5701 39) a3 q r (by rfl) ?_
  refine ko_copyI3 mi_k6.1 (n := 40) (c := 40) (m := 40) (b := 40) (mi_k6.2 _ _ (by rfl)) (by rfl) (by rfl) (by rfl) (ksG91 _ _ _ _) (ksG91 _ _ _ _) (ksA91 _ _ _ _) (hJ3.I.2.1 91) rfl (hJ3.I.2.1 91) rfl (ou47 kou39) (ou49 kou1) (ou50 kou0) (ou51 kou1 kou39) (ou52 kou0 kou39) ?_
  intro a5 ea5 fa5
  have hJ5 := kG_al3 hJ3 91 rfl ea5 fa5 (kcpy_len2 (n := 40) (c := 40) (m := 40) (b := 40) (sp := 1) (dp := 0) (n1 := 39) (hJ3.I.2.1 91) rfl (hJ3.I.2.1 91) rfl (ou47 kou39) (ou49 kou1) (ou50 kou0) (ou51 kou1 kou39) (ou52 kou0 kou39)) (fun _ => kd_bd _)
  first | refine fo_goS mi_k6 fz6_40_8_54 [.int 39, .int 0, .ref 92, .int 1, .ref 92] (by rfl) ?_ | refine ft_go mi_k6 8 54 [(0, .ref 89)] [.int 39, .int 0, .ref 92, .int 1, .ref 92] (ku i 5701 39) a5 q r (by rfl) ?_
  refine ko_copyI3 mi_k6.1 (n := 40) (c := 40) (m := 40) (b := 40) (mi_k6.2 _ _ (by rfl)) (by rfl) (by rfl) (by rfl) (ksG92 _ _ _ _) (ksG92 _ _ _ _) (ksA92 _ _ _ _) (hJ5.I.2.1 92) rfl (hJ5.I.2.1 92) rfl (ou47 kou39) (ou49 kou1) (ou50 kou0) (ou51 kou1 kou39) (ou52 kou0 kou39) ?_
  intro a7 ea7 fa7
  have hJ7 := kG_al3 hJ5 92 rfl ea7 fa7 (kcpy_len2 (n := 40) (c := 40) (m := 40) (b := 40) (sp := 1) (dp := 0) (n1 := 39) (hJ5.I.2.1 92) rfl (hJ5.I.2.1 92) rfl (ou47 kou39) (ou49 kou1) (ou50 kou0) (ou51 kou1 kou39) (ou52 kou0 kou39)) (fun _ => kd_bd _)
  first | refine fo_goS mi_k6 fz6_57_8_71 [.int 39, .int 0, .ref 93, .int 1, .ref 93] (by rfl) ?_ | refine ft_go mi_k6 8 71 [(0, .ref 89)] [.int 39, .int 0, .ref 93, .int 1, .ref 93] (ku i 5701 39) a7 q r (by rfl) ?_
  refine ko_copyI3 mi_k6.1 (n := 40) (c := 40) (m := 40) (b := 40) (mi_k6.2 _ _ (by rfl)) (by rfl) (by rfl) (by rfl) (ksG93 _ _ _ _) (ksG93 _ _ _ _) (ksA93 _ _ _ _) (hJ7.I.2.1 93) rfl (hJ7.I.2.1 93) rfl (ou47 kou39) (ou49 kou1) (ou50 kou0) (ou51 kou1 kou39) (ou52 kou0 kou39) ?_
  intro a9 ea9 fa9
  have hJ9 := kG_al3 hJ7 93 rfl ea9 fa9 (kcpy_len2 (n := 40) (c := 40) (m := 40) (b := 40) (sp := 1) (dp := 0) (n1 := 39) (hJ7.I.2.1 93) rfl (hJ7.I.2.1 93) rfl (ou47 kou39) (ou49 kou1) (ou50 kou0) (ou51 kou1 kou39) (ou52 kou0 kou39)) (fun _ => kd_bd _)
  exact ft_ret mi_k6 (by rfl) (hP  _ _ _ _ hJ9 ⟨(ou53 kou39), ⟨(show a9 90 = mi_cpy (a 90) (a 90) (1 : Int32).toNatClampNeg (0 : Int32).toNatClampNeg (39 : Int32).toNatClampNeg from (by first | rfl | (simp only [fa9 90 (by decide), fa7 90 (by decide), fa5 90 (by decide), ea3, sMn, sMx]; done) | (simp only [fa9 90 (by decide), fa7 90 (by decide), fa5 90 (by decide), ea3, sMn, sMx]; rfl))), (show a9 91 = mi_cpy (a 91) (a 91) (1 : Int32).toNatClampNeg (0 : Int32).toNatClampNeg (39 : Int32).toNatClampNeg from (by first | rfl | (simp only [fa9 91 (by decide), fa7 91 (by decide), ea5, fa3 91 (by decide), sMn, sMx]; done) | (simp only [fa9 91 (by decide), fa7 91 (by decide), ea5, fa3 91 (by decide), sMn, sMx]; rfl))), (show a9 92 = mi_cpy (a 92) (a 92) (1 : Int32).toNatClampNeg (0 : Int32).toNatClampNeg (39 : Int32).toNatClampNeg from (by first | rfl | (simp only [fa9 92 (by decide), ea7, fa5 92 (by decide), fa3 92 (by decide), sMn, sMx]; done) | (simp only [fa9 92 (by decide), ea7, fa5 92 (by decide), fa3 92 (by decide), sMn, sMx]; rfl))), (show a9 93 = mi_cpy (a 93) (a 93) (1 : Int32).toNatClampNeg (0 : Int32).toNatClampNeg (39 : Int32).toNatClampNeg from (by first | rfl | (simp only [ea9, fa7 93 (by decide), fa5 93 (by decide), fa3 93 (by decide), sMn, sMx]; done) | (simp only [ea9, fa7 93 (by decide), fa5 93 (by decide), fa3 93 (by decide), sMn, sMx]; rfl))), (show (39 : Int32) = 39 from (by first | rfl | (simp only [sMn, sMx]; done) | (simp only [sMn, sMx]; rfl)))⟩⟩)
def yw5_89 : kW := ([5700, 5701], [90, 91, 92, 93], [], [])
set_option maxRecDepth 100000 in
theorem ke5_89 {i : Nat → Int32} {a : Nat → List Int32} {q : Nat → List Int64} {r : Nat → Nat} (hI : kI i a q) (hr : kr r) (x1 : Int32) (x2 : Int32) (x3 : Int32) (x4 : Int32) : km 3 5 [.ref 89, .int x1, .int x2, .int x3, .int x4] (ks i a q r) (kVN yw5_89 i a q r (fun i1 a1 q1 r1 => (True) ∧ (a1 90 = (nAdd x1 x2 x3 x4 (a 90, a 91, a 92, a 93, i 5700, i 5701)).1 ∧ a1 91 = (nAdd x1 x2 x3 x4 (a 90, a 91, a 92, a 93, i 5700, i 5701)).2.1 ∧ a1 92 = (nAdd x1 x2 x3 x4 (a 90, a 91, a 92, a 93, i 5700, i 5701)).2.2.1 ∧ a1 93 = (nAdd x1 x2 x3 x4 (a 90, a 91, a 92, a 93, i 5700, i 5701)).2.2.2.1 ∧ i1 5700 = (nAdd x1 x2 x3 x4 (a 90, a 91, a 92, a 93, i 5700, i 5701)).2.2.2.2.1 ∧ i1 5701 = (nAdd x1 x2 x3 x4 (a 90, a 91, a 92, a 93, i 5700, i 5701)).2.2.2.2.2))) := by
  have hG := kG_self yw5_89 hI hr
  refine km_ofN (q := (mi_h5, mi_c5)) rfl (by decide) (Nat.le_of_ble_eq_true rfl) ?_
  intro P hP
  have fi_5701 : ((0 : Int) ≤ (i 5701).toInt) ∧ ((i 5701).toInt ≤ 40) := hG.I.1 5701
  first | refine ft_goL mi_k5 3 6 [(0, .ref 89), (1, .int x1), (2, .int x2), (3, .int x3), (4, .int x4)] [.int 40, .int (i 5701)] (by rfl) ?_ | refine ft_go mi_k5 3 6 [(0, .ref 89), (1, .int x1), (2, .int x2), (3, .int x3), (4, .int x4)] [.int 40, .int (i 5701)] i a q r (by rfl) ?_
  refine ft_ifS mi_k5 (decide ((i 5701) < 40)) 13 9 [] (by rfl) (fun c => ?_) (fun c => ?_)
  ·
    have c1 : (i 5701).toInt < (40 : Int32).toInt := kd_lt c; clear c
    first | refine fo_goS mi_k5 fz5_13_5_22 [.int x1, .int (i 5701), .ref 90] (by rfl) ?_ | refine ft_go mi_k5 5 22 [(0, .ref 89), (1, .int x1), (2, .int x2), (3, .int x3), (4, .int x4)] [.int x1, .int (i 5701), .ref 90] i a q r (by rfl) ?_
    refine ko_iast3 mi_k5.1 (n := 40) (c := 40) (ax := (0, 0, 0, 0, 0)) (mi_k5.2 _ _ (by rfl)) (by rfl) (ksG90 _ _ _ _) (ksA90 _ _ _ _) (hG.I.2.1 90) rfl (ou16 fi_5701.1) (ou54 c1 kou40) ?_
    intro a2 ea2 fa2
    have hJ2 := kG_a3 hG 90 rfl ea2 fa2 (kd_bd _)
    first | refine fo_goS mi_k5 fz5_23_5_32 [.int x2, .int (i 5701), .ref 91] (by rfl) ?_ | refine ft_go mi_k5 5 32 [(0, .ref 89), (1, .int x1), (2, .int x2), (3, .int x3), (4, .int x4)] [.int x2, .int (i 5701), .ref 91] i a2 q r (by rfl) ?_
    refine ko_iast3 mi_k5.1 (n := 40) (c := 40) (ax := (0, 0, 0, 0, 0)) (mi_k5.2 _ _ (by rfl)) (by rfl) (ksG91 _ _ _ _) (ksA91 _ _ _ _) (hJ2.I.2.1 91) rfl (ou16 fi_5701.1) (ou54 c1 kou40) ?_
    intro a3 ea3 fa3
    have hJ3 := kG_a3 hJ2 91 rfl ea3 fa3 (kd_bd _)
    first | refine fo_goS mi_k5 fz5_33_5_42 [.int x3, .int (i 5701), .ref 92] (by rfl) ?_ | refine ft_go mi_k5 5 42 [(0, .ref 89), (1, .int x1), (2, .int x2), (3, .int x3), (4, .int x4)] [.int x3, .int (i 5701), .ref 92] i a3 q r (by rfl) ?_
    refine ko_iast3 mi_k5.1 (n := 40) (c := 40) (ax := (0, 0, 0, 0, 0)) (mi_k5.2 _ _ (by rfl)) (by rfl) (ksG92 _ _ _ _) (ksA92 _ _ _ _) (hJ3.I.2.1 92) rfl (ou16 fi_5701.1) (ou54 c1 kou40) ?_
    intro a4 ea4 fa4
    have hJ4 := kG_a3 hJ3 92 rfl ea4 fa4 (kd_bd _)
    first | refine fo_goS mi_k5 fz5_43_5_53 [.int x4, .int (i 5701), .ref 93] (by rfl) ?_ | refine ft_go mi_k5 5 53 [(0, .ref 89), (1, .int x1), (2, .int x2), (3, .int x3), (4, .int x4)] [.int x4, .int (i 5701), .ref 93] i a4 q r (by rfl) ?_
    refine ko_iast3 mi_k5.1 (n := 40) (c := 40) (ax := (0, 0, 0, 0, 0)) (mi_k5.2 _ _ (by rfl)) (by rfl) (ksG93 _ _ _ _) (ksA93 _ _ _ _) (hJ4.I.2.1 93) rfl (ou16 fi_5701.1) (ou54 c1 kou40) ?_
    intro a5 ea5 fa5
    have hJ5 := kG_a3 hJ4 93 rfl ea5 fa5 (kd_bd _)
    have s6 : ((i 5701) + 1).toInt = (i 5701).toInt + (1 : Int32).toInt := kd_add (ou55 fi_5701.1 kou1) (ou56 fi_5701.2 kou1)
    have hJ7 := kG_i hJ5 5701 rfl (v := ((i 5701) + 1)) ⟨(ou57 fi_5701.1 s6 kou1), (ou58 c1 s6 kou40 kou1)⟩
    have hJ8 := kG_i hJ7 5700 rfl (v := ((i 5701) + 1)) ⟨(ou57 fi_5701.1 s6 kou1), (ou58 c1 s6 kou40 kou1)⟩
    first | refine fo_goI mi_k5 fz5_54_10_72 [] (ku (ku i 5701 ((i 5701) + 1)) 5700 ((i 5701) + 1)) (by rfl) ?_ | refine ft_go mi_k5 10 72 [(0, .ref 89), (1, .int x1), (2, .int x2), (3, .int x3), (4, .int x4)] [] (ku (ku i 5701 ((i 5701) + 1)) 5700 ((i 5701) + 1)) a5 q r (by rfl) ?_
    have bw9 : ¬ ((40 : Int) ≤ (i 5701).toInt) := (ou59 c1 kou40)
    exact ft_ret mi_k5 (by rfl) (hP  _ _ _ _ hJ8 ⟨trivial, ⟨(show a5 90 = (nAdd x1 x2 x3 x4 (a 90, a 91, a 92, a 93, i 5700, i 5701)).1 from (by unfold nAdd; simp only [if_neg bw9]; first | done | rfl | (simp only [fa5 90 (by decide), fa4 90 (by decide), fa3 90 (by decide), ea2, sMn, sMx]; done) | (simp only [fa5 90 (by decide), fa4 90 (by decide), fa3 90 (by decide), ea2, sMn, sMx]; rfl))), (show a5 91 = (nAdd x1 x2 x3 x4 (a 90, a 91, a 92, a 93, i 5700, i 5701)).2.1 from (by unfold nAdd; simp only [if_neg bw9]; first | done | rfl | (simp only [fa5 91 (by decide), fa4 91 (by decide), ea3, fa2 91 (by decide), sMn, sMx]; done) | (simp only [fa5 91 (by decide), fa4 91 (by decide), ea3, fa2 91 (by decide), sMn, sMx]; rfl))), (show a5 92 = (nAdd x1 x2 x3 x4 (a 90, a 91, a 92, a 93, i 5700, i 5701)).2.2.1 from (by unfold nAdd; simp only [if_neg bw9]; first | done | rfl | (simp only [fa5 92 (by decide), ea4, fa3 92 (by decide), fa2 92 (by decide), sMn, sMx]; done) | (simp only [fa5 92 (by decide), ea4, fa3 92 (by decide), fa2 92 (by decide), sMn, sMx]; rfl))), (show a5 93 = (nAdd x1 x2 x3 x4 (a 90, a 91, a 92, a 93, i 5700, i 5701)).2.2.2.1 from (by unfold nAdd; simp only [if_neg bw9]; first | done | rfl | (simp only [ea5, fa4 93 (by decide), fa3 93 (by decide), fa2 93 (by decide), sMn, sMx]; done) | (simp only [ea5, fa4 93 (by decide), fa3 93 (by decide), fa2 93 (by decide), sMn, sMx]; rfl))), (show ((i 5701) + 1) = (nAdd x1 x2 x3 x4 (a 90, a 91, a 92, a 93, i 5700, i 5701)).2.2.2.2.1 from (by unfold nAdd; simp only [if_neg bw9]; first | done | rfl | (simp only [sMn, sMx]; done) | (simp only [sMn, sMx]; rfl))), (show ((i 5701) + 1) = (nAdd x1 x2 x3 x4 (a 90, a 91, a 92, a 93, i 5700, i 5701)).2.2.2.2.2 from (by unfold nAdd; simp only [if_neg bw9]; first | done | rfl | (simp only [sMn, sMx]; done) | (simp only [sMn, sMx]; rfl)))⟩⟩)
  ·
    have c10 : (40 : Int32).toInt ≤ (i 5701).toInt := kd_ltF c; clear c
    first | refine ft_goS mi_k5 1 10 [.ref 89] (by rfl) ?_ | refine ft_go mi_k5 1 10 [(0, .ref 89), (1, .int x1), (2, .int x2), (3, .int x3), (4, .int x4)] [.ref 89] i a q r (by rfl) ?_
    refine ko_callN mi_k5.1 (pc := 10) (ls := [(0, .ref 89), (1, .int x1), (2, .int x2), (3, .int x3), (4, .int x4)]) (st := [.ref 89]) (h := ks i a q r) (i := (.invokevirtual 29, 3, 6, 0, 9, 0, 169)) (mi_k5.2 _ _ (by rfl)) (ft_invS mi_pq6 (by rfl)) (cy := mi_c6) mi_pq6 rfl (ke6_89 hG.I hG.R ) (by decide) ?_
    intro ig11 ag11 qg11 rg11 kg11 hg11
    have hGg11 := kG_call hG kg11 (by decide +kernel)
    obtain ⟨hg11, og11⟩ := hg11
    have fig11_5701 : ((0 : Int) ≤ (ig11 5701).toInt) ∧ ((ig11 5701).toInt ≤ 40) := hGg11.I.1 5701
    have z12 : (ig11 5701).toInt = 39 := hg11
    have q13 : ag11 90 = mi_cpy (a 90) (a 90) (1 : Int32).toNatClampNeg (0 : Int32).toNatClampNeg (39 : Int32).toNatClampNeg := og11.1
    have q14 : ag11 91 = mi_cpy (a 91) (a 91) (1 : Int32).toNatClampNeg (0 : Int32).toNatClampNeg (39 : Int32).toNatClampNeg := og11.2.1
    have q15 : ag11 92 = mi_cpy (a 92) (a 92) (1 : Int32).toNatClampNeg (0 : Int32).toNatClampNeg (39 : Int32).toNatClampNeg := og11.2.2.1
    have q16 : ag11 93 = mi_cpy (a 93) (a 93) (1 : Int32).toNatClampNeg (0 : Int32).toNatClampNeg (39 : Int32).toNatClampNeg := og11.2.2.2.1
    have q17 : ig11 5701 = 39 := og11.2.2.2.2
    first | refine fo_goS mi_k5 fz5_13_5_22 [.int x1, .int (ig11 5701), .ref 90] (by rfl) ?_ | refine ft_go mi_k5 5 22 [(0, .ref 89), (1, .int x1), (2, .int x2), (3, .int x3), (4, .int x4)] [.int x1, .int (ig11 5701), .ref 90] ig11 ag11 qg11 rg11 (by rfl) ?_
    refine ko_iast3 mi_k5.1 (n := 40) (c := 40) (ax := (0, 0, 0, 0, 0)) (mi_k5.2 _ _ (by rfl)) (by rfl) (ksG90 _ _ _ _) (ksA90 _ _ _ _) (hGg11.I.2.1 90) rfl (ou47 z12) (ou60 z12) ?_
    intro a18 ea18 fa18
    have hJ18 := kG_a3 hGg11 90 rfl ea18 fa18 (kd_bd _)
    first | refine fo_goS mi_k5 fz5_23_5_32 [.int x2, .int (ig11 5701), .ref 91] (by rfl) ?_ | refine ft_go mi_k5 5 32 [(0, .ref 89), (1, .int x1), (2, .int x2), (3, .int x3), (4, .int x4)] [.int x2, .int (ig11 5701), .ref 91] ig11 a18 qg11 rg11 (by rfl) ?_
    refine ko_iast3 mi_k5.1 (n := 40) (c := 40) (ax := (0, 0, 0, 0, 0)) (mi_k5.2 _ _ (by rfl)) (by rfl) (ksG91 _ _ _ _) (ksA91 _ _ _ _) (hJ18.I.2.1 91) rfl (ou47 z12) (ou60 z12) ?_
    intro a19 ea19 fa19
    have hJ19 := kG_a3 hJ18 91 rfl ea19 fa19 (kd_bd _)
    first | refine fo_goS mi_k5 fz5_33_5_42 [.int x3, .int (ig11 5701), .ref 92] (by rfl) ?_ | refine ft_go mi_k5 5 42 [(0, .ref 89), (1, .int x1), (2, .int x2), (3, .int x3), (4, .int x4)] [.int x3, .int (ig11 5701), .ref 92] ig11 a19 qg11 rg11 (by rfl) ?_
    refine ko_iast3 mi_k5.1 (n := 40) (c := 40) (ax := (0, 0, 0, 0, 0)) (mi_k5.2 _ _ (by rfl)) (by rfl) (ksG92 _ _ _ _) (ksA92 _ _ _ _) (hJ19.I.2.1 92) rfl (ou47 z12) (ou60 z12) ?_
    intro a20 ea20 fa20
    have hJ20 := kG_a3 hJ19 92 rfl ea20 fa20 (kd_bd _)
    first | refine fo_goS mi_k5 fz5_43_5_53 [.int x4, .int (ig11 5701), .ref 93] (by rfl) ?_ | refine ft_go mi_k5 5 53 [(0, .ref 89), (1, .int x1), (2, .int x2), (3, .int x3), (4, .int x4)] [.int x4, .int (ig11 5701), .ref 93] ig11 a20 qg11 rg11 (by rfl) ?_
    refine ko_iast3 mi_k5.1 (n := 40) (c := 40) (ax := (0, 0, 0, 0, 0)) (mi_k5.2 _ _ (by rfl)) (by rfl) (ksG93 _ _ _ _) (ksA93 _ _ _ _) (hJ20.I.2.1 93) rfl (ou47 z12) (ou60 z12) ?_
    intro a21 ea21 fa21
    have hJ21 := kG_a3 hJ20 93 rfl ea21 fa21 (kd_bd _)
    have s22 : ((ig11 5701) + 1).toInt = (ig11 5701).toInt + (1 : Int32).toInt := kd_add (ou61 z12 kou1) (ou56 fig11_5701.2 kou1)
    have hJ23 := kG_i hJ21 5701 rfl (v := ((ig11 5701) + 1)) ⟨(ou62 s22 z12 kou1), (ou63 s22 z12 kou1)⟩
    have hJ24 := kG_i hJ23 5700 rfl (v := ((ig11 5701) + 1)) ⟨(ou62 s22 z12 kou1), (ou63 s22 z12 kou1)⟩
    first | refine fo_goI mi_k5 fz5_54_10_72 [] (ku (ku ig11 5701 ((ig11 5701) + 1)) 5700 ((ig11 5701) + 1)) (by rfl) ?_ | refine ft_go mi_k5 10 72 [(0, .ref 89), (1, .int x1), (2, .int x2), (3, .int x3), (4, .int x4)] [] (ku (ku ig11 5701 ((ig11 5701) + 1)) 5700 ((ig11 5701) + 1)) a21 qg11 rg11 (by rfl) ?_
    have bw25 : (40 : Int) ≤ (i 5701).toInt := (ou64 c10 kou40)
    exact ft_ret mi_k5 (by rfl) (hP  _ _ _ _ hJ24 ⟨trivial, ⟨(show a21 90 = (nAdd x1 x2 x3 x4 (a 90, a 91, a 92, a 93, i 5700, i 5701)).1 from (by unfold nAdd; simp only [if_pos bw25]; first | done | rfl | (simp only [fa21 90 (by decide), fa20 90 (by decide), fa19 90 (by decide), ea18, q13, q17, sMn, sMx]; done) | (simp only [fa21 90 (by decide), fa20 90 (by decide), fa19 90 (by decide), ea18, q13, q17, sMn, sMx]; rfl))), (show a21 91 = (nAdd x1 x2 x3 x4 (a 90, a 91, a 92, a 93, i 5700, i 5701)).2.1 from (by unfold nAdd; simp only [if_pos bw25]; first | done | rfl | (simp only [fa21 91 (by decide), fa20 91 (by decide), ea19, fa18 91 (by decide), q17, q14, sMn, sMx]; done) | (simp only [fa21 91 (by decide), fa20 91 (by decide), ea19, fa18 91 (by decide), q17, q14, sMn, sMx]; rfl))), (show a21 92 = (nAdd x1 x2 x3 x4 (a 90, a 91, a 92, a 93, i 5700, i 5701)).2.2.1 from (by unfold nAdd; simp only [if_pos bw25]; first | done | rfl | (simp only [fa21 92 (by decide), ea20, fa19 92 (by decide), q17, fa18 92 (by decide), q15, sMn, sMx]; done) | (simp only [fa21 92 (by decide), ea20, fa19 92 (by decide), q17, fa18 92 (by decide), q15, sMn, sMx]; rfl))), (show a21 93 = (nAdd x1 x2 x3 x4 (a 90, a 91, a 92, a 93, i 5700, i 5701)).2.2.2.1 from (by unfold nAdd; simp only [if_pos bw25]; first | done | rfl | (simp only [ea21, fa20 93 (by decide), q17, fa19 93 (by decide), fa18 93 (by decide), q16, sMn, sMx]; done) | (simp only [ea21, fa20 93 (by decide), q17, fa19 93 (by decide), fa18 93 (by decide), q16, sMn, sMx]; rfl))), (show ((ig11 5701) + 1) = (nAdd x1 x2 x3 x4 (a 90, a 91, a 92, a 93, i 5700, i 5701)).2.2.2.2.1 from (by unfold nAdd; simp only [if_pos bw25]; first | done | rfl | (simp only [q17, sMn, sMx]; done) | (simp only [q17, sMn, sMx]; rfl))), (show ((ig11 5701) + 1) = (nAdd x1 x2 x3 x4 (a 90, a 91, a 92, a 93, i 5700, i 5701)).2.2.2.2.2 from (by unfold nAdd; simp only [if_pos bw25]; first | done | rfl | (simp only [q17, sMn, sMx]; done) | (simp only [q17, sMn, sMx]; rfl)))⟩⟩)
set_option maxRecDepth 100000 in
theorem ke84_0 {i : Nat → Int32} {a : Nat → List Int32} {q : Nat → List Int64} {r : Nat → Nat} (hI : kI i a q) (hr : kr r) (x1 : Int32) (x2 : Int32) : km 7 84 [.ref 0, .int x1, .int x2] (ks i a q r) (kPI (ks i a q r) (fun v => (True) ∧ v = nOf (i 64) x1 x2 (a 2, a 3, a 4, a 5, i 70, i 71, i 72))) := by
  have hG := kG_self kW0 hI hr
  refine km_ofPI (q := (mi_h84, mi_c84)) rfl (by decide) (Nat.le_of_ble_eq_true rfl) ?_
  intro P hP
  first | refine ft_goL mi_k84 3 3 [(0, .ref 0), (1, .int x1), (2, .int x2)] [.int x2, .int x1, .ref 0] (by rfl) ?_ | refine ft_go mi_k84 3 3 [(0, .ref 0), (1, .int x1), (2, .int x2)] [.int x2, .int x1, .ref 0] i a q r (by rfl) ?_
  refine ko_callPI mi_k84.1 (pc := 3) (ls := [(0, .ref 0), (1, .int x1), (2, .int x2)]) (st := [.int x2, .int x1, .ref 0]) (h := ks i a q r) (i := (.invokevirtual 95, 3, 125, 0, 9, 0, 161)) (mi_k84.2 _ _ (by rfl)) (ft_invS mi_pq125 (by rfl)) (cy := mi_c125) mi_pq125 rfl (kc125_0 hG.I hG.R x1 x2) (by decide) ?_
  intro vg1 hg1
  rcases hg1 with ⟨eg1, hg1⟩ | ⟨eg1, hg1⟩
  ·
    subst eg1
    have z2 : (((0 : Int) ≤ x2.toInt) ∧ (x2.toInt ≤ 3) ∧ ((0 : Int) ≤ x1.toInt) ∧ (x1.toInt < (i 64).toInt)) ∨ (((4 : Int) ≤ x2.toInt) ∧ (x2.toInt ≤ 6) ∧ (x1.toInt = 0)) := hg1
    first | refine fo_goS mi_k84 fz84_6_5_15 [.int x2, .int x1, .ref 1] (by rfl) ?_ | refine ft_go mi_k84 5 15 [(0, .ref 0), (1, .int x1), (2, .int x2)] [.int x2, .int x1, .ref 1] i a q r (by rfl) ?_
    refine ko_callPI mi_k84.1 (pc := 15) (ls := [(0, .ref 0), (1, .int x1), (2, .int x2)]) (st := [.int x2, .int x1, .ref 1]) (h := ks i a q r) (i := (.invokevirtual 98, 3, 27, 0, 9, 0, 164)) (mi_k84.2 _ _ (by rfl)) (ft_invS mi_pq27 (by rfl)) (cy := mi_c27) mi_pq27 rfl (ke27_1 hG.I hG.R x1 x2) (by decide) ?_
    intro vg3 hg3
    obtain ⟨hg3, og3⟩ := hg3
    have q4 : vg3 = cGet (i 64) x1 x2 (a 2, a 3, a 4, a 5, i 70, i 71, i 72) := og3
    first | refine ft_goS mi_k84 1 22 [.int vg3] (by rfl) ?_ | refine ft_go mi_k84 1 22 [(0, .ref 0), (1, .int x1), (2, .int x2)] [.int vg3] i a q r (by rfl) ?_
    have bw5 : (((0 : Int) ≤ x2.toInt) ∧ (x2.toInt ≤ 3) ∧ ((0 : Int) ≤ x1.toInt) ∧ (x1.toInt < (i 64).toInt)) ∨ (((4 : Int) ≤ x2.toInt) ∧ (x2.toInt ≤ 6) ∧ (x1.toInt = 0)) := (ou74 z2)
    exact ft_ret mi_k84 (by rfl) (hP vg3 ⟨trivial, (show vg3 = nOf (i 64) x1 x2 (a 2, a 3, a 4, a 5, i 70, i 71, i 72) from (by unfold nOf; simp only [if_pos bw5]; first | done | rfl | (simp only [q4, sMn, sMx]; done) | (simp only [q4, sMn, sMx]; rfl)))⟩)
  ·
    subst eg1
    have fi_64 : ((0 : Int) ≤ (i 64).toInt) ∧ ((i 64).toInt ≤ 8) := hG.I.1 64
    have z6 : ¬ ((((0 : Int) ≤ x2.toInt) ∧ (x2.toInt ≤ 3) ∧ ((0 : Int) ≤ x1.toInt) ∧ (x1.toInt < (i 64).toInt)) ∨ (((4 : Int) ≤ x2.toInt) ∧ (x2.toInt ≤ 6) ∧ (x1.toInt = 0))) := hg1
    first | refine ft_goS mi_k84 2 22 [.int (-1)] (by rfl) ?_ | refine ft_go mi_k84 2 22 [(0, .ref 0), (1, .int x1), (2, .int x2)] [.int (-1)] i a q r (by rfl) ?_
    have bw7 : ¬ ((((0 : Int) ≤ x2.toInt) ∧ (x2.toInt ≤ 3) ∧ ((0 : Int) ≤ x1.toInt) ∧ (x1.toInt < (i 64).toInt)) ∨ (((4 : Int) ≤ x2.toInt) ∧ (x2.toInt ≤ 6) ∧ (x1.toInt = 0))) := (ou75 fi_64.1 z6)
    exact ft_ret mi_k84 (by rfl) (hP (-1) ⟨trivial, (show ((-1) : Int32) = nOf (i 64) x1 x2 (a 2, a 3, a 4, a 5, i 70, i 71, i 72) from (by unfold nOf; simp only [if_neg bw7]; first | done | rfl | (simp only [sMn, sMx]; done) | (simp only [sMn, sMx]; rfl)))⟩)
set_option maxRecDepth 100000 in
theorem ke126_l00 {i : Nat → Int32} {a : Nat → List Int32} {q : Nat → List Int64} {r : Nat → Nat} (hI : kI i a q) (hr : kr r) (x2 : Int32) : km 3 126 [.int 0, .int x2] (ks i a q r) (kPI (ks i a q r) (fun v => (v = 1 ∧ (((0 : Int) ≤ x2.toInt) ∧ (x2.toInt ≤ 999))) ∨ (v = 0 ∧ (¬ (((0 : Int) ≤ x2.toInt) ∧ (x2.toInt ≤ 999)))))) := by
  have hG := kG_self kW0 hI hr
  refine km_ofPI (q := (mi_h126, mi_c126)) rfl (by decide) (Nat.le_of_ble_eq_true rfl) ?_
  intro P hP
  first | refine fo_goL mi_k126 fz126_0_3_4 [(0, .int 0), (1, .int x2)] [.int 6, .int 0, .int 0] (by rfl) ?_ | refine ft_go mi_k126 3 4 [(0, .int 0), (1, .int x2)] [.int 6, .int 0, .int 0] i a q r (by rfl) ?_
  refine ko_callPI mi_k126.1 (pc := 4) (ls := [(0, .int 0), (1, .int x2)]) (st := [.int 6, .int 0, .int 0]) (h := ks i a q r) (i := (.invokestatic 74, 3, 120, 0, 9, 0, 152)) (mi_k126.2 _ _ (by rfl)) (ft_invS mi_pq120 (by rfl)) (cy := mi_c120) mi_pq120 rfl (kc120 hG.I hG.R 0 0 6) (by decide) ?_
  intro vg1 hg1
  rcases hg1 with ⟨eg1, hg1⟩ | ⟨eg1, hg1⟩
  ·
    subst eg1
    first | refine ft_goS mi_k126 4 15 [.int 0, .ref (mi_RO + 1), .int x2] (by rfl) ?_ | refine ft_go mi_k126 4 15 [(0, .int 0), (1, .int x2)] [.int 0, .ref (mi_RO + 1), .int x2] i a q r (by rfl) ?_
    refine ft_ro mi_k126 (w := 0) (by decide +kernel) (by decide +kernel) ?_
    first | refine ft_goS mi_k126 2 20 [.int 0, .ref (mi_RO + 2), .int 0, .int x2] (by rfl) ?_ | refine ft_go mi_k126 2 20 [(0, .int 0), (1, .int x2)] [.int 0, .ref (mi_RO + 2), .int 0, .int x2] i a q r (by rfl) ?_
    refine ft_ro mi_k126 (w := 999) (by decide +kernel) (by decide +kernel) ?_
    refine ko_callPI mi_k126.1 (pc := 21) (ls := [(0, .int 0), (1, .int x2)]) (st := [.int 999, .int 0, .int x2]) (h := ks i a q r) (i := (.invokestatic 74, 3, 120, 0, 9, 0, 152)) (mi_k126.2 _ _ (by rfl)) (ft_invS mi_pq120 (by rfl)) (cy := mi_c120) mi_pq120 rfl (kc120 hG.I hG.R x2 0 999) (by decide) ?_
    intro vg5 hg5
    rcases hg5 with ⟨eg5, hg5⟩ | ⟨eg5, hg5⟩
    ·
      subst eg5
      have z6 : ((0 : Int32).toInt ≤ x2.toInt) ∧ (x2.toInt ≤ (999 : Int32).toInt) := hg5
      first | refine fo_goS mi_k126 fz126_24_3_32 [.int 1] (by rfl) ?_ | refine ft_goS mi_k126 3 32 [.int 1] (by rfl) ?_ | refine ft_go mi_k126 3 32 [(0, .int 0), (1, .int x2)] [.int 1] i a q r (by rfl) ?_
      exact ft_ret mi_k126 (by rfl) (hP 1 (Or.inl ⟨rfl, (ou80 z6.1 z6.2 kou0 kou999)⟩))
    ·
      subst eg5
      have z7 : ¬ (((0 : Int32).toInt ≤ x2.toInt) ∧ (x2.toInt ≤ (999 : Int32).toInt)) := hg5
      first | refine fo_goS mi_k126 fz126_27_2_32 [.int 0] (by rfl) ?_ | refine fo_goS mi_k126 fz126_7_2_32 [.int 0] (by rfl) ?_ | refine fo_goS mi_k126 fz126_24_2_32 [.int 0] (by rfl) ?_ | refine ft_go mi_k126 2 32 [(0, .int 0), (1, .int x2)] [.int 0] i a q r (by rfl) ?_
      exact ft_ret mi_k126 (by rfl) (hP 0 (Or.inr ⟨rfl, (ou81 z7 kou0 kou999)⟩))
  ·
    subst eg1
    have z8 : ¬ (((0 : Int32).toInt ≤ (0 : Int32).toInt) ∧ ((0 : Int32).toInt ≤ (6 : Int32).toInt)) := hg1
    exact (ou82 z8 kou0 kou6).elim
set_option maxRecDepth 100000 in
theorem ke126_l03 {i : Nat → Int32} {a : Nat → List Int32} {q : Nat → List Int64} {r : Nat → Nat} (hI : kI i a q) (hr : kr r) (x2 : Int32) : km 3 126 [.int 3, .int x2] (ks i a q r) (kPI (ks i a q r) (fun v => (v = 1 ∧ (((0 : Int) ≤ x2.toInt) ∧ (x2.toInt ≤ 1))) ∨ (v = 0 ∧ (¬ (((0 : Int) ≤ x2.toInt) ∧ (x2.toInt ≤ 1)))))) := by
  have hG := kG_self kW0 hI hr
  refine km_ofPI (q := (mi_h126, mi_c126)) rfl (by decide) (Nat.le_of_ble_eq_true rfl) ?_
  intro P hP
  first | refine fo_goL mi_k126 fz126_0_3_4 [(0, .int 3), (1, .int x2)] [.int 6, .int 0, .int 3] (by rfl) ?_ | refine ft_go mi_k126 3 4 [(0, .int 3), (1, .int x2)] [.int 6, .int 0, .int 3] i a q r (by rfl) ?_
  refine ko_callPI mi_k126.1 (pc := 4) (ls := [(0, .int 3), (1, .int x2)]) (st := [.int 6, .int 0, .int 3]) (h := ks i a q r) (i := (.invokestatic 74, 3, 120, 0, 9, 0, 152)) (mi_k126.2 _ _ (by rfl)) (ft_invS mi_pq120 (by rfl)) (cy := mi_c120) mi_pq120 rfl (kc120 hG.I hG.R 3 0 6) (by decide) ?_
  intro vg1 hg1
  rcases hg1 with ⟨eg1, hg1⟩ | ⟨eg1, hg1⟩
  ·
    subst eg1
    first | refine ft_goS mi_k126 4 15 [.int 3, .ref (mi_RO + 1), .int x2] (by rfl) ?_ | refine ft_go mi_k126 4 15 [(0, .int 3), (1, .int x2)] [.int 3, .ref (mi_RO + 1), .int x2] i a q r (by rfl) ?_
    refine ft_ro mi_k126 (w := 0) (by decide +kernel) (by decide +kernel) ?_
    first | refine ft_goS mi_k126 2 20 [.int 3, .ref (mi_RO + 2), .int 0, .int x2] (by rfl) ?_ | refine ft_go mi_k126 2 20 [(0, .int 3), (1, .int x2)] [.int 3, .ref (mi_RO + 2), .int 0, .int x2] i a q r (by rfl) ?_
    refine ft_ro mi_k126 (w := 1) (by decide +kernel) (by decide +kernel) ?_
    refine ko_callPI mi_k126.1 (pc := 21) (ls := [(0, .int 3), (1, .int x2)]) (st := [.int 1, .int 0, .int x2]) (h := ks i a q r) (i := (.invokestatic 74, 3, 120, 0, 9, 0, 152)) (mi_k126.2 _ _ (by rfl)) (ft_invS mi_pq120 (by rfl)) (cy := mi_c120) mi_pq120 rfl (kc120 hG.I hG.R x2 0 1) (by decide) ?_
    intro vg5 hg5
    rcases hg5 with ⟨eg5, hg5⟩ | ⟨eg5, hg5⟩
    ·
      subst eg5
      have z6 : ((0 : Int32).toInt ≤ x2.toInt) ∧ (x2.toInt ≤ (1 : Int32).toInt) := hg5
      first | refine fo_goS mi_k126 fz126_24_3_32 [.int 1] (by rfl) ?_ | refine ft_goS mi_k126 3 32 [.int 1] (by rfl) ?_ | refine ft_go mi_k126 3 32 [(0, .int 3), (1, .int x2)] [.int 1] i a q r (by rfl) ?_
      exact ft_ret mi_k126 (by rfl) (hP 1 (Or.inl ⟨rfl, (ou101 z6.1 z6.2 kou0 kou1)⟩))
    ·
      subst eg5
      have z7 : ¬ (((0 : Int32).toInt ≤ x2.toInt) ∧ (x2.toInt ≤ (1 : Int32).toInt)) := hg5
      first | refine fo_goS mi_k126 fz126_27_2_32 [.int 0] (by rfl) ?_ | refine fo_goS mi_k126 fz126_7_2_32 [.int 0] (by rfl) ?_ | refine fo_goS mi_k126 fz126_24_2_32 [.int 0] (by rfl) ?_ | refine ft_go mi_k126 2 32 [(0, .int 3), (1, .int x2)] [.int 0] i a q r (by rfl) ?_
      exact ft_ret mi_k126 (by rfl) (hP 0 (Or.inr ⟨rfl, (ou102 z7 kou0 kou1)⟩))
  ·
    subst eg1
    have z8 : ¬ (((0 : Int32).toInt ≤ (3 : Int32).toInt) ∧ ((3 : Int32).toInt ≤ (6 : Int32).toInt)) := hg1
    exact (ou103 z8 kou0 kou3 kou6).elim
set_option maxRecDepth 100000 in
theorem ke126_l04 {i : Nat → Int32} {a : Nat → List Int32} {q : Nat → List Int64} {r : Nat → Nat} (hI : kI i a q) (hr : kr r) (x2 : Int32) : km 3 126 [.int 4, .int x2] (ks i a q r) (kPI (ks i a q r) (fun v => (v = 1 ∧ (((1 : Int) ≤ x2.toInt) ∧ (x2.toInt ≤ 5))) ∨ (v = 0 ∧ (¬ (((1 : Int) ≤ x2.toInt) ∧ (x2.toInt ≤ 5)))))) := by
  have hG := kG_self kW0 hI hr
  refine km_ofPI (q := (mi_h126, mi_c126)) rfl (by decide) (Nat.le_of_ble_eq_true rfl) ?_
  intro P hP
  first | refine fo_goL mi_k126 fz126_0_3_4 [(0, .int 4), (1, .int x2)] [.int 6, .int 0, .int 4] (by rfl) ?_ | refine ft_go mi_k126 3 4 [(0, .int 4), (1, .int x2)] [.int 6, .int 0, .int 4] i a q r (by rfl) ?_
  refine ko_callPI mi_k126.1 (pc := 4) (ls := [(0, .int 4), (1, .int x2)]) (st := [.int 6, .int 0, .int 4]) (h := ks i a q r) (i := (.invokestatic 74, 3, 120, 0, 9, 0, 152)) (mi_k126.2 _ _ (by rfl)) (ft_invS mi_pq120 (by rfl)) (cy := mi_c120) mi_pq120 rfl (kc120 hG.I hG.R 4 0 6) (by decide) ?_
  intro vg1 hg1
  rcases hg1 with ⟨eg1, hg1⟩ | ⟨eg1, hg1⟩
  ·
    subst eg1
    first | refine ft_goS mi_k126 4 15 [.int 4, .ref (mi_RO + 1), .int x2] (by rfl) ?_ | refine ft_go mi_k126 4 15 [(0, .int 4), (1, .int x2)] [.int 4, .ref (mi_RO + 1), .int x2] i a q r (by rfl) ?_
    refine ft_ro mi_k126 (w := 1) (by decide +kernel) (by decide +kernel) ?_
    first | refine ft_goS mi_k126 2 20 [.int 4, .ref (mi_RO + 2), .int 1, .int x2] (by rfl) ?_ | refine ft_go mi_k126 2 20 [(0, .int 4), (1, .int x2)] [.int 4, .ref (mi_RO + 2), .int 1, .int x2] i a q r (by rfl) ?_
    refine ft_ro mi_k126 (w := 5) (by decide +kernel) (by decide +kernel) ?_
    refine ko_callPI mi_k126.1 (pc := 21) (ls := [(0, .int 4), (1, .int x2)]) (st := [.int 5, .int 1, .int x2]) (h := ks i a q r) (i := (.invokestatic 74, 3, 120, 0, 9, 0, 152)) (mi_k126.2 _ _ (by rfl)) (ft_invS mi_pq120 (by rfl)) (cy := mi_c120) mi_pq120 rfl (kc120 hG.I hG.R x2 1 5) (by decide) ?_
    intro vg5 hg5
    rcases hg5 with ⟨eg5, hg5⟩ | ⟨eg5, hg5⟩
    ·
      subst eg5
      have z6 : ((1 : Int32).toInt ≤ x2.toInt) ∧ (x2.toInt ≤ (5 : Int32).toInt) := hg5
      first | refine fo_goS mi_k126 fz126_24_3_32 [.int 1] (by rfl) ?_ | refine ft_goS mi_k126 3 32 [.int 1] (by rfl) ?_ | refine ft_go mi_k126 3 32 [(0, .int 4), (1, .int x2)] [.int 1] i a q r (by rfl) ?_
      exact ft_ret mi_k126 (by rfl) (hP 1 (Or.inl ⟨rfl, (ou110 z6.1 z6.2 kou1 kou5)⟩))
    ·
      subst eg5
      have z7 : ¬ (((1 : Int32).toInt ≤ x2.toInt) ∧ (x2.toInt ≤ (5 : Int32).toInt)) := hg5
      first | refine fo_goS mi_k126 fz126_27_2_32 [.int 0] (by rfl) ?_ | refine fo_goS mi_k126 fz126_7_2_32 [.int 0] (by rfl) ?_ | refine fo_goS mi_k126 fz126_24_2_32 [.int 0] (by rfl) ?_ | refine ft_go mi_k126 2 32 [(0, .int 4), (1, .int x2)] [.int 0] i a q r (by rfl) ?_
      exact ft_ret mi_k126 (by rfl) (hP 0 (Or.inr ⟨rfl, (ou111 z7 kou1 kou5)⟩))
  ·
    subst eg1
    have z8 : ¬ (((0 : Int32).toInt ≤ (4 : Int32).toInt) ∧ ((4 : Int32).toInt ≤ (6 : Int32).toInt)) := hg1
    exact (ou112 z8 kou0 kou4 kou6).elim
set_option maxRecDepth 100000 in
theorem ke126_l05 {i : Nat → Int32} {a : Nat → List Int32} {q : Nat → List Int64} {r : Nat → Nat} (hI : kI i a q) (hr : kr r) (x2 : Int32) : km 3 126 [.int 5, .int x2] (ks i a q r) (kPI (ks i a q r) (fun v => (v = 1 ∧ (((0 : Int) ≤ x2.toInt) ∧ (x2.toInt ≤ 1))) ∨ (v = 0 ∧ (¬ (((0 : Int) ≤ x2.toInt) ∧ (x2.toInt ≤ 1)))))) := by
  have hG := kG_self kW0 hI hr
  refine km_ofPI (q := (mi_h126, mi_c126)) rfl (by decide) (Nat.le_of_ble_eq_true rfl) ?_
  intro P hP
  first | refine fo_goL mi_k126 fz126_0_3_4 [(0, .int 5), (1, .int x2)] [.int 6, .int 0, .int 5] (by rfl) ?_ | refine ft_go mi_k126 3 4 [(0, .int 5), (1, .int x2)] [.int 6, .int 0, .int 5] i a q r (by rfl) ?_
  refine ko_callPI mi_k126.1 (pc := 4) (ls := [(0, .int 5), (1, .int x2)]) (st := [.int 6, .int 0, .int 5]) (h := ks i a q r) (i := (.invokestatic 74, 3, 120, 0, 9, 0, 152)) (mi_k126.2 _ _ (by rfl)) (ft_invS mi_pq120 (by rfl)) (cy := mi_c120) mi_pq120 rfl (kc120 hG.I hG.R 5 0 6) (by decide) ?_
  intro vg1 hg1
  rcases hg1 with ⟨eg1, hg1⟩ | ⟨eg1, hg1⟩
  ·
    subst eg1
    first | refine ft_goS mi_k126 4 15 [.int 5, .ref (mi_RO + 1), .int x2] (by rfl) ?_ | refine ft_go mi_k126 4 15 [(0, .int 5), (1, .int x2)] [.int 5, .ref (mi_RO + 1), .int x2] i a q r (by rfl) ?_
    refine ft_ro mi_k126 (w := 0) (by decide +kernel) (by decide +kernel) ?_
    first | refine ft_goS mi_k126 2 20 [.int 5, .ref (mi_RO + 2), .int 0, .int x2] (by rfl) ?_ | refine ft_go mi_k126 2 20 [(0, .int 5), (1, .int x2)] [.int 5, .ref (mi_RO + 2), .int 0, .int x2] i a q r (by rfl) ?_
    refine ft_ro mi_k126 (w := 1) (by decide +kernel) (by decide +kernel) ?_
    refine ko_callPI mi_k126.1 (pc := 21) (ls := [(0, .int 5), (1, .int x2)]) (st := [.int 1, .int 0, .int x2]) (h := ks i a q r) (i := (.invokestatic 74, 3, 120, 0, 9, 0, 152)) (mi_k126.2 _ _ (by rfl)) (ft_invS mi_pq120 (by rfl)) (cy := mi_c120) mi_pq120 rfl (kc120 hG.I hG.R x2 0 1) (by decide) ?_
    intro vg5 hg5
    rcases hg5 with ⟨eg5, hg5⟩ | ⟨eg5, hg5⟩
    ·
      subst eg5
      have z6 : ((0 : Int32).toInt ≤ x2.toInt) ∧ (x2.toInt ≤ (1 : Int32).toInt) := hg5
      first | refine fo_goS mi_k126 fz126_24_3_32 [.int 1] (by rfl) ?_ | refine ft_goS mi_k126 3 32 [.int 1] (by rfl) ?_ | refine ft_go mi_k126 3 32 [(0, .int 5), (1, .int x2)] [.int 1] i a q r (by rfl) ?_
      exact ft_ret mi_k126 (by rfl) (hP 1 (Or.inl ⟨rfl, (ou101 z6.1 z6.2 kou0 kou1)⟩))
    ·
      subst eg5
      have z7 : ¬ (((0 : Int32).toInt ≤ x2.toInt) ∧ (x2.toInt ≤ (1 : Int32).toInt)) := hg5
      first | refine fo_goS mi_k126 fz126_27_2_32 [.int 0] (by rfl) ?_ | refine fo_goS mi_k126 fz126_7_2_32 [.int 0] (by rfl) ?_ | refine fo_goS mi_k126 fz126_24_2_32 [.int 0] (by rfl) ?_ | refine ft_go mi_k126 2 32 [(0, .int 5), (1, .int x2)] [.int 0] i a q r (by rfl) ?_
      exact ft_ret mi_k126 (by rfl) (hP 0 (Or.inr ⟨rfl, (ou102 z7 kou0 kou1)⟩))
  ·
    subst eg1
    have z8 : ¬ (((0 : Int32).toInt ≤ (5 : Int32).toInt) ∧ ((5 : Int32).toInt ≤ (6 : Int32).toInt)) := hg1
    exact (ou118 z8 kou0 kou5 kou6).elim
set_option maxRecDepth 100000 in
theorem ke126_l06 {i : Nat → Int32} {a : Nat → List Int32} {q : Nat → List Int64} {r : Nat → Nat} (hI : kI i a q) (hr : kr r) (x2 : Int32) : km 3 126 [.int 6, .int x2] (ks i a q r) (kPI (ks i a q r) (fun v => (v = 1 ∧ (((0 : Int) ≤ x2.toInt) ∧ (x2.toInt ≤ 99))) ∨ (v = 0 ∧ (¬ (((0 : Int) ≤ x2.toInt) ∧ (x2.toInt ≤ 99)))))) := by
  have hG := kG_self kW0 hI hr
  refine km_ofPI (q := (mi_h126, mi_c126)) rfl (by decide) (Nat.le_of_ble_eq_true rfl) ?_
  intro P hP
  first | refine fo_goL mi_k126 fz126_0_3_4 [(0, .int 6), (1, .int x2)] [.int 6, .int 0, .int 6] (by rfl) ?_ | refine ft_go mi_k126 3 4 [(0, .int 6), (1, .int x2)] [.int 6, .int 0, .int 6] i a q r (by rfl) ?_
  refine ko_callPI mi_k126.1 (pc := 4) (ls := [(0, .int 6), (1, .int x2)]) (st := [.int 6, .int 0, .int 6]) (h := ks i a q r) (i := (.invokestatic 74, 3, 120, 0, 9, 0, 152)) (mi_k126.2 _ _ (by rfl)) (ft_invS mi_pq120 (by rfl)) (cy := mi_c120) mi_pq120 rfl (kc120 hG.I hG.R 6 0 6) (by decide) ?_
  intro vg1 hg1
  rcases hg1 with ⟨eg1, hg1⟩ | ⟨eg1, hg1⟩
  ·
    subst eg1
    first | refine ft_goS mi_k126 4 15 [.int 6, .ref (mi_RO + 1), .int x2] (by rfl) ?_ | refine ft_go mi_k126 4 15 [(0, .int 6), (1, .int x2)] [.int 6, .ref (mi_RO + 1), .int x2] i a q r (by rfl) ?_
    refine ft_ro mi_k126 (w := 0) (by decide +kernel) (by decide +kernel) ?_
    first | refine ft_goS mi_k126 2 20 [.int 6, .ref (mi_RO + 2), .int 0, .int x2] (by rfl) ?_ | refine ft_go mi_k126 2 20 [(0, .int 6), (1, .int x2)] [.int 6, .ref (mi_RO + 2), .int 0, .int x2] i a q r (by rfl) ?_
    refine ft_ro mi_k126 (w := 99) (by decide +kernel) (by decide +kernel) ?_
    refine ko_callPI mi_k126.1 (pc := 21) (ls := [(0, .int 6), (1, .int x2)]) (st := [.int 99, .int 0, .int x2]) (h := ks i a q r) (i := (.invokestatic 74, 3, 120, 0, 9, 0, 152)) (mi_k126.2 _ _ (by rfl)) (ft_invS mi_pq120 (by rfl)) (cy := mi_c120) mi_pq120 rfl (kc120 hG.I hG.R x2 0 99) (by decide) ?_
    intro vg5 hg5
    rcases hg5 with ⟨eg5, hg5⟩ | ⟨eg5, hg5⟩
    ·
      subst eg5
      have z6 : ((0 : Int32).toInt ≤ x2.toInt) ∧ (x2.toInt ≤ (99 : Int32).toInt) := hg5
      first | refine fo_goS mi_k126 fz126_24_3_32 [.int 1] (by rfl) ?_ | refine ft_goS mi_k126 3 32 [.int 1] (by rfl) ?_ | refine ft_go mi_k126 3 32 [(0, .int 6), (1, .int x2)] [.int 1] i a q r (by rfl) ?_
      exact ft_ret mi_k126 (by rfl) (hP 1 (Or.inl ⟨rfl, (ou122 z6.1 z6.2 kou0 kou99)⟩))
    ·
      subst eg5
      have z7 : ¬ (((0 : Int32).toInt ≤ x2.toInt) ∧ (x2.toInt ≤ (99 : Int32).toInt)) := hg5
      first | refine fo_goS mi_k126 fz126_27_2_32 [.int 0] (by rfl) ?_ | refine fo_goS mi_k126 fz126_7_2_32 [.int 0] (by rfl) ?_ | refine fo_goS mi_k126 fz126_24_2_32 [.int 0] (by rfl) ?_ | refine ft_go mi_k126 2 32 [(0, .int 6), (1, .int x2)] [.int 0] i a q r (by rfl) ?_
      exact ft_ret mi_k126 (by rfl) (hP 0 (Or.inr ⟨rfl, (ou123 z7 kou0 kou99)⟩))
  ·
    subst eg1
    have z8 : ¬ (((0 : Int32).toInt ≤ (6 : Int32).toInt) ∧ ((6 : Int32).toInt ≤ (6 : Int32).toInt)) := hg1
    exact (ou124 z8 kou0 kou6).elim
def yw83_0 : kW := ([70, 71, 72, 5700, 5701], [2, 3, 4, 5, 90, 91, 92, 93], [], [])
set_option maxRecDepth 100000 in
theorem ke83_0 {i : Nat → Int32} {a : Nat → List Int32} {q : Nat → List Int64} {r : Nat → Nat} (hI : kI i a q) (hr : kr r) (x1 : Int32) (x2 : Int32) (x3 : Int32) : km 7 83 [.ref 0, .int x1, .int x2, .int x3] (ks i a q r) (kVI yw83_0 i a q r (fun v i1 a1 q1 r1 => (True) ∧ (v = (cMend (i 64) x1 x2 x3 (a 2, a 3, a 4, a 5, i 70, i 71, i 72) (a 90, a 91, a 92, a 93, i 5700, i 5701)).1 ∧ a1 2 = ((cMend (i 64) x1 x2 x3 (a 2, a 3, a 4, a 5, i 70, i 71, i 72) (a 90, a 91, a 92, a 93, i 5700, i 5701)).2.1).1 ∧ a1 3 = ((cMend (i 64) x1 x2 x3 (a 2, a 3, a 4, a 5, i 70, i 71, i 72) (a 90, a 91, a 92, a 93, i 5700, i 5701)).2.1).2.1 ∧ a1 4 = ((cMend (i 64) x1 x2 x3 (a 2, a 3, a 4, a 5, i 70, i 71, i 72) (a 90, a 91, a 92, a 93, i 5700, i 5701)).2.1).2.2.1 ∧ a1 5 = ((cMend (i 64) x1 x2 x3 (a 2, a 3, a 4, a 5, i 70, i 71, i 72) (a 90, a 91, a 92, a 93, i 5700, i 5701)).2.1).2.2.2.1 ∧ i1 70 = ((cMend (i 64) x1 x2 x3 (a 2, a 3, a 4, a 5, i 70, i 71, i 72) (a 90, a 91, a 92, a 93, i 5700, i 5701)).2.1).2.2.2.2.1 ∧ i1 71 = ((cMend (i 64) x1 x2 x3 (a 2, a 3, a 4, a 5, i 70, i 71, i 72) (a 90, a 91, a 92, a 93, i 5700, i 5701)).2.1).2.2.2.2.2.1 ∧ i1 72 = ((cMend (i 64) x1 x2 x3 (a 2, a 3, a 4, a 5, i 70, i 71, i 72) (a 90, a 91, a 92, a 93, i 5700, i 5701)).2.1).2.2.2.2.2.2 ∧ a1 90 = ((cMend (i 64) x1 x2 x3 (a 2, a 3, a 4, a 5, i 70, i 71, i 72) (a 90, a 91, a 92, a 93, i 5700, i 5701)).2.2).1 ∧ a1 91 = ((cMend (i 64) x1 x2 x3 (a 2, a 3, a 4, a 5, i 70, i 71, i 72) (a 90, a 91, a 92, a 93, i 5700, i 5701)).2.2).2.1 ∧ a1 92 = ((cMend (i 64) x1 x2 x3 (a 2, a 3, a 4, a 5, i 70, i 71, i 72) (a 90, a 91, a 92, a 93, i 5700, i 5701)).2.2).2.2.1 ∧ a1 93 = ((cMend (i 64) x1 x2 x3 (a 2, a 3, a 4, a 5, i 70, i 71, i 72) (a 90, a 91, a 92, a 93, i 5700, i 5701)).2.2).2.2.2.1 ∧ i1 5700 = ((cMend (i 64) x1 x2 x3 (a 2, a 3, a 4, a 5, i 70, i 71, i 72) (a 90, a 91, a 92, a 93, i 5700, i 5701)).2.2).2.2.2.2.1 ∧ i1 5701 = ((cMend (i 64) x1 x2 x3 (a 2, a 3, a 4, a 5, i 70, i 71, i 72) (a 90, a 91, a 92, a 93, i 5700, i 5701)).2.2).2.2.2.2.2))) := by
  have hG := kG_self yw83_0 hI hr
  refine km_ofI (q := (mi_h83, mi_c83)) rfl (by decide) (Nat.le_of_ble_eq_true rfl) ?_
  intro P hP
  first | refine ft_goL mi_k83 3 3 [(0, .ref 0), (1, .int x1), (2, .int x2), (3, .int x3)] [.int x2, .int x1, .ref 0] (by rfl) ?_ | refine ft_go mi_k83 3 3 [(0, .ref 0), (1, .int x1), (2, .int x2), (3, .int x3)] [.int x2, .int x1, .ref 0] i a q r (by rfl) ?_
  refine ko_callPI mi_k83.1 (pc := 3) (ls := [(0, .ref 0), (1, .int x1), (2, .int x2), (3, .int x3)]) (st := [.int x2, .int x1, .ref 0]) (h := ks i a q r) (i := (.invokevirtual 95, 3, 125, 0, 9, 0, 161)) (mi_k83.2 _ _ (by rfl)) (ft_invS mi_pq125 (by rfl)) (cy := mi_c125) mi_pq125 rfl (kc125_0 hG.I hG.R x1 x2) (by decide) ?_
  intro vg1 hg1
  rcases hg1 with ⟨eg1, hg1⟩ | ⟨eg1, hg1⟩
  ·
    subst eg1
    have z2 : (((0 : Int) ≤ x2.toInt) ∧ (x2.toInt ≤ 3) ∧ ((0 : Int) ≤ x1.toInt) ∧ (x1.toInt < (i 64).toInt)) ∨ (((4 : Int) ≤ x2.toInt) ∧ (x2.toInt ≤ 6) ∧ (x1.toInt = 0)) := hg1
    first | refine ft_goS mi_k83 3 11 [.int x3, .int x2] (by rfl) ?_ | refine ft_go mi_k83 3 11 [(0, .ref 0), (1, .int x1), (2, .int x2), (3, .int x3)] [.int x3, .int x2] i a q r (by rfl) ?_
    by_cases w3 : x2.toInt = 0
    ·
      refine ko_eq (x1 := (11, [(0, .ref 0), (1, .int x1), (2, .int x2), (3, .int x3)], [.int x3, .int 0], (0, 0), ks i a q r)) (by rw [(kj_eq w3 (by decide) : x2 = 0)]) ?_
      refine ko_callPI mi_k83.1 (pc := 11) (ls := [(0, .ref 0), (1, .int x1), (2, .int x2), (3, .int x3)]) (st := [.int x3, .int 0]) (h := ks i a q r) (i := (.invokestatic 58, 3, 126, 0, 9, 0, 151)) (mi_k83.2 _ _ (by rfl)) (ft_invS mi_pq126 (by rfl)) (cy := mi_c126) mi_pq126 rfl (ke126_l00 hG.I hG.R x3) (by decide) ?_
      intro vg4 hg4
      rcases hg4 with ⟨eg4, hg4⟩ | ⟨eg4, hg4⟩
      ·
        subst eg4
        have z5 : ((0 : Int) ≤ x3.toInt) ∧ (x3.toInt ≤ 999) := hg4
        first | refine fo_goS mi_k83 fz83_14_5_25 [.int x2, .int x1, .ref 1] (by rfl) ?_ | refine ft_go mi_k83 5 25 [(0, .ref 0), (1, .int x1), (2, .int x2), (3, .int x3)] [.int x2, .int x1, .ref 1] i a q r (by rfl) ?_
        refine ko_callPI mi_k83.1 (pc := 25) (ls := [(0, .ref 0), (1, .int x1), (2, .int x2), (3, .int x3)]) (st := [.int x2, .int x1, .ref 1]) (h := ks i a q r) (i := (.invokevirtual 98, 3, 27, 0, 9, 0, 164)) (mi_k83.2 _ _ (by rfl)) (ft_invS mi_pq27 (by rfl)) (cy := mi_c27) mi_pq27 rfl (ke27_1 hG.I hG.R x1 x2) (by decide) ?_
        intro vg6 hg6
        obtain ⟨hg6, og6⟩ := hg6
        have q7 : vg6 = cGet (i 64) x1 x2 (a 2, a 3, a 4, a 5, i 70, i 71, i 72) := og6
        have u8 : vg6.toInt = (cGet (i 64) x1 x2 (a 2, a 3, a 4, a 5, i 70, i 71, i 72)).toInt := congrArg Int32.toInt q7
        first | refine fo_goL mi_k83 fz83_28_3_33 [(4, .int vg6), (0, .ref 0), (1, .int x1), (2, .int x2), (3, .int x3)] [.int x3, .int vg6] (by rfl) ?_ | refine ft_go mi_k83 3 33 [(4, .int vg6), (0, .ref 0), (1, .int x1), (2, .int x2), (3, .int x3)] [.int x3, .int vg6] i a q r (by rfl) ?_
        refine ft_ifS mi_k83 (vg6 == x3) 58 36 [] (by rfl) (fun c => ?_) (fun c => ?_)
        ·
          have c9 : vg6.toInt = x3.toInt := kd_eq c; clear c
          first | refine fo_goS mi_k83 fz83_58_1_60 [.int vg6] (by rfl) ?_ | refine ft_go mi_k83 1 60 [(4, .int vg6), (0, .ref 0), (1, .int x1), (2, .int x2), (3, .int x3)] [.int vg6] i a q r (by rfl) ?_
          have bw10 : (kTold (i 64) x1 x2 ∧ kFit x2 x3) := ⟨(ou83 w3 z2), (kFit_0 (ou11 w3)).mpr (ou84 z5.1 z5.2)⟩
          have bw11 : (cGet (i 64) x1 x2 (a 2, a 3, a 4, a 5, i 70, i 71, i 72)).toInt = x3.toInt := (ou85 c9 u8)
          exact ft_ret mi_k83 (by rfl) (hP vg6 _ _ _ _ hG ⟨trivial, ⟨(show vg6 = (cMend (i 64) x1 x2 x3 (a 2, a 3, a 4, a 5, i 70, i 71, i 72) (a 90, a 91, a 92, a 93, i 5700, i 5701)).1 from (by unfold cMend; simp only [if_pos bw10, if_pos bw11]; first | done | rfl | (simp only [q7, sMn, sMx]; done) | (simp only [q7, sMn, sMx]; rfl))), (show a 2 = ((cMend (i 64) x1 x2 x3 (a 2, a 3, a 4, a 5, i 70, i 71, i 72) (a 90, a 91, a 92, a 93, i 5700, i 5701)).2.1).1 from (by unfold cMend; simp only [if_pos bw10, if_pos bw11]; first | done | rfl | (simp only [sMn, sMx]; done) | (simp only [sMn, sMx]; rfl))), (show a 3 = ((cMend (i 64) x1 x2 x3 (a 2, a 3, a 4, a 5, i 70, i 71, i 72) (a 90, a 91, a 92, a 93, i 5700, i 5701)).2.1).2.1 from (by unfold cMend; simp only [if_pos bw10, if_pos bw11]; first | done | rfl | (simp only [sMn, sMx]; done) | (simp only [sMn, sMx]; rfl))), (show a 4 = ((cMend (i 64) x1 x2 x3 (a 2, a 3, a 4, a 5, i 70, i 71, i 72) (a 90, a 91, a 92, a 93, i 5700, i 5701)).2.1).2.2.1 from (by unfold cMend; simp only [if_pos bw10, if_pos bw11]; first | done | rfl | (simp only [sMn, sMx]; done) | (simp only [sMn, sMx]; rfl))), (show a 5 = ((cMend (i 64) x1 x2 x3 (a 2, a 3, a 4, a 5, i 70, i 71, i 72) (a 90, a 91, a 92, a 93, i 5700, i 5701)).2.1).2.2.2.1 from (by unfold cMend; simp only [if_pos bw10, if_pos bw11]; first | done | rfl | (simp only [sMn, sMx]; done) | (simp only [sMn, sMx]; rfl))), (show i 70 = ((cMend (i 64) x1 x2 x3 (a 2, a 3, a 4, a 5, i 70, i 71, i 72) (a 90, a 91, a 92, a 93, i 5700, i 5701)).2.1).2.2.2.2.1 from (by unfold cMend; simp only [if_pos bw10, if_pos bw11]; first | done | rfl | (simp only [sMn, sMx]; done) | (simp only [sMn, sMx]; rfl))), (show i 71 = ((cMend (i 64) x1 x2 x3 (a 2, a 3, a 4, a 5, i 70, i 71, i 72) (a 90, a 91, a 92, a 93, i 5700, i 5701)).2.1).2.2.2.2.2.1 from (by unfold cMend; simp only [if_pos bw10, if_pos bw11]; first | done | rfl | (simp only [sMn, sMx]; done) | (simp only [sMn, sMx]; rfl))), (show i 72 = ((cMend (i 64) x1 x2 x3 (a 2, a 3, a 4, a 5, i 70, i 71, i 72) (a 90, a 91, a 92, a 93, i 5700, i 5701)).2.1).2.2.2.2.2.2 from (by unfold cMend; simp only [if_pos bw10, if_pos bw11]; first | done | rfl | (simp only [sMn, sMx]; done) | (simp only [sMn, sMx]; rfl))), (show a 90 = ((cMend (i 64) x1 x2 x3 (a 2, a 3, a 4, a 5, i 70, i 71, i 72) (a 90, a 91, a 92, a 93, i 5700, i 5701)).2.2).1 from (by unfold cMend; simp only [if_pos bw10, if_pos bw11]; first | done | rfl | (simp only [sMn, sMx]; done) | (simp only [sMn, sMx]; rfl))), (show a 91 = ((cMend (i 64) x1 x2 x3 (a 2, a 3, a 4, a 5, i 70, i 71, i 72) (a 90, a 91, a 92, a 93, i 5700, i 5701)).2.2).2.1 from (by unfold cMend; simp only [if_pos bw10, if_pos bw11]; first | done | rfl | (simp only [sMn, sMx]; done) | (simp only [sMn, sMx]; rfl))), (show a 92 = ((cMend (i 64) x1 x2 x3 (a 2, a 3, a 4, a 5, i 70, i 71, i 72) (a 90, a 91, a 92, a 93, i 5700, i 5701)).2.2).2.2.1 from (by unfold cMend; simp only [if_pos bw10, if_pos bw11]; first | done | rfl | (simp only [sMn, sMx]; done) | (simp only [sMn, sMx]; rfl))), (show a 93 = ((cMend (i 64) x1 x2 x3 (a 2, a 3, a 4, a 5, i 70, i 71, i 72) (a 90, a 91, a 92, a 93, i 5700, i 5701)).2.2).2.2.2.1 from (by unfold cMend; simp only [if_pos bw10, if_pos bw11]; first | done | rfl | (simp only [sMn, sMx]; done) | (simp only [sMn, sMx]; rfl))), (show i 5700 = ((cMend (i 64) x1 x2 x3 (a 2, a 3, a 4, a 5, i 70, i 71, i 72) (a 90, a 91, a 92, a 93, i 5700, i 5701)).2.2).2.2.2.2.1 from (by unfold cMend; simp only [if_pos bw10, if_pos bw11]; first | done | rfl | (simp only [sMn, sMx]; done) | (simp only [sMn, sMx]; rfl))), (show i 5701 = ((cMend (i 64) x1 x2 x3 (a 2, a 3, a 4, a 5, i 70, i 71, i 72) (a 90, a 91, a 92, a 93, i 5700, i 5701)).2.2).2.2.2.2.2 from (by unfold cMend; simp only [if_pos bw10, if_pos bw11]; first | done | rfl | (simp only [sMn, sMx]; done) | (simp only [sMn, sMx]; rfl)))⟩⟩)
        ·
          have c12 : vg6.toInt ≠ x3.toInt := kd_eqF c; clear c
          first | refine fo_goS mi_k83 fz83_36_5_43 [.int x3, .int x2, .int x1, .ref 1] (by rfl) ?_ | refine ft_go mi_k83 5 43 [(4, .int vg6), (0, .ref 0), (1, .int x1), (2, .int x2), (3, .int x3)] [.int x3, .int x2, .int x1, .ref 1] i a q r (by rfl) ?_
          refine ko_callN mi_k83.1 (pc := 43) (ls := [(4, .int vg6), (0, .ref 0), (1, .int x1), (2, .int x2), (3, .int x3)]) (st := [.int x3, .int x2, .int x1, .ref 1]) (h := ks i a q r) (i := (.invokevirtual 102, 3, 28, 0, 9, 0, 167)) (mi_k83.2 _ _ (by rfl)) (ft_invS mi_pq28 (by rfl)) (cy := mi_c28) mi_pq28 rfl (ke28_1 hG.I hG.R x1 x2 x3) (by decide) ?_
          intro ig13 ag13 qg13 rg13 kg13 hg13
          have hGg13 := kG_call hG kg13 (by decide +kernel)
          obtain ⟨hg13, og13⟩ := hg13
          have q14 : ag13 2 = (cSet (i 64) x1 x2 x3 (a 2, a 3, a 4, a 5, i 70, i 71, i 72)).1 := og13.1
          have q15 : ag13 3 = (cSet (i 64) x1 x2 x3 (a 2, a 3, a 4, a 5, i 70, i 71, i 72)).2.1 := og13.2.1
          have q16 : ag13 4 = (cSet (i 64) x1 x2 x3 (a 2, a 3, a 4, a 5, i 70, i 71, i 72)).2.2.1 := og13.2.2.1
          have q17 : ag13 5 = (cSet (i 64) x1 x2 x3 (a 2, a 3, a 4, a 5, i 70, i 71, i 72)).2.2.2.1 := og13.2.2.2.1
          have q18 : ig13 70 = (cSet (i 64) x1 x2 x3 (a 2, a 3, a 4, a 5, i 70, i 71, i 72)).2.2.2.2.1 := og13.2.2.2.2.1
          have q19 : ig13 71 = (cSet (i 64) x1 x2 x3 (a 2, a 3, a 4, a 5, i 70, i 71, i 72)).2.2.2.2.2.1 := og13.2.2.2.2.2.1
          have q20 : ig13 72 = (cSet (i 64) x1 x2 x3 (a 2, a 3, a 4, a 5, i 70, i 71, i 72)).2.2.2.2.2.2 := og13.2.2.2.2.2.2
          first | refine fo_goS mi_k83 fz83_46_6_55 [.int x3, .int vg6, .int x2, .int x1, .ref 89] (by rfl) ?_ | refine ft_go mi_k83 6 55 [(4, .int vg6), (0, .ref 0), (1, .int x1), (2, .int x2), (3, .int x3)] [.int x3, .int vg6, .int x2, .int x1, .ref 89] ig13 ag13 qg13 rg13 (by rfl) ?_
          refine ko_callN mi_k83.1 (pc := 55) (ls := [(4, .int vg6), (0, .ref 0), (1, .int x1), (2, .int x2), (3, .int x3)]) (st := [.int x3, .int vg6, .int x2, .int x1, .ref 89]) (h := ks ig13 ag13 qg13 rg13) (i := (.invokevirtual 106, 3, 5, 0, 9, 0, 168)) (mi_k83.2 _ _ (by rfl)) (ft_invS mi_pq5 (by rfl)) (cy := mi_c5) mi_pq5 rfl (ke5_89 hGg13.I hGg13.R x1 x2 vg6 x3) (by decide) ?_
          intro ig21 ag21 qg21 rg21 kg21 hg21
          have hGg21 := kG_call hGg13 kg21 (by decide +kernel)
          obtain ⟨hg21, og21⟩ := hg21
          have q22 : ag21 90 = (nAdd x1 x2 vg6 x3 (ag13 90, ag13 91, ag13 92, ag13 93, ig13 5700, ig13 5701)).1 := og21.1
          have q23 : ag21 91 = (nAdd x1 x2 vg6 x3 (ag13 90, ag13 91, ag13 92, ag13 93, ig13 5700, ig13 5701)).2.1 := og21.2.1
          have q24 : ag21 92 = (nAdd x1 x2 vg6 x3 (ag13 90, ag13 91, ag13 92, ag13 93, ig13 5700, ig13 5701)).2.2.1 := og21.2.2.1
          have q25 : ag21 93 = (nAdd x1 x2 vg6 x3 (ag13 90, ag13 91, ag13 92, ag13 93, ig13 5700, ig13 5701)).2.2.2.1 := og21.2.2.2.1
          have q26 : ig21 5700 = (nAdd x1 x2 vg6 x3 (ag13 90, ag13 91, ag13 92, ag13 93, ig13 5700, ig13 5701)).2.2.2.2.1 := og21.2.2.2.2.1
          have q27 : ig21 5701 = (nAdd x1 x2 vg6 x3 (ag13 90, ag13 91, ag13 92, ag13 93, ig13 5700, ig13 5701)).2.2.2.2.2 := og21.2.2.2.2.2
          first | refine fo_goS mi_k83 fz83_58_1_60 [.int vg6] (by rfl) ?_ | refine ft_go mi_k83 1 60 [(4, .int vg6), (0, .ref 0), (1, .int x1), (2, .int x2), (3, .int x3)] [.int vg6] ig21 ag21 qg21 rg21 (by rfl) ?_
          have bw28 : (kTold (i 64) x1 x2 ∧ kFit x2 x3) := ⟨(ou83 w3 z2), (kFit_0 (ou11 w3)).mpr (ou84 z5.1 z5.2)⟩
          have bw29 : ¬ ((cGet (i 64) x1 x2 (a 2, a 3, a 4, a 5, i 70, i 71, i 72)).toInt = x3.toInt) := (ou86 c12 u8)
          exact ft_ret mi_k83 (by rfl) (hP vg6 _ _ _ _ hGg21 ⟨trivial, ⟨(show vg6 = (cMend (i 64) x1 x2 x3 (a 2, a 3, a 4, a 5, i 70, i 71, i 72) (a 90, a 91, a 92, a 93, i 5700, i 5701)).1 from (by unfold cMend; simp only [if_pos bw28, if_neg bw29]; first | done | rfl | (simp only [q7, sMn, sMx]; done) | (simp only [q7, sMn, sMx]; rfl))), (show ag21 2 = ((cMend (i 64) x1 x2 x3 (a 2, a 3, a 4, a 5, i 70, i 71, i 72) (a 90, a 91, a 92, a 93, i 5700, i 5701)).2.1).1 from (by unfold cMend; simp only [if_pos bw28, if_neg bw29]; first | done | rfl | (simp only [kg21.fa 2 rfl, q14, sMn, sMx]; done) | (simp only [kg21.fa 2 rfl, q14, sMn, sMx]; rfl))), (show ag21 3 = ((cMend (i 64) x1 x2 x3 (a 2, a 3, a 4, a 5, i 70, i 71, i 72) (a 90, a 91, a 92, a 93, i 5700, i 5701)).2.1).2.1 from (by unfold cMend; simp only [if_pos bw28, if_neg bw29]; first | done | rfl | (simp only [kg21.fa 3 rfl, q15, sMn, sMx]; done) | (simp only [kg21.fa 3 rfl, q15, sMn, sMx]; rfl))), (show ag21 4 = ((cMend (i 64) x1 x2 x3 (a 2, a 3, a 4, a 5, i 70, i 71, i 72) (a 90, a 91, a 92, a 93, i 5700, i 5701)).2.1).2.2.1 from (by unfold cMend; simp only [if_pos bw28, if_neg bw29]; first | done | rfl | (simp only [kg21.fa 4 rfl, q16, sMn, sMx]; done) | (simp only [kg21.fa 4 rfl, q16, sMn, sMx]; rfl))), (show ag21 5 = ((cMend (i 64) x1 x2 x3 (a 2, a 3, a 4, a 5, i 70, i 71, i 72) (a 90, a 91, a 92, a 93, i 5700, i 5701)).2.1).2.2.2.1 from (by unfold cMend; simp only [if_pos bw28, if_neg bw29]; first | done | rfl | (simp only [kg21.fa 5 rfl, q17, sMn, sMx]; done) | (simp only [kg21.fa 5 rfl, q17, sMn, sMx]; rfl))), (show ig21 70 = ((cMend (i 64) x1 x2 x3 (a 2, a 3, a 4, a 5, i 70, i 71, i 72) (a 90, a 91, a 92, a 93, i 5700, i 5701)).2.1).2.2.2.2.1 from (by unfold cMend; simp only [if_pos bw28, if_neg bw29]; first | done | rfl | (simp only [(show ig21 70 = ig13 70 from kg21.fi 70 rfl), q18, sMn, sMx]; done) | (simp only [(show ig21 70 = ig13 70 from kg21.fi 70 rfl), q18, sMn, sMx]; rfl))), (show ig21 71 = ((cMend (i 64) x1 x2 x3 (a 2, a 3, a 4, a 5, i 70, i 71, i 72) (a 90, a 91, a 92, a 93, i 5700, i 5701)).2.1).2.2.2.2.2.1 from (by unfold cMend; simp only [if_pos bw28, if_neg bw29]; first | done | rfl | (simp only [(show ig21 71 = ig13 71 from kg21.fi 71 rfl), q19, sMn, sMx]; done) | (simp only [(show ig21 71 = ig13 71 from kg21.fi 71 rfl), q19, sMn, sMx]; rfl))), (show ig21 72 = ((cMend (i 64) x1 x2 x3 (a 2, a 3, a 4, a 5, i 70, i 71, i 72) (a 90, a 91, a 92, a 93, i 5700, i 5701)).2.1).2.2.2.2.2.2 from (by unfold cMend; simp only [if_pos bw28, if_neg bw29]; first | done | rfl | (simp only [(show ig21 72 = ig13 72 from kg21.fi 72 rfl), q20, sMn, sMx]; done) | (simp only [(show ig21 72 = ig13 72 from kg21.fi 72 rfl), q20, sMn, sMx]; rfl))), (show ag21 90 = ((cMend (i 64) x1 x2 x3 (a 2, a 3, a 4, a 5, i 70, i 71, i 72) (a 90, a 91, a 92, a 93, i 5700, i 5701)).2.2).1 from (by unfold cMend; simp only [if_pos bw28, if_neg bw29]; first | done | rfl | (simp only [q22, q7, kg13.fa 90 rfl, kg13.fa 91 rfl, kg13.fa 92 rfl, kg13.fa 93 rfl, (show ig13 5700 = i 5700 from kg13.fi 5700 rfl), (show ig13 5701 = i 5701 from kg13.fi 5701 rfl), sMn, sMx]; done) | (simp only [q22, q7, kg13.fa 90 rfl, kg13.fa 91 rfl, kg13.fa 92 rfl, kg13.fa 93 rfl, (show ig13 5700 = i 5700 from kg13.fi 5700 rfl), (show ig13 5701 = i 5701 from kg13.fi 5701 rfl), sMn, sMx]; rfl))), (show ag21 91 = ((cMend (i 64) x1 x2 x3 (a 2, a 3, a 4, a 5, i 70, i 71, i 72) (a 90, a 91, a 92, a 93, i 5700, i 5701)).2.2).2.1 from (by unfold cMend; simp only [if_pos bw28, if_neg bw29]; first | done | rfl | (simp only [q23, q7, kg13.fa 90 rfl, kg13.fa 91 rfl, kg13.fa 92 rfl, kg13.fa 93 rfl, (show ig13 5700 = i 5700 from kg13.fi 5700 rfl), (show ig13 5701 = i 5701 from kg13.fi 5701 rfl), sMn, sMx]; done) | (simp only [q23, q7, kg13.fa 90 rfl, kg13.fa 91 rfl, kg13.fa 92 rfl, kg13.fa 93 rfl, (show ig13 5700 = i 5700 from kg13.fi 5700 rfl), (show ig13 5701 = i 5701 from kg13.fi 5701 rfl), sMn, sMx]; rfl))), (show ag21 92 = ((cMend (i 64) x1 x2 x3 (a 2, a 3, a 4, a 5, i 70, i 71, i 72) (a 90, a 91, a 92, a 93, i 5700, i 5701)).2.2).2.2.1 from (by unfold cMend; simp only [if_pos bw28, if_neg bw29]; first | done | rfl | (simp only [q24, q7, kg13.fa 90 rfl, kg13.fa 91 rfl, kg13.fa 92 rfl, kg13.fa 93 rfl, (show ig13 5700 = i 5700 from kg13.fi 5700 rfl), (show ig13 5701 = i 5701 from kg13.fi 5701 rfl), sMn, sMx]; done) | (simp only [q24, q7, kg13.fa 90 rfl, kg13.fa 91 rfl, kg13.fa 92 rfl, kg13.fa 93 rfl, (show ig13 5700 = i 5700 from kg13.fi 5700 rfl), (show ig13 5701 = i 5701 from kg13.fi 5701 rfl), sMn, sMx]; rfl))), (show ag21 93 = ((cMend (i 64) x1 x2 x3 (a 2, a 3, a 4, a 5, i 70, i 71, i 72) (a 90, a 91, a 92, a 93, i 5700, i 5701)).2.2).2.2.2.1 from (by unfold cMend; simp only [if_pos bw28, if_neg bw29]; first | done | rfl | (simp only [q25, q7, kg13.fa 90 rfl, kg13.fa 91 rfl, kg13.fa 92 rfl, kg13.fa 93 rfl, (show ig13 5700 = i 5700 from kg13.fi 5700 rfl), (show ig13 5701 = i 5701 from kg13.fi 5701 rfl), sMn, sMx]; done) | (simp only [q25, q7, kg13.fa 90 rfl, kg13.fa 91 rfl, kg13.fa 92 rfl, kg13.fa 93 rfl, (show ig13 5700 = i 5700 from kg13.fi 5700 rfl), (show ig13 5701 = i 5701 from kg13.fi 5701 rfl), sMn, sMx]; rfl))), (show ig21 5700 = ((cMend (i 64) x1 x2 x3 (a 2, a 3, a 4, a 5, i 70, i 71, i 72) (a 90, a 91, a 92, a 93, i 5700, i 5701)).2.2).2.2.2.2.1 from (by unfold cMend; simp only [if_pos bw28, if_neg bw29]; first | done | rfl | (simp only [q26, q7, kg13.fa 90 rfl, kg13.fa 91 rfl, kg13.fa 92 rfl, kg13.fa 93 rfl, (show ig13 5700 = i 5700 from kg13.fi 5700 rfl), (show ig13 5701 = i 5701 from kg13.fi 5701 rfl), sMn, sMx]; done) | (simp only [q26, q7, kg13.fa 90 rfl, kg13.fa 91 rfl, kg13.fa 92 rfl, kg13.fa 93 rfl, (show ig13 5700 = i 5700 from kg13.fi 5700 rfl), (show ig13 5701 = i 5701 from kg13.fi 5701 rfl), sMn, sMx]; rfl))), (show ig21 5701 = ((cMend (i 64) x1 x2 x3 (a 2, a 3, a 4, a 5, i 70, i 71, i 72) (a 90, a 91, a 92, a 93, i 5700, i 5701)).2.2).2.2.2.2.2 from (by unfold cMend; simp only [if_pos bw28, if_neg bw29]; first | done | rfl | (simp only [q27, q7, kg13.fa 90 rfl, kg13.fa 91 rfl, kg13.fa 92 rfl, kg13.fa 93 rfl, (show ig13 5700 = i 5700 from kg13.fi 5700 rfl), (show ig13 5701 = i 5701 from kg13.fi 5701 rfl), sMn, sMx]; done) | (simp only [q27, q7, kg13.fa 90 rfl, kg13.fa 91 rfl, kg13.fa 92 rfl, kg13.fa 93 rfl, (show ig13 5700 = i 5700 from kg13.fi 5700 rfl), (show ig13 5701 = i 5701 from kg13.fi 5701 rfl), sMn, sMx]; rfl)))⟩⟩)
      ·
        subst eg4
        have z30 : ¬ (((0 : Int) ≤ x3.toInt) ∧ (x3.toInt ≤ 999)) := hg4
        first | refine fo_goS mi_k83 fz83_6_2_18 [.int (-1)] (by rfl) ?_ | refine fo_goS mi_k83 fz83_14_2_18 [.int (-1)] (by rfl) ?_ | refine ft_go mi_k83 2 18 [(0, .ref 0), (1, .int x1), (2, .int x2), (3, .int x3)] [.int (-1)] i a q r (by rfl) ?_
        have bw31 : ¬ (kTold (i 64) x1 x2 ∧ kFit x2 x3) := (fun z => absurd ((kFit_0 (ou11 w3)).mp z.2) (ou87 z30))
        exact ft_ret mi_k83 (by rfl) (hP (-1) _ _ _ _ hG ⟨trivial, ⟨(show ((-1) : Int32) = (cMend (i 64) x1 x2 x3 (a 2, a 3, a 4, a 5, i 70, i 71, i 72) (a 90, a 91, a 92, a 93, i 5700, i 5701)).1 from (by unfold cMend; simp only [if_neg bw31]; first | done | rfl | (simp only [sMn, sMx]; done) | (simp only [sMn, sMx]; rfl))), (show a 2 = ((cMend (i 64) x1 x2 x3 (a 2, a 3, a 4, a 5, i 70, i 71, i 72) (a 90, a 91, a 92, a 93, i 5700, i 5701)).2.1).1 from (by unfold cMend; simp only [if_neg bw31]; first | done | rfl | (simp only [sMn, sMx]; done) | (simp only [sMn, sMx]; rfl))), (show a 3 = ((cMend (i 64) x1 x2 x3 (a 2, a 3, a 4, a 5, i 70, i 71, i 72) (a 90, a 91, a 92, a 93, i 5700, i 5701)).2.1).2.1 from (by unfold cMend; simp only [if_neg bw31]; first | done | rfl | (simp only [sMn, sMx]; done) | (simp only [sMn, sMx]; rfl))), (show a 4 = ((cMend (i 64) x1 x2 x3 (a 2, a 3, a 4, a 5, i 70, i 71, i 72) (a 90, a 91, a 92, a 93, i 5700, i 5701)).2.1).2.2.1 from (by unfold cMend; simp only [if_neg bw31]; first | done | rfl | (simp only [sMn, sMx]; done) | (simp only [sMn, sMx]; rfl))), (show a 5 = ((cMend (i 64) x1 x2 x3 (a 2, a 3, a 4, a 5, i 70, i 71, i 72) (a 90, a 91, a 92, a 93, i 5700, i 5701)).2.1).2.2.2.1 from (by unfold cMend; simp only [if_neg bw31]; first | done | rfl | (simp only [sMn, sMx]; done) | (simp only [sMn, sMx]; rfl))), (show i 70 = ((cMend (i 64) x1 x2 x3 (a 2, a 3, a 4, a 5, i 70, i 71, i 72) (a 90, a 91, a 92, a 93, i 5700, i 5701)).2.1).2.2.2.2.1 from (by unfold cMend; simp only [if_neg bw31]; first | done | rfl | (simp only [sMn, sMx]; done) | (simp only [sMn, sMx]; rfl))), (show i 71 = ((cMend (i 64) x1 x2 x3 (a 2, a 3, a 4, a 5, i 70, i 71, i 72) (a 90, a 91, a 92, a 93, i 5700, i 5701)).2.1).2.2.2.2.2.1 from (by unfold cMend; simp only [if_neg bw31]; first | done | rfl | (simp only [sMn, sMx]; done) | (simp only [sMn, sMx]; rfl))), (show i 72 = ((cMend (i 64) x1 x2 x3 (a 2, a 3, a 4, a 5, i 70, i 71, i 72) (a 90, a 91, a 92, a 93, i 5700, i 5701)).2.1).2.2.2.2.2.2 from (by unfold cMend; simp only [if_neg bw31]; first | done | rfl | (simp only [sMn, sMx]; done) | (simp only [sMn, sMx]; rfl))), (show a 90 = ((cMend (i 64) x1 x2 x3 (a 2, a 3, a 4, a 5, i 70, i 71, i 72) (a 90, a 91, a 92, a 93, i 5700, i 5701)).2.2).1 from (by unfold cMend; simp only [if_neg bw31]; first | done | rfl | (simp only [sMn, sMx]; done) | (simp only [sMn, sMx]; rfl))), (show a 91 = ((cMend (i 64) x1 x2 x3 (a 2, a 3, a 4, a 5, i 70, i 71, i 72) (a 90, a 91, a 92, a 93, i 5700, i 5701)).2.2).2.1 from (by unfold cMend; simp only [if_neg bw31]; first | done | rfl | (simp only [sMn, sMx]; done) | (simp only [sMn, sMx]; rfl))), (show a 92 = ((cMend (i 64) x1 x2 x3 (a 2, a 3, a 4, a 5, i 70, i 71, i 72) (a 90, a 91, a 92, a 93, i 5700, i 5701)).2.2).2.2.1 from (by unfold cMend; simp only [if_neg bw31]; first | done | rfl | (simp only [sMn, sMx]; done) | (simp only [sMn, sMx]; rfl))), (show a 93 = ((cMend (i 64) x1 x2 x3 (a 2, a 3, a 4, a 5, i 70, i 71, i 72) (a 90, a 91, a 92, a 93, i 5700, i 5701)).2.2).2.2.2.1 from (by unfold cMend; simp only [if_neg bw31]; first | done | rfl | (simp only [sMn, sMx]; done) | (simp only [sMn, sMx]; rfl))), (show i 5700 = ((cMend (i 64) x1 x2 x3 (a 2, a 3, a 4, a 5, i 70, i 71, i 72) (a 90, a 91, a 92, a 93, i 5700, i 5701)).2.2).2.2.2.2.1 from (by unfold cMend; simp only [if_neg bw31]; first | done | rfl | (simp only [sMn, sMx]; done) | (simp only [sMn, sMx]; rfl))), (show i 5701 = ((cMend (i 64) x1 x2 x3 (a 2, a 3, a 4, a 5, i 70, i 71, i 72) (a 90, a 91, a 92, a 93, i 5700, i 5701)).2.2).2.2.2.2.2 from (by unfold cMend; simp only [if_neg bw31]; first | done | rfl | (simp only [sMn, sMx]; done) | (simp only [sMn, sMx]; rfl)))⟩⟩)
    by_cases w32 : x2.toInt = 1
    ·
      refine ko_eq (x1 := (11, [(0, .ref 0), (1, .int x1), (2, .int x2), (3, .int x3)], [.int x3, .int 1], (0, 0), ks i a q r)) (by rw [(kj_eq w32 (by decide) : x2 = 1)]) ?_
      refine ko_callPI mi_k83.1 (pc := 11) (ls := [(0, .ref 0), (1, .int x1), (2, .int x2), (3, .int x3)]) (st := [.int x3, .int 1]) (h := ks i a q r) (i := (.invokestatic 58, 3, 126, 0, 9, 0, 151)) (mi_k83.2 _ _ (by rfl)) (ft_invS mi_pq126 (by rfl)) (cy := mi_c126) mi_pq126 rfl (ke126_l01 hG.I hG.R x3) (by decide) ?_
      intro vg33 hg33
      rcases hg33 with ⟨eg33, hg33⟩ | ⟨eg33, hg33⟩
      ·
        subst eg33
        have z34 : ((0 : Int) ≤ x3.toInt) ∧ (x3.toInt ≤ 9) := hg33
        first | refine fo_goS mi_k83 fz83_14_5_25 [.int x2, .int x1, .ref 1] (by rfl) ?_ | refine ft_go mi_k83 5 25 [(0, .ref 0), (1, .int x1), (2, .int x2), (3, .int x3)] [.int x2, .int x1, .ref 1] i a q r (by rfl) ?_
        refine ko_callPI mi_k83.1 (pc := 25) (ls := [(0, .ref 0), (1, .int x1), (2, .int x2), (3, .int x3)]) (st := [.int x2, .int x1, .ref 1]) (h := ks i a q r) (i := (.invokevirtual 98, 3, 27, 0, 9, 0, 164)) (mi_k83.2 _ _ (by rfl)) (ft_invS mi_pq27 (by rfl)) (cy := mi_c27) mi_pq27 rfl (ke27_1 hG.I hG.R x1 x2) (by decide) ?_
        intro vg35 hg35
        obtain ⟨hg35, og35⟩ := hg35
        have q36 : vg35 = cGet (i 64) x1 x2 (a 2, a 3, a 4, a 5, i 70, i 71, i 72) := og35
        have u37 : vg35.toInt = (cGet (i 64) x1 x2 (a 2, a 3, a 4, a 5, i 70, i 71, i 72)).toInt := congrArg Int32.toInt q36
        first | refine fo_goL mi_k83 fz83_28_3_33 [(4, .int vg35), (0, .ref 0), (1, .int x1), (2, .int x2), (3, .int x3)] [.int x3, .int vg35] (by rfl) ?_ | refine ft_go mi_k83 3 33 [(4, .int vg35), (0, .ref 0), (1, .int x1), (2, .int x2), (3, .int x3)] [.int x3, .int vg35] i a q r (by rfl) ?_
        refine ft_ifS mi_k83 (vg35 == x3) 58 36 [] (by rfl) (fun c => ?_) (fun c => ?_)
        ·
          have c38 : vg35.toInt = x3.toInt := kd_eq c; clear c
          first | refine fo_goS mi_k83 fz83_58_1_60 [.int vg35] (by rfl) ?_ | refine ft_go mi_k83 1 60 [(4, .int vg35), (0, .ref 0), (1, .int x1), (2, .int x2), (3, .int x3)] [.int vg35] i a q r (by rfl) ?_
          have bw39 : (kTold (i 64) x1 x2 ∧ kFit x2 x3) := ⟨(ou92 w32 z2), (kFit_1 (ou12 w32)).mpr (ou93 z34.1 z34.2)⟩
          have bw40 : (cGet (i 64) x1 x2 (a 2, a 3, a 4, a 5, i 70, i 71, i 72)).toInt = x3.toInt := (ou85 c38 u37)
          exact ft_ret mi_k83 (by rfl) (hP vg35 _ _ _ _ hG ⟨trivial, ⟨(show vg35 = (cMend (i 64) x1 x2 x3 (a 2, a 3, a 4, a 5, i 70, i 71, i 72) (a 90, a 91, a 92, a 93, i 5700, i 5701)).1 from (by unfold cMend; simp only [if_pos bw39, if_pos bw40]; first | done | rfl | (simp only [q36, sMn, sMx]; done) | (simp only [q36, sMn, sMx]; rfl))), (show a 2 = ((cMend (i 64) x1 x2 x3 (a 2, a 3, a 4, a 5, i 70, i 71, i 72) (a 90, a 91, a 92, a 93, i 5700, i 5701)).2.1).1 from (by unfold cMend; simp only [if_pos bw39, if_pos bw40]; first | done | rfl | (simp only [sMn, sMx]; done) | (simp only [sMn, sMx]; rfl))), (show a 3 = ((cMend (i 64) x1 x2 x3 (a 2, a 3, a 4, a 5, i 70, i 71, i 72) (a 90, a 91, a 92, a 93, i 5700, i 5701)).2.1).2.1 from (by unfold cMend; simp only [if_pos bw39, if_pos bw40]; first | done | rfl | (simp only [sMn, sMx]; done) | (simp only [sMn, sMx]; rfl))), (show a 4 = ((cMend (i 64) x1 x2 x3 (a 2, a 3, a 4, a 5, i 70, i 71, i 72) (a 90, a 91, a 92, a 93, i 5700, i 5701)).2.1).2.2.1 from (by unfold cMend; simp only [if_pos bw39, if_pos bw40]; first | done | rfl | (simp only [sMn, sMx]; done) | (simp only [sMn, sMx]; rfl))), (show a 5 = ((cMend (i 64) x1 x2 x3 (a 2, a 3, a 4, a 5, i 70, i 71, i 72) (a 90, a 91, a 92, a 93, i 5700, i 5701)).2.1).2.2.2.1 from (by unfold cMend; simp only [if_pos bw39, if_pos bw40]; first | done | rfl | (simp only [sMn, sMx]; done) | (simp only [sMn, sMx]; rfl))), (show i 70 = ((cMend (i 64) x1 x2 x3 (a 2, a 3, a 4, a 5, i 70, i 71, i 72) (a 90, a 91, a 92, a 93, i 5700, i 5701)).2.1).2.2.2.2.1 from (by unfold cMend; simp only [if_pos bw39, if_pos bw40]; first | done | rfl | (simp only [sMn, sMx]; done) | (simp only [sMn, sMx]; rfl))), (show i 71 = ((cMend (i 64) x1 x2 x3 (a 2, a 3, a 4, a 5, i 70, i 71, i 72) (a 90, a 91, a 92, a 93, i 5700, i 5701)).2.1).2.2.2.2.2.1 from (by unfold cMend; simp only [if_pos bw39, if_pos bw40]; first | done | rfl | (simp only [sMn, sMx]; done) | (simp only [sMn, sMx]; rfl))), (show i 72 = ((cMend (i 64) x1 x2 x3 (a 2, a 3, a 4, a 5, i 70, i 71, i 72) (a 90, a 91, a 92, a 93, i 5700, i 5701)).2.1).2.2.2.2.2.2 from (by unfold cMend; simp only [if_pos bw39, if_pos bw40]; first | done | rfl | (simp only [sMn, sMx]; done) | (simp only [sMn, sMx]; rfl))), (show a 90 = ((cMend (i 64) x1 x2 x3 (a 2, a 3, a 4, a 5, i 70, i 71, i 72) (a 90, a 91, a 92, a 93, i 5700, i 5701)).2.2).1 from (by unfold cMend; simp only [if_pos bw39, if_pos bw40]; first | done | rfl | (simp only [sMn, sMx]; done) | (simp only [sMn, sMx]; rfl))), (show a 91 = ((cMend (i 64) x1 x2 x3 (a 2, a 3, a 4, a 5, i 70, i 71, i 72) (a 90, a 91, a 92, a 93, i 5700, i 5701)).2.2).2.1 from (by unfold cMend; simp only [if_pos bw39, if_pos bw40]; first | done | rfl | (simp only [sMn, sMx]; done) | (simp only [sMn, sMx]; rfl))), (show a 92 = ((cMend (i 64) x1 x2 x3 (a 2, a 3, a 4, a 5, i 70, i 71, i 72) (a 90, a 91, a 92, a 93, i 5700, i 5701)).2.2).2.2.1 from (by unfold cMend; simp only [if_pos bw39, if_pos bw40]; first | done | rfl | (simp only [sMn, sMx]; done) | (simp only [sMn, sMx]; rfl))), (show a 93 = ((cMend (i 64) x1 x2 x3 (a 2, a 3, a 4, a 5, i 70, i 71, i 72) (a 90, a 91, a 92, a 93, i 5700, i 5701)).2.2).2.2.2.1 from (by unfold cMend; simp only [if_pos bw39, if_pos bw40]; first | done | rfl | (simp only [sMn, sMx]; done) | (simp only [sMn, sMx]; rfl))), (show i 5700 = ((cMend (i 64) x1 x2 x3 (a 2, a 3, a 4, a 5, i 70, i 71, i 72) (a 90, a 91, a 92, a 93, i 5700, i 5701)).2.2).2.2.2.2.1 from (by unfold cMend; simp only [if_pos bw39, if_pos bw40]; first | done | rfl | (simp only [sMn, sMx]; done) | (simp only [sMn, sMx]; rfl))), (show i 5701 = ((cMend (i 64) x1 x2 x3 (a 2, a 3, a 4, a 5, i 70, i 71, i 72) (a 90, a 91, a 92, a 93, i 5700, i 5701)).2.2).2.2.2.2.2 from (by unfold cMend; simp only [if_pos bw39, if_pos bw40]; first | done | rfl | (simp only [sMn, sMx]; done) | (simp only [sMn, sMx]; rfl)))⟩⟩)
        ·
          have c41 : vg35.toInt ≠ x3.toInt := kd_eqF c; clear c
          first | refine fo_goS mi_k83 fz83_36_5_43 [.int x3, .int x2, .int x1, .ref 1] (by rfl) ?_ | refine ft_go mi_k83 5 43 [(4, .int vg35), (0, .ref 0), (1, .int x1), (2, .int x2), (3, .int x3)] [.int x3, .int x2, .int x1, .ref 1] i a q r (by rfl) ?_
          refine ko_callN mi_k83.1 (pc := 43) (ls := [(4, .int vg35), (0, .ref 0), (1, .int x1), (2, .int x2), (3, .int x3)]) (st := [.int x3, .int x2, .int x1, .ref 1]) (h := ks i a q r) (i := (.invokevirtual 102, 3, 28, 0, 9, 0, 167)) (mi_k83.2 _ _ (by rfl)) (ft_invS mi_pq28 (by rfl)) (cy := mi_c28) mi_pq28 rfl (ke28_1 hG.I hG.R x1 x2 x3) (by decide) ?_
          intro ig42 ag42 qg42 rg42 kg42 hg42
          have hGg42 := kG_call hG kg42 (by decide +kernel)
          obtain ⟨hg42, og42⟩ := hg42
          have q43 : ag42 2 = (cSet (i 64) x1 x2 x3 (a 2, a 3, a 4, a 5, i 70, i 71, i 72)).1 := og42.1
          have q44 : ag42 3 = (cSet (i 64) x1 x2 x3 (a 2, a 3, a 4, a 5, i 70, i 71, i 72)).2.1 := og42.2.1
          have q45 : ag42 4 = (cSet (i 64) x1 x2 x3 (a 2, a 3, a 4, a 5, i 70, i 71, i 72)).2.2.1 := og42.2.2.1
          have q46 : ag42 5 = (cSet (i 64) x1 x2 x3 (a 2, a 3, a 4, a 5, i 70, i 71, i 72)).2.2.2.1 := og42.2.2.2.1
          have q47 : ig42 70 = (cSet (i 64) x1 x2 x3 (a 2, a 3, a 4, a 5, i 70, i 71, i 72)).2.2.2.2.1 := og42.2.2.2.2.1
          have q48 : ig42 71 = (cSet (i 64) x1 x2 x3 (a 2, a 3, a 4, a 5, i 70, i 71, i 72)).2.2.2.2.2.1 := og42.2.2.2.2.2.1
          have q49 : ig42 72 = (cSet (i 64) x1 x2 x3 (a 2, a 3, a 4, a 5, i 70, i 71, i 72)).2.2.2.2.2.2 := og42.2.2.2.2.2.2
          first | refine fo_goS mi_k83 fz83_46_6_55 [.int x3, .int vg35, .int x2, .int x1, .ref 89] (by rfl) ?_ | refine ft_go mi_k83 6 55 [(4, .int vg35), (0, .ref 0), (1, .int x1), (2, .int x2), (3, .int x3)] [.int x3, .int vg35, .int x2, .int x1, .ref 89] ig42 ag42 qg42 rg42 (by rfl) ?_
          refine ko_callN mi_k83.1 (pc := 55) (ls := [(4, .int vg35), (0, .ref 0), (1, .int x1), (2, .int x2), (3, .int x3)]) (st := [.int x3, .int vg35, .int x2, .int x1, .ref 89]) (h := ks ig42 ag42 qg42 rg42) (i := (.invokevirtual 106, 3, 5, 0, 9, 0, 168)) (mi_k83.2 _ _ (by rfl)) (ft_invS mi_pq5 (by rfl)) (cy := mi_c5) mi_pq5 rfl (ke5_89 hGg42.I hGg42.R x1 x2 vg35 x3) (by decide) ?_
          intro ig50 ag50 qg50 rg50 kg50 hg50
          have hGg50 := kG_call hGg42 kg50 (by decide +kernel)
          obtain ⟨hg50, og50⟩ := hg50
          have q51 : ag50 90 = (nAdd x1 x2 vg35 x3 (ag42 90, ag42 91, ag42 92, ag42 93, ig42 5700, ig42 5701)).1 := og50.1
          have q52 : ag50 91 = (nAdd x1 x2 vg35 x3 (ag42 90, ag42 91, ag42 92, ag42 93, ig42 5700, ig42 5701)).2.1 := og50.2.1
          have q53 : ag50 92 = (nAdd x1 x2 vg35 x3 (ag42 90, ag42 91, ag42 92, ag42 93, ig42 5700, ig42 5701)).2.2.1 := og50.2.2.1
          have q54 : ag50 93 = (nAdd x1 x2 vg35 x3 (ag42 90, ag42 91, ag42 92, ag42 93, ig42 5700, ig42 5701)).2.2.2.1 := og50.2.2.2.1
          have q55 : ig50 5700 = (nAdd x1 x2 vg35 x3 (ag42 90, ag42 91, ag42 92, ag42 93, ig42 5700, ig42 5701)).2.2.2.2.1 := og50.2.2.2.2.1
          have q56 : ig50 5701 = (nAdd x1 x2 vg35 x3 (ag42 90, ag42 91, ag42 92, ag42 93, ig42 5700, ig42 5701)).2.2.2.2.2 := og50.2.2.2.2.2
          first | refine fo_goS mi_k83 fz83_58_1_60 [.int vg35] (by rfl) ?_ | refine ft_go mi_k83 1 60 [(4, .int vg35), (0, .ref 0), (1, .int x1), (2, .int x2), (3, .int x3)] [.int vg35] ig50 ag50 qg50 rg50 (by rfl) ?_
          have bw57 : (kTold (i 64) x1 x2 ∧ kFit x2 x3) := ⟨(ou92 w32 z2), (kFit_1 (ou12 w32)).mpr (ou93 z34.1 z34.2)⟩
          have bw58 : ¬ ((cGet (i 64) x1 x2 (a 2, a 3, a 4, a 5, i 70, i 71, i 72)).toInt = x3.toInt) := (ou86 c41 u37)
          exact ft_ret mi_k83 (by rfl) (hP vg35 _ _ _ _ hGg50 ⟨trivial, ⟨(show vg35 = (cMend (i 64) x1 x2 x3 (a 2, a 3, a 4, a 5, i 70, i 71, i 72) (a 90, a 91, a 92, a 93, i 5700, i 5701)).1 from (by unfold cMend; simp only [if_pos bw57, if_neg bw58]; first | done | rfl | (simp only [q36, sMn, sMx]; done) | (simp only [q36, sMn, sMx]; rfl))), (show ag50 2 = ((cMend (i 64) x1 x2 x3 (a 2, a 3, a 4, a 5, i 70, i 71, i 72) (a 90, a 91, a 92, a 93, i 5700, i 5701)).2.1).1 from (by unfold cMend; simp only [if_pos bw57, if_neg bw58]; first | done | rfl | (simp only [kg50.fa 2 rfl, q43, sMn, sMx]; done) | (simp only [kg50.fa 2 rfl, q43, sMn, sMx]; rfl))), (show ag50 3 = ((cMend (i 64) x1 x2 x3 (a 2, a 3, a 4, a 5, i 70, i 71, i 72) (a 90, a 91, a 92, a 93, i 5700, i 5701)).2.1).2.1 from (by unfold cMend; simp only [if_pos bw57, if_neg bw58]; first | done | rfl | (simp only [kg50.fa 3 rfl, q44, sMn, sMx]; done) | (simp only [kg50.fa 3 rfl, q44, sMn, sMx]; rfl))), (show ag50 4 = ((cMend (i 64) x1 x2 x3 (a 2, a 3, a 4, a 5, i 70, i 71, i 72) (a 90, a 91, a 92, a 93, i 5700, i 5701)).2.1).2.2.1 from (by unfold cMend; simp only [if_pos bw57, if_neg bw58]; first | done | rfl | (simp only [kg50.fa 4 rfl, q45, sMn, sMx]; done) | (simp only [kg50.fa 4 rfl, q45, sMn, sMx]; rfl))), (show ag50 5 = ((cMend (i 64) x1 x2 x3 (a 2, a 3, a 4, a 5, i 70, i 71, i 72) (a 90, a 91, a 92, a 93, i 5700, i 5701)).2.1).2.2.2.1 from (by unfold cMend; simp only [if_pos bw57, if_neg bw58]; first | done | rfl | (simp only [kg50.fa 5 rfl, q46, sMn, sMx]; done) | (simp only [kg50.fa 5 rfl, q46, sMn, sMx]; rfl))), (show ig50 70 = ((cMend (i 64) x1 x2 x3 (a 2, a 3, a 4, a 5, i 70, i 71, i 72) (a 90, a 91, a 92, a 93, i 5700, i 5701)).2.1).2.2.2.2.1 from (by unfold cMend; simp only [if_pos bw57, if_neg bw58]; first | done | rfl | (simp only [(show ig50 70 = ig42 70 from kg50.fi 70 rfl), q47, sMn, sMx]; done) | (simp only [(show ig50 70 = ig42 70 from kg50.fi 70 rfl), q47, sMn, sMx]; rfl))), (show ig50 71 = ((cMend (i 64) x1 x2 x3 (a 2, a 3, a 4, a 5, i 70, i 71, i 72) (a 90, a 91, a 92, a 93, i 5700, i 5701)).2.1).2.2.2.2.2.1 from (by unfold cMend; simp only [if_pos bw57, if_neg bw58]; first | done | rfl | (simp only [(show ig50 71 = ig42 71 from kg50.fi 71 rfl), q48, sMn, sMx]; done) | (simp only [(show ig50 71 = ig42 71 from kg50.fi 71 rfl), q48, sMn, sMx]; rfl))), (show ig50 72 = ((cMend (i 64) x1 x2 x3 (a 2, a 3, a 4, a 5, i 70, i 71, i 72) (a 90, a 91, a 92, a 93, i 5700, i 5701)).2.1).2.2.2.2.2.2 from (by unfold cMend; simp only [if_pos bw57, if_neg bw58]; first | done | rfl | (simp only [(show ig50 72 = ig42 72 from kg50.fi 72 rfl), q49, sMn, sMx]; done) | (simp only [(show ig50 72 = ig42 72 from kg50.fi 72 rfl), q49, sMn, sMx]; rfl))), (show ag50 90 = ((cMend (i 64) x1 x2 x3 (a 2, a 3, a 4, a 5, i 70, i 71, i 72) (a 90, a 91, a 92, a 93, i 5700, i 5701)).2.2).1 from (by unfold cMend; simp only [if_pos bw57, if_neg bw58]; first | done | rfl | (simp only [q51, q36, kg42.fa 90 rfl, kg42.fa 91 rfl, kg42.fa 92 rfl, kg42.fa 93 rfl, (show ig42 5700 = i 5700 from kg42.fi 5700 rfl), (show ig42 5701 = i 5701 from kg42.fi 5701 rfl), sMn, sMx]; done) | (simp only [q51, q36, kg42.fa 90 rfl, kg42.fa 91 rfl, kg42.fa 92 rfl, kg42.fa 93 rfl, (show ig42 5700 = i 5700 from kg42.fi 5700 rfl), (show ig42 5701 = i 5701 from kg42.fi 5701 rfl), sMn, sMx]; rfl))), (show ag50 91 = ((cMend (i 64) x1 x2 x3 (a 2, a 3, a 4, a 5, i 70, i 71, i 72) (a 90, a 91, a 92, a 93, i 5700, i 5701)).2.2).2.1 from (by unfold cMend; simp only [if_pos bw57, if_neg bw58]; first | done | rfl | (simp only [q52, q36, kg42.fa 90 rfl, kg42.fa 91 rfl, kg42.fa 92 rfl, kg42.fa 93 rfl, (show ig42 5700 = i 5700 from kg42.fi 5700 rfl), (show ig42 5701 = i 5701 from kg42.fi 5701 rfl), sMn, sMx]; done) | (simp only [q52, q36, kg42.fa 90 rfl, kg42.fa 91 rfl, kg42.fa 92 rfl, kg42.fa 93 rfl, (show ig42 5700 = i 5700 from kg42.fi 5700 rfl), (show ig42 5701 = i 5701 from kg42.fi 5701 rfl), sMn, sMx]; rfl))), (show ag50 92 = ((cMend (i 64) x1 x2 x3 (a 2, a 3, a 4, a 5, i 70, i 71, i 72) (a 90, a 91, a 92, a 93, i 5700, i 5701)).2.2).2.2.1 from (by unfold cMend; simp only [if_pos bw57, if_neg bw58]; first | done | rfl | (simp only [q53, q36, kg42.fa 90 rfl, kg42.fa 91 rfl, kg42.fa 92 rfl, kg42.fa 93 rfl, (show ig42 5700 = i 5700 from kg42.fi 5700 rfl), (show ig42 5701 = i 5701 from kg42.fi 5701 rfl), sMn, sMx]; done) | (simp only [q53, q36, kg42.fa 90 rfl, kg42.fa 91 rfl, kg42.fa 92 rfl, kg42.fa 93 rfl, (show ig42 5700 = i 5700 from kg42.fi 5700 rfl), (show ig42 5701 = i 5701 from kg42.fi 5701 rfl), sMn, sMx]; rfl))), (show ag50 93 = ((cMend (i 64) x1 x2 x3 (a 2, a 3, a 4, a 5, i 70, i 71, i 72) (a 90, a 91, a 92, a 93, i 5700, i 5701)).2.2).2.2.2.1 from (by unfold cMend; simp only [if_pos bw57, if_neg bw58]; first | done | rfl | (simp only [q54, q36, kg42.fa 90 rfl, kg42.fa 91 rfl, kg42.fa 92 rfl, kg42.fa 93 rfl, (show ig42 5700 = i 5700 from kg42.fi 5700 rfl), (show ig42 5701 = i 5701 from kg42.fi 5701 rfl), sMn, sMx]; done) | (simp only [q54, q36, kg42.fa 90 rfl, kg42.fa 91 rfl, kg42.fa 92 rfl, kg42.fa 93 rfl, (show ig42 5700 = i 5700 from kg42.fi 5700 rfl), (show ig42 5701 = i 5701 from kg42.fi 5701 rfl), sMn, sMx]; rfl))), (show ig50 5700 = ((cMend (i 64) x1 x2 x3 (a 2, a 3, a 4, a 5, i 70, i 71, i 72) (a 90, a 91, a 92, a 93, i 5700, i 5701)).2.2).2.2.2.2.1 from (by unfold cMend; simp only [if_pos bw57, if_neg bw58]; first | done | rfl | (simp only [q55, q36, kg42.fa 90 rfl, kg42.fa 91 rfl, kg42.fa 92 rfl, kg42.fa 93 rfl, (show ig42 5700 = i 5700 from kg42.fi 5700 rfl), (show ig42 5701 = i 5701 from kg42.fi 5701 rfl), sMn, sMx]; done) | (simp only [q55, q36, kg42.fa 90 rfl, kg42.fa 91 rfl, kg42.fa 92 rfl, kg42.fa 93 rfl, (show ig42 5700 = i 5700 from kg42.fi 5700 rfl), (show ig42 5701 = i 5701 from kg42.fi 5701 rfl), sMn, sMx]; rfl))), (show ig50 5701 = ((cMend (i 64) x1 x2 x3 (a 2, a 3, a 4, a 5, i 70, i 71, i 72) (a 90, a 91, a 92, a 93, i 5700, i 5701)).2.2).2.2.2.2.2 from (by unfold cMend; simp only [if_pos bw57, if_neg bw58]; first | done | rfl | (simp only [q56, q36, kg42.fa 90 rfl, kg42.fa 91 rfl, kg42.fa 92 rfl, kg42.fa 93 rfl, (show ig42 5700 = i 5700 from kg42.fi 5700 rfl), (show ig42 5701 = i 5701 from kg42.fi 5701 rfl), sMn, sMx]; done) | (simp only [q56, q36, kg42.fa 90 rfl, kg42.fa 91 rfl, kg42.fa 92 rfl, kg42.fa 93 rfl, (show ig42 5700 = i 5700 from kg42.fi 5700 rfl), (show ig42 5701 = i 5701 from kg42.fi 5701 rfl), sMn, sMx]; rfl)))⟩⟩)
      ·
        subst eg33
        have z59 : ¬ (((0 : Int) ≤ x3.toInt) ∧ (x3.toInt ≤ 9)) := hg33
        first | refine fo_goS mi_k83 fz83_6_2_18 [.int (-1)] (by rfl) ?_ | refine fo_goS mi_k83 fz83_14_2_18 [.int (-1)] (by rfl) ?_ | refine ft_go mi_k83 2 18 [(0, .ref 0), (1, .int x1), (2, .int x2), (3, .int x3)] [.int (-1)] i a q r (by rfl) ?_
        have bw60 : ¬ (kTold (i 64) x1 x2 ∧ kFit x2 x3) := (fun z => absurd ((kFit_1 (ou12 w32)).mp z.2) (ou94 z59))
        exact ft_ret mi_k83 (by rfl) (hP (-1) _ _ _ _ hG ⟨trivial, ⟨(show ((-1) : Int32) = (cMend (i 64) x1 x2 x3 (a 2, a 3, a 4, a 5, i 70, i 71, i 72) (a 90, a 91, a 92, a 93, i 5700, i 5701)).1 from (by unfold cMend; simp only [if_neg bw60]; first | done | rfl | (simp only [sMn, sMx]; done) | (simp only [sMn, sMx]; rfl))), (show a 2 = ((cMend (i 64) x1 x2 x3 (a 2, a 3, a 4, a 5, i 70, i 71, i 72) (a 90, a 91, a 92, a 93, i 5700, i 5701)).2.1).1 from (by unfold cMend; simp only [if_neg bw60]; first | done | rfl | (simp only [sMn, sMx]; done) | (simp only [sMn, sMx]; rfl))), (show a 3 = ((cMend (i 64) x1 x2 x3 (a 2, a 3, a 4, a 5, i 70, i 71, i 72) (a 90, a 91, a 92, a 93, i 5700, i 5701)).2.1).2.1 from (by unfold cMend; simp only [if_neg bw60]; first | done | rfl | (simp only [sMn, sMx]; done) | (simp only [sMn, sMx]; rfl))), (show a 4 = ((cMend (i 64) x1 x2 x3 (a 2, a 3, a 4, a 5, i 70, i 71, i 72) (a 90, a 91, a 92, a 93, i 5700, i 5701)).2.1).2.2.1 from (by unfold cMend; simp only [if_neg bw60]; first | done | rfl | (simp only [sMn, sMx]; done) | (simp only [sMn, sMx]; rfl))), (show a 5 = ((cMend (i 64) x1 x2 x3 (a 2, a 3, a 4, a 5, i 70, i 71, i 72) (a 90, a 91, a 92, a 93, i 5700, i 5701)).2.1).2.2.2.1 from (by unfold cMend; simp only [if_neg bw60]; first | done | rfl | (simp only [sMn, sMx]; done) | (simp only [sMn, sMx]; rfl))), (show i 70 = ((cMend (i 64) x1 x2 x3 (a 2, a 3, a 4, a 5, i 70, i 71, i 72) (a 90, a 91, a 92, a 93, i 5700, i 5701)).2.1).2.2.2.2.1 from (by unfold cMend; simp only [if_neg bw60]; first | done | rfl | (simp only [sMn, sMx]; done) | (simp only [sMn, sMx]; rfl))), (show i 71 = ((cMend (i 64) x1 x2 x3 (a 2, a 3, a 4, a 5, i 70, i 71, i 72) (a 90, a 91, a 92, a 93, i 5700, i 5701)).2.1).2.2.2.2.2.1 from (by unfold cMend; simp only [if_neg bw60]; first | done | rfl | (simp only [sMn, sMx]; done) | (simp only [sMn, sMx]; rfl))), (show i 72 = ((cMend (i 64) x1 x2 x3 (a 2, a 3, a 4, a 5, i 70, i 71, i 72) (a 90, a 91, a 92, a 93, i 5700, i 5701)).2.1).2.2.2.2.2.2 from (by unfold cMend; simp only [if_neg bw60]; first | done | rfl | (simp only [sMn, sMx]; done) | (simp only [sMn, sMx]; rfl))), (show a 90 = ((cMend (i 64) x1 x2 x3 (a 2, a 3, a 4, a 5, i 70, i 71, i 72) (a 90, a 91, a 92, a 93, i 5700, i 5701)).2.2).1 from (by unfold cMend; simp only [if_neg bw60]; first | done | rfl | (simp only [sMn, sMx]; done) | (simp only [sMn, sMx]; rfl))), (show a 91 = ((cMend (i 64) x1 x2 x3 (a 2, a 3, a 4, a 5, i 70, i 71, i 72) (a 90, a 91, a 92, a 93, i 5700, i 5701)).2.2).2.1 from (by unfold cMend; simp only [if_neg bw60]; first | done | rfl | (simp only [sMn, sMx]; done) | (simp only [sMn, sMx]; rfl))), (show a 92 = ((cMend (i 64) x1 x2 x3 (a 2, a 3, a 4, a 5, i 70, i 71, i 72) (a 90, a 91, a 92, a 93, i 5700, i 5701)).2.2).2.2.1 from (by unfold cMend; simp only [if_neg bw60]; first | done | rfl | (simp only [sMn, sMx]; done) | (simp only [sMn, sMx]; rfl))), (show a 93 = ((cMend (i 64) x1 x2 x3 (a 2, a 3, a 4, a 5, i 70, i 71, i 72) (a 90, a 91, a 92, a 93, i 5700, i 5701)).2.2).2.2.2.1 from (by unfold cMend; simp only [if_neg bw60]; first | done | rfl | (simp only [sMn, sMx]; done) | (simp only [sMn, sMx]; rfl))), (show i 5700 = ((cMend (i 64) x1 x2 x3 (a 2, a 3, a 4, a 5, i 70, i 71, i 72) (a 90, a 91, a 92, a 93, i 5700, i 5701)).2.2).2.2.2.2.1 from (by unfold cMend; simp only [if_neg bw60]; first | done | rfl | (simp only [sMn, sMx]; done) | (simp only [sMn, sMx]; rfl))), (show i 5701 = ((cMend (i 64) x1 x2 x3 (a 2, a 3, a 4, a 5, i 70, i 71, i 72) (a 90, a 91, a 92, a 93, i 5700, i 5701)).2.2).2.2.2.2.2 from (by unfold cMend; simp only [if_neg bw60]; first | done | rfl | (simp only [sMn, sMx]; done) | (simp only [sMn, sMx]; rfl)))⟩⟩)
    by_cases w61 : x2.toInt = 2
    ·
      refine ko_eq (x1 := (11, [(0, .ref 0), (1, .int x1), (2, .int x2), (3, .int x3)], [.int x3, .int 2], (0, 0), ks i a q r)) (by rw [(kj_eq w61 (by decide) : x2 = 2)]) ?_
      refine ko_callPI mi_k83.1 (pc := 11) (ls := [(0, .ref 0), (1, .int x1), (2, .int x2), (3, .int x3)]) (st := [.int x3, .int 2]) (h := ks i a q r) (i := (.invokestatic 58, 3, 126, 0, 9, 0, 151)) (mi_k83.2 _ _ (by rfl)) (ft_invS mi_pq126 (by rfl)) (cy := mi_c126) mi_pq126 rfl (ke126_l02 hG.I hG.R x3) (by decide) ?_
      intro vg62 hg62
      rcases hg62 with ⟨eg62, hg62⟩ | ⟨eg62, hg62⟩
      ·
        subst eg62
        have z63 : ((0 : Int) ≤ x3.toInt) ∧ (x3.toInt ≤ 9) := hg62
        first | refine fo_goS mi_k83 fz83_14_5_25 [.int x2, .int x1, .ref 1] (by rfl) ?_ | refine ft_go mi_k83 5 25 [(0, .ref 0), (1, .int x1), (2, .int x2), (3, .int x3)] [.int x2, .int x1, .ref 1] i a q r (by rfl) ?_
        refine ko_callPI mi_k83.1 (pc := 25) (ls := [(0, .ref 0), (1, .int x1), (2, .int x2), (3, .int x3)]) (st := [.int x2, .int x1, .ref 1]) (h := ks i a q r) (i := (.invokevirtual 98, 3, 27, 0, 9, 0, 164)) (mi_k83.2 _ _ (by rfl)) (ft_invS mi_pq27 (by rfl)) (cy := mi_c27) mi_pq27 rfl (ke27_1 hG.I hG.R x1 x2) (by decide) ?_
        intro vg64 hg64
        obtain ⟨hg64, og64⟩ := hg64
        have q65 : vg64 = cGet (i 64) x1 x2 (a 2, a 3, a 4, a 5, i 70, i 71, i 72) := og64
        have u66 : vg64.toInt = (cGet (i 64) x1 x2 (a 2, a 3, a 4, a 5, i 70, i 71, i 72)).toInt := congrArg Int32.toInt q65
        first | refine fo_goL mi_k83 fz83_28_3_33 [(4, .int vg64), (0, .ref 0), (1, .int x1), (2, .int x2), (3, .int x3)] [.int x3, .int vg64] (by rfl) ?_ | refine ft_go mi_k83 3 33 [(4, .int vg64), (0, .ref 0), (1, .int x1), (2, .int x2), (3, .int x3)] [.int x3, .int vg64] i a q r (by rfl) ?_
        refine ft_ifS mi_k83 (vg64 == x3) 58 36 [] (by rfl) (fun c => ?_) (fun c => ?_)
        ·
          have c67 : vg64.toInt = x3.toInt := kd_eq c; clear c
          first | refine fo_goS mi_k83 fz83_58_1_60 [.int vg64] (by rfl) ?_ | refine ft_go mi_k83 1 60 [(4, .int vg64), (0, .ref 0), (1, .int x1), (2, .int x2), (3, .int x3)] [.int vg64] i a q r (by rfl) ?_
          have bw68 : (kTold (i 64) x1 x2 ∧ kFit x2 x3) := ⟨(ou98 w61 z2), (kFit_2 (ou13 w61)).mpr (ou93 z63.1 z63.2)⟩
          have bw69 : (cGet (i 64) x1 x2 (a 2, a 3, a 4, a 5, i 70, i 71, i 72)).toInt = x3.toInt := (ou85 c67 u66)
          exact ft_ret mi_k83 (by rfl) (hP vg64 _ _ _ _ hG ⟨trivial, ⟨(show vg64 = (cMend (i 64) x1 x2 x3 (a 2, a 3, a 4, a 5, i 70, i 71, i 72) (a 90, a 91, a 92, a 93, i 5700, i 5701)).1 from (by unfold cMend; simp only [if_pos bw68, if_pos bw69]; first | done | rfl | (simp only [q65, sMn, sMx]; done) | (simp only [q65, sMn, sMx]; rfl))), (show a 2 = ((cMend (i 64) x1 x2 x3 (a 2, a 3, a 4, a 5, i 70, i 71, i 72) (a 90, a 91, a 92, a 93, i 5700, i 5701)).2.1).1 from (by unfold cMend; simp only [if_pos bw68, if_pos bw69]; first | done | rfl | (simp only [sMn, sMx]; done) | (simp only [sMn, sMx]; rfl))), (show a 3 = ((cMend (i 64) x1 x2 x3 (a 2, a 3, a 4, a 5, i 70, i 71, i 72) (a 90, a 91, a 92, a 93, i 5700, i 5701)).2.1).2.1 from (by unfold cMend; simp only [if_pos bw68, if_pos bw69]; first | done | rfl | (simp only [sMn, sMx]; done) | (simp only [sMn, sMx]; rfl))), (show a 4 = ((cMend (i 64) x1 x2 x3 (a 2, a 3, a 4, a 5, i 70, i 71, i 72) (a 90, a 91, a 92, a 93, i 5700, i 5701)).2.1).2.2.1 from (by unfold cMend; simp only [if_pos bw68, if_pos bw69]; first | done | rfl | (simp only [sMn, sMx]; done) | (simp only [sMn, sMx]; rfl))), (show a 5 = ((cMend (i 64) x1 x2 x3 (a 2, a 3, a 4, a 5, i 70, i 71, i 72) (a 90, a 91, a 92, a 93, i 5700, i 5701)).2.1).2.2.2.1 from (by unfold cMend; simp only [if_pos bw68, if_pos bw69]; first | done | rfl | (simp only [sMn, sMx]; done) | (simp only [sMn, sMx]; rfl))), (show i 70 = ((cMend (i 64) x1 x2 x3 (a 2, a 3, a 4, a 5, i 70, i 71, i 72) (a 90, a 91, a 92, a 93, i 5700, i 5701)).2.1).2.2.2.2.1 from (by unfold cMend; simp only [if_pos bw68, if_pos bw69]; first | done | rfl | (simp only [sMn, sMx]; done) | (simp only [sMn, sMx]; rfl))), (show i 71 = ((cMend (i 64) x1 x2 x3 (a 2, a 3, a 4, a 5, i 70, i 71, i 72) (a 90, a 91, a 92, a 93, i 5700, i 5701)).2.1).2.2.2.2.2.1 from (by unfold cMend; simp only [if_pos bw68, if_pos bw69]; first | done | rfl | (simp only [sMn, sMx]; done) | (simp only [sMn, sMx]; rfl))), (show i 72 = ((cMend (i 64) x1 x2 x3 (a 2, a 3, a 4, a 5, i 70, i 71, i 72) (a 90, a 91, a 92, a 93, i 5700, i 5701)).2.1).2.2.2.2.2.2 from (by unfold cMend; simp only [if_pos bw68, if_pos bw69]; first | done | rfl | (simp only [sMn, sMx]; done) | (simp only [sMn, sMx]; rfl))), (show a 90 = ((cMend (i 64) x1 x2 x3 (a 2, a 3, a 4, a 5, i 70, i 71, i 72) (a 90, a 91, a 92, a 93, i 5700, i 5701)).2.2).1 from (by unfold cMend; simp only [if_pos bw68, if_pos bw69]; first | done | rfl | (simp only [sMn, sMx]; done) | (simp only [sMn, sMx]; rfl))), (show a 91 = ((cMend (i 64) x1 x2 x3 (a 2, a 3, a 4, a 5, i 70, i 71, i 72) (a 90, a 91, a 92, a 93, i 5700, i 5701)).2.2).2.1 from (by unfold cMend; simp only [if_pos bw68, if_pos bw69]; first | done | rfl | (simp only [sMn, sMx]; done) | (simp only [sMn, sMx]; rfl))), (show a 92 = ((cMend (i 64) x1 x2 x3 (a 2, a 3, a 4, a 5, i 70, i 71, i 72) (a 90, a 91, a 92, a 93, i 5700, i 5701)).2.2).2.2.1 from (by unfold cMend; simp only [if_pos bw68, if_pos bw69]; first | done | rfl | (simp only [sMn, sMx]; done) | (simp only [sMn, sMx]; rfl))), (show a 93 = ((cMend (i 64) x1 x2 x3 (a 2, a 3, a 4, a 5, i 70, i 71, i 72) (a 90, a 91, a 92, a 93, i 5700, i 5701)).2.2).2.2.2.1 from (by unfold cMend; simp only [if_pos bw68, if_pos bw69]; first | done | rfl | (simp only [sMn, sMx]; done) | (simp only [sMn, sMx]; rfl))), (show i 5700 = ((cMend (i 64) x1 x2 x3 (a 2, a 3, a 4, a 5, i 70, i 71, i 72) (a 90, a 91, a 92, a 93, i 5700, i 5701)).2.2).2.2.2.2.1 from (by unfold cMend; simp only [if_pos bw68, if_pos bw69]; first | done | rfl | (simp only [sMn, sMx]; done) | (simp only [sMn, sMx]; rfl))), (show i 5701 = ((cMend (i 64) x1 x2 x3 (a 2, a 3, a 4, a 5, i 70, i 71, i 72) (a 90, a 91, a 92, a 93, i 5700, i 5701)).2.2).2.2.2.2.2 from (by unfold cMend; simp only [if_pos bw68, if_pos bw69]; first | done | rfl | (simp only [sMn, sMx]; done) | (simp only [sMn, sMx]; rfl)))⟩⟩)
        ·
          have c70 : vg64.toInt ≠ x3.toInt := kd_eqF c; clear c
          first | refine fo_goS mi_k83 fz83_36_5_43 [.int x3, .int x2, .int x1, .ref 1] (by rfl) ?_ | refine ft_go mi_k83 5 43 [(4, .int vg64), (0, .ref 0), (1, .int x1), (2, .int x2), (3, .int x3)] [.int x3, .int x2, .int x1, .ref 1] i a q r (by rfl) ?_
          refine ko_callN mi_k83.1 (pc := 43) (ls := [(4, .int vg64), (0, .ref 0), (1, .int x1), (2, .int x2), (3, .int x3)]) (st := [.int x3, .int x2, .int x1, .ref 1]) (h := ks i a q r) (i := (.invokevirtual 102, 3, 28, 0, 9, 0, 167)) (mi_k83.2 _ _ (by rfl)) (ft_invS mi_pq28 (by rfl)) (cy := mi_c28) mi_pq28 rfl (ke28_1 hG.I hG.R x1 x2 x3) (by decide) ?_
          intro ig71 ag71 qg71 rg71 kg71 hg71
          have hGg71 := kG_call hG kg71 (by decide +kernel)
          obtain ⟨hg71, og71⟩ := hg71
          have q72 : ag71 2 = (cSet (i 64) x1 x2 x3 (a 2, a 3, a 4, a 5, i 70, i 71, i 72)).1 := og71.1
          have q73 : ag71 3 = (cSet (i 64) x1 x2 x3 (a 2, a 3, a 4, a 5, i 70, i 71, i 72)).2.1 := og71.2.1
          have q74 : ag71 4 = (cSet (i 64) x1 x2 x3 (a 2, a 3, a 4, a 5, i 70, i 71, i 72)).2.2.1 := og71.2.2.1
          have q75 : ag71 5 = (cSet (i 64) x1 x2 x3 (a 2, a 3, a 4, a 5, i 70, i 71, i 72)).2.2.2.1 := og71.2.2.2.1
          have q76 : ig71 70 = (cSet (i 64) x1 x2 x3 (a 2, a 3, a 4, a 5, i 70, i 71, i 72)).2.2.2.2.1 := og71.2.2.2.2.1
          have q77 : ig71 71 = (cSet (i 64) x1 x2 x3 (a 2, a 3, a 4, a 5, i 70, i 71, i 72)).2.2.2.2.2.1 := og71.2.2.2.2.2.1
          have q78 : ig71 72 = (cSet (i 64) x1 x2 x3 (a 2, a 3, a 4, a 5, i 70, i 71, i 72)).2.2.2.2.2.2 := og71.2.2.2.2.2.2
          first | refine fo_goS mi_k83 fz83_46_6_55 [.int x3, .int vg64, .int x2, .int x1, .ref 89] (by rfl) ?_ | refine ft_go mi_k83 6 55 [(4, .int vg64), (0, .ref 0), (1, .int x1), (2, .int x2), (3, .int x3)] [.int x3, .int vg64, .int x2, .int x1, .ref 89] ig71 ag71 qg71 rg71 (by rfl) ?_
          refine ko_callN mi_k83.1 (pc := 55) (ls := [(4, .int vg64), (0, .ref 0), (1, .int x1), (2, .int x2), (3, .int x3)]) (st := [.int x3, .int vg64, .int x2, .int x1, .ref 89]) (h := ks ig71 ag71 qg71 rg71) (i := (.invokevirtual 106, 3, 5, 0, 9, 0, 168)) (mi_k83.2 _ _ (by rfl)) (ft_invS mi_pq5 (by rfl)) (cy := mi_c5) mi_pq5 rfl (ke5_89 hGg71.I hGg71.R x1 x2 vg64 x3) (by decide) ?_
          intro ig79 ag79 qg79 rg79 kg79 hg79
          have hGg79 := kG_call hGg71 kg79 (by decide +kernel)
          obtain ⟨hg79, og79⟩ := hg79
          have q80 : ag79 90 = (nAdd x1 x2 vg64 x3 (ag71 90, ag71 91, ag71 92, ag71 93, ig71 5700, ig71 5701)).1 := og79.1
          have q81 : ag79 91 = (nAdd x1 x2 vg64 x3 (ag71 90, ag71 91, ag71 92, ag71 93, ig71 5700, ig71 5701)).2.1 := og79.2.1
          have q82 : ag79 92 = (nAdd x1 x2 vg64 x3 (ag71 90, ag71 91, ag71 92, ag71 93, ig71 5700, ig71 5701)).2.2.1 := og79.2.2.1
          have q83 : ag79 93 = (nAdd x1 x2 vg64 x3 (ag71 90, ag71 91, ag71 92, ag71 93, ig71 5700, ig71 5701)).2.2.2.1 := og79.2.2.2.1
          have q84 : ig79 5700 = (nAdd x1 x2 vg64 x3 (ag71 90, ag71 91, ag71 92, ag71 93, ig71 5700, ig71 5701)).2.2.2.2.1 := og79.2.2.2.2.1
          have q85 : ig79 5701 = (nAdd x1 x2 vg64 x3 (ag71 90, ag71 91, ag71 92, ag71 93, ig71 5700, ig71 5701)).2.2.2.2.2 := og79.2.2.2.2.2
          first | refine fo_goS mi_k83 fz83_58_1_60 [.int vg64] (by rfl) ?_ | refine ft_go mi_k83 1 60 [(4, .int vg64), (0, .ref 0), (1, .int x1), (2, .int x2), (3, .int x3)] [.int vg64] ig79 ag79 qg79 rg79 (by rfl) ?_
          have bw86 : (kTold (i 64) x1 x2 ∧ kFit x2 x3) := ⟨(ou98 w61 z2), (kFit_2 (ou13 w61)).mpr (ou93 z63.1 z63.2)⟩
          have bw87 : ¬ ((cGet (i 64) x1 x2 (a 2, a 3, a 4, a 5, i 70, i 71, i 72)).toInt = x3.toInt) := (ou86 c70 u66)
          exact ft_ret mi_k83 (by rfl) (hP vg64 _ _ _ _ hGg79 ⟨trivial, ⟨(show vg64 = (cMend (i 64) x1 x2 x3 (a 2, a 3, a 4, a 5, i 70, i 71, i 72) (a 90, a 91, a 92, a 93, i 5700, i 5701)).1 from (by unfold cMend; simp only [if_pos bw86, if_neg bw87]; first | done | rfl | (simp only [q65, sMn, sMx]; done) | (simp only [q65, sMn, sMx]; rfl))), (show ag79 2 = ((cMend (i 64) x1 x2 x3 (a 2, a 3, a 4, a 5, i 70, i 71, i 72) (a 90, a 91, a 92, a 93, i 5700, i 5701)).2.1).1 from (by unfold cMend; simp only [if_pos bw86, if_neg bw87]; first | done | rfl | (simp only [kg79.fa 2 rfl, q72, sMn, sMx]; done) | (simp only [kg79.fa 2 rfl, q72, sMn, sMx]; rfl))), (show ag79 3 = ((cMend (i 64) x1 x2 x3 (a 2, a 3, a 4, a 5, i 70, i 71, i 72) (a 90, a 91, a 92, a 93, i 5700, i 5701)).2.1).2.1 from (by unfold cMend; simp only [if_pos bw86, if_neg bw87]; first | done | rfl | (simp only [kg79.fa 3 rfl, q73, sMn, sMx]; done) | (simp only [kg79.fa 3 rfl, q73, sMn, sMx]; rfl))), (show ag79 4 = ((cMend (i 64) x1 x2 x3 (a 2, a 3, a 4, a 5, i 70, i 71, i 72) (a 90, a 91, a 92, a 93, i 5700, i 5701)).2.1).2.2.1 from (by unfold cMend; simp only [if_pos bw86, if_neg bw87]; first | done | rfl | (simp only [kg79.fa 4 rfl, q74, sMn, sMx]; done) | (simp only [kg79.fa 4 rfl, q74, sMn, sMx]; rfl))), (show ag79 5 = ((cMend (i 64) x1 x2 x3 (a 2, a 3, a 4, a 5, i 70, i 71, i 72) (a 90, a 91, a 92, a 93, i 5700, i 5701)).2.1).2.2.2.1 from (by unfold cMend; simp only [if_pos bw86, if_neg bw87]; first | done | rfl | (simp only [kg79.fa 5 rfl, q75, sMn, sMx]; done) | (simp only [kg79.fa 5 rfl, q75, sMn, sMx]; rfl))), (show ig79 70 = ((cMend (i 64) x1 x2 x3 (a 2, a 3, a 4, a 5, i 70, i 71, i 72) (a 90, a 91, a 92, a 93, i 5700, i 5701)).2.1).2.2.2.2.1 from (by unfold cMend; simp only [if_pos bw86, if_neg bw87]; first | done | rfl | (simp only [(show ig79 70 = ig71 70 from kg79.fi 70 rfl), q76, sMn, sMx]; done) | (simp only [(show ig79 70 = ig71 70 from kg79.fi 70 rfl), q76, sMn, sMx]; rfl))), (show ig79 71 = ((cMend (i 64) x1 x2 x3 (a 2, a 3, a 4, a 5, i 70, i 71, i 72) (a 90, a 91, a 92, a 93, i 5700, i 5701)).2.1).2.2.2.2.2.1 from (by unfold cMend; simp only [if_pos bw86, if_neg bw87]; first | done | rfl | (simp only [(show ig79 71 = ig71 71 from kg79.fi 71 rfl), q77, sMn, sMx]; done) | (simp only [(show ig79 71 = ig71 71 from kg79.fi 71 rfl), q77, sMn, sMx]; rfl))), (show ig79 72 = ((cMend (i 64) x1 x2 x3 (a 2, a 3, a 4, a 5, i 70, i 71, i 72) (a 90, a 91, a 92, a 93, i 5700, i 5701)).2.1).2.2.2.2.2.2 from (by unfold cMend; simp only [if_pos bw86, if_neg bw87]; first | done | rfl | (simp only [(show ig79 72 = ig71 72 from kg79.fi 72 rfl), q78, sMn, sMx]; done) | (simp only [(show ig79 72 = ig71 72 from kg79.fi 72 rfl), q78, sMn, sMx]; rfl))), (show ag79 90 = ((cMend (i 64) x1 x2 x3 (a 2, a 3, a 4, a 5, i 70, i 71, i 72) (a 90, a 91, a 92, a 93, i 5700, i 5701)).2.2).1 from (by unfold cMend; simp only [if_pos bw86, if_neg bw87]; first | done | rfl | (simp only [q80, q65, kg71.fa 90 rfl, kg71.fa 91 rfl, kg71.fa 92 rfl, kg71.fa 93 rfl, (show ig71 5700 = i 5700 from kg71.fi 5700 rfl), (show ig71 5701 = i 5701 from kg71.fi 5701 rfl), sMn, sMx]; done) | (simp only [q80, q65, kg71.fa 90 rfl, kg71.fa 91 rfl, kg71.fa 92 rfl, kg71.fa 93 rfl, (show ig71 5700 = i 5700 from kg71.fi 5700 rfl), (show ig71 5701 = i 5701 from kg71.fi 5701 rfl), sMn, sMx]; rfl))), (show ag79 91 = ((cMend (i 64) x1 x2 x3 (a 2, a 3, a 4, a 5, i 70, i 71, i 72) (a 90, a 91, a 92, a 93, i 5700, i 5701)).2.2).2.1 from (by unfold cMend; simp only [if_pos bw86, if_neg bw87]; first | done | rfl | (simp only [q81, q65, kg71.fa 90 rfl, kg71.fa 91 rfl, kg71.fa 92 rfl, kg71.fa 93 rfl, (show ig71 5700 = i 5700 from kg71.fi 5700 rfl), (show ig71 5701 = i 5701 from kg71.fi 5701 rfl), sMn, sMx]; done) | (simp only [q81, q65, kg71.fa 90 rfl, kg71.fa 91 rfl, kg71.fa 92 rfl, kg71.fa 93 rfl, (show ig71 5700 = i 5700 from kg71.fi 5700 rfl), (show ig71 5701 = i 5701 from kg71.fi 5701 rfl), sMn, sMx]; rfl))), (show ag79 92 = ((cMend (i 64) x1 x2 x3 (a 2, a 3, a 4, a 5, i 70, i 71, i 72) (a 90, a 91, a 92, a 93, i 5700, i 5701)).2.2).2.2.1 from (by unfold cMend; simp only [if_pos bw86, if_neg bw87]; first | done | rfl | (simp only [q82, q65, kg71.fa 90 rfl, kg71.fa 91 rfl, kg71.fa 92 rfl, kg71.fa 93 rfl, (show ig71 5700 = i 5700 from kg71.fi 5700 rfl), (show ig71 5701 = i 5701 from kg71.fi 5701 rfl), sMn, sMx]; done) | (simp only [q82, q65, kg71.fa 90 rfl, kg71.fa 91 rfl, kg71.fa 92 rfl, kg71.fa 93 rfl, (show ig71 5700 = i 5700 from kg71.fi 5700 rfl), (show ig71 5701 = i 5701 from kg71.fi 5701 rfl), sMn, sMx]; rfl))), (show ag79 93 = ((cMend (i 64) x1 x2 x3 (a 2, a 3, a 4, a 5, i 70, i 71, i 72) (a 90, a 91, a 92, a 93, i 5700, i 5701)).2.2).2.2.2.1 from (by unfold cMend; simp only [if_pos bw86, if_neg bw87]; first | done | rfl | (simp only [q83, q65, kg71.fa 90 rfl, kg71.fa 91 rfl, kg71.fa 92 rfl, kg71.fa 93 rfl, (show ig71 5700 = i 5700 from kg71.fi 5700 rfl), (show ig71 5701 = i 5701 from kg71.fi 5701 rfl), sMn, sMx]; done) | (simp only [q83, q65, kg71.fa 90 rfl, kg71.fa 91 rfl, kg71.fa 92 rfl, kg71.fa 93 rfl, (show ig71 5700 = i 5700 from kg71.fi 5700 rfl), (show ig71 5701 = i 5701 from kg71.fi 5701 rfl), sMn, sMx]; rfl))), (show ig79 5700 = ((cMend (i 64) x1 x2 x3 (a 2, a 3, a 4, a 5, i 70, i 71, i 72) (a 90, a 91, a 92, a 93, i 5700, i 5701)).2.2).2.2.2.2.1 from (by unfold cMend; simp only [if_pos bw86, if_neg bw87]; first | done | rfl | (simp only [q84, q65, kg71.fa 90 rfl, kg71.fa 91 rfl, kg71.fa 92 rfl, kg71.fa 93 rfl, (show ig71 5700 = i 5700 from kg71.fi 5700 rfl), (show ig71 5701 = i 5701 from kg71.fi 5701 rfl), sMn, sMx]; done) | (simp only [q84, q65, kg71.fa 90 rfl, kg71.fa 91 rfl, kg71.fa 92 rfl, kg71.fa 93 rfl, (show ig71 5700 = i 5700 from kg71.fi 5700 rfl), (show ig71 5701 = i 5701 from kg71.fi 5701 rfl), sMn, sMx]; rfl))), (show ig79 5701 = ((cMend (i 64) x1 x2 x3 (a 2, a 3, a 4, a 5, i 70, i 71, i 72) (a 90, a 91, a 92, a 93, i 5700, i 5701)).2.2).2.2.2.2.2 from (by unfold cMend; simp only [if_pos bw86, if_neg bw87]; first | done | rfl | (simp only [q85, q65, kg71.fa 90 rfl, kg71.fa 91 rfl, kg71.fa 92 rfl, kg71.fa 93 rfl, (show ig71 5700 = i 5700 from kg71.fi 5700 rfl), (show ig71 5701 = i 5701 from kg71.fi 5701 rfl), sMn, sMx]; done) | (simp only [q85, q65, kg71.fa 90 rfl, kg71.fa 91 rfl, kg71.fa 92 rfl, kg71.fa 93 rfl, (show ig71 5700 = i 5700 from kg71.fi 5700 rfl), (show ig71 5701 = i 5701 from kg71.fi 5701 rfl), sMn, sMx]; rfl)))⟩⟩)
      ·
        subst eg62
        have z88 : ¬ (((0 : Int) ≤ x3.toInt) ∧ (x3.toInt ≤ 9)) := hg62
        first | refine fo_goS mi_k83 fz83_6_2_18 [.int (-1)] (by rfl) ?_ | refine fo_goS mi_k83 fz83_14_2_18 [.int (-1)] (by rfl) ?_ | refine ft_go mi_k83 2 18 [(0, .ref 0), (1, .int x1), (2, .int x2), (3, .int x3)] [.int (-1)] i a q r (by rfl) ?_
        have bw89 : ¬ (kTold (i 64) x1 x2 ∧ kFit x2 x3) := (fun z => absurd ((kFit_2 (ou13 w61)).mp z.2) (ou94 z88))
        exact ft_ret mi_k83 (by rfl) (hP (-1) _ _ _ _ hG ⟨trivial, ⟨(show ((-1) : Int32) = (cMend (i 64) x1 x2 x3 (a 2, a 3, a 4, a 5, i 70, i 71, i 72) (a 90, a 91, a 92, a 93, i 5700, i 5701)).1 from (by unfold cMend; simp only [if_neg bw89]; first | done | rfl | (simp only [sMn, sMx]; done) | (simp only [sMn, sMx]; rfl))), (show a 2 = ((cMend (i 64) x1 x2 x3 (a 2, a 3, a 4, a 5, i 70, i 71, i 72) (a 90, a 91, a 92, a 93, i 5700, i 5701)).2.1).1 from (by unfold cMend; simp only [if_neg bw89]; first | done | rfl | (simp only [sMn, sMx]; done) | (simp only [sMn, sMx]; rfl))), (show a 3 = ((cMend (i 64) x1 x2 x3 (a 2, a 3, a 4, a 5, i 70, i 71, i 72) (a 90, a 91, a 92, a 93, i 5700, i 5701)).2.1).2.1 from (by unfold cMend; simp only [if_neg bw89]; first | done | rfl | (simp only [sMn, sMx]; done) | (simp only [sMn, sMx]; rfl))), (show a 4 = ((cMend (i 64) x1 x2 x3 (a 2, a 3, a 4, a 5, i 70, i 71, i 72) (a 90, a 91, a 92, a 93, i 5700, i 5701)).2.1).2.2.1 from (by unfold cMend; simp only [if_neg bw89]; first | done | rfl | (simp only [sMn, sMx]; done) | (simp only [sMn, sMx]; rfl))), (show a 5 = ((cMend (i 64) x1 x2 x3 (a 2, a 3, a 4, a 5, i 70, i 71, i 72) (a 90, a 91, a 92, a 93, i 5700, i 5701)).2.1).2.2.2.1 from (by unfold cMend; simp only [if_neg bw89]; first | done | rfl | (simp only [sMn, sMx]; done) | (simp only [sMn, sMx]; rfl))), (show i 70 = ((cMend (i 64) x1 x2 x3 (a 2, a 3, a 4, a 5, i 70, i 71, i 72) (a 90, a 91, a 92, a 93, i 5700, i 5701)).2.1).2.2.2.2.1 from (by unfold cMend; simp only [if_neg bw89]; first | done | rfl | (simp only [sMn, sMx]; done) | (simp only [sMn, sMx]; rfl))), (show i 71 = ((cMend (i 64) x1 x2 x3 (a 2, a 3, a 4, a 5, i 70, i 71, i 72) (a 90, a 91, a 92, a 93, i 5700, i 5701)).2.1).2.2.2.2.2.1 from (by unfold cMend; simp only [if_neg bw89]; first | done | rfl | (simp only [sMn, sMx]; done) | (simp only [sMn, sMx]; rfl))), (show i 72 = ((cMend (i 64) x1 x2 x3 (a 2, a 3, a 4, a 5, i 70, i 71, i 72) (a 90, a 91, a 92, a 93, i 5700, i 5701)).2.1).2.2.2.2.2.2 from (by unfold cMend; simp only [if_neg bw89]; first | done | rfl | (simp only [sMn, sMx]; done) | (simp only [sMn, sMx]; rfl))), (show a 90 = ((cMend (i 64) x1 x2 x3 (a 2, a 3, a 4, a 5, i 70, i 71, i 72) (a 90, a 91, a 92, a 93, i 5700, i 5701)).2.2).1 from (by unfold cMend; simp only [if_neg bw89]; first | done | rfl | (simp only [sMn, sMx]; done) | (simp only [sMn, sMx]; rfl))), (show a 91 = ((cMend (i 64) x1 x2 x3 (a 2, a 3, a 4, a 5, i 70, i 71, i 72) (a 90, a 91, a 92, a 93, i 5700, i 5701)).2.2).2.1 from (by unfold cMend; simp only [if_neg bw89]; first | done | rfl | (simp only [sMn, sMx]; done) | (simp only [sMn, sMx]; rfl))), (show a 92 = ((cMend (i 64) x1 x2 x3 (a 2, a 3, a 4, a 5, i 70, i 71, i 72) (a 90, a 91, a 92, a 93, i 5700, i 5701)).2.2).2.2.1 from (by unfold cMend; simp only [if_neg bw89]; first | done | rfl | (simp only [sMn, sMx]; done) | (simp only [sMn, sMx]; rfl))), (show a 93 = ((cMend (i 64) x1 x2 x3 (a 2, a 3, a 4, a 5, i 70, i 71, i 72) (a 90, a 91, a 92, a 93, i 5700, i 5701)).2.2).2.2.2.1 from (by unfold cMend; simp only [if_neg bw89]; first | done | rfl | (simp only [sMn, sMx]; done) | (simp only [sMn, sMx]; rfl))), (show i 5700 = ((cMend (i 64) x1 x2 x3 (a 2, a 3, a 4, a 5, i 70, i 71, i 72) (a 90, a 91, a 92, a 93, i 5700, i 5701)).2.2).2.2.2.2.1 from (by unfold cMend; simp only [if_neg bw89]; first | done | rfl | (simp only [sMn, sMx]; done) | (simp only [sMn, sMx]; rfl))), (show i 5701 = ((cMend (i 64) x1 x2 x3 (a 2, a 3, a 4, a 5, i 70, i 71, i 72) (a 90, a 91, a 92, a 93, i 5700, i 5701)).2.2).2.2.2.2.2 from (by unfold cMend; simp only [if_neg bw89]; first | done | rfl | (simp only [sMn, sMx]; done) | (simp only [sMn, sMx]; rfl)))⟩⟩)
    by_cases w90 : x2.toInt = 3
    ·
      refine ko_eq (x1 := (11, [(0, .ref 0), (1, .int x1), (2, .int x2), (3, .int x3)], [.int x3, .int 3], (0, 0), ks i a q r)) (by rw [(kj_eq w90 (by decide) : x2 = 3)]) ?_
      refine ko_callPI mi_k83.1 (pc := 11) (ls := [(0, .ref 0), (1, .int x1), (2, .int x2), (3, .int x3)]) (st := [.int x3, .int 3]) (h := ks i a q r) (i := (.invokestatic 58, 3, 126, 0, 9, 0, 151)) (mi_k83.2 _ _ (by rfl)) (ft_invS mi_pq126 (by rfl)) (cy := mi_c126) mi_pq126 rfl (ke126_l03 hG.I hG.R x3) (by decide) ?_
      intro vg91 hg91
      rcases hg91 with ⟨eg91, hg91⟩ | ⟨eg91, hg91⟩
      ·
        subst eg91
        have z92 : ((0 : Int) ≤ x3.toInt) ∧ (x3.toInt ≤ 1) := hg91
        first | refine fo_goS mi_k83 fz83_14_5_25 [.int x2, .int x1, .ref 1] (by rfl) ?_ | refine ft_go mi_k83 5 25 [(0, .ref 0), (1, .int x1), (2, .int x2), (3, .int x3)] [.int x2, .int x1, .ref 1] i a q r (by rfl) ?_
        refine ko_callPI mi_k83.1 (pc := 25) (ls := [(0, .ref 0), (1, .int x1), (2, .int x2), (3, .int x3)]) (st := [.int x2, .int x1, .ref 1]) (h := ks i a q r) (i := (.invokevirtual 98, 3, 27, 0, 9, 0, 164)) (mi_k83.2 _ _ (by rfl)) (ft_invS mi_pq27 (by rfl)) (cy := mi_c27) mi_pq27 rfl (ke27_1 hG.I hG.R x1 x2) (by decide) ?_
        intro vg93 hg93
        obtain ⟨hg93, og93⟩ := hg93
        have q94 : vg93 = cGet (i 64) x1 x2 (a 2, a 3, a 4, a 5, i 70, i 71, i 72) := og93
        have u95 : vg93.toInt = (cGet (i 64) x1 x2 (a 2, a 3, a 4, a 5, i 70, i 71, i 72)).toInt := congrArg Int32.toInt q94
        first | refine fo_goL mi_k83 fz83_28_3_33 [(4, .int vg93), (0, .ref 0), (1, .int x1), (2, .int x2), (3, .int x3)] [.int x3, .int vg93] (by rfl) ?_ | refine ft_go mi_k83 3 33 [(4, .int vg93), (0, .ref 0), (1, .int x1), (2, .int x2), (3, .int x3)] [.int x3, .int vg93] i a q r (by rfl) ?_
        refine ft_ifS mi_k83 (vg93 == x3) 58 36 [] (by rfl) (fun c => ?_) (fun c => ?_)
        ·
          have c96 : vg93.toInt = x3.toInt := kd_eq c; clear c
          first | refine fo_goS mi_k83 fz83_58_1_60 [.int vg93] (by rfl) ?_ | refine ft_go mi_k83 1 60 [(4, .int vg93), (0, .ref 0), (1, .int x1), (2, .int x2), (3, .int x3)] [.int vg93] i a q r (by rfl) ?_
          have bw97 : (kTold (i 64) x1 x2 ∧ kFit x2 x3) := ⟨(ou104 w90 z2), (kFit_3 (ou105 w90)).mpr (ou106 z92.1 z92.2)⟩
          have bw98 : (cGet (i 64) x1 x2 (a 2, a 3, a 4, a 5, i 70, i 71, i 72)).toInt = x3.toInt := (ou85 c96 u95)
          exact ft_ret mi_k83 (by rfl) (hP vg93 _ _ _ _ hG ⟨trivial, ⟨(show vg93 = (cMend (i 64) x1 x2 x3 (a 2, a 3, a 4, a 5, i 70, i 71, i 72) (a 90, a 91, a 92, a 93, i 5700, i 5701)).1 from (by unfold cMend; simp only [if_pos bw97, if_pos bw98]; first | done | rfl | (simp only [q94, sMn, sMx]; done) | (simp only [q94, sMn, sMx]; rfl))), (show a 2 = ((cMend (i 64) x1 x2 x3 (a 2, a 3, a 4, a 5, i 70, i 71, i 72) (a 90, a 91, a 92, a 93, i 5700, i 5701)).2.1).1 from (by unfold cMend; simp only [if_pos bw97, if_pos bw98]; first | done | rfl | (simp only [sMn, sMx]; done) | (simp only [sMn, sMx]; rfl))), (show a 3 = ((cMend (i 64) x1 x2 x3 (a 2, a 3, a 4, a 5, i 70, i 71, i 72) (a 90, a 91, a 92, a 93, i 5700, i 5701)).2.1).2.1 from (by unfold cMend; simp only [if_pos bw97, if_pos bw98]; first | done | rfl | (simp only [sMn, sMx]; done) | (simp only [sMn, sMx]; rfl))), (show a 4 = ((cMend (i 64) x1 x2 x3 (a 2, a 3, a 4, a 5, i 70, i 71, i 72) (a 90, a 91, a 92, a 93, i 5700, i 5701)).2.1).2.2.1 from (by unfold cMend; simp only [if_pos bw97, if_pos bw98]; first | done | rfl | (simp only [sMn, sMx]; done) | (simp only [sMn, sMx]; rfl))), (show a 5 = ((cMend (i 64) x1 x2 x3 (a 2, a 3, a 4, a 5, i 70, i 71, i 72) (a 90, a 91, a 92, a 93, i 5700, i 5701)).2.1).2.2.2.1 from (by unfold cMend; simp only [if_pos bw97, if_pos bw98]; first | done | rfl | (simp only [sMn, sMx]; done) | (simp only [sMn, sMx]; rfl))), (show i 70 = ((cMend (i 64) x1 x2 x3 (a 2, a 3, a 4, a 5, i 70, i 71, i 72) (a 90, a 91, a 92, a 93, i 5700, i 5701)).2.1).2.2.2.2.1 from (by unfold cMend; simp only [if_pos bw97, if_pos bw98]; first | done | rfl | (simp only [sMn, sMx]; done) | (simp only [sMn, sMx]; rfl))), (show i 71 = ((cMend (i 64) x1 x2 x3 (a 2, a 3, a 4, a 5, i 70, i 71, i 72) (a 90, a 91, a 92, a 93, i 5700, i 5701)).2.1).2.2.2.2.2.1 from (by unfold cMend; simp only [if_pos bw97, if_pos bw98]; first | done | rfl | (simp only [sMn, sMx]; done) | (simp only [sMn, sMx]; rfl))), (show i 72 = ((cMend (i 64) x1 x2 x3 (a 2, a 3, a 4, a 5, i 70, i 71, i 72) (a 90, a 91, a 92, a 93, i 5700, i 5701)).2.1).2.2.2.2.2.2 from (by unfold cMend; simp only [if_pos bw97, if_pos bw98]; first | done | rfl | (simp only [sMn, sMx]; done) | (simp only [sMn, sMx]; rfl))), (show a 90 = ((cMend (i 64) x1 x2 x3 (a 2, a 3, a 4, a 5, i 70, i 71, i 72) (a 90, a 91, a 92, a 93, i 5700, i 5701)).2.2).1 from (by unfold cMend; simp only [if_pos bw97, if_pos bw98]; first | done | rfl | (simp only [sMn, sMx]; done) | (simp only [sMn, sMx]; rfl))), (show a 91 = ((cMend (i 64) x1 x2 x3 (a 2, a 3, a 4, a 5, i 70, i 71, i 72) (a 90, a 91, a 92, a 93, i 5700, i 5701)).2.2).2.1 from (by unfold cMend; simp only [if_pos bw97, if_pos bw98]; first | done | rfl | (simp only [sMn, sMx]; done) | (simp only [sMn, sMx]; rfl))), (show a 92 = ((cMend (i 64) x1 x2 x3 (a 2, a 3, a 4, a 5, i 70, i 71, i 72) (a 90, a 91, a 92, a 93, i 5700, i 5701)).2.2).2.2.1 from (by unfold cMend; simp only [if_pos bw97, if_pos bw98]; first | done | rfl | (simp only [sMn, sMx]; done) | (simp only [sMn, sMx]; rfl))), (show a 93 = ((cMend (i 64) x1 x2 x3 (a 2, a 3, a 4, a 5, i 70, i 71, i 72) (a 90, a 91, a 92, a 93, i 5700, i 5701)).2.2).2.2.2.1 from (by unfold cMend; simp only [if_pos bw97, if_pos bw98]; first | done | rfl | (simp only [sMn, sMx]; done) | (simp only [sMn, sMx]; rfl))), (show i 5700 = ((cMend (i 64) x1 x2 x3 (a 2, a 3, a 4, a 5, i 70, i 71, i 72) (a 90, a 91, a 92, a 93, i 5700, i 5701)).2.2).2.2.2.2.1 from (by unfold cMend; simp only [if_pos bw97, if_pos bw98]; first | done | rfl | (simp only [sMn, sMx]; done) | (simp only [sMn, sMx]; rfl))), (show i 5701 = ((cMend (i 64) x1 x2 x3 (a 2, a 3, a 4, a 5, i 70, i 71, i 72) (a 90, a 91, a 92, a 93, i 5700, i 5701)).2.2).2.2.2.2.2 from (by unfold cMend; simp only [if_pos bw97, if_pos bw98]; first | done | rfl | (simp only [sMn, sMx]; done) | (simp only [sMn, sMx]; rfl)))⟩⟩)
        ·
          have c99 : vg93.toInt ≠ x3.toInt := kd_eqF c; clear c
          first | refine fo_goS mi_k83 fz83_36_5_43 [.int x3, .int x2, .int x1, .ref 1] (by rfl) ?_ | refine ft_go mi_k83 5 43 [(4, .int vg93), (0, .ref 0), (1, .int x1), (2, .int x2), (3, .int x3)] [.int x3, .int x2, .int x1, .ref 1] i a q r (by rfl) ?_
          refine ko_callN mi_k83.1 (pc := 43) (ls := [(4, .int vg93), (0, .ref 0), (1, .int x1), (2, .int x2), (3, .int x3)]) (st := [.int x3, .int x2, .int x1, .ref 1]) (h := ks i a q r) (i := (.invokevirtual 102, 3, 28, 0, 9, 0, 167)) (mi_k83.2 _ _ (by rfl)) (ft_invS mi_pq28 (by rfl)) (cy := mi_c28) mi_pq28 rfl (ke28_1 hG.I hG.R x1 x2 x3) (by decide) ?_
          intro ig100 ag100 qg100 rg100 kg100 hg100
          have hGg100 := kG_call hG kg100 (by decide +kernel)
          obtain ⟨hg100, og100⟩ := hg100
          have q101 : ag100 2 = (cSet (i 64) x1 x2 x3 (a 2, a 3, a 4, a 5, i 70, i 71, i 72)).1 := og100.1
          have q102 : ag100 3 = (cSet (i 64) x1 x2 x3 (a 2, a 3, a 4, a 5, i 70, i 71, i 72)).2.1 := og100.2.1
          have q103 : ag100 4 = (cSet (i 64) x1 x2 x3 (a 2, a 3, a 4, a 5, i 70, i 71, i 72)).2.2.1 := og100.2.2.1
          have q104 : ag100 5 = (cSet (i 64) x1 x2 x3 (a 2, a 3, a 4, a 5, i 70, i 71, i 72)).2.2.2.1 := og100.2.2.2.1
          have q105 : ig100 70 = (cSet (i 64) x1 x2 x3 (a 2, a 3, a 4, a 5, i 70, i 71, i 72)).2.2.2.2.1 := og100.2.2.2.2.1
          have q106 : ig100 71 = (cSet (i 64) x1 x2 x3 (a 2, a 3, a 4, a 5, i 70, i 71, i 72)).2.2.2.2.2.1 := og100.2.2.2.2.2.1
          have q107 : ig100 72 = (cSet (i 64) x1 x2 x3 (a 2, a 3, a 4, a 5, i 70, i 71, i 72)).2.2.2.2.2.2 := og100.2.2.2.2.2.2
          first | refine fo_goS mi_k83 fz83_46_6_55 [.int x3, .int vg93, .int x2, .int x1, .ref 89] (by rfl) ?_ | refine ft_go mi_k83 6 55 [(4, .int vg93), (0, .ref 0), (1, .int x1), (2, .int x2), (3, .int x3)] [.int x3, .int vg93, .int x2, .int x1, .ref 89] ig100 ag100 qg100 rg100 (by rfl) ?_
          refine ko_callN mi_k83.1 (pc := 55) (ls := [(4, .int vg93), (0, .ref 0), (1, .int x1), (2, .int x2), (3, .int x3)]) (st := [.int x3, .int vg93, .int x2, .int x1, .ref 89]) (h := ks ig100 ag100 qg100 rg100) (i := (.invokevirtual 106, 3, 5, 0, 9, 0, 168)) (mi_k83.2 _ _ (by rfl)) (ft_invS mi_pq5 (by rfl)) (cy := mi_c5) mi_pq5 rfl (ke5_89 hGg100.I hGg100.R x1 x2 vg93 x3) (by decide) ?_
          intro ig108 ag108 qg108 rg108 kg108 hg108
          have hGg108 := kG_call hGg100 kg108 (by decide +kernel)
          obtain ⟨hg108, og108⟩ := hg108
          have q109 : ag108 90 = (nAdd x1 x2 vg93 x3 (ag100 90, ag100 91, ag100 92, ag100 93, ig100 5700, ig100 5701)).1 := og108.1
          have q110 : ag108 91 = (nAdd x1 x2 vg93 x3 (ag100 90, ag100 91, ag100 92, ag100 93, ig100 5700, ig100 5701)).2.1 := og108.2.1
          have q111 : ag108 92 = (nAdd x1 x2 vg93 x3 (ag100 90, ag100 91, ag100 92, ag100 93, ig100 5700, ig100 5701)).2.2.1 := og108.2.2.1
          have q112 : ag108 93 = (nAdd x1 x2 vg93 x3 (ag100 90, ag100 91, ag100 92, ag100 93, ig100 5700, ig100 5701)).2.2.2.1 := og108.2.2.2.1
          have q113 : ig108 5700 = (nAdd x1 x2 vg93 x3 (ag100 90, ag100 91, ag100 92, ag100 93, ig100 5700, ig100 5701)).2.2.2.2.1 := og108.2.2.2.2.1
          have q114 : ig108 5701 = (nAdd x1 x2 vg93 x3 (ag100 90, ag100 91, ag100 92, ag100 93, ig100 5700, ig100 5701)).2.2.2.2.2 := og108.2.2.2.2.2
          first | refine fo_goS mi_k83 fz83_58_1_60 [.int vg93] (by rfl) ?_ | refine ft_go mi_k83 1 60 [(4, .int vg93), (0, .ref 0), (1, .int x1), (2, .int x2), (3, .int x3)] [.int vg93] ig108 ag108 qg108 rg108 (by rfl) ?_
          have bw115 : (kTold (i 64) x1 x2 ∧ kFit x2 x3) := ⟨(ou104 w90 z2), (kFit_3 (ou105 w90)).mpr (ou106 z92.1 z92.2)⟩
          have bw116 : ¬ ((cGet (i 64) x1 x2 (a 2, a 3, a 4, a 5, i 70, i 71, i 72)).toInt = x3.toInt) := (ou86 c99 u95)
          exact ft_ret mi_k83 (by rfl) (hP vg93 _ _ _ _ hGg108 ⟨trivial, ⟨(show vg93 = (cMend (i 64) x1 x2 x3 (a 2, a 3, a 4, a 5, i 70, i 71, i 72) (a 90, a 91, a 92, a 93, i 5700, i 5701)).1 from (by unfold cMend; simp only [if_pos bw115, if_neg bw116]; first | done | rfl | (simp only [q94, sMn, sMx]; done) | (simp only [q94, sMn, sMx]; rfl))), (show ag108 2 = ((cMend (i 64) x1 x2 x3 (a 2, a 3, a 4, a 5, i 70, i 71, i 72) (a 90, a 91, a 92, a 93, i 5700, i 5701)).2.1).1 from (by unfold cMend; simp only [if_pos bw115, if_neg bw116]; first | done | rfl | (simp only [kg108.fa 2 rfl, q101, sMn, sMx]; done) | (simp only [kg108.fa 2 rfl, q101, sMn, sMx]; rfl))), (show ag108 3 = ((cMend (i 64) x1 x2 x3 (a 2, a 3, a 4, a 5, i 70, i 71, i 72) (a 90, a 91, a 92, a 93, i 5700, i 5701)).2.1).2.1 from (by unfold cMend; simp only [if_pos bw115, if_neg bw116]; first | done | rfl | (simp only [kg108.fa 3 rfl, q102, sMn, sMx]; done) | (simp only [kg108.fa 3 rfl, q102, sMn, sMx]; rfl))), (show ag108 4 = ((cMend (i 64) x1 x2 x3 (a 2, a 3, a 4, a 5, i 70, i 71, i 72) (a 90, a 91, a 92, a 93, i 5700, i 5701)).2.1).2.2.1 from (by unfold cMend; simp only [if_pos bw115, if_neg bw116]; first | done | rfl | (simp only [kg108.fa 4 rfl, q103, sMn, sMx]; done) | (simp only [kg108.fa 4 rfl, q103, sMn, sMx]; rfl))), (show ag108 5 = ((cMend (i 64) x1 x2 x3 (a 2, a 3, a 4, a 5, i 70, i 71, i 72) (a 90, a 91, a 92, a 93, i 5700, i 5701)).2.1).2.2.2.1 from (by unfold cMend; simp only [if_pos bw115, if_neg bw116]; first | done | rfl | (simp only [kg108.fa 5 rfl, q104, sMn, sMx]; done) | (simp only [kg108.fa 5 rfl, q104, sMn, sMx]; rfl))), (show ig108 70 = ((cMend (i 64) x1 x2 x3 (a 2, a 3, a 4, a 5, i 70, i 71, i 72) (a 90, a 91, a 92, a 93, i 5700, i 5701)).2.1).2.2.2.2.1 from (by unfold cMend; simp only [if_pos bw115, if_neg bw116]; first | done | rfl | (simp only [(show ig108 70 = ig100 70 from kg108.fi 70 rfl), q105, sMn, sMx]; done) | (simp only [(show ig108 70 = ig100 70 from kg108.fi 70 rfl), q105, sMn, sMx]; rfl))), (show ig108 71 = ((cMend (i 64) x1 x2 x3 (a 2, a 3, a 4, a 5, i 70, i 71, i 72) (a 90, a 91, a 92, a 93, i 5700, i 5701)).2.1).2.2.2.2.2.1 from (by unfold cMend; simp only [if_pos bw115, if_neg bw116]; first | done | rfl | (simp only [(show ig108 71 = ig100 71 from kg108.fi 71 rfl), q106, sMn, sMx]; done) | (simp only [(show ig108 71 = ig100 71 from kg108.fi 71 rfl), q106, sMn, sMx]; rfl))), (show ig108 72 = ((cMend (i 64) x1 x2 x3 (a 2, a 3, a 4, a 5, i 70, i 71, i 72) (a 90, a 91, a 92, a 93, i 5700, i 5701)).2.1).2.2.2.2.2.2 from (by unfold cMend; simp only [if_pos bw115, if_neg bw116]; first | done | rfl | (simp only [(show ig108 72 = ig100 72 from kg108.fi 72 rfl), q107, sMn, sMx]; done) | (simp only [(show ig108 72 = ig100 72 from kg108.fi 72 rfl), q107, sMn, sMx]; rfl))), (show ag108 90 = ((cMend (i 64) x1 x2 x3 (a 2, a 3, a 4, a 5, i 70, i 71, i 72) (a 90, a 91, a 92, a 93, i 5700, i 5701)).2.2).1 from (by unfold cMend; simp only [if_pos bw115, if_neg bw116]; first | done | rfl | (simp only [q109, q94, kg100.fa 90 rfl, kg100.fa 91 rfl, kg100.fa 92 rfl, kg100.fa 93 rfl, (show ig100 5700 = i 5700 from kg100.fi 5700 rfl), (show ig100 5701 = i 5701 from kg100.fi 5701 rfl), sMn, sMx]; done) | (simp only [q109, q94, kg100.fa 90 rfl, kg100.fa 91 rfl, kg100.fa 92 rfl, kg100.fa 93 rfl, (show ig100 5700 = i 5700 from kg100.fi 5700 rfl), (show ig100 5701 = i 5701 from kg100.fi 5701 rfl), sMn, sMx]; rfl))), (show ag108 91 = ((cMend (i 64) x1 x2 x3 (a 2, a 3, a 4, a 5, i 70, i 71, i 72) (a 90, a 91, a 92, a 93, i 5700, i 5701)).2.2).2.1 from (by unfold cMend; simp only [if_pos bw115, if_neg bw116]; first | done | rfl | (simp only [q110, q94, kg100.fa 90 rfl, kg100.fa 91 rfl, kg100.fa 92 rfl, kg100.fa 93 rfl, (show ig100 5700 = i 5700 from kg100.fi 5700 rfl), (show ig100 5701 = i 5701 from kg100.fi 5701 rfl), sMn, sMx]; done) | (simp only [q110, q94, kg100.fa 90 rfl, kg100.fa 91 rfl, kg100.fa 92 rfl, kg100.fa 93 rfl, (show ig100 5700 = i 5700 from kg100.fi 5700 rfl), (show ig100 5701 = i 5701 from kg100.fi 5701 rfl), sMn, sMx]; rfl))), (show ag108 92 = ((cMend (i 64) x1 x2 x3 (a 2, a 3, a 4, a 5, i 70, i 71, i 72) (a 90, a 91, a 92, a 93, i 5700, i 5701)).2.2).2.2.1 from (by unfold cMend; simp only [if_pos bw115, if_neg bw116]; first | done | rfl | (simp only [q111, q94, kg100.fa 90 rfl, kg100.fa 91 rfl, kg100.fa 92 rfl, kg100.fa 93 rfl, (show ig100 5700 = i 5700 from kg100.fi 5700 rfl), (show ig100 5701 = i 5701 from kg100.fi 5701 rfl), sMn, sMx]; done) | (simp only [q111, q94, kg100.fa 90 rfl, kg100.fa 91 rfl, kg100.fa 92 rfl, kg100.fa 93 rfl, (show ig100 5700 = i 5700 from kg100.fi 5700 rfl), (show ig100 5701 = i 5701 from kg100.fi 5701 rfl), sMn, sMx]; rfl))), (show ag108 93 = ((cMend (i 64) x1 x2 x3 (a 2, a 3, a 4, a 5, i 70, i 71, i 72) (a 90, a 91, a 92, a 93, i 5700, i 5701)).2.2).2.2.2.1 from (by unfold cMend; simp only [if_pos bw115, if_neg bw116]; first | done | rfl | (simp only [q112, q94, kg100.fa 90 rfl, kg100.fa 91 rfl, kg100.fa 92 rfl, kg100.fa 93 rfl, (show ig100 5700 = i 5700 from kg100.fi 5700 rfl), (show ig100 5701 = i 5701 from kg100.fi 5701 rfl), sMn, sMx]; done) | (simp only [q112, q94, kg100.fa 90 rfl, kg100.fa 91 rfl, kg100.fa 92 rfl, kg100.fa 93 rfl, (show ig100 5700 = i 5700 from kg100.fi 5700 rfl), (show ig100 5701 = i 5701 from kg100.fi 5701 rfl), sMn, sMx]; rfl))), (show ig108 5700 = ((cMend (i 64) x1 x2 x3 (a 2, a 3, a 4, a 5, i 70, i 71, i 72) (a 90, a 91, a 92, a 93, i 5700, i 5701)).2.2).2.2.2.2.1 from (by unfold cMend; simp only [if_pos bw115, if_neg bw116]; first | done | rfl | (simp only [q113, q94, kg100.fa 90 rfl, kg100.fa 91 rfl, kg100.fa 92 rfl, kg100.fa 93 rfl, (show ig100 5700 = i 5700 from kg100.fi 5700 rfl), (show ig100 5701 = i 5701 from kg100.fi 5701 rfl), sMn, sMx]; done) | (simp only [q113, q94, kg100.fa 90 rfl, kg100.fa 91 rfl, kg100.fa 92 rfl, kg100.fa 93 rfl, (show ig100 5700 = i 5700 from kg100.fi 5700 rfl), (show ig100 5701 = i 5701 from kg100.fi 5701 rfl), sMn, sMx]; rfl))), (show ig108 5701 = ((cMend (i 64) x1 x2 x3 (a 2, a 3, a 4, a 5, i 70, i 71, i 72) (a 90, a 91, a 92, a 93, i 5700, i 5701)).2.2).2.2.2.2.2 from (by unfold cMend; simp only [if_pos bw115, if_neg bw116]; first | done | rfl | (simp only [q114, q94, kg100.fa 90 rfl, kg100.fa 91 rfl, kg100.fa 92 rfl, kg100.fa 93 rfl, (show ig100 5700 = i 5700 from kg100.fi 5700 rfl), (show ig100 5701 = i 5701 from kg100.fi 5701 rfl), sMn, sMx]; done) | (simp only [q114, q94, kg100.fa 90 rfl, kg100.fa 91 rfl, kg100.fa 92 rfl, kg100.fa 93 rfl, (show ig100 5700 = i 5700 from kg100.fi 5700 rfl), (show ig100 5701 = i 5701 from kg100.fi 5701 rfl), sMn, sMx]; rfl)))⟩⟩)
      ·
        subst eg91
        have z117 : ¬ (((0 : Int) ≤ x3.toInt) ∧ (x3.toInt ≤ 1)) := hg91
        first | refine fo_goS mi_k83 fz83_6_2_18 [.int (-1)] (by rfl) ?_ | refine fo_goS mi_k83 fz83_14_2_18 [.int (-1)] (by rfl) ?_ | refine ft_go mi_k83 2 18 [(0, .ref 0), (1, .int x1), (2, .int x2), (3, .int x3)] [.int (-1)] i a q r (by rfl) ?_
        have bw118 : ¬ (kTold (i 64) x1 x2 ∧ kFit x2 x3) := (fun z => absurd ((kFit_3 (ou105 w90)).mp z.2) (ou107 z117))
        exact ft_ret mi_k83 (by rfl) (hP (-1) _ _ _ _ hG ⟨trivial, ⟨(show ((-1) : Int32) = (cMend (i 64) x1 x2 x3 (a 2, a 3, a 4, a 5, i 70, i 71, i 72) (a 90, a 91, a 92, a 93, i 5700, i 5701)).1 from (by unfold cMend; simp only [if_neg bw118]; first | done | rfl | (simp only [sMn, sMx]; done) | (simp only [sMn, sMx]; rfl))), (show a 2 = ((cMend (i 64) x1 x2 x3 (a 2, a 3, a 4, a 5, i 70, i 71, i 72) (a 90, a 91, a 92, a 93, i 5700, i 5701)).2.1).1 from (by unfold cMend; simp only [if_neg bw118]; first | done | rfl | (simp only [sMn, sMx]; done) | (simp only [sMn, sMx]; rfl))), (show a 3 = ((cMend (i 64) x1 x2 x3 (a 2, a 3, a 4, a 5, i 70, i 71, i 72) (a 90, a 91, a 92, a 93, i 5700, i 5701)).2.1).2.1 from (by unfold cMend; simp only [if_neg bw118]; first | done | rfl | (simp only [sMn, sMx]; done) | (simp only [sMn, sMx]; rfl))), (show a 4 = ((cMend (i 64) x1 x2 x3 (a 2, a 3, a 4, a 5, i 70, i 71, i 72) (a 90, a 91, a 92, a 93, i 5700, i 5701)).2.1).2.2.1 from (by unfold cMend; simp only [if_neg bw118]; first | done | rfl | (simp only [sMn, sMx]; done) | (simp only [sMn, sMx]; rfl))), (show a 5 = ((cMend (i 64) x1 x2 x3 (a 2, a 3, a 4, a 5, i 70, i 71, i 72) (a 90, a 91, a 92, a 93, i 5700, i 5701)).2.1).2.2.2.1 from (by unfold cMend; simp only [if_neg bw118]; first | done | rfl | (simp only [sMn, sMx]; done) | (simp only [sMn, sMx]; rfl))), (show i 70 = ((cMend (i 64) x1 x2 x3 (a 2, a 3, a 4, a 5, i 70, i 71, i 72) (a 90, a 91, a 92, a 93, i 5700, i 5701)).2.1).2.2.2.2.1 from (by unfold cMend; simp only [if_neg bw118]; first | done | rfl | (simp only [sMn, sMx]; done) | (simp only [sMn, sMx]; rfl))), (show i 71 = ((cMend (i 64) x1 x2 x3 (a 2, a 3, a 4, a 5, i 70, i 71, i 72) (a 90, a 91, a 92, a 93, i 5700, i 5701)).2.1).2.2.2.2.2.1 from (by unfold cMend; simp only [if_neg bw118]; first | done | rfl | (simp only [sMn, sMx]; done) | (simp only [sMn, sMx]; rfl))), (show i 72 = ((cMend (i 64) x1 x2 x3 (a 2, a 3, a 4, a 5, i 70, i 71, i 72) (a 90, a 91, a 92, a 93, i 5700, i 5701)).2.1).2.2.2.2.2.2 from (by unfold cMend; simp only [if_neg bw118]; first | done | rfl | (simp only [sMn, sMx]; done) | (simp only [sMn, sMx]; rfl))), (show a 90 = ((cMend (i 64) x1 x2 x3 (a 2, a 3, a 4, a 5, i 70, i 71, i 72) (a 90, a 91, a 92, a 93, i 5700, i 5701)).2.2).1 from (by unfold cMend; simp only [if_neg bw118]; first | done | rfl | (simp only [sMn, sMx]; done) | (simp only [sMn, sMx]; rfl))), (show a 91 = ((cMend (i 64) x1 x2 x3 (a 2, a 3, a 4, a 5, i 70, i 71, i 72) (a 90, a 91, a 92, a 93, i 5700, i 5701)).2.2).2.1 from (by unfold cMend; simp only [if_neg bw118]; first | done | rfl | (simp only [sMn, sMx]; done) | (simp only [sMn, sMx]; rfl))), (show a 92 = ((cMend (i 64) x1 x2 x3 (a 2, a 3, a 4, a 5, i 70, i 71, i 72) (a 90, a 91, a 92, a 93, i 5700, i 5701)).2.2).2.2.1 from (by unfold cMend; simp only [if_neg bw118]; first | done | rfl | (simp only [sMn, sMx]; done) | (simp only [sMn, sMx]; rfl))), (show a 93 = ((cMend (i 64) x1 x2 x3 (a 2, a 3, a 4, a 5, i 70, i 71, i 72) (a 90, a 91, a 92, a 93, i 5700, i 5701)).2.2).2.2.2.1 from (by unfold cMend; simp only [if_neg bw118]; first | done | rfl | (simp only [sMn, sMx]; done) | (simp only [sMn, sMx]; rfl))), (show i 5700 = ((cMend (i 64) x1 x2 x3 (a 2, a 3, a 4, a 5, i 70, i 71, i 72) (a 90, a 91, a 92, a 93, i 5700, i 5701)).2.2).2.2.2.2.1 from (by unfold cMend; simp only [if_neg bw118]; first | done | rfl | (simp only [sMn, sMx]; done) | (simp only [sMn, sMx]; rfl))), (show i 5701 = ((cMend (i 64) x1 x2 x3 (a 2, a 3, a 4, a 5, i 70, i 71, i 72) (a 90, a 91, a 92, a 93, i 5700, i 5701)).2.2).2.2.2.2.2 from (by unfold cMend; simp only [if_neg bw118]; first | done | rfl | (simp only [sMn, sMx]; done) | (simp only [sMn, sMx]; rfl)))⟩⟩)
    by_cases w119 : x2.toInt = 4
    ·
      refine ko_eq (x1 := (11, [(0, .ref 0), (1, .int x1), (2, .int x2), (3, .int x3)], [.int x3, .int 4], (0, 0), ks i a q r)) (by rw [(kj_eq w119 (by decide) : x2 = 4)]) ?_
      refine ko_callPI mi_k83.1 (pc := 11) (ls := [(0, .ref 0), (1, .int x1), (2, .int x2), (3, .int x3)]) (st := [.int x3, .int 4]) (h := ks i a q r) (i := (.invokestatic 58, 3, 126, 0, 9, 0, 151)) (mi_k83.2 _ _ (by rfl)) (ft_invS mi_pq126 (by rfl)) (cy := mi_c126) mi_pq126 rfl (ke126_l04 hG.I hG.R x3) (by decide) ?_
      intro vg120 hg120
      rcases hg120 with ⟨eg120, hg120⟩ | ⟨eg120, hg120⟩
      ·
        subst eg120
        have z121 : ((1 : Int) ≤ x3.toInt) ∧ (x3.toInt ≤ 5) := hg120
        first | refine fo_goS mi_k83 fz83_14_5_25 [.int x2, .int x1, .ref 1] (by rfl) ?_ | refine ft_go mi_k83 5 25 [(0, .ref 0), (1, .int x1), (2, .int x2), (3, .int x3)] [.int x2, .int x1, .ref 1] i a q r (by rfl) ?_
        refine ko_callPI mi_k83.1 (pc := 25) (ls := [(0, .ref 0), (1, .int x1), (2, .int x2), (3, .int x3)]) (st := [.int x2, .int x1, .ref 1]) (h := ks i a q r) (i := (.invokevirtual 98, 3, 27, 0, 9, 0, 164)) (mi_k83.2 _ _ (by rfl)) (ft_invS mi_pq27 (by rfl)) (cy := mi_c27) mi_pq27 rfl (ke27_1 hG.I hG.R x1 x2) (by decide) ?_
        intro vg122 hg122
        obtain ⟨hg122, og122⟩ := hg122
        have q123 : vg122 = cGet (i 64) x1 x2 (a 2, a 3, a 4, a 5, i 70, i 71, i 72) := og122
        have u124 : vg122.toInt = (cGet (i 64) x1 x2 (a 2, a 3, a 4, a 5, i 70, i 71, i 72)).toInt := congrArg Int32.toInt q123
        first | refine fo_goL mi_k83 fz83_28_3_33 [(4, .int vg122), (0, .ref 0), (1, .int x1), (2, .int x2), (3, .int x3)] [.int x3, .int vg122] (by rfl) ?_ | refine ft_go mi_k83 3 33 [(4, .int vg122), (0, .ref 0), (1, .int x1), (2, .int x2), (3, .int x3)] [.int x3, .int vg122] i a q r (by rfl) ?_
        refine ft_ifS mi_k83 (vg122 == x3) 58 36 [] (by rfl) (fun c => ?_) (fun c => ?_)
        ·
          have c125 : vg122.toInt = x3.toInt := kd_eq c; clear c
          first | refine fo_goS mi_k83 fz83_58_1_60 [.int vg122] (by rfl) ?_ | refine ft_go mi_k83 1 60 [(4, .int vg122), (0, .ref 0), (1, .int x1), (2, .int x2), (3, .int x3)] [.int vg122] i a q r (by rfl) ?_
          have bw126 : (kTold (i 64) x1 x2 ∧ kFit x2 x3) := ⟨(ou113 w119 z2), (kFit_4 (ou0 w119)).mpr (ou114 z121.1 z121.2)⟩
          have bw127 : (cGet (i 64) x1 x2 (a 2, a 3, a 4, a 5, i 70, i 71, i 72)).toInt = x3.toInt := (ou85 c125 u124)
          exact ft_ret mi_k83 (by rfl) (hP vg122 _ _ _ _ hG ⟨trivial, ⟨(show vg122 = (cMend (i 64) x1 x2 x3 (a 2, a 3, a 4, a 5, i 70, i 71, i 72) (a 90, a 91, a 92, a 93, i 5700, i 5701)).1 from (by unfold cMend; simp only [if_pos bw126, if_pos bw127]; first | done | rfl | (simp only [q123, sMn, sMx]; done) | (simp only [q123, sMn, sMx]; rfl))), (show a 2 = ((cMend (i 64) x1 x2 x3 (a 2, a 3, a 4, a 5, i 70, i 71, i 72) (a 90, a 91, a 92, a 93, i 5700, i 5701)).2.1).1 from (by unfold cMend; simp only [if_pos bw126, if_pos bw127]; first | done | rfl | (simp only [sMn, sMx]; done) | (simp only [sMn, sMx]; rfl))), (show a 3 = ((cMend (i 64) x1 x2 x3 (a 2, a 3, a 4, a 5, i 70, i 71, i 72) (a 90, a 91, a 92, a 93, i 5700, i 5701)).2.1).2.1 from (by unfold cMend; simp only [if_pos bw126, if_pos bw127]; first | done | rfl | (simp only [sMn, sMx]; done) | (simp only [sMn, sMx]; rfl))), (show a 4 = ((cMend (i 64) x1 x2 x3 (a 2, a 3, a 4, a 5, i 70, i 71, i 72) (a 90, a 91, a 92, a 93, i 5700, i 5701)).2.1).2.2.1 from (by unfold cMend; simp only [if_pos bw126, if_pos bw127]; first | done | rfl | (simp only [sMn, sMx]; done) | (simp only [sMn, sMx]; rfl))), (show a 5 = ((cMend (i 64) x1 x2 x3 (a 2, a 3, a 4, a 5, i 70, i 71, i 72) (a 90, a 91, a 92, a 93, i 5700, i 5701)).2.1).2.2.2.1 from (by unfold cMend; simp only [if_pos bw126, if_pos bw127]; first | done | rfl | (simp only [sMn, sMx]; done) | (simp only [sMn, sMx]; rfl))), (show i 70 = ((cMend (i 64) x1 x2 x3 (a 2, a 3, a 4, a 5, i 70, i 71, i 72) (a 90, a 91, a 92, a 93, i 5700, i 5701)).2.1).2.2.2.2.1 from (by unfold cMend; simp only [if_pos bw126, if_pos bw127]; first | done | rfl | (simp only [sMn, sMx]; done) | (simp only [sMn, sMx]; rfl))), (show i 71 = ((cMend (i 64) x1 x2 x3 (a 2, a 3, a 4, a 5, i 70, i 71, i 72) (a 90, a 91, a 92, a 93, i 5700, i 5701)).2.1).2.2.2.2.2.1 from (by unfold cMend; simp only [if_pos bw126, if_pos bw127]; first | done | rfl | (simp only [sMn, sMx]; done) | (simp only [sMn, sMx]; rfl))), (show i 72 = ((cMend (i 64) x1 x2 x3 (a 2, a 3, a 4, a 5, i 70, i 71, i 72) (a 90, a 91, a 92, a 93, i 5700, i 5701)).2.1).2.2.2.2.2.2 from (by unfold cMend; simp only [if_pos bw126, if_pos bw127]; first | done | rfl | (simp only [sMn, sMx]; done) | (simp only [sMn, sMx]; rfl))), (show a 90 = ((cMend (i 64) x1 x2 x3 (a 2, a 3, a 4, a 5, i 70, i 71, i 72) (a 90, a 91, a 92, a 93, i 5700, i 5701)).2.2).1 from (by unfold cMend; simp only [if_pos bw126, if_pos bw127]; first | done | rfl | (simp only [sMn, sMx]; done) | (simp only [sMn, sMx]; rfl))), (show a 91 = ((cMend (i 64) x1 x2 x3 (a 2, a 3, a 4, a 5, i 70, i 71, i 72) (a 90, a 91, a 92, a 93, i 5700, i 5701)).2.2).2.1 from (by unfold cMend; simp only [if_pos bw126, if_pos bw127]; first | done | rfl | (simp only [sMn, sMx]; done) | (simp only [sMn, sMx]; rfl))), (show a 92 = ((cMend (i 64) x1 x2 x3 (a 2, a 3, a 4, a 5, i 70, i 71, i 72) (a 90, a 91, a 92, a 93, i 5700, i 5701)).2.2).2.2.1 from (by unfold cMend; simp only [if_pos bw126, if_pos bw127]; first | done | rfl | (simp only [sMn, sMx]; done) | (simp only [sMn, sMx]; rfl))), (show a 93 = ((cMend (i 64) x1 x2 x3 (a 2, a 3, a 4, a 5, i 70, i 71, i 72) (a 90, a 91, a 92, a 93, i 5700, i 5701)).2.2).2.2.2.1 from (by unfold cMend; simp only [if_pos bw126, if_pos bw127]; first | done | rfl | (simp only [sMn, sMx]; done) | (simp only [sMn, sMx]; rfl))), (show i 5700 = ((cMend (i 64) x1 x2 x3 (a 2, a 3, a 4, a 5, i 70, i 71, i 72) (a 90, a 91, a 92, a 93, i 5700, i 5701)).2.2).2.2.2.2.1 from (by unfold cMend; simp only [if_pos bw126, if_pos bw127]; first | done | rfl | (simp only [sMn, sMx]; done) | (simp only [sMn, sMx]; rfl))), (show i 5701 = ((cMend (i 64) x1 x2 x3 (a 2, a 3, a 4, a 5, i 70, i 71, i 72) (a 90, a 91, a 92, a 93, i 5700, i 5701)).2.2).2.2.2.2.2 from (by unfold cMend; simp only [if_pos bw126, if_pos bw127]; first | done | rfl | (simp only [sMn, sMx]; done) | (simp only [sMn, sMx]; rfl)))⟩⟩)
        ·
          have c128 : vg122.toInt ≠ x3.toInt := kd_eqF c; clear c
          first | refine fo_goS mi_k83 fz83_36_5_43 [.int x3, .int x2, .int x1, .ref 1] (by rfl) ?_ | refine ft_go mi_k83 5 43 [(4, .int vg122), (0, .ref 0), (1, .int x1), (2, .int x2), (3, .int x3)] [.int x3, .int x2, .int x1, .ref 1] i a q r (by rfl) ?_
          refine ko_callN mi_k83.1 (pc := 43) (ls := [(4, .int vg122), (0, .ref 0), (1, .int x1), (2, .int x2), (3, .int x3)]) (st := [.int x3, .int x2, .int x1, .ref 1]) (h := ks i a q r) (i := (.invokevirtual 102, 3, 28, 0, 9, 0, 167)) (mi_k83.2 _ _ (by rfl)) (ft_invS mi_pq28 (by rfl)) (cy := mi_c28) mi_pq28 rfl (ke28_1 hG.I hG.R x1 x2 x3) (by decide) ?_
          intro ig129 ag129 qg129 rg129 kg129 hg129
          have hGg129 := kG_call hG kg129 (by decide +kernel)
          obtain ⟨hg129, og129⟩ := hg129
          have q130 : ag129 2 = (cSet (i 64) x1 x2 x3 (a 2, a 3, a 4, a 5, i 70, i 71, i 72)).1 := og129.1
          have q131 : ag129 3 = (cSet (i 64) x1 x2 x3 (a 2, a 3, a 4, a 5, i 70, i 71, i 72)).2.1 := og129.2.1
          have q132 : ag129 4 = (cSet (i 64) x1 x2 x3 (a 2, a 3, a 4, a 5, i 70, i 71, i 72)).2.2.1 := og129.2.2.1
          have q133 : ag129 5 = (cSet (i 64) x1 x2 x3 (a 2, a 3, a 4, a 5, i 70, i 71, i 72)).2.2.2.1 := og129.2.2.2.1
          have q134 : ig129 70 = (cSet (i 64) x1 x2 x3 (a 2, a 3, a 4, a 5, i 70, i 71, i 72)).2.2.2.2.1 := og129.2.2.2.2.1
          have q135 : ig129 71 = (cSet (i 64) x1 x2 x3 (a 2, a 3, a 4, a 5, i 70, i 71, i 72)).2.2.2.2.2.1 := og129.2.2.2.2.2.1
          have q136 : ig129 72 = (cSet (i 64) x1 x2 x3 (a 2, a 3, a 4, a 5, i 70, i 71, i 72)).2.2.2.2.2.2 := og129.2.2.2.2.2.2
          first | refine fo_goS mi_k83 fz83_46_6_55 [.int x3, .int vg122, .int x2, .int x1, .ref 89] (by rfl) ?_ | refine ft_go mi_k83 6 55 [(4, .int vg122), (0, .ref 0), (1, .int x1), (2, .int x2), (3, .int x3)] [.int x3, .int vg122, .int x2, .int x1, .ref 89] ig129 ag129 qg129 rg129 (by rfl) ?_
          refine ko_callN mi_k83.1 (pc := 55) (ls := [(4, .int vg122), (0, .ref 0), (1, .int x1), (2, .int x2), (3, .int x3)]) (st := [.int x3, .int vg122, .int x2, .int x1, .ref 89]) (h := ks ig129 ag129 qg129 rg129) (i := (.invokevirtual 106, 3, 5, 0, 9, 0, 168)) (mi_k83.2 _ _ (by rfl)) (ft_invS mi_pq5 (by rfl)) (cy := mi_c5) mi_pq5 rfl (ke5_89 hGg129.I hGg129.R x1 x2 vg122 x3) (by decide) ?_
          intro ig137 ag137 qg137 rg137 kg137 hg137
          have hGg137 := kG_call hGg129 kg137 (by decide +kernel)
          obtain ⟨hg137, og137⟩ := hg137
          have q138 : ag137 90 = (nAdd x1 x2 vg122 x3 (ag129 90, ag129 91, ag129 92, ag129 93, ig129 5700, ig129 5701)).1 := og137.1
          have q139 : ag137 91 = (nAdd x1 x2 vg122 x3 (ag129 90, ag129 91, ag129 92, ag129 93, ig129 5700, ig129 5701)).2.1 := og137.2.1
          have q140 : ag137 92 = (nAdd x1 x2 vg122 x3 (ag129 90, ag129 91, ag129 92, ag129 93, ig129 5700, ig129 5701)).2.2.1 := og137.2.2.1
          have q141 : ag137 93 = (nAdd x1 x2 vg122 x3 (ag129 90, ag129 91, ag129 92, ag129 93, ig129 5700, ig129 5701)).2.2.2.1 := og137.2.2.2.1
          have q142 : ig137 5700 = (nAdd x1 x2 vg122 x3 (ag129 90, ag129 91, ag129 92, ag129 93, ig129 5700, ig129 5701)).2.2.2.2.1 := og137.2.2.2.2.1
          have q143 : ig137 5701 = (nAdd x1 x2 vg122 x3 (ag129 90, ag129 91, ag129 92, ag129 93, ig129 5700, ig129 5701)).2.2.2.2.2 := og137.2.2.2.2.2
          first | refine fo_goS mi_k83 fz83_58_1_60 [.int vg122] (by rfl) ?_ | refine ft_go mi_k83 1 60 [(4, .int vg122), (0, .ref 0), (1, .int x1), (2, .int x2), (3, .int x3)] [.int vg122] ig137 ag137 qg137 rg137 (by rfl) ?_
          have bw144 : (kTold (i 64) x1 x2 ∧ kFit x2 x3) := ⟨(ou113 w119 z2), (kFit_4 (ou0 w119)).mpr (ou114 z121.1 z121.2)⟩
          have bw145 : ¬ ((cGet (i 64) x1 x2 (a 2, a 3, a 4, a 5, i 70, i 71, i 72)).toInt = x3.toInt) := (ou86 c128 u124)
          exact ft_ret mi_k83 (by rfl) (hP vg122 _ _ _ _ hGg137 ⟨trivial, ⟨(show vg122 = (cMend (i 64) x1 x2 x3 (a 2, a 3, a 4, a 5, i 70, i 71, i 72) (a 90, a 91, a 92, a 93, i 5700, i 5701)).1 from (by unfold cMend; simp only [if_pos bw144, if_neg bw145]; first | done | rfl | (simp only [q123, sMn, sMx]; done) | (simp only [q123, sMn, sMx]; rfl))), (show ag137 2 = ((cMend (i 64) x1 x2 x3 (a 2, a 3, a 4, a 5, i 70, i 71, i 72) (a 90, a 91, a 92, a 93, i 5700, i 5701)).2.1).1 from (by unfold cMend; simp only [if_pos bw144, if_neg bw145]; first | done | rfl | (simp only [kg137.fa 2 rfl, q130, sMn, sMx]; done) | (simp only [kg137.fa 2 rfl, q130, sMn, sMx]; rfl))), (show ag137 3 = ((cMend (i 64) x1 x2 x3 (a 2, a 3, a 4, a 5, i 70, i 71, i 72) (a 90, a 91, a 92, a 93, i 5700, i 5701)).2.1).2.1 from (by unfold cMend; simp only [if_pos bw144, if_neg bw145]; first | done | rfl | (simp only [kg137.fa 3 rfl, q131, sMn, sMx]; done) | (simp only [kg137.fa 3 rfl, q131, sMn, sMx]; rfl))), (show ag137 4 = ((cMend (i 64) x1 x2 x3 (a 2, a 3, a 4, a 5, i 70, i 71, i 72) (a 90, a 91, a 92, a 93, i 5700, i 5701)).2.1).2.2.1 from (by unfold cMend; simp only [if_pos bw144, if_neg bw145]; first | done | rfl | (simp only [kg137.fa 4 rfl, q132, sMn, sMx]; done) | (simp only [kg137.fa 4 rfl, q132, sMn, sMx]; rfl))), (show ag137 5 = ((cMend (i 64) x1 x2 x3 (a 2, a 3, a 4, a 5, i 70, i 71, i 72) (a 90, a 91, a 92, a 93, i 5700, i 5701)).2.1).2.2.2.1 from (by unfold cMend; simp only [if_pos bw144, if_neg bw145]; first | done | rfl | (simp only [kg137.fa 5 rfl, q133, sMn, sMx]; done) | (simp only [kg137.fa 5 rfl, q133, sMn, sMx]; rfl))), (show ig137 70 = ((cMend (i 64) x1 x2 x3 (a 2, a 3, a 4, a 5, i 70, i 71, i 72) (a 90, a 91, a 92, a 93, i 5700, i 5701)).2.1).2.2.2.2.1 from (by unfold cMend; simp only [if_pos bw144, if_neg bw145]; first | done | rfl | (simp only [(show ig137 70 = ig129 70 from kg137.fi 70 rfl), q134, sMn, sMx]; done) | (simp only [(show ig137 70 = ig129 70 from kg137.fi 70 rfl), q134, sMn, sMx]; rfl))), (show ig137 71 = ((cMend (i 64) x1 x2 x3 (a 2, a 3, a 4, a 5, i 70, i 71, i 72) (a 90, a 91, a 92, a 93, i 5700, i 5701)).2.1).2.2.2.2.2.1 from (by unfold cMend; simp only [if_pos bw144, if_neg bw145]; first | done | rfl | (simp only [(show ig137 71 = ig129 71 from kg137.fi 71 rfl), q135, sMn, sMx]; done) | (simp only [(show ig137 71 = ig129 71 from kg137.fi 71 rfl), q135, sMn, sMx]; rfl))), (show ig137 72 = ((cMend (i 64) x1 x2 x3 (a 2, a 3, a 4, a 5, i 70, i 71, i 72) (a 90, a 91, a 92, a 93, i 5700, i 5701)).2.1).2.2.2.2.2.2 from (by unfold cMend; simp only [if_pos bw144, if_neg bw145]; first | done | rfl | (simp only [(show ig137 72 = ig129 72 from kg137.fi 72 rfl), q136, sMn, sMx]; done) | (simp only [(show ig137 72 = ig129 72 from kg137.fi 72 rfl), q136, sMn, sMx]; rfl))), (show ag137 90 = ((cMend (i 64) x1 x2 x3 (a 2, a 3, a 4, a 5, i 70, i 71, i 72) (a 90, a 91, a 92, a 93, i 5700, i 5701)).2.2).1 from (by unfold cMend; simp only [if_pos bw144, if_neg bw145]; first | done | rfl | (simp only [q138, q123, kg129.fa 90 rfl, kg129.fa 91 rfl, kg129.fa 92 rfl, kg129.fa 93 rfl, (show ig129 5700 = i 5700 from kg129.fi 5700 rfl), (show ig129 5701 = i 5701 from kg129.fi 5701 rfl), sMn, sMx]; done) | (simp only [q138, q123, kg129.fa 90 rfl, kg129.fa 91 rfl, kg129.fa 92 rfl, kg129.fa 93 rfl, (show ig129 5700 = i 5700 from kg129.fi 5700 rfl), (show ig129 5701 = i 5701 from kg129.fi 5701 rfl), sMn, sMx]; rfl))), (show ag137 91 = ((cMend (i 64) x1 x2 x3 (a 2, a 3, a 4, a 5, i 70, i 71, i 72) (a 90, a 91, a 92, a 93, i 5700, i 5701)).2.2).2.1 from (by unfold cMend; simp only [if_pos bw144, if_neg bw145]; first | done | rfl | (simp only [q139, q123, kg129.fa 90 rfl, kg129.fa 91 rfl, kg129.fa 92 rfl, kg129.fa 93 rfl, (show ig129 5700 = i 5700 from kg129.fi 5700 rfl), (show ig129 5701 = i 5701 from kg129.fi 5701 rfl), sMn, sMx]; done) | (simp only [q139, q123, kg129.fa 90 rfl, kg129.fa 91 rfl, kg129.fa 92 rfl, kg129.fa 93 rfl, (show ig129 5700 = i 5700 from kg129.fi 5700 rfl), (show ig129 5701 = i 5701 from kg129.fi 5701 rfl), sMn, sMx]; rfl))), (show ag137 92 = ((cMend (i 64) x1 x2 x3 (a 2, a 3, a 4, a 5, i 70, i 71, i 72) (a 90, a 91, a 92, a 93, i 5700, i 5701)).2.2).2.2.1 from (by unfold cMend; simp only [if_pos bw144, if_neg bw145]; first | done | rfl | (simp only [q140, q123, kg129.fa 90 rfl, kg129.fa 91 rfl, kg129.fa 92 rfl, kg129.fa 93 rfl, (show ig129 5700 = i 5700 from kg129.fi 5700 rfl), (show ig129 5701 = i 5701 from kg129.fi 5701 rfl), sMn, sMx]; done) | (simp only [q140, q123, kg129.fa 90 rfl, kg129.fa 91 rfl, kg129.fa 92 rfl, kg129.fa 93 rfl, (show ig129 5700 = i 5700 from kg129.fi 5700 rfl), (show ig129 5701 = i 5701 from kg129.fi 5701 rfl), sMn, sMx]; rfl))), (show ag137 93 = ((cMend (i 64) x1 x2 x3 (a 2, a 3, a 4, a 5, i 70, i 71, i 72) (a 90, a 91, a 92, a 93, i 5700, i 5701)).2.2).2.2.2.1 from (by unfold cMend; simp only [if_pos bw144, if_neg bw145]; first | done | rfl | (simp only [q141, q123, kg129.fa 90 rfl, kg129.fa 91 rfl, kg129.fa 92 rfl, kg129.fa 93 rfl, (show ig129 5700 = i 5700 from kg129.fi 5700 rfl), (show ig129 5701 = i 5701 from kg129.fi 5701 rfl), sMn, sMx]; done) | (simp only [q141, q123, kg129.fa 90 rfl, kg129.fa 91 rfl, kg129.fa 92 rfl, kg129.fa 93 rfl, (show ig129 5700 = i 5700 from kg129.fi 5700 rfl), (show ig129 5701 = i 5701 from kg129.fi 5701 rfl), sMn, sMx]; rfl))), (show ig137 5700 = ((cMend (i 64) x1 x2 x3 (a 2, a 3, a 4, a 5, i 70, i 71, i 72) (a 90, a 91, a 92, a 93, i 5700, i 5701)).2.2).2.2.2.2.1 from (by unfold cMend; simp only [if_pos bw144, if_neg bw145]; first | done | rfl | (simp only [q142, q123, kg129.fa 90 rfl, kg129.fa 91 rfl, kg129.fa 92 rfl, kg129.fa 93 rfl, (show ig129 5700 = i 5700 from kg129.fi 5700 rfl), (show ig129 5701 = i 5701 from kg129.fi 5701 rfl), sMn, sMx]; done) | (simp only [q142, q123, kg129.fa 90 rfl, kg129.fa 91 rfl, kg129.fa 92 rfl, kg129.fa 93 rfl, (show ig129 5700 = i 5700 from kg129.fi 5700 rfl), (show ig129 5701 = i 5701 from kg129.fi 5701 rfl), sMn, sMx]; rfl))), (show ig137 5701 = ((cMend (i 64) x1 x2 x3 (a 2, a 3, a 4, a 5, i 70, i 71, i 72) (a 90, a 91, a 92, a 93, i 5700, i 5701)).2.2).2.2.2.2.2 from (by unfold cMend; simp only [if_pos bw144, if_neg bw145]; first | done | rfl | (simp only [q143, q123, kg129.fa 90 rfl, kg129.fa 91 rfl, kg129.fa 92 rfl, kg129.fa 93 rfl, (show ig129 5700 = i 5700 from kg129.fi 5700 rfl), (show ig129 5701 = i 5701 from kg129.fi 5701 rfl), sMn, sMx]; done) | (simp only [q143, q123, kg129.fa 90 rfl, kg129.fa 91 rfl, kg129.fa 92 rfl, kg129.fa 93 rfl, (show ig129 5700 = i 5700 from kg129.fi 5700 rfl), (show ig129 5701 = i 5701 from kg129.fi 5701 rfl), sMn, sMx]; rfl)))⟩⟩)
      ·
        subst eg120
        have z146 : ¬ (((1 : Int) ≤ x3.toInt) ∧ (x3.toInt ≤ 5)) := hg120
        first | refine fo_goS mi_k83 fz83_6_2_18 [.int (-1)] (by rfl) ?_ | refine fo_goS mi_k83 fz83_14_2_18 [.int (-1)] (by rfl) ?_ | refine ft_go mi_k83 2 18 [(0, .ref 0), (1, .int x1), (2, .int x2), (3, .int x3)] [.int (-1)] i a q r (by rfl) ?_
        have bw147 : ¬ (kTold (i 64) x1 x2 ∧ kFit x2 x3) := (fun z => absurd ((kFit_4 (ou0 w119)).mp z.2) (ou115 z146))
        exact ft_ret mi_k83 (by rfl) (hP (-1) _ _ _ _ hG ⟨trivial, ⟨(show ((-1) : Int32) = (cMend (i 64) x1 x2 x3 (a 2, a 3, a 4, a 5, i 70, i 71, i 72) (a 90, a 91, a 92, a 93, i 5700, i 5701)).1 from (by unfold cMend; simp only [if_neg bw147]; first | done | rfl | (simp only [sMn, sMx]; done) | (simp only [sMn, sMx]; rfl))), (show a 2 = ((cMend (i 64) x1 x2 x3 (a 2, a 3, a 4, a 5, i 70, i 71, i 72) (a 90, a 91, a 92, a 93, i 5700, i 5701)).2.1).1 from (by unfold cMend; simp only [if_neg bw147]; first | done | rfl | (simp only [sMn, sMx]; done) | (simp only [sMn, sMx]; rfl))), (show a 3 = ((cMend (i 64) x1 x2 x3 (a 2, a 3, a 4, a 5, i 70, i 71, i 72) (a 90, a 91, a 92, a 93, i 5700, i 5701)).2.1).2.1 from (by unfold cMend; simp only [if_neg bw147]; first | done | rfl | (simp only [sMn, sMx]; done) | (simp only [sMn, sMx]; rfl))), (show a 4 = ((cMend (i 64) x1 x2 x3 (a 2, a 3, a 4, a 5, i 70, i 71, i 72) (a 90, a 91, a 92, a 93, i 5700, i 5701)).2.1).2.2.1 from (by unfold cMend; simp only [if_neg bw147]; first | done | rfl | (simp only [sMn, sMx]; done) | (simp only [sMn, sMx]; rfl))), (show a 5 = ((cMend (i 64) x1 x2 x3 (a 2, a 3, a 4, a 5, i 70, i 71, i 72) (a 90, a 91, a 92, a 93, i 5700, i 5701)).2.1).2.2.2.1 from (by unfold cMend; simp only [if_neg bw147]; first | done | rfl | (simp only [sMn, sMx]; done) | (simp only [sMn, sMx]; rfl))), (show i 70 = ((cMend (i 64) x1 x2 x3 (a 2, a 3, a 4, a 5, i 70, i 71, i 72) (a 90, a 91, a 92, a 93, i 5700, i 5701)).2.1).2.2.2.2.1 from (by unfold cMend; simp only [if_neg bw147]; first | done | rfl | (simp only [sMn, sMx]; done) | (simp only [sMn, sMx]; rfl))), (show i 71 = ((cMend (i 64) x1 x2 x3 (a 2, a 3, a 4, a 5, i 70, i 71, i 72) (a 90, a 91, a 92, a 93, i 5700, i 5701)).2.1).2.2.2.2.2.1 from (by unfold cMend; simp only [if_neg bw147]; first | done | rfl | (simp only [sMn, sMx]; done) | (simp only [sMn, sMx]; rfl))), (show i 72 = ((cMend (i 64) x1 x2 x3 (a 2, a 3, a 4, a 5, i 70, i 71, i 72) (a 90, a 91, a 92, a 93, i 5700, i 5701)).2.1).2.2.2.2.2.2 from (by unfold cMend; simp only [if_neg bw147]; first | done | rfl | (simp only [sMn, sMx]; done) | (simp only [sMn, sMx]; rfl))), (show a 90 = ((cMend (i 64) x1 x2 x3 (a 2, a 3, a 4, a 5, i 70, i 71, i 72) (a 90, a 91, a 92, a 93, i 5700, i 5701)).2.2).1 from (by unfold cMend; simp only [if_neg bw147]; first | done | rfl | (simp only [sMn, sMx]; done) | (simp only [sMn, sMx]; rfl))), (show a 91 = ((cMend (i 64) x1 x2 x3 (a 2, a 3, a 4, a 5, i 70, i 71, i 72) (a 90, a 91, a 92, a 93, i 5700, i 5701)).2.2).2.1 from (by unfold cMend; simp only [if_neg bw147]; first | done | rfl | (simp only [sMn, sMx]; done) | (simp only [sMn, sMx]; rfl))), (show a 92 = ((cMend (i 64) x1 x2 x3 (a 2, a 3, a 4, a 5, i 70, i 71, i 72) (a 90, a 91, a 92, a 93, i 5700, i 5701)).2.2).2.2.1 from (by unfold cMend; simp only [if_neg bw147]; first | done | rfl | (simp only [sMn, sMx]; done) | (simp only [sMn, sMx]; rfl))), (show a 93 = ((cMend (i 64) x1 x2 x3 (a 2, a 3, a 4, a 5, i 70, i 71, i 72) (a 90, a 91, a 92, a 93, i 5700, i 5701)).2.2).2.2.2.1 from (by unfold cMend; simp only [if_neg bw147]; first | done | rfl | (simp only [sMn, sMx]; done) | (simp only [sMn, sMx]; rfl))), (show i 5700 = ((cMend (i 64) x1 x2 x3 (a 2, a 3, a 4, a 5, i 70, i 71, i 72) (a 90, a 91, a 92, a 93, i 5700, i 5701)).2.2).2.2.2.2.1 from (by unfold cMend; simp only [if_neg bw147]; first | done | rfl | (simp only [sMn, sMx]; done) | (simp only [sMn, sMx]; rfl))), (show i 5701 = ((cMend (i 64) x1 x2 x3 (a 2, a 3, a 4, a 5, i 70, i 71, i 72) (a 90, a 91, a 92, a 93, i 5700, i 5701)).2.2).2.2.2.2.2 from (by unfold cMend; simp only [if_neg bw147]; first | done | rfl | (simp only [sMn, sMx]; done) | (simp only [sMn, sMx]; rfl)))⟩⟩)
    by_cases w148 : x2.toInt = 5
    ·
      refine ko_eq (x1 := (11, [(0, .ref 0), (1, .int x1), (2, .int x2), (3, .int x3)], [.int x3, .int 5], (0, 0), ks i a q r)) (by rw [(kj_eq w148 (by decide) : x2 = 5)]) ?_
      refine ko_callPI mi_k83.1 (pc := 11) (ls := [(0, .ref 0), (1, .int x1), (2, .int x2), (3, .int x3)]) (st := [.int x3, .int 5]) (h := ks i a q r) (i := (.invokestatic 58, 3, 126, 0, 9, 0, 151)) (mi_k83.2 _ _ (by rfl)) (ft_invS mi_pq126 (by rfl)) (cy := mi_c126) mi_pq126 rfl (ke126_l05 hG.I hG.R x3) (by decide) ?_
      intro vg149 hg149
      rcases hg149 with ⟨eg149, hg149⟩ | ⟨eg149, hg149⟩
      ·
        subst eg149
        have z150 : ((0 : Int) ≤ x3.toInt) ∧ (x3.toInt ≤ 1) := hg149
        first | refine fo_goS mi_k83 fz83_14_5_25 [.int x2, .int x1, .ref 1] (by rfl) ?_ | refine ft_go mi_k83 5 25 [(0, .ref 0), (1, .int x1), (2, .int x2), (3, .int x3)] [.int x2, .int x1, .ref 1] i a q r (by rfl) ?_
        refine ko_callPI mi_k83.1 (pc := 25) (ls := [(0, .ref 0), (1, .int x1), (2, .int x2), (3, .int x3)]) (st := [.int x2, .int x1, .ref 1]) (h := ks i a q r) (i := (.invokevirtual 98, 3, 27, 0, 9, 0, 164)) (mi_k83.2 _ _ (by rfl)) (ft_invS mi_pq27 (by rfl)) (cy := mi_c27) mi_pq27 rfl (ke27_1 hG.I hG.R x1 x2) (by decide) ?_
        intro vg151 hg151
        obtain ⟨hg151, og151⟩ := hg151
        have q152 : vg151 = cGet (i 64) x1 x2 (a 2, a 3, a 4, a 5, i 70, i 71, i 72) := og151
        have u153 : vg151.toInt = (cGet (i 64) x1 x2 (a 2, a 3, a 4, a 5, i 70, i 71, i 72)).toInt := congrArg Int32.toInt q152
        first | refine fo_goL mi_k83 fz83_28_3_33 [(4, .int vg151), (0, .ref 0), (1, .int x1), (2, .int x2), (3, .int x3)] [.int x3, .int vg151] (by rfl) ?_ | refine ft_go mi_k83 3 33 [(4, .int vg151), (0, .ref 0), (1, .int x1), (2, .int x2), (3, .int x3)] [.int x3, .int vg151] i a q r (by rfl) ?_
        refine ft_ifS mi_k83 (vg151 == x3) 58 36 [] (by rfl) (fun c => ?_) (fun c => ?_)
        ·
          have c154 : vg151.toInt = x3.toInt := kd_eq c; clear c
          first | refine fo_goS mi_k83 fz83_58_1_60 [.int vg151] (by rfl) ?_ | refine ft_go mi_k83 1 60 [(4, .int vg151), (0, .ref 0), (1, .int x1), (2, .int x2), (3, .int x3)] [.int vg151] i a q r (by rfl) ?_
          have bw155 : (kTold (i 64) x1 x2 ∧ kFit x2 x3) := ⟨(ou119 w148 z2), (kFit_5 (ou2 w148)).mpr (ou106 z150.1 z150.2)⟩
          have bw156 : (cGet (i 64) x1 x2 (a 2, a 3, a 4, a 5, i 70, i 71, i 72)).toInt = x3.toInt := (ou85 c154 u153)
          exact ft_ret mi_k83 (by rfl) (hP vg151 _ _ _ _ hG ⟨trivial, ⟨(show vg151 = (cMend (i 64) x1 x2 x3 (a 2, a 3, a 4, a 5, i 70, i 71, i 72) (a 90, a 91, a 92, a 93, i 5700, i 5701)).1 from (by unfold cMend; simp only [if_pos bw155, if_pos bw156]; first | done | rfl | (simp only [q152, sMn, sMx]; done) | (simp only [q152, sMn, sMx]; rfl))), (show a 2 = ((cMend (i 64) x1 x2 x3 (a 2, a 3, a 4, a 5, i 70, i 71, i 72) (a 90, a 91, a 92, a 93, i 5700, i 5701)).2.1).1 from (by unfold cMend; simp only [if_pos bw155, if_pos bw156]; first | done | rfl | (simp only [sMn, sMx]; done) | (simp only [sMn, sMx]; rfl))), (show a 3 = ((cMend (i 64) x1 x2 x3 (a 2, a 3, a 4, a 5, i 70, i 71, i 72) (a 90, a 91, a 92, a 93, i 5700, i 5701)).2.1).2.1 from (by unfold cMend; simp only [if_pos bw155, if_pos bw156]; first | done | rfl | (simp only [sMn, sMx]; done) | (simp only [sMn, sMx]; rfl))), (show a 4 = ((cMend (i 64) x1 x2 x3 (a 2, a 3, a 4, a 5, i 70, i 71, i 72) (a 90, a 91, a 92, a 93, i 5700, i 5701)).2.1).2.2.1 from (by unfold cMend; simp only [if_pos bw155, if_pos bw156]; first | done | rfl | (simp only [sMn, sMx]; done) | (simp only [sMn, sMx]; rfl))), (show a 5 = ((cMend (i 64) x1 x2 x3 (a 2, a 3, a 4, a 5, i 70, i 71, i 72) (a 90, a 91, a 92, a 93, i 5700, i 5701)).2.1).2.2.2.1 from (by unfold cMend; simp only [if_pos bw155, if_pos bw156]; first | done | rfl | (simp only [sMn, sMx]; done) | (simp only [sMn, sMx]; rfl))), (show i 70 = ((cMend (i 64) x1 x2 x3 (a 2, a 3, a 4, a 5, i 70, i 71, i 72) (a 90, a 91, a 92, a 93, i 5700, i 5701)).2.1).2.2.2.2.1 from (by unfold cMend; simp only [if_pos bw155, if_pos bw156]; first | done | rfl | (simp only [sMn, sMx]; done) | (simp only [sMn, sMx]; rfl))), (show i 71 = ((cMend (i 64) x1 x2 x3 (a 2, a 3, a 4, a 5, i 70, i 71, i 72) (a 90, a 91, a 92, a 93, i 5700, i 5701)).2.1).2.2.2.2.2.1 from (by unfold cMend; simp only [if_pos bw155, if_pos bw156]; first | done | rfl | (simp only [sMn, sMx]; done) | (simp only [sMn, sMx]; rfl))), (show i 72 = ((cMend (i 64) x1 x2 x3 (a 2, a 3, a 4, a 5, i 70, i 71, i 72) (a 90, a 91, a 92, a 93, i 5700, i 5701)).2.1).2.2.2.2.2.2 from (by unfold cMend; simp only [if_pos bw155, if_pos bw156]; first | done | rfl | (simp only [sMn, sMx]; done) | (simp only [sMn, sMx]; rfl))), (show a 90 = ((cMend (i 64) x1 x2 x3 (a 2, a 3, a 4, a 5, i 70, i 71, i 72) (a 90, a 91, a 92, a 93, i 5700, i 5701)).2.2).1 from (by unfold cMend; simp only [if_pos bw155, if_pos bw156]; first | done | rfl | (simp only [sMn, sMx]; done) | (simp only [sMn, sMx]; rfl))), (show a 91 = ((cMend (i 64) x1 x2 x3 (a 2, a 3, a 4, a 5, i 70, i 71, i 72) (a 90, a 91, a 92, a 93, i 5700, i 5701)).2.2).2.1 from (by unfold cMend; simp only [if_pos bw155, if_pos bw156]; first | done | rfl | (simp only [sMn, sMx]; done) | (simp only [sMn, sMx]; rfl))), (show a 92 = ((cMend (i 64) x1 x2 x3 (a 2, a 3, a 4, a 5, i 70, i 71, i 72) (a 90, a 91, a 92, a 93, i 5700, i 5701)).2.2).2.2.1 from (by unfold cMend; simp only [if_pos bw155, if_pos bw156]; first | done | rfl | (simp only [sMn, sMx]; done) | (simp only [sMn, sMx]; rfl))), (show a 93 = ((cMend (i 64) x1 x2 x3 (a 2, a 3, a 4, a 5, i 70, i 71, i 72) (a 90, a 91, a 92, a 93, i 5700, i 5701)).2.2).2.2.2.1 from (by unfold cMend; simp only [if_pos bw155, if_pos bw156]; first | done | rfl | (simp only [sMn, sMx]; done) | (simp only [sMn, sMx]; rfl))), (show i 5700 = ((cMend (i 64) x1 x2 x3 (a 2, a 3, a 4, a 5, i 70, i 71, i 72) (a 90, a 91, a 92, a 93, i 5700, i 5701)).2.2).2.2.2.2.1 from (by unfold cMend; simp only [if_pos bw155, if_pos bw156]; first | done | rfl | (simp only [sMn, sMx]; done) | (simp only [sMn, sMx]; rfl))), (show i 5701 = ((cMend (i 64) x1 x2 x3 (a 2, a 3, a 4, a 5, i 70, i 71, i 72) (a 90, a 91, a 92, a 93, i 5700, i 5701)).2.2).2.2.2.2.2 from (by unfold cMend; simp only [if_pos bw155, if_pos bw156]; first | done | rfl | (simp only [sMn, sMx]; done) | (simp only [sMn, sMx]; rfl)))⟩⟩)
        ·
          have c157 : vg151.toInt ≠ x3.toInt := kd_eqF c; clear c
          first | refine fo_goS mi_k83 fz83_36_5_43 [.int x3, .int x2, .int x1, .ref 1] (by rfl) ?_ | refine ft_go mi_k83 5 43 [(4, .int vg151), (0, .ref 0), (1, .int x1), (2, .int x2), (3, .int x3)] [.int x3, .int x2, .int x1, .ref 1] i a q r (by rfl) ?_
          refine ko_callN mi_k83.1 (pc := 43) (ls := [(4, .int vg151), (0, .ref 0), (1, .int x1), (2, .int x2), (3, .int x3)]) (st := [.int x3, .int x2, .int x1, .ref 1]) (h := ks i a q r) (i := (.invokevirtual 102, 3, 28, 0, 9, 0, 167)) (mi_k83.2 _ _ (by rfl)) (ft_invS mi_pq28 (by rfl)) (cy := mi_c28) mi_pq28 rfl (ke28_1 hG.I hG.R x1 x2 x3) (by decide) ?_
          intro ig158 ag158 qg158 rg158 kg158 hg158
          have hGg158 := kG_call hG kg158 (by decide +kernel)
          obtain ⟨hg158, og158⟩ := hg158
          have q159 : ag158 2 = (cSet (i 64) x1 x2 x3 (a 2, a 3, a 4, a 5, i 70, i 71, i 72)).1 := og158.1
          have q160 : ag158 3 = (cSet (i 64) x1 x2 x3 (a 2, a 3, a 4, a 5, i 70, i 71, i 72)).2.1 := og158.2.1
          have q161 : ag158 4 = (cSet (i 64) x1 x2 x3 (a 2, a 3, a 4, a 5, i 70, i 71, i 72)).2.2.1 := og158.2.2.1
          have q162 : ag158 5 = (cSet (i 64) x1 x2 x3 (a 2, a 3, a 4, a 5, i 70, i 71, i 72)).2.2.2.1 := og158.2.2.2.1
          have q163 : ig158 70 = (cSet (i 64) x1 x2 x3 (a 2, a 3, a 4, a 5, i 70, i 71, i 72)).2.2.2.2.1 := og158.2.2.2.2.1
          have q164 : ig158 71 = (cSet (i 64) x1 x2 x3 (a 2, a 3, a 4, a 5, i 70, i 71, i 72)).2.2.2.2.2.1 := og158.2.2.2.2.2.1
          have q165 : ig158 72 = (cSet (i 64) x1 x2 x3 (a 2, a 3, a 4, a 5, i 70, i 71, i 72)).2.2.2.2.2.2 := og158.2.2.2.2.2.2
          first | refine fo_goS mi_k83 fz83_46_6_55 [.int x3, .int vg151, .int x2, .int x1, .ref 89] (by rfl) ?_ | refine ft_go mi_k83 6 55 [(4, .int vg151), (0, .ref 0), (1, .int x1), (2, .int x2), (3, .int x3)] [.int x3, .int vg151, .int x2, .int x1, .ref 89] ig158 ag158 qg158 rg158 (by rfl) ?_
          refine ko_callN mi_k83.1 (pc := 55) (ls := [(4, .int vg151), (0, .ref 0), (1, .int x1), (2, .int x2), (3, .int x3)]) (st := [.int x3, .int vg151, .int x2, .int x1, .ref 89]) (h := ks ig158 ag158 qg158 rg158) (i := (.invokevirtual 106, 3, 5, 0, 9, 0, 168)) (mi_k83.2 _ _ (by rfl)) (ft_invS mi_pq5 (by rfl)) (cy := mi_c5) mi_pq5 rfl (ke5_89 hGg158.I hGg158.R x1 x2 vg151 x3) (by decide) ?_
          intro ig166 ag166 qg166 rg166 kg166 hg166
          have hGg166 := kG_call hGg158 kg166 (by decide +kernel)
          obtain ⟨hg166, og166⟩ := hg166
          have q167 : ag166 90 = (nAdd x1 x2 vg151 x3 (ag158 90, ag158 91, ag158 92, ag158 93, ig158 5700, ig158 5701)).1 := og166.1
          have q168 : ag166 91 = (nAdd x1 x2 vg151 x3 (ag158 90, ag158 91, ag158 92, ag158 93, ig158 5700, ig158 5701)).2.1 := og166.2.1
          have q169 : ag166 92 = (nAdd x1 x2 vg151 x3 (ag158 90, ag158 91, ag158 92, ag158 93, ig158 5700, ig158 5701)).2.2.1 := og166.2.2.1
          have q170 : ag166 93 = (nAdd x1 x2 vg151 x3 (ag158 90, ag158 91, ag158 92, ag158 93, ig158 5700, ig158 5701)).2.2.2.1 := og166.2.2.2.1
          have q171 : ig166 5700 = (nAdd x1 x2 vg151 x3 (ag158 90, ag158 91, ag158 92, ag158 93, ig158 5700, ig158 5701)).2.2.2.2.1 := og166.2.2.2.2.1
          have q172 : ig166 5701 = (nAdd x1 x2 vg151 x3 (ag158 90, ag158 91, ag158 92, ag158 93, ig158 5700, ig158 5701)).2.2.2.2.2 := og166.2.2.2.2.2
          first | refine fo_goS mi_k83 fz83_58_1_60 [.int vg151] (by rfl) ?_ | refine ft_go mi_k83 1 60 [(4, .int vg151), (0, .ref 0), (1, .int x1), (2, .int x2), (3, .int x3)] [.int vg151] ig166 ag166 qg166 rg166 (by rfl) ?_
          have bw173 : (kTold (i 64) x1 x2 ∧ kFit x2 x3) := ⟨(ou119 w148 z2), (kFit_5 (ou2 w148)).mpr (ou106 z150.1 z150.2)⟩
          have bw174 : ¬ ((cGet (i 64) x1 x2 (a 2, a 3, a 4, a 5, i 70, i 71, i 72)).toInt = x3.toInt) := (ou86 c157 u153)
          exact ft_ret mi_k83 (by rfl) (hP vg151 _ _ _ _ hGg166 ⟨trivial, ⟨(show vg151 = (cMend (i 64) x1 x2 x3 (a 2, a 3, a 4, a 5, i 70, i 71, i 72) (a 90, a 91, a 92, a 93, i 5700, i 5701)).1 from (by unfold cMend; simp only [if_pos bw173, if_neg bw174]; first | done | rfl | (simp only [q152, sMn, sMx]; done) | (simp only [q152, sMn, sMx]; rfl))), (show ag166 2 = ((cMend (i 64) x1 x2 x3 (a 2, a 3, a 4, a 5, i 70, i 71, i 72) (a 90, a 91, a 92, a 93, i 5700, i 5701)).2.1).1 from (by unfold cMend; simp only [if_pos bw173, if_neg bw174]; first | done | rfl | (simp only [kg166.fa 2 rfl, q159, sMn, sMx]; done) | (simp only [kg166.fa 2 rfl, q159, sMn, sMx]; rfl))), (show ag166 3 = ((cMend (i 64) x1 x2 x3 (a 2, a 3, a 4, a 5, i 70, i 71, i 72) (a 90, a 91, a 92, a 93, i 5700, i 5701)).2.1).2.1 from (by unfold cMend; simp only [if_pos bw173, if_neg bw174]; first | done | rfl | (simp only [kg166.fa 3 rfl, q160, sMn, sMx]; done) | (simp only [kg166.fa 3 rfl, q160, sMn, sMx]; rfl))), (show ag166 4 = ((cMend (i 64) x1 x2 x3 (a 2, a 3, a 4, a 5, i 70, i 71, i 72) (a 90, a 91, a 92, a 93, i 5700, i 5701)).2.1).2.2.1 from (by unfold cMend; simp only [if_pos bw173, if_neg bw174]; first | done | rfl | (simp only [kg166.fa 4 rfl, q161, sMn, sMx]; done) | (simp only [kg166.fa 4 rfl, q161, sMn, sMx]; rfl))), (show ag166 5 = ((cMend (i 64) x1 x2 x3 (a 2, a 3, a 4, a 5, i 70, i 71, i 72) (a 90, a 91, a 92, a 93, i 5700, i 5701)).2.1).2.2.2.1 from (by unfold cMend; simp only [if_pos bw173, if_neg bw174]; first | done | rfl | (simp only [kg166.fa 5 rfl, q162, sMn, sMx]; done) | (simp only [kg166.fa 5 rfl, q162, sMn, sMx]; rfl))), (show ig166 70 = ((cMend (i 64) x1 x2 x3 (a 2, a 3, a 4, a 5, i 70, i 71, i 72) (a 90, a 91, a 92, a 93, i 5700, i 5701)).2.1).2.2.2.2.1 from (by unfold cMend; simp only [if_pos bw173, if_neg bw174]; first | done | rfl | (simp only [(show ig166 70 = ig158 70 from kg166.fi 70 rfl), q163, sMn, sMx]; done) | (simp only [(show ig166 70 = ig158 70 from kg166.fi 70 rfl), q163, sMn, sMx]; rfl))), (show ig166 71 = ((cMend (i 64) x1 x2 x3 (a 2, a 3, a 4, a 5, i 70, i 71, i 72) (a 90, a 91, a 92, a 93, i 5700, i 5701)).2.1).2.2.2.2.2.1 from (by unfold cMend; simp only [if_pos bw173, if_neg bw174]; first | done | rfl | (simp only [(show ig166 71 = ig158 71 from kg166.fi 71 rfl), q164, sMn, sMx]; done) | (simp only [(show ig166 71 = ig158 71 from kg166.fi 71 rfl), q164, sMn, sMx]; rfl))), (show ig166 72 = ((cMend (i 64) x1 x2 x3 (a 2, a 3, a 4, a 5, i 70, i 71, i 72) (a 90, a 91, a 92, a 93, i 5700, i 5701)).2.1).2.2.2.2.2.2 from (by unfold cMend; simp only [if_pos bw173, if_neg bw174]; first | done | rfl | (simp only [(show ig166 72 = ig158 72 from kg166.fi 72 rfl), q165, sMn, sMx]; done) | (simp only [(show ig166 72 = ig158 72 from kg166.fi 72 rfl), q165, sMn, sMx]; rfl))), (show ag166 90 = ((cMend (i 64) x1 x2 x3 (a 2, a 3, a 4, a 5, i 70, i 71, i 72) (a 90, a 91, a 92, a 93, i 5700, i 5701)).2.2).1 from (by unfold cMend; simp only [if_pos bw173, if_neg bw174]; first | done | rfl | (simp only [q167, q152, kg158.fa 90 rfl, kg158.fa 91 rfl, kg158.fa 92 rfl, kg158.fa 93 rfl, (show ig158 5700 = i 5700 from kg158.fi 5700 rfl), (show ig158 5701 = i 5701 from kg158.fi 5701 rfl), sMn, sMx]; done) | (simp only [q167, q152, kg158.fa 90 rfl, kg158.fa 91 rfl, kg158.fa 92 rfl, kg158.fa 93 rfl, (show ig158 5700 = i 5700 from kg158.fi 5700 rfl), (show ig158 5701 = i 5701 from kg158.fi 5701 rfl), sMn, sMx]; rfl))), (show ag166 91 = ((cMend (i 64) x1 x2 x3 (a 2, a 3, a 4, a 5, i 70, i 71, i 72) (a 90, a 91, a 92, a 93, i 5700, i 5701)).2.2).2.1 from (by unfold cMend; simp only [if_pos bw173, if_neg bw174]; first | done | rfl | (simp only [q168, q152, kg158.fa 90 rfl, kg158.fa 91 rfl, kg158.fa 92 rfl, kg158.fa 93 rfl, (show ig158 5700 = i 5700 from kg158.fi 5700 rfl), (show ig158 5701 = i 5701 from kg158.fi 5701 rfl), sMn, sMx]; done) | (simp only [q168, q152, kg158.fa 90 rfl, kg158.fa 91 rfl, kg158.fa 92 rfl, kg158.fa 93 rfl, (show ig158 5700 = i 5700 from kg158.fi 5700 rfl), (show ig158 5701 = i 5701 from kg158.fi 5701 rfl), sMn, sMx]; rfl))), (show ag166 92 = ((cMend (i 64) x1 x2 x3 (a 2, a 3, a 4, a 5, i 70, i 71, i 72) (a 90, a 91, a 92, a 93, i 5700, i 5701)).2.2).2.2.1 from (by unfold cMend; simp only [if_pos bw173, if_neg bw174]; first | done | rfl | (simp only [q169, q152, kg158.fa 90 rfl, kg158.fa 91 rfl, kg158.fa 92 rfl, kg158.fa 93 rfl, (show ig158 5700 = i 5700 from kg158.fi 5700 rfl), (show ig158 5701 = i 5701 from kg158.fi 5701 rfl), sMn, sMx]; done) | (simp only [q169, q152, kg158.fa 90 rfl, kg158.fa 91 rfl, kg158.fa 92 rfl, kg158.fa 93 rfl, (show ig158 5700 = i 5700 from kg158.fi 5700 rfl), (show ig158 5701 = i 5701 from kg158.fi 5701 rfl), sMn, sMx]; rfl))), (show ag166 93 = ((cMend (i 64) x1 x2 x3 (a 2, a 3, a 4, a 5, i 70, i 71, i 72) (a 90, a 91, a 92, a 93, i 5700, i 5701)).2.2).2.2.2.1 from (by unfold cMend; simp only [if_pos bw173, if_neg bw174]; first | done | rfl | (simp only [q170, q152, kg158.fa 90 rfl, kg158.fa 91 rfl, kg158.fa 92 rfl, kg158.fa 93 rfl, (show ig158 5700 = i 5700 from kg158.fi 5700 rfl), (show ig158 5701 = i 5701 from kg158.fi 5701 rfl), sMn, sMx]; done) | (simp only [q170, q152, kg158.fa 90 rfl, kg158.fa 91 rfl, kg158.fa 92 rfl, kg158.fa 93 rfl, (show ig158 5700 = i 5700 from kg158.fi 5700 rfl), (show ig158 5701 = i 5701 from kg158.fi 5701 rfl), sMn, sMx]; rfl))), (show ig166 5700 = ((cMend (i 64) x1 x2 x3 (a 2, a 3, a 4, a 5, i 70, i 71, i 72) (a 90, a 91, a 92, a 93, i 5700, i 5701)).2.2).2.2.2.2.1 from (by unfold cMend; simp only [if_pos bw173, if_neg bw174]; first | done | rfl | (simp only [q171, q152, kg158.fa 90 rfl, kg158.fa 91 rfl, kg158.fa 92 rfl, kg158.fa 93 rfl, (show ig158 5700 = i 5700 from kg158.fi 5700 rfl), (show ig158 5701 = i 5701 from kg158.fi 5701 rfl), sMn, sMx]; done) | (simp only [q171, q152, kg158.fa 90 rfl, kg158.fa 91 rfl, kg158.fa 92 rfl, kg158.fa 93 rfl, (show ig158 5700 = i 5700 from kg158.fi 5700 rfl), (show ig158 5701 = i 5701 from kg158.fi 5701 rfl), sMn, sMx]; rfl))), (show ig166 5701 = ((cMend (i 64) x1 x2 x3 (a 2, a 3, a 4, a 5, i 70, i 71, i 72) (a 90, a 91, a 92, a 93, i 5700, i 5701)).2.2).2.2.2.2.2 from (by unfold cMend; simp only [if_pos bw173, if_neg bw174]; first | done | rfl | (simp only [q172, q152, kg158.fa 90 rfl, kg158.fa 91 rfl, kg158.fa 92 rfl, kg158.fa 93 rfl, (show ig158 5700 = i 5700 from kg158.fi 5700 rfl), (show ig158 5701 = i 5701 from kg158.fi 5701 rfl), sMn, sMx]; done) | (simp only [q172, q152, kg158.fa 90 rfl, kg158.fa 91 rfl, kg158.fa 92 rfl, kg158.fa 93 rfl, (show ig158 5700 = i 5700 from kg158.fi 5700 rfl), (show ig158 5701 = i 5701 from kg158.fi 5701 rfl), sMn, sMx]; rfl)))⟩⟩)
      ·
        subst eg149
        have z175 : ¬ (((0 : Int) ≤ x3.toInt) ∧ (x3.toInt ≤ 1)) := hg149
        first | refine fo_goS mi_k83 fz83_6_2_18 [.int (-1)] (by rfl) ?_ | refine fo_goS mi_k83 fz83_14_2_18 [.int (-1)] (by rfl) ?_ | refine ft_go mi_k83 2 18 [(0, .ref 0), (1, .int x1), (2, .int x2), (3, .int x3)] [.int (-1)] i a q r (by rfl) ?_
        have bw176 : ¬ (kTold (i 64) x1 x2 ∧ kFit x2 x3) := (fun z => absurd ((kFit_5 (ou2 w148)).mp z.2) (ou107 z175))
        exact ft_ret mi_k83 (by rfl) (hP (-1) _ _ _ _ hG ⟨trivial, ⟨(show ((-1) : Int32) = (cMend (i 64) x1 x2 x3 (a 2, a 3, a 4, a 5, i 70, i 71, i 72) (a 90, a 91, a 92, a 93, i 5700, i 5701)).1 from (by unfold cMend; simp only [if_neg bw176]; first | done | rfl | (simp only [sMn, sMx]; done) | (simp only [sMn, sMx]; rfl))), (show a 2 = ((cMend (i 64) x1 x2 x3 (a 2, a 3, a 4, a 5, i 70, i 71, i 72) (a 90, a 91, a 92, a 93, i 5700, i 5701)).2.1).1 from (by unfold cMend; simp only [if_neg bw176]; first | done | rfl | (simp only [sMn, sMx]; done) | (simp only [sMn, sMx]; rfl))), (show a 3 = ((cMend (i 64) x1 x2 x3 (a 2, a 3, a 4, a 5, i 70, i 71, i 72) (a 90, a 91, a 92, a 93, i 5700, i 5701)).2.1).2.1 from (by unfold cMend; simp only [if_neg bw176]; first | done | rfl | (simp only [sMn, sMx]; done) | (simp only [sMn, sMx]; rfl))), (show a 4 = ((cMend (i 64) x1 x2 x3 (a 2, a 3, a 4, a 5, i 70, i 71, i 72) (a 90, a 91, a 92, a 93, i 5700, i 5701)).2.1).2.2.1 from (by unfold cMend; simp only [if_neg bw176]; first | done | rfl | (simp only [sMn, sMx]; done) | (simp only [sMn, sMx]; rfl))), (show a 5 = ((cMend (i 64) x1 x2 x3 (a 2, a 3, a 4, a 5, i 70, i 71, i 72) (a 90, a 91, a 92, a 93, i 5700, i 5701)).2.1).2.2.2.1 from (by unfold cMend; simp only [if_neg bw176]; first | done | rfl | (simp only [sMn, sMx]; done) | (simp only [sMn, sMx]; rfl))), (show i 70 = ((cMend (i 64) x1 x2 x3 (a 2, a 3, a 4, a 5, i 70, i 71, i 72) (a 90, a 91, a 92, a 93, i 5700, i 5701)).2.1).2.2.2.2.1 from (by unfold cMend; simp only [if_neg bw176]; first | done | rfl | (simp only [sMn, sMx]; done) | (simp only [sMn, sMx]; rfl))), (show i 71 = ((cMend (i 64) x1 x2 x3 (a 2, a 3, a 4, a 5, i 70, i 71, i 72) (a 90, a 91, a 92, a 93, i 5700, i 5701)).2.1).2.2.2.2.2.1 from (by unfold cMend; simp only [if_neg bw176]; first | done | rfl | (simp only [sMn, sMx]; done) | (simp only [sMn, sMx]; rfl))), (show i 72 = ((cMend (i 64) x1 x2 x3 (a 2, a 3, a 4, a 5, i 70, i 71, i 72) (a 90, a 91, a 92, a 93, i 5700, i 5701)).2.1).2.2.2.2.2.2 from (by unfold cMend; simp only [if_neg bw176]; first | done | rfl | (simp only [sMn, sMx]; done) | (simp only [sMn, sMx]; rfl))), (show a 90 = ((cMend (i 64) x1 x2 x3 (a 2, a 3, a 4, a 5, i 70, i 71, i 72) (a 90, a 91, a 92, a 93, i 5700, i 5701)).2.2).1 from (by unfold cMend; simp only [if_neg bw176]; first | done | rfl | (simp only [sMn, sMx]; done) | (simp only [sMn, sMx]; rfl))), (show a 91 = ((cMend (i 64) x1 x2 x3 (a 2, a 3, a 4, a 5, i 70, i 71, i 72) (a 90, a 91, a 92, a 93, i 5700, i 5701)).2.2).2.1 from (by unfold cMend; simp only [if_neg bw176]; first | done | rfl | (simp only [sMn, sMx]; done) | (simp only [sMn, sMx]; rfl))), (show a 92 = ((cMend (i 64) x1 x2 x3 (a 2, a 3, a 4, a 5, i 70, i 71, i 72) (a 90, a 91, a 92, a 93, i 5700, i 5701)).2.2).2.2.1 from (by unfold cMend; simp only [if_neg bw176]; first | done | rfl | (simp only [sMn, sMx]; done) | (simp only [sMn, sMx]; rfl))), (show a 93 = ((cMend (i 64) x1 x2 x3 (a 2, a 3, a 4, a 5, i 70, i 71, i 72) (a 90, a 91, a 92, a 93, i 5700, i 5701)).2.2).2.2.2.1 from (by unfold cMend; simp only [if_neg bw176]; first | done | rfl | (simp only [sMn, sMx]; done) | (simp only [sMn, sMx]; rfl))), (show i 5700 = ((cMend (i 64) x1 x2 x3 (a 2, a 3, a 4, a 5, i 70, i 71, i 72) (a 90, a 91, a 92, a 93, i 5700, i 5701)).2.2).2.2.2.2.1 from (by unfold cMend; simp only [if_neg bw176]; first | done | rfl | (simp only [sMn, sMx]; done) | (simp only [sMn, sMx]; rfl))), (show i 5701 = ((cMend (i 64) x1 x2 x3 (a 2, a 3, a 4, a 5, i 70, i 71, i 72) (a 90, a 91, a 92, a 93, i 5700, i 5701)).2.2).2.2.2.2.2 from (by unfold cMend; simp only [if_neg bw176]; first | done | rfl | (simp only [sMn, sMx]; done) | (simp only [sMn, sMx]; rfl)))⟩⟩)
    by_cases w177 : x2.toInt = 6
    ·
      refine ko_eq (x1 := (11, [(0, .ref 0), (1, .int x1), (2, .int x2), (3, .int x3)], [.int x3, .int 6], (0, 0), ks i a q r)) (by rw [(kj_eq w177 (by decide) : x2 = 6)]) ?_
      refine ko_callPI mi_k83.1 (pc := 11) (ls := [(0, .ref 0), (1, .int x1), (2, .int x2), (3, .int x3)]) (st := [.int x3, .int 6]) (h := ks i a q r) (i := (.invokestatic 58, 3, 126, 0, 9, 0, 151)) (mi_k83.2 _ _ (by rfl)) (ft_invS mi_pq126 (by rfl)) (cy := mi_c126) mi_pq126 rfl (ke126_l06 hG.I hG.R x3) (by decide) ?_
      intro vg178 hg178
      rcases hg178 with ⟨eg178, hg178⟩ | ⟨eg178, hg178⟩
      ·
        subst eg178
        have z179 : ((0 : Int) ≤ x3.toInt) ∧ (x3.toInt ≤ 99) := hg178
        first | refine fo_goS mi_k83 fz83_14_5_25 [.int x2, .int x1, .ref 1] (by rfl) ?_ | refine ft_go mi_k83 5 25 [(0, .ref 0), (1, .int x1), (2, .int x2), (3, .int x3)] [.int x2, .int x1, .ref 1] i a q r (by rfl) ?_
        refine ko_callPI mi_k83.1 (pc := 25) (ls := [(0, .ref 0), (1, .int x1), (2, .int x2), (3, .int x3)]) (st := [.int x2, .int x1, .ref 1]) (h := ks i a q r) (i := (.invokevirtual 98, 3, 27, 0, 9, 0, 164)) (mi_k83.2 _ _ (by rfl)) (ft_invS mi_pq27 (by rfl)) (cy := mi_c27) mi_pq27 rfl (ke27_1 hG.I hG.R x1 x2) (by decide) ?_
        intro vg180 hg180
        obtain ⟨hg180, og180⟩ := hg180
        have q181 : vg180 = cGet (i 64) x1 x2 (a 2, a 3, a 4, a 5, i 70, i 71, i 72) := og180
        have u182 : vg180.toInt = (cGet (i 64) x1 x2 (a 2, a 3, a 4, a 5, i 70, i 71, i 72)).toInt := congrArg Int32.toInt q181
        first | refine fo_goL mi_k83 fz83_28_3_33 [(4, .int vg180), (0, .ref 0), (1, .int x1), (2, .int x2), (3, .int x3)] [.int x3, .int vg180] (by rfl) ?_ | refine ft_go mi_k83 3 33 [(4, .int vg180), (0, .ref 0), (1, .int x1), (2, .int x2), (3, .int x3)] [.int x3, .int vg180] i a q r (by rfl) ?_
        refine ft_ifS mi_k83 (vg180 == x3) 58 36 [] (by rfl) (fun c => ?_) (fun c => ?_)
        ·
          have c183 : vg180.toInt = x3.toInt := kd_eq c; clear c
          first | refine fo_goS mi_k83 fz83_58_1_60 [.int vg180] (by rfl) ?_ | refine ft_go mi_k83 1 60 [(4, .int vg180), (0, .ref 0), (1, .int x1), (2, .int x2), (3, .int x3)] [.int vg180] i a q r (by rfl) ?_
          have bw184 : (kTold (i 64) x1 x2 ∧ kFit x2 x3) := ⟨(ou125 w177 z2), (kFit_6 (ou5 w177)).mpr (ou126 z179.1 z179.2)⟩
          have bw185 : (cGet (i 64) x1 x2 (a 2, a 3, a 4, a 5, i 70, i 71, i 72)).toInt = x3.toInt := (ou85 c183 u182)
          exact ft_ret mi_k83 (by rfl) (hP vg180 _ _ _ _ hG ⟨trivial, ⟨(show vg180 = (cMend (i 64) x1 x2 x3 (a 2, a 3, a 4, a 5, i 70, i 71, i 72) (a 90, a 91, a 92, a 93, i 5700, i 5701)).1 from (by unfold cMend; simp only [if_pos bw184, if_pos bw185]; first | done | rfl | (simp only [q181, sMn, sMx]; done) | (simp only [q181, sMn, sMx]; rfl))), (show a 2 = ((cMend (i 64) x1 x2 x3 (a 2, a 3, a 4, a 5, i 70, i 71, i 72) (a 90, a 91, a 92, a 93, i 5700, i 5701)).2.1).1 from (by unfold cMend; simp only [if_pos bw184, if_pos bw185]; first | done | rfl | (simp only [sMn, sMx]; done) | (simp only [sMn, sMx]; rfl))), (show a 3 = ((cMend (i 64) x1 x2 x3 (a 2, a 3, a 4, a 5, i 70, i 71, i 72) (a 90, a 91, a 92, a 93, i 5700, i 5701)).2.1).2.1 from (by unfold cMend; simp only [if_pos bw184, if_pos bw185]; first | done | rfl | (simp only [sMn, sMx]; done) | (simp only [sMn, sMx]; rfl))), (show a 4 = ((cMend (i 64) x1 x2 x3 (a 2, a 3, a 4, a 5, i 70, i 71, i 72) (a 90, a 91, a 92, a 93, i 5700, i 5701)).2.1).2.2.1 from (by unfold cMend; simp only [if_pos bw184, if_pos bw185]; first | done | rfl | (simp only [sMn, sMx]; done) | (simp only [sMn, sMx]; rfl))), (show a 5 = ((cMend (i 64) x1 x2 x3 (a 2, a 3, a 4, a 5, i 70, i 71, i 72) (a 90, a 91, a 92, a 93, i 5700, i 5701)).2.1).2.2.2.1 from (by unfold cMend; simp only [if_pos bw184, if_pos bw185]; first | done | rfl | (simp only [sMn, sMx]; done) | (simp only [sMn, sMx]; rfl))), (show i 70 = ((cMend (i 64) x1 x2 x3 (a 2, a 3, a 4, a 5, i 70, i 71, i 72) (a 90, a 91, a 92, a 93, i 5700, i 5701)).2.1).2.2.2.2.1 from (by unfold cMend; simp only [if_pos bw184, if_pos bw185]; first | done | rfl | (simp only [sMn, sMx]; done) | (simp only [sMn, sMx]; rfl))), (show i 71 = ((cMend (i 64) x1 x2 x3 (a 2, a 3, a 4, a 5, i 70, i 71, i 72) (a 90, a 91, a 92, a 93, i 5700, i 5701)).2.1).2.2.2.2.2.1 from (by unfold cMend; simp only [if_pos bw184, if_pos bw185]; first | done | rfl | (simp only [sMn, sMx]; done) | (simp only [sMn, sMx]; rfl))), (show i 72 = ((cMend (i 64) x1 x2 x3 (a 2, a 3, a 4, a 5, i 70, i 71, i 72) (a 90, a 91, a 92, a 93, i 5700, i 5701)).2.1).2.2.2.2.2.2 from (by unfold cMend; simp only [if_pos bw184, if_pos bw185]; first | done | rfl | (simp only [sMn, sMx]; done) | (simp only [sMn, sMx]; rfl))), (show a 90 = ((cMend (i 64) x1 x2 x3 (a 2, a 3, a 4, a 5, i 70, i 71, i 72) (a 90, a 91, a 92, a 93, i 5700, i 5701)).2.2).1 from (by unfold cMend; simp only [if_pos bw184, if_pos bw185]; first | done | rfl | (simp only [sMn, sMx]; done) | (simp only [sMn, sMx]; rfl))), (show a 91 = ((cMend (i 64) x1 x2 x3 (a 2, a 3, a 4, a 5, i 70, i 71, i 72) (a 90, a 91, a 92, a 93, i 5700, i 5701)).2.2).2.1 from (by unfold cMend; simp only [if_pos bw184, if_pos bw185]; first | done | rfl | (simp only [sMn, sMx]; done) | (simp only [sMn, sMx]; rfl))), (show a 92 = ((cMend (i 64) x1 x2 x3 (a 2, a 3, a 4, a 5, i 70, i 71, i 72) (a 90, a 91, a 92, a 93, i 5700, i 5701)).2.2).2.2.1 from (by unfold cMend; simp only [if_pos bw184, if_pos bw185]; first | done | rfl | (simp only [sMn, sMx]; done) | (simp only [sMn, sMx]; rfl))), (show a 93 = ((cMend (i 64) x1 x2 x3 (a 2, a 3, a 4, a 5, i 70, i 71, i 72) (a 90, a 91, a 92, a 93, i 5700, i 5701)).2.2).2.2.2.1 from (by unfold cMend; simp only [if_pos bw184, if_pos bw185]; first | done | rfl | (simp only [sMn, sMx]; done) | (simp only [sMn, sMx]; rfl))), (show i 5700 = ((cMend (i 64) x1 x2 x3 (a 2, a 3, a 4, a 5, i 70, i 71, i 72) (a 90, a 91, a 92, a 93, i 5700, i 5701)).2.2).2.2.2.2.1 from (by unfold cMend; simp only [if_pos bw184, if_pos bw185]; first | done | rfl | (simp only [sMn, sMx]; done) | (simp only [sMn, sMx]; rfl))), (show i 5701 = ((cMend (i 64) x1 x2 x3 (a 2, a 3, a 4, a 5, i 70, i 71, i 72) (a 90, a 91, a 92, a 93, i 5700, i 5701)).2.2).2.2.2.2.2 from (by unfold cMend; simp only [if_pos bw184, if_pos bw185]; first | done | rfl | (simp only [sMn, sMx]; done) | (simp only [sMn, sMx]; rfl)))⟩⟩)
        ·
          have c186 : vg180.toInt ≠ x3.toInt := kd_eqF c; clear c
          first | refine fo_goS mi_k83 fz83_36_5_43 [.int x3, .int x2, .int x1, .ref 1] (by rfl) ?_ | refine ft_go mi_k83 5 43 [(4, .int vg180), (0, .ref 0), (1, .int x1), (2, .int x2), (3, .int x3)] [.int x3, .int x2, .int x1, .ref 1] i a q r (by rfl) ?_
          refine ko_callN mi_k83.1 (pc := 43) (ls := [(4, .int vg180), (0, .ref 0), (1, .int x1), (2, .int x2), (3, .int x3)]) (st := [.int x3, .int x2, .int x1, .ref 1]) (h := ks i a q r) (i := (.invokevirtual 102, 3, 28, 0, 9, 0, 167)) (mi_k83.2 _ _ (by rfl)) (ft_invS mi_pq28 (by rfl)) (cy := mi_c28) mi_pq28 rfl (ke28_1 hG.I hG.R x1 x2 x3) (by decide) ?_
          intro ig187 ag187 qg187 rg187 kg187 hg187
          have hGg187 := kG_call hG kg187 (by decide +kernel)
          obtain ⟨hg187, og187⟩ := hg187
          have q188 : ag187 2 = (cSet (i 64) x1 x2 x3 (a 2, a 3, a 4, a 5, i 70, i 71, i 72)).1 := og187.1
          have q189 : ag187 3 = (cSet (i 64) x1 x2 x3 (a 2, a 3, a 4, a 5, i 70, i 71, i 72)).2.1 := og187.2.1
          have q190 : ag187 4 = (cSet (i 64) x1 x2 x3 (a 2, a 3, a 4, a 5, i 70, i 71, i 72)).2.2.1 := og187.2.2.1
          have q191 : ag187 5 = (cSet (i 64) x1 x2 x3 (a 2, a 3, a 4, a 5, i 70, i 71, i 72)).2.2.2.1 := og187.2.2.2.1
          have q192 : ig187 70 = (cSet (i 64) x1 x2 x3 (a 2, a 3, a 4, a 5, i 70, i 71, i 72)).2.2.2.2.1 := og187.2.2.2.2.1
          have q193 : ig187 71 = (cSet (i 64) x1 x2 x3 (a 2, a 3, a 4, a 5, i 70, i 71, i 72)).2.2.2.2.2.1 := og187.2.2.2.2.2.1
          have q194 : ig187 72 = (cSet (i 64) x1 x2 x3 (a 2, a 3, a 4, a 5, i 70, i 71, i 72)).2.2.2.2.2.2 := og187.2.2.2.2.2.2
          first | refine fo_goS mi_k83 fz83_46_6_55 [.int x3, .int vg180, .int x2, .int x1, .ref 89] (by rfl) ?_ | refine ft_go mi_k83 6 55 [(4, .int vg180), (0, .ref 0), (1, .int x1), (2, .int x2), (3, .int x3)] [.int x3, .int vg180, .int x2, .int x1, .ref 89] ig187 ag187 qg187 rg187 (by rfl) ?_
          refine ko_callN mi_k83.1 (pc := 55) (ls := [(4, .int vg180), (0, .ref 0), (1, .int x1), (2, .int x2), (3, .int x3)]) (st := [.int x3, .int vg180, .int x2, .int x1, .ref 89]) (h := ks ig187 ag187 qg187 rg187) (i := (.invokevirtual 106, 3, 5, 0, 9, 0, 168)) (mi_k83.2 _ _ (by rfl)) (ft_invS mi_pq5 (by rfl)) (cy := mi_c5) mi_pq5 rfl (ke5_89 hGg187.I hGg187.R x1 x2 vg180 x3) (by decide) ?_
          intro ig195 ag195 qg195 rg195 kg195 hg195
          have hGg195 := kG_call hGg187 kg195 (by decide +kernel)
          obtain ⟨hg195, og195⟩ := hg195
          have q196 : ag195 90 = (nAdd x1 x2 vg180 x3 (ag187 90, ag187 91, ag187 92, ag187 93, ig187 5700, ig187 5701)).1 := og195.1
          have q197 : ag195 91 = (nAdd x1 x2 vg180 x3 (ag187 90, ag187 91, ag187 92, ag187 93, ig187 5700, ig187 5701)).2.1 := og195.2.1
          have q198 : ag195 92 = (nAdd x1 x2 vg180 x3 (ag187 90, ag187 91, ag187 92, ag187 93, ig187 5700, ig187 5701)).2.2.1 := og195.2.2.1
          have q199 : ag195 93 = (nAdd x1 x2 vg180 x3 (ag187 90, ag187 91, ag187 92, ag187 93, ig187 5700, ig187 5701)).2.2.2.1 := og195.2.2.2.1
          have q200 : ig195 5700 = (nAdd x1 x2 vg180 x3 (ag187 90, ag187 91, ag187 92, ag187 93, ig187 5700, ig187 5701)).2.2.2.2.1 := og195.2.2.2.2.1
          have q201 : ig195 5701 = (nAdd x1 x2 vg180 x3 (ag187 90, ag187 91, ag187 92, ag187 93, ig187 5700, ig187 5701)).2.2.2.2.2 := og195.2.2.2.2.2
          first | refine fo_goS mi_k83 fz83_58_1_60 [.int vg180] (by rfl) ?_ | refine ft_go mi_k83 1 60 [(4, .int vg180), (0, .ref 0), (1, .int x1), (2, .int x2), (3, .int x3)] [.int vg180] ig195 ag195 qg195 rg195 (by rfl) ?_
          have bw202 : (kTold (i 64) x1 x2 ∧ kFit x2 x3) := ⟨(ou125 w177 z2), (kFit_6 (ou5 w177)).mpr (ou126 z179.1 z179.2)⟩
          have bw203 : ¬ ((cGet (i 64) x1 x2 (a 2, a 3, a 4, a 5, i 70, i 71, i 72)).toInt = x3.toInt) := (ou86 c186 u182)
          exact ft_ret mi_k83 (by rfl) (hP vg180 _ _ _ _ hGg195 ⟨trivial, ⟨(show vg180 = (cMend (i 64) x1 x2 x3 (a 2, a 3, a 4, a 5, i 70, i 71, i 72) (a 90, a 91, a 92, a 93, i 5700, i 5701)).1 from (by unfold cMend; simp only [if_pos bw202, if_neg bw203]; first | done | rfl | (simp only [q181, sMn, sMx]; done) | (simp only [q181, sMn, sMx]; rfl))), (show ag195 2 = ((cMend (i 64) x1 x2 x3 (a 2, a 3, a 4, a 5, i 70, i 71, i 72) (a 90, a 91, a 92, a 93, i 5700, i 5701)).2.1).1 from (by unfold cMend; simp only [if_pos bw202, if_neg bw203]; first | done | rfl | (simp only [kg195.fa 2 rfl, q188, sMn, sMx]; done) | (simp only [kg195.fa 2 rfl, q188, sMn, sMx]; rfl))), (show ag195 3 = ((cMend (i 64) x1 x2 x3 (a 2, a 3, a 4, a 5, i 70, i 71, i 72) (a 90, a 91, a 92, a 93, i 5700, i 5701)).2.1).2.1 from (by unfold cMend; simp only [if_pos bw202, if_neg bw203]; first | done | rfl | (simp only [kg195.fa 3 rfl, q189, sMn, sMx]; done) | (simp only [kg195.fa 3 rfl, q189, sMn, sMx]; rfl))), (show ag195 4 = ((cMend (i 64) x1 x2 x3 (a 2, a 3, a 4, a 5, i 70, i 71, i 72) (a 90, a 91, a 92, a 93, i 5700, i 5701)).2.1).2.2.1 from (by unfold cMend; simp only [if_pos bw202, if_neg bw203]; first | done | rfl | (simp only [kg195.fa 4 rfl, q190, sMn, sMx]; done) | (simp only [kg195.fa 4 rfl, q190, sMn, sMx]; rfl))), (show ag195 5 = ((cMend (i 64) x1 x2 x3 (a 2, a 3, a 4, a 5, i 70, i 71, i 72) (a 90, a 91, a 92, a 93, i 5700, i 5701)).2.1).2.2.2.1 from (by unfold cMend; simp only [if_pos bw202, if_neg bw203]; first | done | rfl | (simp only [kg195.fa 5 rfl, q191, sMn, sMx]; done) | (simp only [kg195.fa 5 rfl, q191, sMn, sMx]; rfl))), (show ig195 70 = ((cMend (i 64) x1 x2 x3 (a 2, a 3, a 4, a 5, i 70, i 71, i 72) (a 90, a 91, a 92, a 93, i 5700, i 5701)).2.1).2.2.2.2.1 from (by unfold cMend; simp only [if_pos bw202, if_neg bw203]; first | done | rfl | (simp only [(show ig195 70 = ig187 70 from kg195.fi 70 rfl), q192, sMn, sMx]; done) | (simp only [(show ig195 70 = ig187 70 from kg195.fi 70 rfl), q192, sMn, sMx]; rfl))), (show ig195 71 = ((cMend (i 64) x1 x2 x3 (a 2, a 3, a 4, a 5, i 70, i 71, i 72) (a 90, a 91, a 92, a 93, i 5700, i 5701)).2.1).2.2.2.2.2.1 from (by unfold cMend; simp only [if_pos bw202, if_neg bw203]; first | done | rfl | (simp only [(show ig195 71 = ig187 71 from kg195.fi 71 rfl), q193, sMn, sMx]; done) | (simp only [(show ig195 71 = ig187 71 from kg195.fi 71 rfl), q193, sMn, sMx]; rfl))), (show ig195 72 = ((cMend (i 64) x1 x2 x3 (a 2, a 3, a 4, a 5, i 70, i 71, i 72) (a 90, a 91, a 92, a 93, i 5700, i 5701)).2.1).2.2.2.2.2.2 from (by unfold cMend; simp only [if_pos bw202, if_neg bw203]; first | done | rfl | (simp only [(show ig195 72 = ig187 72 from kg195.fi 72 rfl), q194, sMn, sMx]; done) | (simp only [(show ig195 72 = ig187 72 from kg195.fi 72 rfl), q194, sMn, sMx]; rfl))), (show ag195 90 = ((cMend (i 64) x1 x2 x3 (a 2, a 3, a 4, a 5, i 70, i 71, i 72) (a 90, a 91, a 92, a 93, i 5700, i 5701)).2.2).1 from (by unfold cMend; simp only [if_pos bw202, if_neg bw203]; first | done | rfl | (simp only [q196, q181, kg187.fa 90 rfl, kg187.fa 91 rfl, kg187.fa 92 rfl, kg187.fa 93 rfl, (show ig187 5700 = i 5700 from kg187.fi 5700 rfl), (show ig187 5701 = i 5701 from kg187.fi 5701 rfl), sMn, sMx]; done) | (simp only [q196, q181, kg187.fa 90 rfl, kg187.fa 91 rfl, kg187.fa 92 rfl, kg187.fa 93 rfl, (show ig187 5700 = i 5700 from kg187.fi 5700 rfl), (show ig187 5701 = i 5701 from kg187.fi 5701 rfl), sMn, sMx]; rfl))), (show ag195 91 = ((cMend (i 64) x1 x2 x3 (a 2, a 3, a 4, a 5, i 70, i 71, i 72) (a 90, a 91, a 92, a 93, i 5700, i 5701)).2.2).2.1 from (by unfold cMend; simp only [if_pos bw202, if_neg bw203]; first | done | rfl | (simp only [q197, q181, kg187.fa 90 rfl, kg187.fa 91 rfl, kg187.fa 92 rfl, kg187.fa 93 rfl, (show ig187 5700 = i 5700 from kg187.fi 5700 rfl), (show ig187 5701 = i 5701 from kg187.fi 5701 rfl), sMn, sMx]; done) | (simp only [q197, q181, kg187.fa 90 rfl, kg187.fa 91 rfl, kg187.fa 92 rfl, kg187.fa 93 rfl, (show ig187 5700 = i 5700 from kg187.fi 5700 rfl), (show ig187 5701 = i 5701 from kg187.fi 5701 rfl), sMn, sMx]; rfl))), (show ag195 92 = ((cMend (i 64) x1 x2 x3 (a 2, a 3, a 4, a 5, i 70, i 71, i 72) (a 90, a 91, a 92, a 93, i 5700, i 5701)).2.2).2.2.1 from (by unfold cMend; simp only [if_pos bw202, if_neg bw203]; first | done | rfl | (simp only [q198, q181, kg187.fa 90 rfl, kg187.fa 91 rfl, kg187.fa 92 rfl, kg187.fa 93 rfl, (show ig187 5700 = i 5700 from kg187.fi 5700 rfl), (show ig187 5701 = i 5701 from kg187.fi 5701 rfl), sMn, sMx]; done) | (simp only [q198, q181, kg187.fa 90 rfl, kg187.fa 91 rfl, kg187.fa 92 rfl, kg187.fa 93 rfl, (show ig187 5700 = i 5700 from kg187.fi 5700 rfl), (show ig187 5701 = i 5701 from kg187.fi 5701 rfl), sMn, sMx]; rfl))), (show ag195 93 = ((cMend (i 64) x1 x2 x3 (a 2, a 3, a 4, a 5, i 70, i 71, i 72) (a 90, a 91, a 92, a 93, i 5700, i 5701)).2.2).2.2.2.1 from (by unfold cMend; simp only [if_pos bw202, if_neg bw203]; first | done | rfl | (simp only [q199, q181, kg187.fa 90 rfl, kg187.fa 91 rfl, kg187.fa 92 rfl, kg187.fa 93 rfl, (show ig187 5700 = i 5700 from kg187.fi 5700 rfl), (show ig187 5701 = i 5701 from kg187.fi 5701 rfl), sMn, sMx]; done) | (simp only [q199, q181, kg187.fa 90 rfl, kg187.fa 91 rfl, kg187.fa 92 rfl, kg187.fa 93 rfl, (show ig187 5700 = i 5700 from kg187.fi 5700 rfl), (show ig187 5701 = i 5701 from kg187.fi 5701 rfl), sMn, sMx]; rfl))), (show ig195 5700 = ((cMend (i 64) x1 x2 x3 (a 2, a 3, a 4, a 5, i 70, i 71, i 72) (a 90, a 91, a 92, a 93, i 5700, i 5701)).2.2).2.2.2.2.1 from (by unfold cMend; simp only [if_pos bw202, if_neg bw203]; first | done | rfl | (simp only [q200, q181, kg187.fa 90 rfl, kg187.fa 91 rfl, kg187.fa 92 rfl, kg187.fa 93 rfl, (show ig187 5700 = i 5700 from kg187.fi 5700 rfl), (show ig187 5701 = i 5701 from kg187.fi 5701 rfl), sMn, sMx]; done) | (simp only [q200, q181, kg187.fa 90 rfl, kg187.fa 91 rfl, kg187.fa 92 rfl, kg187.fa 93 rfl, (show ig187 5700 = i 5700 from kg187.fi 5700 rfl), (show ig187 5701 = i 5701 from kg187.fi 5701 rfl), sMn, sMx]; rfl))), (show ig195 5701 = ((cMend (i 64) x1 x2 x3 (a 2, a 3, a 4, a 5, i 70, i 71, i 72) (a 90, a 91, a 92, a 93, i 5700, i 5701)).2.2).2.2.2.2.2 from (by unfold cMend; simp only [if_pos bw202, if_neg bw203]; first | done | rfl | (simp only [q201, q181, kg187.fa 90 rfl, kg187.fa 91 rfl, kg187.fa 92 rfl, kg187.fa 93 rfl, (show ig187 5700 = i 5700 from kg187.fi 5700 rfl), (show ig187 5701 = i 5701 from kg187.fi 5701 rfl), sMn, sMx]; done) | (simp only [q201, q181, kg187.fa 90 rfl, kg187.fa 91 rfl, kg187.fa 92 rfl, kg187.fa 93 rfl, (show ig187 5700 = i 5700 from kg187.fi 5700 rfl), (show ig187 5701 = i 5701 from kg187.fi 5701 rfl), sMn, sMx]; rfl)))⟩⟩)
      ·
        subst eg178
        have z204 : ¬ (((0 : Int) ≤ x3.toInt) ∧ (x3.toInt ≤ 99)) := hg178
        first | refine fo_goS mi_k83 fz83_6_2_18 [.int (-1)] (by rfl) ?_ | refine fo_goS mi_k83 fz83_14_2_18 [.int (-1)] (by rfl) ?_ | refine ft_go mi_k83 2 18 [(0, .ref 0), (1, .int x1), (2, .int x2), (3, .int x3)] [.int (-1)] i a q r (by rfl) ?_
        have bw205 : ¬ (kTold (i 64) x1 x2 ∧ kFit x2 x3) := (fun z => absurd ((kFit_6 (ou5 w177)).mp z.2) (ou127 z204))
        exact ft_ret mi_k83 (by rfl) (hP (-1) _ _ _ _ hG ⟨trivial, ⟨(show ((-1) : Int32) = (cMend (i 64) x1 x2 x3 (a 2, a 3, a 4, a 5, i 70, i 71, i 72) (a 90, a 91, a 92, a 93, i 5700, i 5701)).1 from (by unfold cMend; simp only [if_neg bw205]; first | done | rfl | (simp only [sMn, sMx]; done) | (simp only [sMn, sMx]; rfl))), (show a 2 = ((cMend (i 64) x1 x2 x3 (a 2, a 3, a 4, a 5, i 70, i 71, i 72) (a 90, a 91, a 92, a 93, i 5700, i 5701)).2.1).1 from (by unfold cMend; simp only [if_neg bw205]; first | done | rfl | (simp only [sMn, sMx]; done) | (simp only [sMn, sMx]; rfl))), (show a 3 = ((cMend (i 64) x1 x2 x3 (a 2, a 3, a 4, a 5, i 70, i 71, i 72) (a 90, a 91, a 92, a 93, i 5700, i 5701)).2.1).2.1 from (by unfold cMend; simp only [if_neg bw205]; first | done | rfl | (simp only [sMn, sMx]; done) | (simp only [sMn, sMx]; rfl))), (show a 4 = ((cMend (i 64) x1 x2 x3 (a 2, a 3, a 4, a 5, i 70, i 71, i 72) (a 90, a 91, a 92, a 93, i 5700, i 5701)).2.1).2.2.1 from (by unfold cMend; simp only [if_neg bw205]; first | done | rfl | (simp only [sMn, sMx]; done) | (simp only [sMn, sMx]; rfl))), (show a 5 = ((cMend (i 64) x1 x2 x3 (a 2, a 3, a 4, a 5, i 70, i 71, i 72) (a 90, a 91, a 92, a 93, i 5700, i 5701)).2.1).2.2.2.1 from (by unfold cMend; simp only [if_neg bw205]; first | done | rfl | (simp only [sMn, sMx]; done) | (simp only [sMn, sMx]; rfl))), (show i 70 = ((cMend (i 64) x1 x2 x3 (a 2, a 3, a 4, a 5, i 70, i 71, i 72) (a 90, a 91, a 92, a 93, i 5700, i 5701)).2.1).2.2.2.2.1 from (by unfold cMend; simp only [if_neg bw205]; first | done | rfl | (simp only [sMn, sMx]; done) | (simp only [sMn, sMx]; rfl))), (show i 71 = ((cMend (i 64) x1 x2 x3 (a 2, a 3, a 4, a 5, i 70, i 71, i 72) (a 90, a 91, a 92, a 93, i 5700, i 5701)).2.1).2.2.2.2.2.1 from (by unfold cMend; simp only [if_neg bw205]; first | done | rfl | (simp only [sMn, sMx]; done) | (simp only [sMn, sMx]; rfl))), (show i 72 = ((cMend (i 64) x1 x2 x3 (a 2, a 3, a 4, a 5, i 70, i 71, i 72) (a 90, a 91, a 92, a 93, i 5700, i 5701)).2.1).2.2.2.2.2.2 from (by unfold cMend; simp only [if_neg bw205]; first | done | rfl | (simp only [sMn, sMx]; done) | (simp only [sMn, sMx]; rfl))), (show a 90 = ((cMend (i 64) x1 x2 x3 (a 2, a 3, a 4, a 5, i 70, i 71, i 72) (a 90, a 91, a 92, a 93, i 5700, i 5701)).2.2).1 from (by unfold cMend; simp only [if_neg bw205]; first | done | rfl | (simp only [sMn, sMx]; done) | (simp only [sMn, sMx]; rfl))), (show a 91 = ((cMend (i 64) x1 x2 x3 (a 2, a 3, a 4, a 5, i 70, i 71, i 72) (a 90, a 91, a 92, a 93, i 5700, i 5701)).2.2).2.1 from (by unfold cMend; simp only [if_neg bw205]; first | done | rfl | (simp only [sMn, sMx]; done) | (simp only [sMn, sMx]; rfl))), (show a 92 = ((cMend (i 64) x1 x2 x3 (a 2, a 3, a 4, a 5, i 70, i 71, i 72) (a 90, a 91, a 92, a 93, i 5700, i 5701)).2.2).2.2.1 from (by unfold cMend; simp only [if_neg bw205]; first | done | rfl | (simp only [sMn, sMx]; done) | (simp only [sMn, sMx]; rfl))), (show a 93 = ((cMend (i 64) x1 x2 x3 (a 2, a 3, a 4, a 5, i 70, i 71, i 72) (a 90, a 91, a 92, a 93, i 5700, i 5701)).2.2).2.2.2.1 from (by unfold cMend; simp only [if_neg bw205]; first | done | rfl | (simp only [sMn, sMx]; done) | (simp only [sMn, sMx]; rfl))), (show i 5700 = ((cMend (i 64) x1 x2 x3 (a 2, a 3, a 4, a 5, i 70, i 71, i 72) (a 90, a 91, a 92, a 93, i 5700, i 5701)).2.2).2.2.2.2.1 from (by unfold cMend; simp only [if_neg bw205]; first | done | rfl | (simp only [sMn, sMx]; done) | (simp only [sMn, sMx]; rfl))), (show i 5701 = ((cMend (i 64) x1 x2 x3 (a 2, a 3, a 4, a 5, i 70, i 71, i 72) (a 90, a 91, a 92, a 93, i 5700, i 5701)).2.2).2.2.2.2.2 from (by unfold cMend; simp only [if_neg bw205]; first | done | rfl | (simp only [sMn, sMx]; done) | (simp only [sMn, sMx]; rfl)))⟩⟩)
    exact (ou128 w119 w148 w177 w3 w32 w61 w90 z2).elim
  ·
    subst eg1
    have fi_64 : ((0 : Int) ≤ (i 64).toInt) ∧ ((i 64).toInt ≤ 8) := hG.I.1 64
    have z206 : ¬ ((((0 : Int) ≤ x2.toInt) ∧ (x2.toInt ≤ 3) ∧ ((0 : Int) ≤ x1.toInt) ∧ (x1.toInt < (i 64).toInt)) ∨ (((4 : Int) ≤ x2.toInt) ∧ (x2.toInt ≤ 6) ∧ (x1.toInt = 0))) := hg1
    first | refine fo_goS mi_k83 fz83_6_2_18 [.int (-1)] (by rfl) ?_ | refine fo_goS mi_k83 fz83_14_2_18 [.int (-1)] (by rfl) ?_ | refine ft_go mi_k83 2 18 [(0, .ref 0), (1, .int x1), (2, .int x2), (3, .int x3)] [.int (-1)] i a q r (by rfl) ?_
    have bw207 : ¬ (kTold (i 64) x1 x2 ∧ kFit x2 x3) := (fun z => absurd z.1 (ou75 fi_64.1 z206))
    exact ft_ret mi_k83 (by rfl) (hP (-1) _ _ _ _ hG ⟨trivial, ⟨(show ((-1) : Int32) = (cMend (i 64) x1 x2 x3 (a 2, a 3, a 4, a 5, i 70, i 71, i 72) (a 90, a 91, a 92, a 93, i 5700, i 5701)).1 from (by unfold cMend; simp only [if_neg bw207]; first | done | rfl | (simp only [sMn, sMx]; done) | (simp only [sMn, sMx]; rfl))), (show a 2 = ((cMend (i 64) x1 x2 x3 (a 2, a 3, a 4, a 5, i 70, i 71, i 72) (a 90, a 91, a 92, a 93, i 5700, i 5701)).2.1).1 from (by unfold cMend; simp only [if_neg bw207]; first | done | rfl | (simp only [sMn, sMx]; done) | (simp only [sMn, sMx]; rfl))), (show a 3 = ((cMend (i 64) x1 x2 x3 (a 2, a 3, a 4, a 5, i 70, i 71, i 72) (a 90, a 91, a 92, a 93, i 5700, i 5701)).2.1).2.1 from (by unfold cMend; simp only [if_neg bw207]; first | done | rfl | (simp only [sMn, sMx]; done) | (simp only [sMn, sMx]; rfl))), (show a 4 = ((cMend (i 64) x1 x2 x3 (a 2, a 3, a 4, a 5, i 70, i 71, i 72) (a 90, a 91, a 92, a 93, i 5700, i 5701)).2.1).2.2.1 from (by unfold cMend; simp only [if_neg bw207]; first | done | rfl | (simp only [sMn, sMx]; done) | (simp only [sMn, sMx]; rfl))), (show a 5 = ((cMend (i 64) x1 x2 x3 (a 2, a 3, a 4, a 5, i 70, i 71, i 72) (a 90, a 91, a 92, a 93, i 5700, i 5701)).2.1).2.2.2.1 from (by unfold cMend; simp only [if_neg bw207]; first | done | rfl | (simp only [sMn, sMx]; done) | (simp only [sMn, sMx]; rfl))), (show i 70 = ((cMend (i 64) x1 x2 x3 (a 2, a 3, a 4, a 5, i 70, i 71, i 72) (a 90, a 91, a 92, a 93, i 5700, i 5701)).2.1).2.2.2.2.1 from (by unfold cMend; simp only [if_neg bw207]; first | done | rfl | (simp only [sMn, sMx]; done) | (simp only [sMn, sMx]; rfl))), (show i 71 = ((cMend (i 64) x1 x2 x3 (a 2, a 3, a 4, a 5, i 70, i 71, i 72) (a 90, a 91, a 92, a 93, i 5700, i 5701)).2.1).2.2.2.2.2.1 from (by unfold cMend; simp only [if_neg bw207]; first | done | rfl | (simp only [sMn, sMx]; done) | (simp only [sMn, sMx]; rfl))), (show i 72 = ((cMend (i 64) x1 x2 x3 (a 2, a 3, a 4, a 5, i 70, i 71, i 72) (a 90, a 91, a 92, a 93, i 5700, i 5701)).2.1).2.2.2.2.2.2 from (by unfold cMend; simp only [if_neg bw207]; first | done | rfl | (simp only [sMn, sMx]; done) | (simp only [sMn, sMx]; rfl))), (show a 90 = ((cMend (i 64) x1 x2 x3 (a 2, a 3, a 4, a 5, i 70, i 71, i 72) (a 90, a 91, a 92, a 93, i 5700, i 5701)).2.2).1 from (by unfold cMend; simp only [if_neg bw207]; first | done | rfl | (simp only [sMn, sMx]; done) | (simp only [sMn, sMx]; rfl))), (show a 91 = ((cMend (i 64) x1 x2 x3 (a 2, a 3, a 4, a 5, i 70, i 71, i 72) (a 90, a 91, a 92, a 93, i 5700, i 5701)).2.2).2.1 from (by unfold cMend; simp only [if_neg bw207]; first | done | rfl | (simp only [sMn, sMx]; done) | (simp only [sMn, sMx]; rfl))), (show a 92 = ((cMend (i 64) x1 x2 x3 (a 2, a 3, a 4, a 5, i 70, i 71, i 72) (a 90, a 91, a 92, a 93, i 5700, i 5701)).2.2).2.2.1 from (by unfold cMend; simp only [if_neg bw207]; first | done | rfl | (simp only [sMn, sMx]; done) | (simp only [sMn, sMx]; rfl))), (show a 93 = ((cMend (i 64) x1 x2 x3 (a 2, a 3, a 4, a 5, i 70, i 71, i 72) (a 90, a 91, a 92, a 93, i 5700, i 5701)).2.2).2.2.2.1 from (by unfold cMend; simp only [if_neg bw207]; first | done | rfl | (simp only [sMn, sMx]; done) | (simp only [sMn, sMx]; rfl))), (show i 5700 = ((cMend (i 64) x1 x2 x3 (a 2, a 3, a 4, a 5, i 70, i 71, i 72) (a 90, a 91, a 92, a 93, i 5700, i 5701)).2.2).2.2.2.2.1 from (by unfold cMend; simp only [if_neg bw207]; first | done | rfl | (simp only [sMn, sMx]; done) | (simp only [sMn, sMx]; rfl))), (show i 5701 = ((cMend (i 64) x1 x2 x3 (a 2, a 3, a 4, a 5, i 70, i 71, i 72) (a 90, a 91, a 92, a 93, i 5700, i 5701)).2.2).2.2.2.2.2 from (by unfold cMend; simp only [if_neg bw207]; first | done | rfl | (simp only [sMn, sMx]; done) | (simp only [sMn, sMx]; rfl)))⟩⟩)
def yw108_0 : kW := ([70, 71, 72, 5701], [2, 3, 4, 5], [], [])
set_option maxRecDepth 100000 in
theorem ke108_0 {i : Nat → Int32} {a : Nat → List Int32} {q : Nat → List Int64} {r : Nat → Nat} (hI : kI i a q) (hr : kr r)  : km 5 108 [.ref 0] (ks i a q r) (kVI yw108_0 i a q r (fun v i1 a1 q1 r1 => (True) ∧ (v = (cUndo (i 64) (a 2, a 3, a 4, a 5, i 70, i 71, i 72) (a 90, a 91, a 92, a 93, i 5700, i 5701)).1 ∧ a1 2 = ((cUndo (i 64) (a 2, a 3, a 4, a 5, i 70, i 71, i 72) (a 90, a 91, a 92, a 93, i 5700, i 5701)).2.1).1 ∧ a1 3 = ((cUndo (i 64) (a 2, a 3, a 4, a 5, i 70, i 71, i 72) (a 90, a 91, a 92, a 93, i 5700, i 5701)).2.1).2.1 ∧ a1 4 = ((cUndo (i 64) (a 2, a 3, a 4, a 5, i 70, i 71, i 72) (a 90, a 91, a 92, a 93, i 5700, i 5701)).2.1).2.2.1 ∧ a1 5 = ((cUndo (i 64) (a 2, a 3, a 4, a 5, i 70, i 71, i 72) (a 90, a 91, a 92, a 93, i 5700, i 5701)).2.1).2.2.2.1 ∧ i1 70 = ((cUndo (i 64) (a 2, a 3, a 4, a 5, i 70, i 71, i 72) (a 90, a 91, a 92, a 93, i 5700, i 5701)).2.1).2.2.2.2.1 ∧ i1 71 = ((cUndo (i 64) (a 2, a 3, a 4, a 5, i 70, i 71, i 72) (a 90, a 91, a 92, a 93, i 5700, i 5701)).2.1).2.2.2.2.2.1 ∧ i1 72 = ((cUndo (i 64) (a 2, a 3, a 4, a 5, i 70, i 71, i 72) (a 90, a 91, a 92, a 93, i 5700, i 5701)).2.1).2.2.2.2.2.2 ∧ a1 90 = ((cUndo (i 64) (a 2, a 3, a 4, a 5, i 70, i 71, i 72) (a 90, a 91, a 92, a 93, i 5700, i 5701)).2.2).1 ∧ a1 91 = ((cUndo (i 64) (a 2, a 3, a 4, a 5, i 70, i 71, i 72) (a 90, a 91, a 92, a 93, i 5700, i 5701)).2.2).2.1 ∧ a1 92 = ((cUndo (i 64) (a 2, a 3, a 4, a 5, i 70, i 71, i 72) (a 90, a 91, a 92, a 93, i 5700, i 5701)).2.2).2.2.1 ∧ a1 93 = ((cUndo (i 64) (a 2, a 3, a 4, a 5, i 70, i 71, i 72) (a 90, a 91, a 92, a 93, i 5700, i 5701)).2.2).2.2.2.1 ∧ i1 5700 = ((cUndo (i 64) (a 2, a 3, a 4, a 5, i 70, i 71, i 72) (a 90, a 91, a 92, a 93, i 5700, i 5701)).2.2).2.2.2.2.1 ∧ i1 5701 = ((cUndo (i 64) (a 2, a 3, a 4, a 5, i 70, i 71, i 72) (a 90, a 91, a 92, a 93, i 5700, i 5701)).2.2).2.2.2.2.2))) := by
  have hG := kG_self yw108_0 hI hr
  refine km_ofI (q := (mi_h108, mi_c108)) rfl (by decide) (Nat.le_of_ble_eq_true rfl) ?_
  intro P hP
  have fi_5701 : ((0 : Int) ≤ (i 5701).toInt) ∧ ((i 5701).toInt ≤ 40) := hG.I.1 5701
  first | refine ft_goL mi_k108 3 7 [(0, .ref 0)] [.int (i 5701)] (by rfl) ?_ | refine ft_go mi_k108 3 7 [(0, .ref 0)] [.int (i 5701)] i a q r (by rfl) ?_
  refine ft_ifS mi_k108 (decide (0 < (i 5701))) 13 10 [] (by rfl) (fun c => ?_) (fun c => ?_)
  ·
    have c1 : (0 : Int32).toInt < (i 5701).toInt := kd_lt c; clear c
    have s2 : ((i 5701) - 1).toInt = (i 5701).toInt - (1 : Int32).toInt := kd_sub (ou129 c1 kou0 kou1) (ou130 fi_5701.2 kou1)
    have hJ3 := kG_i hG 5701 rfl (v := ((i 5701) - 1)) ⟨(ou131 c1 s2 kou0 kou1), (ou132 fi_5701.2 s2 kou1)⟩
    first | refine fo_go mi_k108 fz108_13_17_46 [(1, .int ((i 5701) - 1)), (0, .ref 0)] [.int ((i 5701) - 1), .ref 90, .ref 1] (ku i 5701 ((i 5701) - 1)) a q r (by rfl) ?_ | refine ft_go mi_k108 17 46 [(1, .int ((i 5701) - 1)), (0, .ref 0)] [.int ((i 5701) - 1), .ref 90, .ref 1] (ku i 5701 ((i 5701) - 1)) a q r (by rfl) ?_
    refine ko_iald3 mi_k108.1 (n := 40) (c := 40) (ax := (0, 0, 0, 0, 0)) (mi_k108.2 _ _ (by rfl)) (by rfl) (ksG90 _ _ _ _) (hJ3.I.2.1 90) rfl (ou131 c1 s2 kou0 kou1) (ou133 fi_5701.2 s2 kou1) ?_
    first | refine ft_goS mi_k108 4 55 [.int ((i 5701) - 1), .ref 91, .int ((a 90).getD ((i 5701) - 1).toNatClampNeg 0), .ref 1] (by rfl) ?_ | refine ft_go mi_k108 4 55 [(1, .int ((i 5701) - 1)), (0, .ref 0)] [.int ((i 5701) - 1), .ref 91, .int ((a 90).getD ((i 5701) - 1).toNatClampNeg 0), .ref 1] (ku i 5701 ((i 5701) - 1)) a q r (by rfl) ?_
    refine ko_iald3 mi_k108.1 (n := 40) (c := 40) (ax := (0, 0, 0, 0, 0)) (mi_k108.2 _ _ (by rfl)) (by rfl) (ksG91 _ _ _ _) (hJ3.I.2.1 91) rfl (ou131 c1 s2 kou0 kou1) (ou133 fi_5701.2 s2 kou1) ?_
    first | refine ft_goS mi_k108 4 64 [.int ((i 5701) - 1), .ref 92, .int ((a 91).getD ((i 5701) - 1).toNatClampNeg 0), .int ((a 90).getD ((i 5701) - 1).toNatClampNeg 0), .ref 1] (by rfl) ?_ | refine ft_go mi_k108 4 64 [(1, .int ((i 5701) - 1)), (0, .ref 0)] [.int ((i 5701) - 1), .ref 92, .int ((a 91).getD ((i 5701) - 1).toNatClampNeg 0), .int ((a 90).getD ((i 5701) - 1).toNatClampNeg 0), .ref 1] (ku i 5701 ((i 5701) - 1)) a q r (by rfl) ?_
    refine ko_iald3 mi_k108.1 (n := 40) (c := 40) (ax := (0, 0, 0, 0, 0)) (mi_k108.2 _ _ (by rfl)) (by rfl) (ksG92 _ _ _ _) (hJ3.I.2.1 92) rfl (ou131 c1 s2 kou0 kou1) (ou133 fi_5701.2 s2 kou1) ?_
    refine ko_callN mi_k108.1 (pc := 65) (ls := [(1, .int ((i 5701) - 1)), (0, .ref 0)]) (st := [.int ((a 92).getD ((i 5701) - 1).toNatClampNeg 0), .int ((a 91).getD ((i 5701) - 1).toNatClampNeg 0), .int ((a 90).getD ((i 5701) - 1).toNatClampNeg 0), .ref 1]) (h := ks (ku i 5701 ((i 5701) - 1)) a q r) (i := (.invokevirtual 102, 3, 28, 0, 9, 0, 167)) (mi_k108.2 _ _ (by rfl)) (ft_invS mi_pq28 (by rfl)) (cy := mi_c28) mi_pq28 rfl (ke28_1 hJ3.I hJ3.R ((a 90).getD ((i 5701) - 1).toNatClampNeg 0) ((a 91).getD ((i 5701) - 1).toNatClampNeg 0) ((a 92).getD ((i 5701) - 1).toNatClampNeg 0)) (by decide) ?_
    intro ig4 ag4 qg4 rg4 kg4 hg4
    have hGg4 := kG_call hJ3 kg4 (by decide +kernel)
    obtain ⟨hg4, og4⟩ := hg4
    have q5 : ag4 2 = (cSet (i 64) ((a 90).getD ((i 5701) - 1).toNatClampNeg 0) ((a 91).getD ((i 5701) - 1).toNatClampNeg 0) ((a 92).getD ((i 5701) - 1).toNatClampNeg 0) (a 2, a 3, a 4, a 5, i 70, i 71, i 72)).1 := og4.1
    have q6 : ag4 3 = (cSet (i 64) ((a 90).getD ((i 5701) - 1).toNatClampNeg 0) ((a 91).getD ((i 5701) - 1).toNatClampNeg 0) ((a 92).getD ((i 5701) - 1).toNatClampNeg 0) (a 2, a 3, a 4, a 5, i 70, i 71, i 72)).2.1 := og4.2.1
    have q7 : ag4 4 = (cSet (i 64) ((a 90).getD ((i 5701) - 1).toNatClampNeg 0) ((a 91).getD ((i 5701) - 1).toNatClampNeg 0) ((a 92).getD ((i 5701) - 1).toNatClampNeg 0) (a 2, a 3, a 4, a 5, i 70, i 71, i 72)).2.2.1 := og4.2.2.1
    have q8 : ag4 5 = (cSet (i 64) ((a 90).getD ((i 5701) - 1).toNatClampNeg 0) ((a 91).getD ((i 5701) - 1).toNatClampNeg 0) ((a 92).getD ((i 5701) - 1).toNatClampNeg 0) (a 2, a 3, a 4, a 5, i 70, i 71, i 72)).2.2.2.1 := og4.2.2.2.1
    have q9 : ig4 70 = (cSet (i 64) ((a 90).getD ((i 5701) - 1).toNatClampNeg 0) ((a 91).getD ((i 5701) - 1).toNatClampNeg 0) ((a 92).getD ((i 5701) - 1).toNatClampNeg 0) (a 2, a 3, a 4, a 5, i 70, i 71, i 72)).2.2.2.2.1 := og4.2.2.2.2.1
    have q10 : ig4 71 = (cSet (i 64) ((a 90).getD ((i 5701) - 1).toNatClampNeg 0) ((a 91).getD ((i 5701) - 1).toNatClampNeg 0) ((a 92).getD ((i 5701) - 1).toNatClampNeg 0) (a 2, a 3, a 4, a 5, i 70, i 71, i 72)).2.2.2.2.2.1 := og4.2.2.2.2.2.1
    have q11 : ig4 72 = (cSet (i 64) ((a 90).getD ((i 5701) - 1).toNatClampNeg 0) ((a 91).getD ((i 5701) - 1).toNatClampNeg 0) ((a 92).getD ((i 5701) - 1).toNatClampNeg 0) (a 2, a 3, a 4, a 5, i 70, i 71, i 72)).2.2.2.2.2.2 := og4.2.2.2.2.2.2
    first | refine ft_goS mi_k108 3 75 [.int (ig4 5701)] (by rfl) ?_ | refine ft_go mi_k108 3 75 [(1, .int ((i 5701) - 1)), (0, .ref 0)] [.int (ig4 5701)] ig4 ag4 qg4 rg4 (by rfl) ?_
    have bw12 : ¬ ((i 5701).toInt ≤ 0) := (ou134 c1 kou0)
    exact ft_ret mi_k108 (by rfl) (hP (ig4 5701) _ _ _ _ hGg4 ⟨trivial, ⟨(show (ig4 5701) = (cUndo (i 64) (a 2, a 3, a 4, a 5, i 70, i 71, i 72) (a 90, a 91, a 92, a 93, i 5700, i 5701)).1 from (by unfold cUndo; simp only [if_neg bw12]; first | done | rfl | (simp only [(show ig4 5701 = ((i 5701) - 1) from kg4.fi 5701 rfl), sMn, sMx]; done) | (simp only [(show ig4 5701 = ((i 5701) - 1) from kg4.fi 5701 rfl), sMn, sMx]; rfl))), (show ag4 2 = ((cUndo (i 64) (a 2, a 3, a 4, a 5, i 70, i 71, i 72) (a 90, a 91, a 92, a 93, i 5700, i 5701)).2.1).1 from (by unfold cUndo; simp only [if_neg bw12]; first | done | rfl | (simp only [q5, sMn, sMx]; done) | (simp only [q5, sMn, sMx]; rfl))), (show ag4 3 = ((cUndo (i 64) (a 2, a 3, a 4, a 5, i 70, i 71, i 72) (a 90, a 91, a 92, a 93, i 5700, i 5701)).2.1).2.1 from (by unfold cUndo; simp only [if_neg bw12]; first | done | rfl | (simp only [q6, sMn, sMx]; done) | (simp only [q6, sMn, sMx]; rfl))), (show ag4 4 = ((cUndo (i 64) (a 2, a 3, a 4, a 5, i 70, i 71, i 72) (a 90, a 91, a 92, a 93, i 5700, i 5701)).2.1).2.2.1 from (by unfold cUndo; simp only [if_neg bw12]; first | done | rfl | (simp only [q7, sMn, sMx]; done) | (simp only [q7, sMn, sMx]; rfl))), (show ag4 5 = ((cUndo (i 64) (a 2, a 3, a 4, a 5, i 70, i 71, i 72) (a 90, a 91, a 92, a 93, i 5700, i 5701)).2.1).2.2.2.1 from (by unfold cUndo; simp only [if_neg bw12]; first | done | rfl | (simp only [q8, sMn, sMx]; done) | (simp only [q8, sMn, sMx]; rfl))), (show ig4 70 = ((cUndo (i 64) (a 2, a 3, a 4, a 5, i 70, i 71, i 72) (a 90, a 91, a 92, a 93, i 5700, i 5701)).2.1).2.2.2.2.1 from (by unfold cUndo; simp only [if_neg bw12]; first | done | rfl | (simp only [q9, sMn, sMx]; done) | (simp only [q9, sMn, sMx]; rfl))), (show ig4 71 = ((cUndo (i 64) (a 2, a 3, a 4, a 5, i 70, i 71, i 72) (a 90, a 91, a 92, a 93, i 5700, i 5701)).2.1).2.2.2.2.2.1 from (by unfold cUndo; simp only [if_neg bw12]; first | done | rfl | (simp only [q10, sMn, sMx]; done) | (simp only [q10, sMn, sMx]; rfl))), (show ig4 72 = ((cUndo (i 64) (a 2, a 3, a 4, a 5, i 70, i 71, i 72) (a 90, a 91, a 92, a 93, i 5700, i 5701)).2.1).2.2.2.2.2.2 from (by unfold cUndo; simp only [if_neg bw12]; first | done | rfl | (simp only [q11, sMn, sMx]; done) | (simp only [q11, sMn, sMx]; rfl))), (show ag4 90 = ((cUndo (i 64) (a 2, a 3, a 4, a 5, i 70, i 71, i 72) (a 90, a 91, a 92, a 93, i 5700, i 5701)).2.2).1 from (by unfold cUndo; simp only [if_neg bw12]; first | done | rfl | (simp only [kg4.fa 90 rfl, sMn, sMx]; done) | (simp only [kg4.fa 90 rfl, sMn, sMx]; rfl))), (show ag4 91 = ((cUndo (i 64) (a 2, a 3, a 4, a 5, i 70, i 71, i 72) (a 90, a 91, a 92, a 93, i 5700, i 5701)).2.2).2.1 from (by unfold cUndo; simp only [if_neg bw12]; first | done | rfl | (simp only [kg4.fa 91 rfl, sMn, sMx]; done) | (simp only [kg4.fa 91 rfl, sMn, sMx]; rfl))), (show ag4 92 = ((cUndo (i 64) (a 2, a 3, a 4, a 5, i 70, i 71, i 72) (a 90, a 91, a 92, a 93, i 5700, i 5701)).2.2).2.2.1 from (by unfold cUndo; simp only [if_neg bw12]; first | done | rfl | (simp only [kg4.fa 92 rfl, sMn, sMx]; done) | (simp only [kg4.fa 92 rfl, sMn, sMx]; rfl))), (show ag4 93 = ((cUndo (i 64) (a 2, a 3, a 4, a 5, i 70, i 71, i 72) (a 90, a 91, a 92, a 93, i 5700, i 5701)).2.2).2.2.2.1 from (by unfold cUndo; simp only [if_neg bw12]; first | done | rfl | (simp only [kg4.fa 93 rfl, sMn, sMx]; done) | (simp only [kg4.fa 93 rfl, sMn, sMx]; rfl))), (show ig4 5700 = ((cUndo (i 64) (a 2, a 3, a 4, a 5, i 70, i 71, i 72) (a 90, a 91, a 92, a 93, i 5700, i 5701)).2.2).2.2.2.2.1 from (by unfold cUndo; simp only [if_neg bw12]; first | done | rfl | (simp only [(show ig4 5700 = i 5700 from kg4.fi 5700 rfl), sMn, sMx]; done) | (simp only [(show ig4 5700 = i 5700 from kg4.fi 5700 rfl), sMn, sMx]; rfl))), (show ig4 5701 = ((cUndo (i 64) (a 2, a 3, a 4, a 5, i 70, i 71, i 72) (a 90, a 91, a 92, a 93, i 5700, i 5701)).2.2).2.2.2.2.2 from (by unfold cUndo; simp only [if_neg bw12]; first | done | rfl | (simp only [(show ig4 5701 = ((i 5701) - 1) from kg4.fi 5701 rfl), sMn, sMx]; done) | (simp only [(show ig4 5701 = ((i 5701) - 1) from kg4.fi 5701 rfl), sMn, sMx]; rfl)))⟩⟩)
  ·
    have c13 : (i 5701).toInt ≤ (0 : Int32).toInt := kd_ltF c; clear c
    first | refine ft_goS mi_k108 1 12 [.int (-5)] (by rfl) ?_ | refine ft_go mi_k108 1 12 [(0, .ref 0)] [.int (-5)] i a q r (by rfl) ?_
    have bw14 : (i 5701).toInt ≤ 0 := (ou135 c13 kou0)
    exact ft_ret mi_k108 (by rfl) (hP (-5) _ _ _ _ hG ⟨trivial, ⟨(show ((-5) : Int32) = (cUndo (i 64) (a 2, a 3, a 4, a 5, i 70, i 71, i 72) (a 90, a 91, a 92, a 93, i 5700, i 5701)).1 from (by unfold cUndo; simp only [if_pos bw14]; first | done | rfl | (simp only [sMn, sMx]; done) | (simp only [sMn, sMx]; rfl))), (show a 2 = ((cUndo (i 64) (a 2, a 3, a 4, a 5, i 70, i 71, i 72) (a 90, a 91, a 92, a 93, i 5700, i 5701)).2.1).1 from (by unfold cUndo; simp only [if_pos bw14]; first | done | rfl | (simp only [sMn, sMx]; done) | (simp only [sMn, sMx]; rfl))), (show a 3 = ((cUndo (i 64) (a 2, a 3, a 4, a 5, i 70, i 71, i 72) (a 90, a 91, a 92, a 93, i 5700, i 5701)).2.1).2.1 from (by unfold cUndo; simp only [if_pos bw14]; first | done | rfl | (simp only [sMn, sMx]; done) | (simp only [sMn, sMx]; rfl))), (show a 4 = ((cUndo (i 64) (a 2, a 3, a 4, a 5, i 70, i 71, i 72) (a 90, a 91, a 92, a 93, i 5700, i 5701)).2.1).2.2.1 from (by unfold cUndo; simp only [if_pos bw14]; first | done | rfl | (simp only [sMn, sMx]; done) | (simp only [sMn, sMx]; rfl))), (show a 5 = ((cUndo (i 64) (a 2, a 3, a 4, a 5, i 70, i 71, i 72) (a 90, a 91, a 92, a 93, i 5700, i 5701)).2.1).2.2.2.1 from (by unfold cUndo; simp only [if_pos bw14]; first | done | rfl | (simp only [sMn, sMx]; done) | (simp only [sMn, sMx]; rfl))), (show i 70 = ((cUndo (i 64) (a 2, a 3, a 4, a 5, i 70, i 71, i 72) (a 90, a 91, a 92, a 93, i 5700, i 5701)).2.1).2.2.2.2.1 from (by unfold cUndo; simp only [if_pos bw14]; first | done | rfl | (simp only [sMn, sMx]; done) | (simp only [sMn, sMx]; rfl))), (show i 71 = ((cUndo (i 64) (a 2, a 3, a 4, a 5, i 70, i 71, i 72) (a 90, a 91, a 92, a 93, i 5700, i 5701)).2.1).2.2.2.2.2.1 from (by unfold cUndo; simp only [if_pos bw14]; first | done | rfl | (simp only [sMn, sMx]; done) | (simp only [sMn, sMx]; rfl))), (show i 72 = ((cUndo (i 64) (a 2, a 3, a 4, a 5, i 70, i 71, i 72) (a 90, a 91, a 92, a 93, i 5700, i 5701)).2.1).2.2.2.2.2.2 from (by unfold cUndo; simp only [if_pos bw14]; first | done | rfl | (simp only [sMn, sMx]; done) | (simp only [sMn, sMx]; rfl))), (show a 90 = ((cUndo (i 64) (a 2, a 3, a 4, a 5, i 70, i 71, i 72) (a 90, a 91, a 92, a 93, i 5700, i 5701)).2.2).1 from (by unfold cUndo; simp only [if_pos bw14]; first | done | rfl | (simp only [sMn, sMx]; done) | (simp only [sMn, sMx]; rfl))), (show a 91 = ((cUndo (i 64) (a 2, a 3, a 4, a 5, i 70, i 71, i 72) (a 90, a 91, a 92, a 93, i 5700, i 5701)).2.2).2.1 from (by unfold cUndo; simp only [if_pos bw14]; first | done | rfl | (simp only [sMn, sMx]; done) | (simp only [sMn, sMx]; rfl))), (show a 92 = ((cUndo (i 64) (a 2, a 3, a 4, a 5, i 70, i 71, i 72) (a 90, a 91, a 92, a 93, i 5700, i 5701)).2.2).2.2.1 from (by unfold cUndo; simp only [if_pos bw14]; first | done | rfl | (simp only [sMn, sMx]; done) | (simp only [sMn, sMx]; rfl))), (show a 93 = ((cUndo (i 64) (a 2, a 3, a 4, a 5, i 70, i 71, i 72) (a 90, a 91, a 92, a 93, i 5700, i 5701)).2.2).2.2.2.1 from (by unfold cUndo; simp only [if_pos bw14]; first | done | rfl | (simp only [sMn, sMx]; done) | (simp only [sMn, sMx]; rfl))), (show i 5700 = ((cUndo (i 64) (a 2, a 3, a 4, a 5, i 70, i 71, i 72) (a 90, a 91, a 92, a 93, i 5700, i 5701)).2.2).2.2.2.2.1 from (by unfold cUndo; simp only [if_pos bw14]; first | done | rfl | (simp only [sMn, sMx]; done) | (simp only [sMn, sMx]; rfl))), (show i 5701 = ((cUndo (i 64) (a 2, a 3, a 4, a 5, i 70, i 71, i 72) (a 90, a 91, a 92, a 93, i 5700, i 5701)).2.2).2.2.2.2.2 from (by unfold cUndo; simp only [if_pos bw14]; first | done | rfl | (simp only [sMn, sMx]; done) | (simp only [sMn, sMx]; rfl)))⟩⟩)
def yw109_0 : kW := ([70, 71, 72, 5701], [2, 3, 4, 5], [], [])
set_option maxRecDepth 100000 in
theorem ke109_0 {i : Nat → Int32} {a : Nat → List Int32} {q : Nat → List Int64} {r : Nat → Nat} (hI : kI i a q) (hr : kr r)  : km 5 109 [.ref 0] (ks i a q r) (kVI yw109_0 i a q r (fun v i1 a1 q1 r1 => (True) ∧ (v = (cRedo (i 64) (a 2, a 3, a 4, a 5, i 70, i 71, i 72) (a 90, a 91, a 92, a 93, i 5700, i 5701)).1 ∧ a1 2 = ((cRedo (i 64) (a 2, a 3, a 4, a 5, i 70, i 71, i 72) (a 90, a 91, a 92, a 93, i 5700, i 5701)).2.1).1 ∧ a1 3 = ((cRedo (i 64) (a 2, a 3, a 4, a 5, i 70, i 71, i 72) (a 90, a 91, a 92, a 93, i 5700, i 5701)).2.1).2.1 ∧ a1 4 = ((cRedo (i 64) (a 2, a 3, a 4, a 5, i 70, i 71, i 72) (a 90, a 91, a 92, a 93, i 5700, i 5701)).2.1).2.2.1 ∧ a1 5 = ((cRedo (i 64) (a 2, a 3, a 4, a 5, i 70, i 71, i 72) (a 90, a 91, a 92, a 93, i 5700, i 5701)).2.1).2.2.2.1 ∧ i1 70 = ((cRedo (i 64) (a 2, a 3, a 4, a 5, i 70, i 71, i 72) (a 90, a 91, a 92, a 93, i 5700, i 5701)).2.1).2.2.2.2.1 ∧ i1 71 = ((cRedo (i 64) (a 2, a 3, a 4, a 5, i 70, i 71, i 72) (a 90, a 91, a 92, a 93, i 5700, i 5701)).2.1).2.2.2.2.2.1 ∧ i1 72 = ((cRedo (i 64) (a 2, a 3, a 4, a 5, i 70, i 71, i 72) (a 90, a 91, a 92, a 93, i 5700, i 5701)).2.1).2.2.2.2.2.2 ∧ a1 90 = ((cRedo (i 64) (a 2, a 3, a 4, a 5, i 70, i 71, i 72) (a 90, a 91, a 92, a 93, i 5700, i 5701)).2.2).1 ∧ a1 91 = ((cRedo (i 64) (a 2, a 3, a 4, a 5, i 70, i 71, i 72) (a 90, a 91, a 92, a 93, i 5700, i 5701)).2.2).2.1 ∧ a1 92 = ((cRedo (i 64) (a 2, a 3, a 4, a 5, i 70, i 71, i 72) (a 90, a 91, a 92, a 93, i 5700, i 5701)).2.2).2.2.1 ∧ a1 93 = ((cRedo (i 64) (a 2, a 3, a 4, a 5, i 70, i 71, i 72) (a 90, a 91, a 92, a 93, i 5700, i 5701)).2.2).2.2.2.1 ∧ i1 5700 = ((cRedo (i 64) (a 2, a 3, a 4, a 5, i 70, i 71, i 72) (a 90, a 91, a 92, a 93, i 5700, i 5701)).2.2).2.2.2.2.1 ∧ i1 5701 = ((cRedo (i 64) (a 2, a 3, a 4, a 5, i 70, i 71, i 72) (a 90, a 91, a 92, a 93, i 5700, i 5701)).2.2).2.2.2.2.2))) := by
  have hG := kG_self yw109_0 hI hr
  refine km_ofI (q := (mi_h109, mi_c109)) rfl (by decide) (Nat.le_of_ble_eq_true rfl) ?_
  intro P hP
  have fi_5701 : ((0 : Int) ≤ (i 5701).toInt) ∧ ((i 5701).toInt ≤ 40) := hG.I.1 5701
  have fi_5700 : ((0 : Int) ≤ (i 5700).toInt) ∧ ((i 5700).toInt ≤ 40) := hG.I.1 5700
  first | refine fo_goL mi_k109 fz109_0_6_14 [(0, .ref 0)] [.int (i 5700), .int (i 5701)] (by rfl) ?_ | refine ft_go mi_k109 6 14 [(0, .ref 0)] [.int (i 5700), .int (i 5701)] i a q r (by rfl) ?_
  refine ft_ifS mi_k109 (decide ((i 5701) < (i 5700))) 20 17 [] (by rfl) (fun c => ?_) (fun c => ?_)
  ·
    have c1 : (i 5701).toInt < (i 5700).toInt := kd_lt c; clear c
    first | refine fo_goL mi_k109 fz109_20_10_40 [(1, .int (i 5701)), (0, .ref 0)] [.int (i 5701), .ref 90, .ref 1] (by rfl) ?_ | refine ft_go mi_k109 10 40 [(1, .int (i 5701)), (0, .ref 0)] [.int (i 5701), .ref 90, .ref 1] i a q r (by rfl) ?_
    refine ko_iald3 mi_k109.1 (n := 40) (c := 40) (ax := (0, 0, 0, 0, 0)) (mi_k109.2 _ _ (by rfl)) (by rfl) (ksG90 _ _ _ _) (hG.I.2.1 90) rfl (ou16 fi_5701.1) (ou136 c1 fi_5700.2) ?_
    first | refine ft_goS mi_k109 4 49 [.int (i 5701), .ref 91, .int ((a 90).getD (i 5701).toNatClampNeg 0), .ref 1] (by rfl) ?_ | refine ft_go mi_k109 4 49 [(1, .int (i 5701)), (0, .ref 0)] [.int (i 5701), .ref 91, .int ((a 90).getD (i 5701).toNatClampNeg 0), .ref 1] i a q r (by rfl) ?_
    refine ko_iald3 mi_k109.1 (n := 40) (c := 40) (ax := (0, 0, 0, 0, 0)) (mi_k109.2 _ _ (by rfl)) (by rfl) (ksG91 _ _ _ _) (hG.I.2.1 91) rfl (ou16 fi_5701.1) (ou136 c1 fi_5700.2) ?_
    first | refine ft_goS mi_k109 4 58 [.int (i 5701), .ref 93, .int ((a 91).getD (i 5701).toNatClampNeg 0), .int ((a 90).getD (i 5701).toNatClampNeg 0), .ref 1] (by rfl) ?_ | refine ft_go mi_k109 4 58 [(1, .int (i 5701)), (0, .ref 0)] [.int (i 5701), .ref 93, .int ((a 91).getD (i 5701).toNatClampNeg 0), .int ((a 90).getD (i 5701).toNatClampNeg 0), .ref 1] i a q r (by rfl) ?_
    refine ko_iald3 mi_k109.1 (n := 40) (c := 40) (ax := (0, 0, 0, 0, 0)) (mi_k109.2 _ _ (by rfl)) (by rfl) (ksG93 _ _ _ _) (hG.I.2.1 93) rfl (ou16 fi_5701.1) (ou136 c1 fi_5700.2) ?_
    refine ko_callN mi_k109.1 (pc := 59) (ls := [(1, .int (i 5701)), (0, .ref 0)]) (st := [.int ((a 93).getD (i 5701).toNatClampNeg 0), .int ((a 91).getD (i 5701).toNatClampNeg 0), .int ((a 90).getD (i 5701).toNatClampNeg 0), .ref 1]) (h := ks i a q r) (i := (.invokevirtual 102, 3, 28, 0, 9, 0, 167)) (mi_k109.2 _ _ (by rfl)) (ft_invS mi_pq28 (by rfl)) (cy := mi_c28) mi_pq28 rfl (ke28_1 hG.I hG.R ((a 90).getD (i 5701).toNatClampNeg 0) ((a 91).getD (i 5701).toNatClampNeg 0) ((a 93).getD (i 5701).toNatClampNeg 0)) (by decide) ?_
    intro ig2 ag2 qg2 rg2 kg2 hg2
    have hGg2 := kG_call hG kg2 (by decide +kernel)
    obtain ⟨hg2, og2⟩ := hg2
    have q3 : ag2 2 = (cSet (i 64) ((a 90).getD (i 5701).toNatClampNeg 0) ((a 91).getD (i 5701).toNatClampNeg 0) ((a 93).getD (i 5701).toNatClampNeg 0) (a 2, a 3, a 4, a 5, i 70, i 71, i 72)).1 := og2.1
    have q4 : ag2 3 = (cSet (i 64) ((a 90).getD (i 5701).toNatClampNeg 0) ((a 91).getD (i 5701).toNatClampNeg 0) ((a 93).getD (i 5701).toNatClampNeg 0) (a 2, a 3, a 4, a 5, i 70, i 71, i 72)).2.1 := og2.2.1
    have q5 : ag2 4 = (cSet (i 64) ((a 90).getD (i 5701).toNatClampNeg 0) ((a 91).getD (i 5701).toNatClampNeg 0) ((a 93).getD (i 5701).toNatClampNeg 0) (a 2, a 3, a 4, a 5, i 70, i 71, i 72)).2.2.1 := og2.2.2.1
    have q6 : ag2 5 = (cSet (i 64) ((a 90).getD (i 5701).toNatClampNeg 0) ((a 91).getD (i 5701).toNatClampNeg 0) ((a 93).getD (i 5701).toNatClampNeg 0) (a 2, a 3, a 4, a 5, i 70, i 71, i 72)).2.2.2.1 := og2.2.2.2.1
    have q7 : ig2 70 = (cSet (i 64) ((a 90).getD (i 5701).toNatClampNeg 0) ((a 91).getD (i 5701).toNatClampNeg 0) ((a 93).getD (i 5701).toNatClampNeg 0) (a 2, a 3, a 4, a 5, i 70, i 71, i 72)).2.2.2.2.1 := og2.2.2.2.2.1
    have q8 : ig2 71 = (cSet (i 64) ((a 90).getD (i 5701).toNatClampNeg 0) ((a 91).getD (i 5701).toNatClampNeg 0) ((a 93).getD (i 5701).toNatClampNeg 0) (a 2, a 3, a 4, a 5, i 70, i 71, i 72)).2.2.2.2.2.1 := og2.2.2.2.2.2.1
    have q9 : ig2 72 = (cSet (i 64) ((a 90).getD (i 5701).toNatClampNeg 0) ((a 91).getD (i 5701).toNatClampNeg 0) ((a 93).getD (i 5701).toNatClampNeg 0) (a 2, a 3, a 4, a 5, i 70, i 71, i 72)).2.2.2.2.2.2 := og2.2.2.2.2.2.2
    have fig2_5701 : ((0 : Int) ≤ (ig2 5701).toInt) ∧ ((ig2 5701).toInt ≤ 40) := hGg2.I.1 5701
    have efig2_5701 : (ig2 5701).toInt = (i 5701).toInt := kg2.ti 5701 rfl
    have s10 : ((ig2 5701) + 1).toInt = (ig2 5701).toInt + (1 : Int32).toInt := kd_add (ou55 fig2_5701.1 kou1) (ou56 fig2_5701.2 kou1)
    have hJ11 := kG_i hGg2 5701 rfl (v := ((ig2 5701) + 1)) ⟨(ou57 fig2_5701.1 s10 kou1), (ou137 c1 efig2_5701 fi_5700.2 s10 kou1)⟩
    have fig2_5700 : ((0 : Int) ≤ (ig2 5700).toInt) ∧ ((ig2 5700).toInt ≤ 40) := hJ11.I.1 5700
    have s12 : ((ig2 5700) - ((ig2 5701) + 1)).toInt = (ig2 5700).toInt - ((ig2 5701) + 1).toInt := kd_sub (ou138 fig2_5700.1 fig2_5701.2 s10 kou1) (ou139 fig2_5700.2 fig2_5701.1 s10 kou1)
    first | refine fo_goI mi_k109 fz109_62_14_90 [.int ((ig2 5700) - ((ig2 5701) + 1))] (ku ig2 5701 ((ig2 5701) + 1)) (by rfl) ?_ | refine ft_go mi_k109 14 90 [(1, .int (i 5701)), (0, .ref 0)] [.int ((ig2 5700) - ((ig2 5701) + 1))] (ku ig2 5701 ((ig2 5701) + 1)) ag2 qg2 rg2 (by rfl) ?_
    have bw13 : ¬ ((i 5700).toInt ≤ (i 5701).toInt) := (ou140 c1)
    exact ft_ret mi_k109 (by rfl) (hP ((ig2 5700) - ((ig2 5701) + 1)) _ _ _ _ hJ11 ⟨trivial, ⟨(show ((ig2 5700) - ((ig2 5701) + 1)) = (cRedo (i 64) (a 2, a 3, a 4, a 5, i 70, i 71, i 72) (a 90, a 91, a 92, a 93, i 5700, i 5701)).1 from (by unfold cRedo; simp only [if_neg bw13]; first | done | rfl | (simp only [(show ig2 5700 = i 5700 from kg2.fi 5700 rfl), (show ig2 5701 = i 5701 from kg2.fi 5701 rfl), sMn, sMx]; done) | (simp only [(show ig2 5700 = i 5700 from kg2.fi 5700 rfl), (show ig2 5701 = i 5701 from kg2.fi 5701 rfl), sMn, sMx]; rfl))), (show ag2 2 = ((cRedo (i 64) (a 2, a 3, a 4, a 5, i 70, i 71, i 72) (a 90, a 91, a 92, a 93, i 5700, i 5701)).2.1).1 from (by unfold cRedo; simp only [if_neg bw13]; first | done | rfl | (simp only [q3, sMn, sMx]; done) | (simp only [q3, sMn, sMx]; rfl))), (show ag2 3 = ((cRedo (i 64) (a 2, a 3, a 4, a 5, i 70, i 71, i 72) (a 90, a 91, a 92, a 93, i 5700, i 5701)).2.1).2.1 from (by unfold cRedo; simp only [if_neg bw13]; first | done | rfl | (simp only [q4, sMn, sMx]; done) | (simp only [q4, sMn, sMx]; rfl))), (show ag2 4 = ((cRedo (i 64) (a 2, a 3, a 4, a 5, i 70, i 71, i 72) (a 90, a 91, a 92, a 93, i 5700, i 5701)).2.1).2.2.1 from (by unfold cRedo; simp only [if_neg bw13]; first | done | rfl | (simp only [q5, sMn, sMx]; done) | (simp only [q5, sMn, sMx]; rfl))), (show ag2 5 = ((cRedo (i 64) (a 2, a 3, a 4, a 5, i 70, i 71, i 72) (a 90, a 91, a 92, a 93, i 5700, i 5701)).2.1).2.2.2.1 from (by unfold cRedo; simp only [if_neg bw13]; first | done | rfl | (simp only [q6, sMn, sMx]; done) | (simp only [q6, sMn, sMx]; rfl))), (show ig2 70 = ((cRedo (i 64) (a 2, a 3, a 4, a 5, i 70, i 71, i 72) (a 90, a 91, a 92, a 93, i 5700, i 5701)).2.1).2.2.2.2.1 from (by unfold cRedo; simp only [if_neg bw13]; first | done | rfl | (simp only [q7, sMn, sMx]; done) | (simp only [q7, sMn, sMx]; rfl))), (show ig2 71 = ((cRedo (i 64) (a 2, a 3, a 4, a 5, i 70, i 71, i 72) (a 90, a 91, a 92, a 93, i 5700, i 5701)).2.1).2.2.2.2.2.1 from (by unfold cRedo; simp only [if_neg bw13]; first | done | rfl | (simp only [q8, sMn, sMx]; done) | (simp only [q8, sMn, sMx]; rfl))), (show ig2 72 = ((cRedo (i 64) (a 2, a 3, a 4, a 5, i 70, i 71, i 72) (a 90, a 91, a 92, a 93, i 5700, i 5701)).2.1).2.2.2.2.2.2 from (by unfold cRedo; simp only [if_neg bw13]; first | done | rfl | (simp only [q9, sMn, sMx]; done) | (simp only [q9, sMn, sMx]; rfl))), (show ag2 90 = ((cRedo (i 64) (a 2, a 3, a 4, a 5, i 70, i 71, i 72) (a 90, a 91, a 92, a 93, i 5700, i 5701)).2.2).1 from (by unfold cRedo; simp only [if_neg bw13]; first | done | rfl | (simp only [kg2.fa 90 rfl, sMn, sMx]; done) | (simp only [kg2.fa 90 rfl, sMn, sMx]; rfl))), (show ag2 91 = ((cRedo (i 64) (a 2, a 3, a 4, a 5, i 70, i 71, i 72) (a 90, a 91, a 92, a 93, i 5700, i 5701)).2.2).2.1 from (by unfold cRedo; simp only [if_neg bw13]; first | done | rfl | (simp only [kg2.fa 91 rfl, sMn, sMx]; done) | (simp only [kg2.fa 91 rfl, sMn, sMx]; rfl))), (show ag2 92 = ((cRedo (i 64) (a 2, a 3, a 4, a 5, i 70, i 71, i 72) (a 90, a 91, a 92, a 93, i 5700, i 5701)).2.2).2.2.1 from (by unfold cRedo; simp only [if_neg bw13]; first | done | rfl | (simp only [kg2.fa 92 rfl, sMn, sMx]; done) | (simp only [kg2.fa 92 rfl, sMn, sMx]; rfl))), (show ag2 93 = ((cRedo (i 64) (a 2, a 3, a 4, a 5, i 70, i 71, i 72) (a 90, a 91, a 92, a 93, i 5700, i 5701)).2.2).2.2.2.1 from (by unfold cRedo; simp only [if_neg bw13]; first | done | rfl | (simp only [kg2.fa 93 rfl, sMn, sMx]; done) | (simp only [kg2.fa 93 rfl, sMn, sMx]; rfl))), (show ig2 5700 = ((cRedo (i 64) (a 2, a 3, a 4, a 5, i 70, i 71, i 72) (a 90, a 91, a 92, a 93, i 5700, i 5701)).2.2).2.2.2.2.1 from (by unfold cRedo; simp only [if_neg bw13]; first | done | rfl | (simp only [(show ig2 5700 = i 5700 from kg2.fi 5700 rfl), sMn, sMx]; done) | (simp only [(show ig2 5700 = i 5700 from kg2.fi 5700 rfl), sMn, sMx]; rfl))), (show ((ig2 5701) + 1) = ((cRedo (i 64) (a 2, a 3, a 4, a 5, i 70, i 71, i 72) (a 90, a 91, a 92, a 93, i 5700, i 5701)).2.2).2.2.2.2.2 from (by unfold cRedo; simp only [if_neg bw13]; first | done | rfl | (simp only [(show ig2 5701 = i 5701 from kg2.fi 5701 rfl), sMn, sMx]; done) | (simp only [(show ig2 5701 = i 5701 from kg2.fi 5701 rfl), sMn, sMx]; rfl)))⟩⟩)
  ·
    have c14 : (i 5700).toInt ≤ (i 5701).toInt := kd_ltF c; clear c
    first | refine ft_goS mi_k109 1 19 [.int (-5)] (by rfl) ?_ | refine ft_go mi_k109 1 19 [(0, .ref 0)] [.int (-5)] i a q r (by rfl) ?_
    have bw15 : (i 5700).toInt ≤ (i 5701).toInt := (ou141 c14)
    exact ft_ret mi_k109 (by rfl) (hP (-5) _ _ _ _ hG ⟨trivial, ⟨(show ((-5) : Int32) = (cRedo (i 64) (a 2, a 3, a 4, a 5, i 70, i 71, i 72) (a 90, a 91, a 92, a 93, i 5700, i 5701)).1 from (by unfold cRedo; simp only [if_pos bw15]; first | done | rfl | (simp only [sMn, sMx]; done) | (simp only [sMn, sMx]; rfl))), (show a 2 = ((cRedo (i 64) (a 2, a 3, a 4, a 5, i 70, i 71, i 72) (a 90, a 91, a 92, a 93, i 5700, i 5701)).2.1).1 from (by unfold cRedo; simp only [if_pos bw15]; first | done | rfl | (simp only [sMn, sMx]; done) | (simp only [sMn, sMx]; rfl))), (show a 3 = ((cRedo (i 64) (a 2, a 3, a 4, a 5, i 70, i 71, i 72) (a 90, a 91, a 92, a 93, i 5700, i 5701)).2.1).2.1 from (by unfold cRedo; simp only [if_pos bw15]; first | done | rfl | (simp only [sMn, sMx]; done) | (simp only [sMn, sMx]; rfl))), (show a 4 = ((cRedo (i 64) (a 2, a 3, a 4, a 5, i 70, i 71, i 72) (a 90, a 91, a 92, a 93, i 5700, i 5701)).2.1).2.2.1 from (by unfold cRedo; simp only [if_pos bw15]; first | done | rfl | (simp only [sMn, sMx]; done) | (simp only [sMn, sMx]; rfl))), (show a 5 = ((cRedo (i 64) (a 2, a 3, a 4, a 5, i 70, i 71, i 72) (a 90, a 91, a 92, a 93, i 5700, i 5701)).2.1).2.2.2.1 from (by unfold cRedo; simp only [if_pos bw15]; first | done | rfl | (simp only [sMn, sMx]; done) | (simp only [sMn, sMx]; rfl))), (show i 70 = ((cRedo (i 64) (a 2, a 3, a 4, a 5, i 70, i 71, i 72) (a 90, a 91, a 92, a 93, i 5700, i 5701)).2.1).2.2.2.2.1 from (by unfold cRedo; simp only [if_pos bw15]; first | done | rfl | (simp only [sMn, sMx]; done) | (simp only [sMn, sMx]; rfl))), (show i 71 = ((cRedo (i 64) (a 2, a 3, a 4, a 5, i 70, i 71, i 72) (a 90, a 91, a 92, a 93, i 5700, i 5701)).2.1).2.2.2.2.2.1 from (by unfold cRedo; simp only [if_pos bw15]; first | done | rfl | (simp only [sMn, sMx]; done) | (simp only [sMn, sMx]; rfl))), (show i 72 = ((cRedo (i 64) (a 2, a 3, a 4, a 5, i 70, i 71, i 72) (a 90, a 91, a 92, a 93, i 5700, i 5701)).2.1).2.2.2.2.2.2 from (by unfold cRedo; simp only [if_pos bw15]; first | done | rfl | (simp only [sMn, sMx]; done) | (simp only [sMn, sMx]; rfl))), (show a 90 = ((cRedo (i 64) (a 2, a 3, a 4, a 5, i 70, i 71, i 72) (a 90, a 91, a 92, a 93, i 5700, i 5701)).2.2).1 from (by unfold cRedo; simp only [if_pos bw15]; first | done | rfl | (simp only [sMn, sMx]; done) | (simp only [sMn, sMx]; rfl))), (show a 91 = ((cRedo (i 64) (a 2, a 3, a 4, a 5, i 70, i 71, i 72) (a 90, a 91, a 92, a 93, i 5700, i 5701)).2.2).2.1 from (by unfold cRedo; simp only [if_pos bw15]; first | done | rfl | (simp only [sMn, sMx]; done) | (simp only [sMn, sMx]; rfl))), (show a 92 = ((cRedo (i 64) (a 2, a 3, a 4, a 5, i 70, i 71, i 72) (a 90, a 91, a 92, a 93, i 5700, i 5701)).2.2).2.2.1 from (by unfold cRedo; simp only [if_pos bw15]; first | done | rfl | (simp only [sMn, sMx]; done) | (simp only [sMn, sMx]; rfl))), (show a 93 = ((cRedo (i 64) (a 2, a 3, a 4, a 5, i 70, i 71, i 72) (a 90, a 91, a 92, a 93, i 5700, i 5701)).2.2).2.2.2.1 from (by unfold cRedo; simp only [if_pos bw15]; first | done | rfl | (simp only [sMn, sMx]; done) | (simp only [sMn, sMx]; rfl))), (show i 5700 = ((cRedo (i 64) (a 2, a 3, a 4, a 5, i 70, i 71, i 72) (a 90, a 91, a 92, a 93, i 5700, i 5701)).2.2).2.2.2.2.1 from (by unfold cRedo; simp only [if_pos bw15]; first | done | rfl | (simp only [sMn, sMx]; done) | (simp only [sMn, sMx]; rfl))), (show i 5701 = ((cRedo (i 64) (a 2, a 3, a 4, a 5, i 70, i 71, i 72) (a 90, a 91, a 92, a 93, i 5700, i 5701)).2.2).2.2.2.2.2 from (by unfold cRedo; simp only [if_pos bw15]; first | done | rfl | (simp only [sMn, sMx]; done) | (simp only [sMn, sMx]; rfl)))⟩⟩)
end
section
/-! lists copied, moved, laid back -/
theorem kShf_eq {l0 l : List Int32} {x : Int32} (h : kShf l0 l x.toInt.toNat) (hx : x.toInt = 156) (h0 : l0.length = 160) (hl : l.length = 160) : l = rShf l0 := by
  have hr := (rShf_g h0 0 (by omega)).2
  refine List.ext_getElem (hl.trans hr.symm) (fun j h1 h2 => ?_)
  have e : l.getD j 0 = (rShf l0).getD j 0 := by
    rw [show x.toInt.toNat = 156 by omega] at h
    by_cases c : j < 156
    · rw [h.1 j c, (rShf_g h0 j c).1]
    · rw [h.2 j (by omega)]
      unfold rShf
      rw [List.getD_eq_getElem?_getD, List.getD_eq_getElem?_getD, List.getElem?_append_right (by rw [List.length_drop]; omega), List.getElem?_drop, List.length_drop, show 156 + (j - (l0.length - 4)) = j by omega]
  rw [List.getD_eq_getElem?_getD, List.getD_eq_getElem?_getD, List.getElem?_eq_getElem h1, List.getElem?_eq_getElem h2] at e
  exact e
theorem kListn {l m : List Int32} {n : Nat} (hl : l.length = n) (hm : m.length = n) (h : ∀ j : Nat, j < n → l.getD j 0 = m.getD j 0) : l = m := by
  refine List.ext_getElem (hl.trans hm.symm) (fun j h1 h2 => ?_)
  have := h j (by omega)
  rw [List.getD_eq_getElem?_getD, List.getD_eq_getElem?_getD, List.getElem?_eq_getElem h1, List.getElem?_eq_getElem h2] at this
  exact this
def kPre (L S : List Int32) (x : Int) : Prop := ∀ j : Nat, (j : Int) < x → L.getD j 0 = S.getD j 0
theorem kPre_zero {L S : List Int32} {z : Int32} (h : z.toInt = 0) : kPre L S z.toInt := fun j hj => by omega
theorem kPre_step {L0 L1 S S1 : List Int32} {n : Nat} {x x1 : Int32} (h : kPre L0 S x.toInt) (hl : L0.length = n) (h0 : 0 ≤ x.toInt) (hn : x.toInt < (n : Int)) (h1 : x1.toInt = x.toInt + 1) (es : S1 = S) (e : L1 = L0.set x.toNatClampNeg (S1.getD x.toNatClampNeg 0)) : kPre L1 S x1.toInt := by
  have tx := Int32.toNat_toInt x
  subst es
  subst e
  intro j hj
  rw [kset_gI (by omega)]
  by_cases c : j = x.toNatClampNeg
  · rw [if_pos c, c]
  · rw [if_neg c]; exact h j (by omega)
theorem kPre_end {L S : List Int32} {x : Int} {n : Nat} (h : kPre L S x) (hl : L.length = n) (hs : S.length = n) (hx : (n : Int) ≤ x) : L = S := kListn hl hs (fun j hj => h j (by omega))
/-- laid back: all but what came since b buyers -/
def rSince (b : Int32) (j : Nat) : Prop := ((j : Int) < 8 ∧ b.toInt ≤ (j : Int)) ∨ (10 + b.toInt ≤ (j : Int) ∧ (j : Int) < 18)
def kBk (b : Int32) (L N S : List Int32) (x : Int) : Prop := ∀ j : Nat, L.getD j 0 = (bif (decide ((j : Int) < x) && !(decide ((j : Int) < 8 ∧ b.toInt ≤ (j : Int)) || decide (10 + b.toInt ≤ (j : Int) ∧ (j : Int) < 18))) then S.getD j 0 else N.getD j 0)
theorem kBk_no {b : Int32} {L N S : List Int32} {x : Int} (h : kBk b L N S x) (j : Nat) (hj : x ≤ (j : Int) ∨ rSince b j) : L.getD j 0 = N.getD j 0 := by
  rw [h j]
  have e : (decide ((j : Int) < x) && !(decide ((j : Int) < 8 ∧ b.toInt ≤ (j : Int)) || decide (10 + b.toInt ≤ (j : Int) ∧ (j : Int) < 18))) = false := by
    rcases hj with hj | hj | hj
    · rw [decide_eq_false (by omega)]; rfl
    · rw [decide_eq_true hj, Bool.true_or, Bool.not_true, Bool.and_false]
    · rw [decide_eq_true hj, Bool.or_true, Bool.not_true, Bool.and_false]
  rw [e]
  rfl
theorem kBk_yes {b : Int32} {L N S : List Int32} {x : Int} (h : kBk b L N S x) (j : Nat) (hj : (j : Int) < x) (hs : ¬ rSince b j) : L.getD j 0 = S.getD j 0 := by
  rw [h j]
  unfold rSince at hs
  rw [decide_eq_true hj, decide_eq_false (fun z => hs (Or.inl z)), decide_eq_false (fun z => hs (Or.inr z))]
  rfl
theorem kBk_of {b : Int32} {L N S : List Int32} {x : Int} (h1 : ∀ j : Nat, (x ≤ (j : Int) ∨ rSince b j) → L.getD j 0 = N.getD j 0) (h2 : ∀ j : Nat, (j : Int) < x → ¬ rSince b j → L.getD j 0 = S.getD j 0) : kBk b L N S x := by
  intro j
  by_cases c1 : (j : Int) < x
  · by_cases c2 : (j : Int) < 8 ∧ b.toInt ≤ (j : Int)
    · rw [h1 j (Or.inr (Or.inl c2)), decide_eq_true c2, Bool.true_or, Bool.not_true, Bool.and_false]
      rfl
    · by_cases c3 : 10 + b.toInt ≤ (j : Int) ∧ (j : Int) < 18
      · rw [h1 j (Or.inr (Or.inr c3)), decide_eq_true c3, Bool.or_true, Bool.not_true, Bool.and_false]
        rfl
      · rw [h2 j c1 (fun z => by rcases z with z | z; exact c2 z; exact c3 z), decide_eq_true c1, decide_eq_false c2, decide_eq_false c3]
        rfl
  · rw [h1 j (Or.inl (by omega)), decide_eq_false c1]
    rfl
theorem kBk_zero {b : Int32} {L N S : List Int32} {z : Int32} (e : L = N) (h : z.toInt = 0) : kBk b L N S z.toInt := kBk_of (fun j _ => by rw [e]) (fun j hj => by omega)
theorem kBk_skip {b : Int32} {L0 L1 N S : List Int32} {x x1 : Int32} (h : kBk b L0 N S x.toInt) (h0 : 0 ≤ x.toInt) (hs : (x.toInt < 8 ∧ b.toInt ≤ x.toInt) ∨ (10 + b.toInt ≤ x.toInt ∧ x.toInt < 18)) (h1 : x1.toInt = x.toInt + 1) (e : L1 = L0) : kBk b L1 N S x1.toInt := by
  subst e
  refine kBk_of (fun j hj => kBk_no h j (hj.imp (fun z => by omega) (fun z => z))) (fun j hj hn => ?_)
  by_cases c : (j : Int) < x.toInt
  · exact kBk_yes h j c hn
  · refine absurd ?_ hn
    unfold rSince
    rw [show (j : Int) = x.toInt by omega]
    exact hs
theorem kBk_step {b : Int32} {L0 L1 N S S1 : List Int32} {x x1 : Int32} (h : kBk b L0 N S x.toInt) (hl : L0.length = 31) (h0 : 0 ≤ x.toInt) (hn : x.toInt < 31) (hs : ¬ ((x.toInt < 8 ∧ b.toInt ≤ x.toInt) ∨ (10 + b.toInt ≤ x.toInt ∧ x.toInt < 18))) (h1 : x1.toInt = x.toInt + 1) (es : S1 = S) (e : L1 = L0.set x.toNatClampNeg (S1.getD x.toNatClampNeg 0)) : kBk b L1 N S x1.toInt := by
  have tx := Int32.toNat_toInt x
  subst es
  subst e
  refine kBk_of (fun j hj => ?_) (fun j hj hm => ?_)
  · rw [kset_gI (by omega), if_neg (fun z => ?_)]
    · exact kBk_no h j (hj.imp (fun z => by omega) (fun z => z))
    · rcases hj with hj | hj
      · omega
      · unfold rSince at hj
        rw [show (j : Int) = x.toInt by omega] at hj
        exact hs hj
  · rw [kset_gI (by omega)]
    by_cases c : j = x.toNatClampNeg
    · rw [if_pos c, c]
    · rw [if_neg c]; exact kBk_yes h j (by omega) hm
def rBk (b : Int32) (N S : List Int32) : List Int32 := (List.range 31).map (fun j : Nat => bif (decide ((j : Int) < 8 ∧ b.toInt ≤ (j : Int)) || decide (10 + b.toInt ≤ (j : Int) ∧ (j : Int) < 18)) then N.getD j 0 else S.getD j 0)
theorem rBk_len {b : Int32} {N S : List Int32} : (rBk b N S).length = 31 := by unfold rBk; rw [List.length_map, List.length_range]
theorem rBk_g {b : Int32} {N S : List Int32} {j : Nat} (hj : j < 31) : (rSince b j → (rBk b N S).getD j 0 = N.getD j 0) ∧ (¬ rSince b j → (rBk b N S).getD j 0 = S.getD j 0) := by
  have e : (rBk b N S).getD j 0 = bif (decide ((j : Int) < 8 ∧ b.toInt ≤ (j : Int)) || decide (10 + b.toInt ≤ (j : Int) ∧ (j : Int) < 18)) then N.getD j 0 else S.getD j 0 := by
    unfold rBk
    rw [List.getD_eq_getElem?_getD, List.getElem?_map, List.getElem?_range hj]
    rfl
  rw [e]
  constructor
  · rintro (h | h)
    · rw [decide_eq_true h, Bool.true_or]; rfl
    · rw [decide_eq_true h, Bool.or_true]; rfl
  · intro h
    unfold rSince at h
    rw [decide_eq_false (fun z => h (Or.inl z)), decide_eq_false (fun z => h (Or.inr z))]
    rfl
theorem kBk_end {b : Int32} {L N S : List Int32} {x : Int} (h : kBk b L N S x) (hl : L.length = 31) (hx : 31 ≤ x) : L = rBk b N S := kListn hl rBk_len (fun j hj => by
  by_cases c : rSince b j
  · rw [kBk_no h j (Or.inr c), (rBk_g hj).1 c]
  · rw [kBk_yes h j (by omega) c, (rBk_g hj).2 c])
end
