theorem koh18 : (18 : Int32).toInt = 18 := by decide
theorem koh19 : (19 : Int32).toInt = 19 := by decide
theorem koh25 : (25 : Int32).toInt = 25 := by decide
theorem koh1 : (1 : Int32).toInt = 1 := by decide
theorem koh0 : (0 : Int32).toInt = 0 := by decide
theorem koh8 : (8 : Int32).toInt = 8 := by decide
theorem koh20 : (20 : Int32).toInt = 20 := by decide
theorem koh26 : (26 : Int32).toInt = 26 := by decide
theorem koh16 : (16 : Int32).toInt = 16 := by decide
theorem koh10 : (10 : Int32).toInt = 10 := by decide
theorem koh9 : (9 : Int32).toInt = 9 := by decide
theorem oh0 {a0 : Int} (h0 : a0 = 19) : (0 : Int) ≤ a0 := oz337 h0
theorem oh1 {a0 : Int} (h0 : a0 = 19) : a0 < 31 := oz338 h0
theorem oh2 {a0 : Int} (h0 : a0 = 25) : (0 : Int) ≤ a0 := oz339 h0
theorem oh3 {a0 : Int} (h0 : a0 = 25) : a0 < 31 := oz340 h0
theorem oh4 {a0 : Int} (h0 : a0 = 18) : (0 : Int) ≤ a0 := oz195 h0
theorem oh5 {a0 : Int} (h0 : a0 = 18) : a0 < 31 := oz196 h0
theorem oh6 {a0 a1 : Int} (h0 : (1 : Int) ≤ a0) (h1 : a1 = 1) : (-2147483648 : Int) ≤ a0 - a1 := oz341 h0 h1
theorem oh7 {a0 a1 : Int} (h0 : a0 ≤ 5) (h1 : a1 = 1) : a0 - a1 ≤ 2147483647 := oz342 h0 h1
theorem oh8 {a0 a1 a2 a3 : Int} (h0 : (1 : Int) ≤ a0) (h1 : a0 ≤ 5) (h2 : a1 = a0 - a2) (h3 : a2 = 1) (h4 : a3 = 18) : a3 = 18 → (0 : Int) ≤ a1 ∧ a1 ≤ 5 := oz343 h0 h1 h2 h3 h4
theorem oh9 {a0 a1 : Int} (h0 : a0 = 18) : 19 ≤ a0 → a0 ≤ 24 → (0 : Int) ≤ a1 ∧ a1 ≤ 7 := oz325 h0
theorem oh11 {a0 : Int} (h0 : (0 : Int) ≤ a0) : (0 : Int) ≤ a0 := oz3 h0
theorem oh12 {a0 : Int} (h0 : a0 ≤ 7) : a0 < 31 := oz65 h0
theorem oh14 {a0 : Int} (h0 : (0 : Int) ≤ a0) : (-2147483648 : Int) ≤ 8 * a0 := oz345 h0
theorem oh15 {a0 : Int} (h0 : a0 ≤ 7) : 8 * a0 ≤ 2147483647 := oz346 h0
theorem oh16 {a0 a1 a2 : Int} (h0 : (0 : Int) ≤ a0) (h1 : (0 : Int) ≤ a1) (h2 : a2 = 8 * a1) : (-2147483648 : Int) ≤ a2 + a0 := oz347 h0 h1 h2
theorem oh17 {a0 a1 a2 : Int} (h0 : a0 ≤ 7) (h1 : a1 ≤ 7) (h2 : a2 = 8 * a1) : a2 + a0 ≤ 2147483647 := oz348 h0 h1 h2
theorem oh18 {a0 a1 a2 a3 : Int} (h0 : (0 : Int) ≤ a0) (h1 : (0 : Int) ≤ a1) (h2 : a2 = 8 * a1) (h3 : a3 = a2 + a0) : (0 : Int) ≤ a3 := oz349 h0 h1 h2 h3
theorem oh19 {a0 a1 a2 a3 : Int} (h0 : a0 ≤ 7) (h1 : a1 ≤ 7) (h2 : a2 = 8 * a1) (h3 : a3 = a2 + a0) : a3 < 64 := oz350 h0 h1 h2 h3
theorem oh20 {a0 a1 : Int} (h0 : a0 ≤ 7) : a0 = 18 → (0 : Int) ≤ a1 ∧ a1 ≤ 5 := oz90 h0
theorem oh21 {a0 a1 : Int} (h0 : a0 ≤ 7) : 19 ≤ a0 → a0 ≤ 24 → (0 : Int) ≤ a1 ∧ a1 ≤ 7 := oz91 h0
theorem oh22 {a0 a1 : Int} (h0 : a0 ≠ a1) : a1 ≠ a0 := oz351 h0
theorem oh23 {a0 a1 : Int} (h0 : a0 ≤ 7) (h1 : a1 = 18) : a1 ≠ a0 := oz352 h0 h1
theorem oh25 {a0 a1 a2 : Int} (h0 : a0 ≠ a1) (h1 : a0 = a2) (h2 : a1 = 8) : ¬ (a2 = 8) := ob26 h0 h1 h2
theorem oh26 {a0 a1 : Int} (h0 : a0 ≠ a1) : ¬ (a0 = a1) := ob25 h0
theorem oh28 {a0 a1 : Int} (h0 : a0 = a1) : a0 = a1 := oz719 h0
theorem oh29 {a0 a1 a2 : Int} (h0 : a0 = a1) (h1 : a0 = a2) (h2 : a1 = 8) : a2 = 8 := oc119 h0 h1 h2
theorem oh30 {a0 a1 : Int} (h0 : (0 : Int) ≤ a0) (h1 : a1 = 19) : (-2147483648 : Int) ≤ a1 + a0 := oz309 h0 h1
theorem oh31 {a0 a1 a2 a3 : Int} (h0 : a0 < a1) (h1 : a1 = (a2 - 1)) (h2 : a2 ≤ 5) (h3 : a3 = 19) : a3 + a0 ≤ 2147483647 := ob31 h0 h1 h2 h3
theorem oh32 {a0 a1 : Int} (h0 : (0 : Int) ≤ a0) (h1 : a1 = 20) : (-2147483648 : Int) ≤ a1 + a0 := oz356 h0 h1
theorem oh33 {a0 a1 a2 a3 : Int} (h0 : a0 < a1) (h1 : a1 = (a2 - 1)) (h2 : a2 ≤ 5) (h3 : a3 = 20) : a3 + a0 ≤ 2147483647 := ob33 h0 h1 h2 h3
theorem oh34 {a0 a1 a2 : Int} (h0 : (0 : Int) ≤ a0) (h1 : a1 = a2 + a0) (h2 : a2 = 20) : (0 : Int) ≤ a1 := oz358 h0 h1 h2
theorem oh35 {a0 a1 a2 a3 a4 : Int} (h0 : a0 < a1) (h1 : a1 = (a2 - 1)) (h2 : a2 ≤ 5) (h3 : a3 = a4 + a0) (h4 : a4 = 20) : a3 < 31 := ob35 h0 h1 h2 h3 h4
theorem oh37 {a0 a1 a2 : Int} (h0 : (0 : Int) ≤ a0) (h1 : a1 = a2 + a0) (h2 : a2 = 19) : (0 : Int) ≤ a1 := oz311 h0 h1 h2
theorem oh38 {a0 a1 a2 a3 a4 : Int} (h0 : a0 < a1) (h1 : a1 = (a2 - 1)) (h2 : a2 ≤ 5) (h3 : a3 = a4 + a0) (h4 : a4 = 19) : a3 < 31 := ob38 h0 h1 h2 h3 h4
theorem oh39 {a0 a1 a2 a3 : Int} (h0 : (0 : Int) ≤ a0) (h1 : a1 = a2 + a0) (h2 : a2 = 19) : a1 = 18 → (0 : Int) ≤ a3 ∧ a3 ≤ 5 := oz313 h0 h1 h2
theorem oh40 {a0 a1 a2 a3 a4 a5 a6 : Int} (h0 : a0 < a1) (h1 : (0 : Int) ≤ a0) (h2 : a1 = (a2 - 1)) (h3 : a2 ≤ 5) (h4 : (19 ≤ a3 → a3 ≤ 24 → (0 : Int) ≤ a4 ∧ a4 ≤ 7)) (h5 : a3 = a5 + a0) (h6 : a5 = 20) : 19 ≤ a6 → a6 ≤ 24 → (0 : Int) ≤ a4 ∧ a4 ≤ 7 := ob40 h0 h1 h2 h3 h4 h5 h6
theorem oh41 {a0 a1 : Int} (h0 : (0 : Int) ≤ a0) (h1 : a1 = 25) : (-2147483648 : Int) ≤ a1 + a0 := oz316 h0 h1
theorem oh42 {a0 a1 a2 a3 : Int} (h0 : a0 < a1) (h1 : a1 = (a2 - 1)) (h2 : a2 ≤ 5) (h3 : a3 = 25) : a3 + a0 ≤ 2147483647 := ob42 h0 h1 h2 h3
theorem oh43 {a0 a1 : Int} (h0 : (0 : Int) ≤ a0) (h1 : a1 = 26) : (-2147483648 : Int) ≤ a1 + a0 := oz364 h0 h1
theorem oh44 {a0 a1 a2 a3 : Int} (h0 : a0 < a1) (h1 : a1 = (a2 - 1)) (h2 : a2 ≤ 5) (h3 : a3 = 26) : a3 + a0 ≤ 2147483647 := ob44 h0 h1 h2 h3
theorem oh45 {a0 a1 a2 : Int} (h0 : (0 : Int) ≤ a0) (h1 : a1 = a2 + a0) (h2 : a2 = 26) : (0 : Int) ≤ a1 := oz366 h0 h1 h2
theorem oh46 {a0 a1 a2 a3 a4 : Int} (h0 : a0 < a1) (h1 : a1 = (a2 - 1)) (h2 : a2 ≤ 5) (h3 : a3 = a4 + a0) (h4 : a4 = 26) : a3 < 31 := ob46 h0 h1 h2 h3 h4
theorem oh47 {a0 a1 a2 a3 a4 : Int} (h0 : a0 = a1 + a2) (h1 : a3 = a4 + a2) (h2 : a1 = 19) (h3 : a4 = 26) : a3 ≠ a0 := oz368 h0 h1 h2 h3
theorem oh48 {a0 a1 a2 : Int} (h0 : (0 : Int) ≤ a0) (h1 : a1 = a2 + a0) (h2 : a2 = 25) : (0 : Int) ≤ a1 := oz318 h0 h1 h2
theorem oh49 {a0 a1 a2 a3 a4 : Int} (h0 : a0 < a1) (h1 : a1 = (a2 - 1)) (h2 : a2 ≤ 5) (h3 : a3 = a4 + a0) (h4 : a4 = 25) : a3 < 31 := ob49 h0 h1 h2 h3 h4
theorem oh50 {a0 a1 a2 a3 : Int} (h0 : (0 : Int) ≤ a0) (h1 : a1 = a2 + a0) (h2 : a2 = 25) : a1 = 18 → (0 : Int) ≤ a3 ∧ a3 ≤ 5 := oz320 h0 h1 h2
theorem oh51 {a0 a1 a2 a3 : Int} (h0 : (0 : Int) ≤ a0) (h1 : a1 = a2 + a0) (h2 : a2 = 25) : 19 ≤ a1 → a1 ≤ 24 → (0 : Int) ≤ a3 ∧ a3 ≤ 7 := oz321 h0 h1 h2
theorem oh52 {a0 a1 : Int} (h0 : (0 : Int) ≤ a0) (h1 : a1 = 1) : (-2147483648 : Int) ≤ a0 + a1 := oz12 h0 h1
theorem oh53 {a0 a1 a2 a3 : Int} (h0 : a0 < a1) (h1 : a1 = (a2 - 1)) (h2 : a2 ≤ 5) (h3 : a3 = 1) : a0 + a3 ≤ 2147483647 := ob53 h0 h1 h2 h3
theorem oh54 {a0 a1 a2 : Int} (h0 : (0 : Int) ≤ a0) (h1 : a1 = a0 + a2) (h2 : a2 = 1) : (0 : Int) ≤ a1 := oz14 h0 h1 h2
theorem oh55 {a0 a1 a2 a3 : Int} (h0 : (0 : Int) ≤ a0) (h1 : a1 = a2 + a0) (h2 : a2 = 19) (h3 : a3 = 18) : a3 ≠ a1 := oz315 h0 h1 h2 h3
theorem oh56 {a0 a1 a2 a3 : Int} (h0 : (0 : Int) ≤ a0) (h1 : a1 = a2 + a0) (h2 : a2 = 25) (h3 : a3 = 18) : a3 ≠ a1 := oz322 h0 h1 h2 h3
theorem oh57 {a0 a1 a2 a3 a4 a5 : Int} (h0 : a0 < a1) (h1 : a2 = a0 + a3) (h2 : a4 = a1) (h3 : a5 = a4) (h4 : a3 = 1) : a2 ≤ a5 := ob57 h0 h1 h2 h3 h4
theorem oh59 {a0 a1 a2 : Int} (h0 : a0 = a1 + a2) (h1 : a1 = 19) : a0 = 19 + a2 := ob59 h0 h1
theorem oh60 {a0 a1 a2 : Int} (h0 : a0 = a1 + a2) (h1 : a1 = 20) : a0 = 20 + a2 := ob60 h0 h1
theorem oh61 {a0 a1 a2 : Int} (h0 : a0 = a1 + a2) (h1 : a1 = 25) : a0 = 25 + a2 := ob61 h0 h1
theorem oh62 {a0 a1 a2 : Int} (h0 : a0 = a1 + a2) (h1 : a1 = 26) : a0 = 26 + a2 := ob62 h0 h1
theorem oh63 {a0 a1 a2 : Int} (h0 : a0 = a1 + a2) (h1 : a2 = 1) : a0 = a1 + 1 := oz169 h0 h1
theorem oh64 {a0 a1 a2 : Int} (h0 : a0 = a1 + a2) (h1 : a2 = 1) : (5 - a0) < (5 - a1) := oz372 h0 h1
theorem oh65 {a0 a1 a2 : Int} (h0 : a0 < a1) (h1 : a1 = (a2 - 1)) (h2 : a2 ≤ 5) : (1 : Int) ≤ (5 - a0) := ob65 h0 h1 h2
theorem oh66 {a0 : Int} (h0 : a0 = 0) : (0 : Int) ≤ a0 := oz46 h0
theorem oh67 {a0 a1 : Int} (h0 : (0 : Int) ≤ a0) (h1 : a1 = 0) : a1 ≤ a0 := ob67 h0 h1
theorem oh68 {a0 a1 a2 a3 : Int} (h0 : a0 = a1 - a2) (h1 : a3 = a0) (h2 : a2 = 1) : a3 = (a1 - 1) := oz374 h0 h1 h2
theorem oh69 {a0 a1 a2 a3 a4 : Int} (h0 : a0 ≤ a1) (h1 : a1 ≤ a0) (h2 : a0 = (a2 - 1)) (h3 : a3 = a2 - a4) (h4 : a4 = 1) : a1 = a3 := ob69 h0 h1 h2 h3 h4
theorem oh70 {a0 a1 a2 a3 a4 : Int} (h0 : a0 = (a1 - 1)) (h1 : a2 = a0) (h2 : a3 = a2) (h3 : a4 = a3) : a4 = (a1 - 1) := oz375 h0 h1 h2 h3
theorem oh71 {a0 a1 : Int} (h0 : a0 = (a1 - 1)) : a0 = (a1 - 1) := oz376 h0
theorem oh72 {a0 a1 a2 a3 : Int} (h0 : a0 = (a1 - 1)) (h1 : a2 = a0) (h2 : a3 = a2) : a3 = (a1 - 1) := oz378 h0 h1 h2
theorem oh73 {a0 a1 : Int} (h0 : (0 : Int) ≤ a0) (h1 : a1 = 16) : (-2147483648 : Int) ≤ a1 + a0 := oz242 h0 h1
theorem oh74 {a0 a1 : Int} (h0 : a0 ≤ 7) (h1 : a1 = 16) : a1 + a0 ≤ 2147483647 := oz243 h0 h1
theorem oh75 {a0 a1 a2 : Int} (h0 : (0 : Int) ≤ a0) (h1 : a1 = a2 + a0) (h2 : a2 = 16) : (0 : Int) ≤ a1 := oz244 h0 h1 h2
theorem oh76 {a0 a1 a2 : Int} (h0 : a0 ≤ 7) (h1 : a1 = a2 + a0) (h2 : a2 = 16) : a1 < 24 := oz245 h0 h1 h2
theorem oh77 {a0 a1 a2 : Int} (h0 : a0 < a1) (h1 : a1 = a2) : a0 < a2 := od20 h0 h1
theorem oh85 {a0 a1 : Int} (h0 : (0 : Int) ≤ a0) (h1 : a1 = 10) : (-2147483648 : Int) ≤ a1 + a0 := oz251 h0 h1
theorem oh86 {a0 a1 : Int} (h0 : a0 ≤ 7) (h1 : a1 = 10) : a1 + a0 ≤ 2147483647 := oz252 h0 h1
theorem oh87 {a0 a1 a2 : Int} (h0 : (0 : Int) ≤ a0) (h1 : a1 = a2 + a0) (h2 : a2 = 10) : (0 : Int) ≤ a1 := oz253 h0 h1 h2
theorem oh88 {a0 a1 a2 : Int} (h0 : a0 ≤ 7) (h1 : a1 = a2 + a0) (h2 : a2 = 10) : a1 < 31 := oz254 h0 h1 h2
theorem oh93 {a0 : Int} (h0 : a0 = 9) : (0 : Int) ≤ a0 := oz258 h0
theorem oh94 {a0 : Int} (h0 : a0 = 9) : a0 < 31 := oz259 h0
theorem oh103 {a0 a1 a2 : Int} (h0 : a0 ≤ a1) (h1 : a0 = a2) : a2 ≤ a1 := oz1318 h0 h1
theorem oh175 {a0 : Int} (h0 : (0 : Int) ≤ a0) (h1 : a0 ≤ 7) : ((0 : Int) ≤ a0) ∧ (a0 ≤ 7) := oz181 h0 h1
theorem oh177 {a0 a1 : Int} (h0 : a0 ≤ 5) (h1 : a1 = 19) : a1 + a0 ≤ 2147483647 := oz310 h0 h1
theorem oh178 {a0 a1 a2 : Int} (h0 : a0 ≤ 5) (h1 : a1 = a2 + a0) (h2 : a2 = 19) : a1 < 31 := oz312 h0 h1 h2
theorem oh179 {a0 a1 : Int} (h0 : (0 : Int) ≤ a0) (h1 : a0 ≤ 7) : 19 ≤ a1 → a1 ≤ 24 → (0 : Int) ≤ a0 ∧ a0 ≤ 7 := oz314 h0 h1
theorem oh180 {a0 a1 : Int} (h0 : a0 ≤ 5) (h1 : a1 = 25) : a1 + a0 ≤ 2147483647 := oz317 h0 h1
theorem oh181 {a0 a1 a2 : Int} (h0 : a0 ≤ 5) (h1 : a1 = a2 + a0) (h2 : a2 = 25) : a1 < 31 := oz319 h0 h1 h2
theorem oh182 {a0 a1 : Int} (h0 : a0 ≤ 5) (h1 : a1 = 1) : a0 + a1 ≤ 2147483647 := oz323 h0 h1
theorem oh183 {a0 a1 a2 a3 a4 a5 a6 a7 : Int} (h0 : a0 < a1) (h1 : a1 ≤ 5) (h2 : (0 : Int) ≤ a2) (h3 : a3 = a2 + a4) (h4 : a5 = a0) (h5 : a6 = a5) (h6 : a2 = a6) (h7 : a4 = 1) (h8 : a7 = 18) : a7 = 18 → (0 : Int) ≤ a3 ∧ a3 ≤ 5 := oz324 h0 h1 h2 h3 h4 h5 h6 h7 h8
theorem oh184 {a0 a1 a2 a3 : Int} (h0 : (0 : Int) ≤ a0) (h1 : a1 = a2 + a0) (h2 : a2 = 19) (h3 : a3 = 9) : a3 ≠ a1 := oz326 h0 h1 h2 h3
theorem oh185 {a0 a1 a2 a3 : Int} (h0 : (0 : Int) ≤ a0) (h1 : a1 = a2 + a0) (h2 : a2 = 25) (h3 : a3 = 9) : a3 ≠ a1 := oz327 h0 h1 h2 h3
theorem oh186 {a0 a1 : Int} (h0 : a0 = 9) (h1 : a1 = 18) : a0 ≠ a1 := oz328 h0 h1
theorem oh187 {a0 a1 : Int} (h0 : a0 = 9) : a0 = 18 → (0 : Int) ≤ a1 ∧ a1 ≤ 5 := oz329 h0
theorem oh188 {a0 a1 : Int} (h0 : a0 = 9) : 19 ≤ a0 → a0 ≤ 24 → (0 : Int) ≤ a1 ∧ a1 ≤ 7 := oz330 h0
theorem oh189 {a0 a1 a2 a3 a4 a5 : Int} (h0 : a0 ≤ 7) (h1 : (0 : Int) ≤ a1) (h2 : a2 = a3 + a1) (h3 : a4 = a5 + a0) (h4 : a3 = 19) (h5 : a5 = 10) : a4 ≠ a2 := oz331 h0 h1 h2 h3 h4 h5
theorem oh190 {a0 a1 a2 a3 a4 a5 : Int} (h0 : a0 ≤ 7) (h1 : (0 : Int) ≤ a1) (h2 : a2 = a3 + a1) (h3 : a4 = a5 + a0) (h4 : a3 = 25) (h5 : a5 = 10) : a4 ≠ a2 := oz332 h0 h1 h2 h3 h4 h5
theorem oh191 {a0 a1 a2 a3 : Int} (h0 : a0 ≤ 7) (h1 : a1 = a2 + a0) (h2 : a2 = 10) (h3 : a3 = 18) : a1 ≠ a3 := oz333 h0 h1 h2 h3
theorem oh192 {a0 a1 a2 a3 : Int} (h0 : (0 : Int) ≤ a0) (h1 : a1 = a2 + a0) (h2 : a2 = 10) (h3 : a3 = 9) : a1 ≠ a3 := oz334 h0 h1 h2 h3
theorem oh193 {a0 a1 a2 a3 : Int} (h0 : a0 ≤ 7) (h1 : a1 = a2 + a0) (h2 : a2 = 10) : a1 = 18 → (0 : Int) ≤ a3 ∧ a3 ≤ 5 := oz335 h0 h1 h2
theorem oh194 {a0 a1 a2 a3 : Int} (h0 : a0 ≤ 7) (h1 : a1 = a2 + a0) (h2 : a2 = 10) : 19 ≤ a1 → a1 ≤ 24 → (0 : Int) ≤ a3 ∧ a3 ≤ 7 := oz336 h0 h1 h2
theorem oh195 {a0 a1 a2 : Int} (h0 : a0 ≠ a1) (h1 : a1 = 1) : ((a1 = 1) ∧ (¬ ((a0 = 1) ∧ (a2 = 0)))) ∨ ((a1 = 0) ∧ (a0 = 1) ∧ (a2 = 0)) := by omega
theorem oh196 {a0 a1 a2 : Int} (h0 : a0 ≠ a1) (h1 : a1 = 1) : ¬ ((a0 = 1) ∧ (a2 = 0)) := by omega
theorem oh197 {a0 a1 : Int} (h0 : a0 ≤ a1) (h1 : (1 : Int) ≤ a0) : (1 : Int) ≤ a1 := oz379 h0 h1
theorem oh198 {a0 : Int} (h0 : (1 : Int) ≤ a0) : (1 : Int) ≤ a0 := oz526 h0
theorem oh199 {a0 a1 : Int} (h0 : a0 = (a1 - 1)) : a0 = a1 - 1 := by omega
theorem oh200 {a0 a1 : Int} (h0 : a0 = (a1 - 1)) : a0 < a1 := oz380 h0
theorem oh201 {a0 a1 a2 a3 : Int} (h0 : a0 ≠ a1) (h1 : a1 = 0) (h2 : a2 = 1) : ((a2 = 1) ∧ (¬ ((a3 = 1) ∧ (a0 = 0)))) ∨ ((a2 = 0) ∧ (a3 = 1) ∧ (a0 = 0)) := by omega
theorem oh202 {a0 a1 a2 : Int} (h0 : a0 ≠ a1) (h1 : a1 = 0) : ¬ ((a2 = 1) ∧ (a0 = 0)) := by omega
theorem oh203 {a0 a1 a2 a3 : Int} (h0 : a0 = a1) (h1 : a2 = a3) (h2 : a1 = 1) (h3 : a3 = 0) : ((a3 = 1) ∧ (¬ ((a0 = 1) ∧ (a2 = 0)))) ∨ ((a3 = 0) ∧ (a0 = 1) ∧ (a2 = 0)) := by omega
theorem oh204 {a0 a1 a2 a3 : Int} (h0 : a0 = a1) (h1 : a2 = a3) (h2 : a1 = 1) (h3 : a3 = 0) : ¬ (¬ ((a0 = 1) ∧ (a2 = 0))) := by omega
def zw165_116 : kW := ([7464, 7465, 7467], [118, 141], [], [])
def zw165_116_L30 : kW := ([], [118], [], [])
set_option maxRecDepth 100000 in
theorem kf165_116 {i : Nat → Int32} {a : Nat → List Int32} {q : Nat → List Int64} {r : Nat → Nat} (hI : kI i a q) (hr : kr r) (x1 : Int32) (hp0 : ((0 : Int) ≤ x1.toInt) ∧ (x1.toInt ≤ 7)) (hp1 : (1 : Int) ≤ ((a 118).getD (18 : Int32).toNatClampNeg 0).toInt) : km 1 165 [.ref 116, .int x1] (ks i a q r) (kVN zw165_116 i a q r (fun i1 a1 q1 r1 => (((a1 118).getD (18 : Int32).toNatClampNeg 0).toInt = (((a 118).getD (18 : Int32).toNatClampNeg 0).toInt - 1)) ∧ (a1 118, i1 7464, i1 7465, i1 7467, a1 141) = sPay x1 (a 118, i 7464, i 7465, i 7467, a 141))) := by
  have hG := kG_self zw165_116 hI hr
  refine km_ofN (q := (mi_h165, mi_c165)) rfl (by decide) (Nat.le_of_ble_eq_true rfl) ?_
  intro P hP
  have r1 : ((0 : Int) ≤ ((a 118).getD (18 : Int32).toNatClampNeg 0).toInt) ∧ (((a 118).getD (18 : Int32).toNatClampNeg 0).toInt ≤ 5) := kE_n18 (p := 118) hG.I (by decide)
  refine ft_go mi_k165 3 6 [(0, .ref 116), (1, .int x1)] [.int 19, .ref 118] i a q r (by rfl) ?_
  refine ko_iald3 mi_k165.1 (n := 31) (c := 31) (ax := (0, 0, 0, 0, 0)) (mi_k165.2 _ _ (by rfl)) (by rfl) (ksG118 _ _ _ _) (hG.I.2.1 118) rfl (oh0 koh19) (oh1 koh19) ?_
  have r2 : ((0 : Int) ≤ ((a 118).getD (19 : Int32).toNatClampNeg 0).toInt) ∧ (((a 118).getD (19 : Int32).toNatClampNeg 0).toInt ≤ 7) := kE_nwho (p := 118) hG.I (by decide) (j := 19) (by decide) (by decide)
  refine ft_go mi_k165 4 14 [(2, .int ((a 118).getD (19 : Int32).toNatClampNeg 0)), (0, .ref 116), (1, .int x1)] [.int 25, .ref 118] i a q r (by rfl) ?_
  refine ko_iald3 mi_k165.1 (n := 31) (c := 31) (ax := (0, 0, 0, 0, 0)) (mi_k165.2 _ _ (by rfl)) (by rfl) (ksG118 _ _ _ _) (hG.I.2.1 118) rfl (oh2 koh25) (oh3 koh25) ?_
  refine ft_go mi_k165 5 23 [(3, .int ((a 118).getD (25 : Int32).toNatClampNeg 0)), (2, .int ((a 118).getD (19 : Int32).toNatClampNeg 0)), (0, .ref 116), (1, .int x1)] [.int 18, .ref 118, .int 18, .ref 118] i a q r (by rfl) ?_
  refine ko_iald3 mi_k165.1 (n := 31) (c := 31) (ax := (0, 0, 0, 0, 0)) (mi_k165.2 _ _ (by rfl)) (by rfl) (ksG118 _ _ _ _) (hG.I.2.1 118) rfl (oh4 koh18) (oh5 koh18) ?_
  have s3 : (((a 118).getD (18 : Int32).toNatClampNeg 0) - 1).toInt = ((a 118).getD (18 : Int32).toNatClampNeg 0).toInt - (1 : Int32).toInt := kd_sub (oh6 hp1 koh1) (oh7 r1.2 koh1)
  refine ft_go mi_k165 2 26 [(3, .int ((a 118).getD (25 : Int32).toNatClampNeg 0)), (2, .int ((a 118).getD (19 : Int32).toNatClampNeg 0)), (0, .ref 116), (1, .int x1)] [.int (((a 118).getD (18 : Int32).toNatClampNeg 0) - 1), .int 18, .ref 118] i a q r (by rfl) ?_
  refine ko_iast3 mi_k165.1 (n := 31) (c := 31) (ax := (0, 0, 0, 0, 0)) (mi_k165.2 _ _ (by rfl)) (by rfl) (ksG118 _ _ _ _) (ksA118 _ _ _ _) (hG.I.2.1 118) rfl (oh4 koh18) (oh5 koh18) ?_
  intro a4 ea4 fa4
  have hJ4 := kG_a3 hG 118 rfl ea4 fa4 (kE_nset (p := 118) (by decide) (oh4 koh18) (oh8 hp1 r1.2 s3 koh1 koh18) (oh9 koh18))
  refine ft_go mi_k165 2 30 [(4, .int 0), (3, .int ((a 118).getD (25 : Int32).toNatClampNeg 0)), (2, .int ((a 118).getD (19 : Int32).toNatClampNeg 0)), (0, .ref 116), (1, .int x1)] [] i a4 q r (by rfl) ?_
  have lp5 : ∀ (nz : Nat) (i5 : Nat → Int32) (a5 : Nat → List Int32) (q5 : Nat → List Int64) (r5 : Nat → Nat) (l4_5 : Int32), kG zw165_116_L30 i a4 q r i5 a5 q5 r5 → (0 : Int) ≤ l4_5.toInt → l4_5.toInt ≤ ((a5 118).getD (18 : Int32).toNatClampNeg 0).toInt → ((a5 118).getD (18 : Int32).toNatClampNeg 0).toInt = (((a 118).getD (18 : Int32).toNatClampNeg 0).toInt - 1) → a5 118 = sSh l4_5.toInt.toNat (a4 118) → ((5 - l4_5.toInt)).toNat < nz → ko 1 (mi_h165, mi_c165) P (30, [(4, .int l4_5), (3, .int ((a 118).getD (25 : Int32).toNatClampNeg 0)), (2, .int ((a 118).getD (19 : Int32).toNatClampNeg 0)), (0, .ref 116), (1, .int x1)], [], (0, 0), ks i5 a5 q5 r5) := by
    intro nz
    induction nz with
    | zero =>
      intro _ _ _ _ _ _ _ _ _ _ hm
      exact absurd hm (Nat.not_lt_zero _)
    | succ nz ih5 =>
      intro i5 a5 q5 r5 l4_5 hL5 p5_0 p5_1 p5_2 O5_0 hm5
      have r8 : ((0 : Int) ≤ ((a5 118).getD (18 : Int32).toNatClampNeg 0).toInt) ∧ (((a5 118).getD (18 : Int32).toNatClampNeg 0).toInt ≤ 5) := kE_n18 (p := 118) hL5.I (by decide)
      refine ft_go mi_k165 4 38 [(4, .int l4_5), (3, .int ((a 118).getD (25 : Int32).toNatClampNeg 0)), (2, .int ((a 118).getD (19 : Int32).toNatClampNeg 0)), (0, .ref 116), (1, .int x1)] [.int 18, .ref 118, .int l4_5] i5 a5 q5 r5 (by rfl) ?_
      refine ko_iald3 mi_k165.1 (n := 31) (c := 31) (ax := (0, 0, 0, 0, 0)) (mi_k165.2 _ _ (by rfl)) (by rfl) (ksG118 _ _ _ _) (hL5.I.2.1 118) rfl (oh4 koh18) (oh5 koh18) ?_
      refine ft_if mi_k165 (decide (((a5 118).getD (18 : Int32).toNatClampNeg 0) ≤ l4_5)) 88 42 [(4, .int l4_5), (3, .int ((a 118).getD (25 : Int32).toNatClampNeg 0)), (2, .int ((a 118).getD (19 : Int32).toNatClampNeg 0)), (0, .ref 116), (1, .int x1)] [] (by rfl) (fun c => ?_) (fun c => ?_)
      ·
        have c9 : ((a5 118).getD (18 : Int32).toNatClampNeg 0).toInt ≤ l4_5.toInt := kd_le c; clear c
        have hG10 := kG_call hJ4 hL5 (by decide +kernel)
        have qd11 : a5 118 = sDrop (a 118) := sDrop_of O5_0 (ea4) rfl (oh69 c9 p5_1 p5_2 s3 koh1)
        have efi5_7464 : (i5 7464).toInt = (i 7464).toInt := hL5.ti 7464 rfl
        refine ft_go mi_k165 3 94 [(4, .int l4_5), (3, .int ((a 118).getD (25 : Int32).toNatClampNeg 0)), (2, .int ((a 118).getD (19 : Int32).toNatClampNeg 0)), (0, .ref 116), (1, .int x1)] [.int 8, .int (i5 7464)] i5 a5 q5 r5 (by rfl) ?_
        refine ft_if mi_k165 ((i5 7464) != 8) 102 97 [(4, .int l4_5), (3, .int ((a 118).getD (25 : Int32).toNatClampNeg 0)), (2, .int ((a 118).getD (19 : Int32).toNatClampNeg 0)), (0, .ref 116), (1, .int x1)] [] (by rfl) (fun c => ?_) (fun c => ?_)
        ·
          have c12 : (i5 7464).toInt ≠ (8 : Int32).toInt := kd_ne c; clear c
          refine ft_go mi_k165 2 104 [(4, .int l4_5), (3, .int ((a 118).getD (25 : Int32).toNatClampNeg 0)), (2, .int ((a 118).getD (19 : Int32).toNatClampNeg 0)), (0, .ref 116), (1, .int x1)] [.int x1, .int ((a 118).getD (19 : Int32).toNatClampNeg 0)] i5 a5 q5 r5 (by rfl) ?_
          refine ft_if mi_k165 (((a 118).getD (19 : Int32).toNatClampNeg 0) != x1) 108 107 [(4, .int l4_5), (3, .int ((a 118).getD (25 : Int32).toNatClampNeg 0)), (2, .int ((a 118).getD (19 : Int32).toNatClampNeg 0)), (0, .ref 116), (1, .int x1)] [] (by rfl) (fun c => ?_) (fun c => ?_)
          ·
            have c13 : ((a 118).getD (19 : Int32).toNatClampNeg 0).toInt ≠ x1.toInt := kd_ne c; clear c
            refine ft_go mi_k165 4 114 [(4, .int l4_5), (3, .int ((a 118).getD (25 : Int32).toNatClampNeg 0)), (2, .int ((a 118).getD (19 : Int32).toNatClampNeg 0)), (0, .ref 116), (1, .int x1)] [.int ((a 118).getD (19 : Int32).toNatClampNeg 0), .ref 118, .int ((a 118).getD (25 : Int32).toNatClampNeg 0)] i5 a5 q5 r5 (by rfl) ?_
            refine ko_iald3 mi_k165.1 (n := 31) (c := 31) (ax := (0, 0, 0, 0, 0)) (mi_k165.2 _ _ (by rfl)) (by rfl) (ksG118 _ _ _ _) (hG10.I.2.1 118) rfl (oh11 r2.1) (oh12 r2.2) ?_
            have r14 : ((((a 118).getD (19 : Int32).toNatClampNeg 0).toInt = 18 → (0 : Int) ≤ ((a5 118).getD ((a 118).getD (19 : Int32).toNatClampNeg 0).toNatClampNeg 0).toInt ∧ ((a5 118).getD ((a 118).getD (19 : Int32).toNatClampNeg 0).toNatClampNeg 0).toInt ≤ 5)) ∧ ((19 ≤ ((a 118).getD (19 : Int32).toNatClampNeg 0).toInt → ((a 118).getD (19 : Int32).toNatClampNeg 0).toInt ≤ 24 → (0 : Int) ≤ ((a5 118).getD ((a 118).getD (19 : Int32).toNatClampNeg 0).toNatClampNeg 0).toInt ∧ ((a5 118).getD ((a 118).getD (19 : Int32).toNatClampNeg 0).toNatClampNeg 0).toInt ≤ 7)) := kE_ncond (p := 118) hG10.I (by decide) (j := ((a 118).getD (19 : Int32).toNatClampNeg 0)) (oh11 r2.1)
            have m16 : (((bif decide (((a5 118).getD ((a 118).getD (19 : Int32).toNatClampNeg 0).toNatClampNeg 0) < ((a 118).getD (25 : Int32).toNatClampNeg 0)) then ((a5 118).getD ((a 118).getD (19 : Int32).toNatClampNeg 0).toNatClampNeg 0) else ((a 118).getD (25 : Int32).toNatClampNeg 0)).toInt ≤ ((a 118).getD (25 : Int32).toNatClampNeg 0).toInt) ∧ ((bif decide (((a5 118).getD ((a 118).getD (19 : Int32).toNatClampNeg 0).toNatClampNeg 0) < ((a 118).getD (25 : Int32).toNatClampNeg 0)) then ((a5 118).getD ((a 118).getD (19 : Int32).toNatClampNeg 0).toNatClampNeg 0) else ((a 118).getD (25 : Int32).toNatClampNeg 0)).toInt ≤ ((a5 118).getD ((a 118).getD (19 : Int32).toNatClampNeg 0).toNatClampNeg 0).toInt)) ∧ ((bif decide (((a5 118).getD ((a 118).getD (19 : Int32).toNatClampNeg 0).toNatClampNeg 0) < ((a 118).getD (25 : Int32).toNatClampNeg 0)) then ((a5 118).getD ((a 118).getD (19 : Int32).toNatClampNeg 0).toNatClampNeg 0) else ((a 118).getD (25 : Int32).toNatClampNeg 0)).toInt = ((a 118).getD (25 : Int32).toNatClampNeg 0).toInt ∨ (bif decide (((a5 118).getD ((a 118).getD (19 : Int32).toNatClampNeg 0).toNatClampNeg 0) < ((a 118).getD (25 : Int32).toNatClampNeg 0)) then ((a5 118).getD ((a 118).getD (19 : Int32).toNatClampNeg 0).toNatClampNeg 0) else ((a 118).getD (25 : Int32).toNatClampNeg 0)).toInt = ((a5 118).getD ((a 118).getD (19 : Int32).toNatClampNeg 0).toNatClampNeg 0).toInt) := kd_min
            refine ft_go mi_k165 1 118 [(4, .int l4_5), (3, .int ((a 118).getD (25 : Int32).toNatClampNeg 0)), (2, .int ((a 118).getD (19 : Int32).toNatClampNeg 0)), (0, .ref 116), (1, .int x1)] [.int (bif decide (((a5 118).getD ((a 118).getD (19 : Int32).toNatClampNeg 0).toNatClampNeg 0) < ((a 118).getD (25 : Int32).toNatClampNeg 0)) then ((a5 118).getD ((a 118).getD (19 : Int32).toNatClampNeg 0).toNatClampNeg 0) else ((a 118).getD (25 : Int32).toNatClampNeg 0))] i5 a5 q5 r5 (by rfl) ?_
            generalize hm15 : (bif decide (((a5 118).getD ((a 118).getD (19 : Int32).toNatClampNeg 0).toNatClampNeg 0) < ((a 118).getD (25 : Int32).toNatClampNeg 0)) then ((a5 118).getD ((a 118).getD (19 : Int32).toNatClampNeg 0).toNatClampNeg 0) else ((a 118).getD (25 : Int32).toNatClampNeg 0)) = m15 at m16 ⊢
            have qm15 := hm15.symm
            have efi5_7467 : (i5 7467).toInt = (i 7467).toInt := hL5.ti 7467 rfl
            have b17 : ((-2147483648 : Int) ≤ ((a 118).getD (25 : Int32).toNatClampNeg 0).toInt) ∧ (((a 118).getD (25 : Int32).toNatClampNeg 0).toInt ≤ 2147483647) := kd_bd ((a 118).getD (25 : Int32).toNatClampNeg 0)
            have b18 : ((-2147483648 : Int) ≤ m15.toInt) ∧ (m15.toInt ≤ 2147483647) := kd_bd m15
            have b19 : ((-2147483648 : Int) ≤ (i5 7467).toInt) ∧ ((i5 7467).toInt ≤ 2147483647) := kd_bd (i5 7467)
            have b20 : ((-2147483648 : Int) ≤ (((a 118).getD (25 : Int32).toNatClampNeg 0) - m15).toInt) ∧ ((((a 118).getD (25 : Int32).toNatClampNeg 0) - m15).toInt ≤ 2147483647) := kd_bd (((a 118).getD (25 : Int32).toNatClampNeg 0) - m15)
            have hJ21 := kG_i hG10 7467 rfl (v := ((i5 7467) + (((a 118).getD (25 : Int32).toNatClampNeg 0) - m15))) (kd_bd _)
            have efi5_7465 : (i5 7465).toInt = (i 7465).toInt := hL5.ti 7465 rfl
            have b22 : ((-2147483648 : Int) ≤ (i5 7465).toInt) ∧ ((i5 7465).toInt ≤ 2147483647) := kd_bd (i5 7465)
            have hJ23 := kG_i hJ21 7465 rfl (v := ((i5 7465) + m15)) (kd_bd _)
            have s24 : (8 * ((a 118).getD (19 : Int32).toNatClampNeg 0)).toInt = 8 * ((a 118).getD (19 : Int32).toNatClampNeg 0).toInt := kd_cmul 8 koh8 (oh14 r2.1) (oh15 r2.2)
            have s25 : ((8 * ((a 118).getD (19 : Int32).toNatClampNeg 0)) + x1).toInt = (8 * ((a 118).getD (19 : Int32).toNatClampNeg 0)).toInt + x1.toInt := kd_add (oh16 hp0.1 r2.1 s24) (oh17 hp0.2 r2.2 s24)
            refine ft_go mi_k165 23 155 [(4, .int m15), (3, .int ((a 118).getD (25 : Int32).toNatClampNeg 0)), (2, .int ((a 118).getD (19 : Int32).toNatClampNeg 0)), (0, .ref 116), (1, .int x1)] [.int ((8 * ((a 118).getD (19 : Int32).toNatClampNeg 0)) + x1), .ref 141, .int ((8 * ((a 118).getD (19 : Int32).toNatClampNeg 0)) + x1), .ref 141] (ku (ku i5 7467 ((i5 7467) + (((a 118).getD (25 : Int32).toNatClampNeg 0) - m15))) 7465 ((i5 7465) + m15)) a5 q5 r5 (by rfl) ?_
            refine ko_iald3 mi_k165.1 (n := 64) (c := 64) (ax := (0, 0, 0, 0, 0)) (mi_k165.2 _ _ (by rfl)) (by rfl) (ksG141 _ _ _ _) (hJ23.I.2.1 141) rfl (oh18 hp0.1 r2.1 s24 s25) (oh19 hp0.2 r2.2 s24 s25) ?_
            have b26 : ((-2147483648 : Int) ≤ ((a5 141).getD ((8 * ((a 118).getD (19 : Int32).toNatClampNeg 0)) + x1).toNatClampNeg 0).toInt) ∧ (((a5 141).getD ((8 * ((a 118).getD (19 : Int32).toNatClampNeg 0)) + x1).toNatClampNeg 0).toInt ≤ 2147483647) := kd_bd ((a5 141).getD ((8 * ((a 118).getD (19 : Int32).toNatClampNeg 0)) + x1).toNatClampNeg 0)
            refine ft_go mi_k165 2 159 [(4, .int m15), (3, .int ((a 118).getD (25 : Int32).toNatClampNeg 0)), (2, .int ((a 118).getD (19 : Int32).toNatClampNeg 0)), (0, .ref 116), (1, .int x1)] [.int (((a5 141).getD ((8 * ((a 118).getD (19 : Int32).toNatClampNeg 0)) + x1).toNatClampNeg 0) + m15), .int ((8 * ((a 118).getD (19 : Int32).toNatClampNeg 0)) + x1), .ref 141] (ku (ku i5 7467 ((i5 7467) + (((a 118).getD (25 : Int32).toNatClampNeg 0) - m15))) 7465 ((i5 7465) + m15)) a5 q5 r5 (by rfl) ?_
            refine ko_iast3 mi_k165.1 (n := 64) (c := 64) (ax := (0, 0, 0, 0, 0)) (mi_k165.2 _ _ (by rfl)) (by rfl) (ksG141 _ _ _ _) (ksA141 _ _ _ _) (hJ23.I.2.1 141) rfl (oh18 hp0.1 r2.1 s24 s25) (oh19 hp0.2 r2.2 s24 s25) ?_
            intro a27 ea27 fa27
            have hJ27 := kG_a3 hJ23 141 rfl ea27 fa27 (kd_bd _)
            refine ft_go mi_k165 4 166 [(4, .int m15), (3, .int ((a 118).getD (25 : Int32).toNatClampNeg 0)), (2, .int ((a 118).getD (19 : Int32).toNatClampNeg 0)), (0, .ref 116), (1, .int x1)] [.int ((a 118).getD (19 : Int32).toNatClampNeg 0), .ref 118, .int ((a 118).getD (19 : Int32).toNatClampNeg 0), .ref 118] (ku (ku i5 7467 ((i5 7467) + (((a 118).getD (25 : Int32).toNatClampNeg 0) - m15))) 7465 ((i5 7465) + m15)) a27 q5 r5 (by rfl) ?_
            refine ko_iald3 mi_k165.1 (n := 31) (c := 31) (ax := (0, 0, 0, 0, 0)) (mi_k165.2 _ _ (by rfl)) (by rfl) (ksG118 _ _ _ _) (hJ27.I.2.1 118) rfl (oh11 r2.1) (oh12 r2.2) ?_
            have r28 : ((((a 118).getD (19 : Int32).toNatClampNeg 0).toInt = 18 → (0 : Int) ≤ ((a27 118).getD ((a 118).getD (19 : Int32).toNatClampNeg 0).toNatClampNeg 0).toInt ∧ ((a27 118).getD ((a 118).getD (19 : Int32).toNatClampNeg 0).toNatClampNeg 0).toInt ≤ 5)) ∧ ((19 ≤ ((a 118).getD (19 : Int32).toNatClampNeg 0).toInt → ((a 118).getD (19 : Int32).toNatClampNeg 0).toInt ≤ 24 → (0 : Int) ≤ ((a27 118).getD ((a 118).getD (19 : Int32).toNatClampNeg 0).toNatClampNeg 0).toInt ∧ ((a27 118).getD ((a 118).getD (19 : Int32).toNatClampNeg 0).toNatClampNeg 0).toInt ≤ 7)) := kE_ncond (p := 118) hJ27.I (by decide) (j := ((a 118).getD (19 : Int32).toNatClampNeg 0)) (oh11 r2.1)
            have u29 : ((a27 118).getD ((a 118).getD (19 : Int32).toNatClampNeg 0).toNatClampNeg 0).toInt = ((a5 118).getD ((a 118).getD (19 : Int32).toNatClampNeg 0).toNatClampNeg 0).toInt := congrArg (fun z : List Int32 => (z.getD ((a 118).getD (19 : Int32).toNatClampNeg 0).toNatClampNeg 0).toInt) (fa27 118 (by decide))
            have b30 : ((-2147483648 : Int) ≤ ((a27 118).getD ((a 118).getD (19 : Int32).toNatClampNeg 0).toNatClampNeg 0).toInt) ∧ (((a27 118).getD ((a 118).getD (19 : Int32).toNatClampNeg 0).toNatClampNeg 0).toInt ≤ 2147483647) := kd_bd ((a27 118).getD ((a 118).getD (19 : Int32).toNatClampNeg 0).toNatClampNeg 0)
            refine ft_go mi_k165 2 170 [(4, .int m15), (3, .int ((a 118).getD (25 : Int32).toNatClampNeg 0)), (2, .int ((a 118).getD (19 : Int32).toNatClampNeg 0)), (0, .ref 116), (1, .int x1)] [.int (((a27 118).getD ((a 118).getD (19 : Int32).toNatClampNeg 0).toNatClampNeg 0) - m15), .int ((a 118).getD (19 : Int32).toNatClampNeg 0), .ref 118] (ku (ku i5 7467 ((i5 7467) + (((a 118).getD (25 : Int32).toNatClampNeg 0) - m15))) 7465 ((i5 7465) + m15)) a27 q5 r5 (by rfl) ?_
            refine ko_iast3 mi_k165.1 (n := 31) (c := 31) (ax := (0, 0, 0, 0, 0)) (mi_k165.2 _ _ (by rfl)) (by rfl) (ksG118 _ _ _ _) (ksA118 _ _ _ _) (hJ27.I.2.1 118) rfl (oh11 r2.1) (oh12 r2.2) ?_
            intro a31 ea31 fa31
            have hJ31 := kG_a3 hJ27 118 rfl ea31 fa31 (kE_nset (p := 118) (by decide) (oh11 r2.1) (oh20 r2.2) (oh21 r2.2))
            refine ft_go mi_k165 7 184 [(4, .int m15), (3, .int ((a 118).getD (25 : Int32).toNatClampNeg 0)), (2, .int ((a 118).getD (19 : Int32).toNatClampNeg 0)), (0, .ref 116), (1, .int x1)] [.int x1, .ref 118, .int 999, .int x1, .ref 118] (ku (ku i5 7467 ((i5 7467) + (((a 118).getD (25 : Int32).toNatClampNeg 0) - m15))) 7465 ((i5 7465) + m15)) a31 q5 r5 (by rfl) ?_
            refine ko_iald3 mi_k165.1 (n := 31) (c := 31) (ax := (0, 0, 0, 0, 0)) (mi_k165.2 _ _ (by rfl)) (by rfl) (ksG118 _ _ _ _) (hJ31.I.2.1 118) rfl (oh11 hp0.1) (oh12 hp0.2) ?_
            have r32 : ((x1.toInt = 18 → (0 : Int) ≤ ((a31 118).getD x1.toNatClampNeg 0).toInt ∧ ((a31 118).getD x1.toNatClampNeg 0).toInt ≤ 5)) ∧ ((19 ≤ x1.toInt → x1.toInt ≤ 24 → (0 : Int) ≤ ((a31 118).getD x1.toNatClampNeg 0).toInt ∧ ((a31 118).getD x1.toNatClampNeg 0).toInt ≤ 7)) := kE_ncond (p := 118) hJ31.I (by decide) (j := x1) (oh11 hp0.1)
            have u33 : ((a27 118).getD x1.toNatClampNeg 0).toInt = ((a5 118).getD x1.toNatClampNeg 0).toInt := congrArg (fun z : List Int32 => (z.getD x1.toNatClampNeg 0).toInt) (fa27 118 (by decide))
            have u34 : ((a31 118).getD x1.toNatClampNeg 0).toInt = ((a27 118).getD x1.toNatClampNeg 0).toInt := congrArg Int32.toInt ((congrArg (fun z : List Int32 => z.getD x1.toNatClampNeg 0) ea31).trans (kgs_ne (oh11 hp0.1) (oh11 r2.1) (oh22 c13)))
            have b35 : ((-2147483648 : Int) ≤ ((a31 118).getD x1.toNatClampNeg 0).toInt) ∧ (((a31 118).getD x1.toNatClampNeg 0).toInt ≤ 2147483647) := kd_bd ((a31 118).getD x1.toNatClampNeg 0)
            refine ft_go mi_k165 2 188 [(4, .int m15), (3, .int ((a 118).getD (25 : Int32).toNatClampNeg 0)), (2, .int ((a 118).getD (19 : Int32).toNatClampNeg 0)), (0, .ref 116), (1, .int x1)] [.int (((a31 118).getD x1.toNatClampNeg 0) + m15), .int 999, .int x1, .ref 118] (ku (ku i5 7467 ((i5 7467) + (((a 118).getD (25 : Int32).toNatClampNeg 0) - m15))) 7465 ((i5 7465) + m15)) a31 q5 r5 (by rfl) ?_
            have m37 : (((bif decide ((((a31 118).getD x1.toNatClampNeg 0) + m15) < 999) then (((a31 118).getD x1.toNatClampNeg 0) + m15) else 999).toInt ≤ (999 : Int32).toInt) ∧ ((bif decide ((((a31 118).getD x1.toNatClampNeg 0) + m15) < 999) then (((a31 118).getD x1.toNatClampNeg 0) + m15) else 999).toInt ≤ (((a31 118).getD x1.toNatClampNeg 0) + m15).toInt)) ∧ ((bif decide ((((a31 118).getD x1.toNatClampNeg 0) + m15) < 999) then (((a31 118).getD x1.toNatClampNeg 0) + m15) else 999).toInt = (999 : Int32).toInt ∨ (bif decide ((((a31 118).getD x1.toNatClampNeg 0) + m15) < 999) then (((a31 118).getD x1.toNatClampNeg 0) + m15) else 999).toInt = (((a31 118).getD x1.toNatClampNeg 0) + m15).toInt) := kd_min
            refine ft_go mi_k165 1 191 [(4, .int m15), (3, .int ((a 118).getD (25 : Int32).toNatClampNeg 0)), (2, .int ((a 118).getD (19 : Int32).toNatClampNeg 0)), (0, .ref 116), (1, .int x1)] [.int (bif decide ((((a31 118).getD x1.toNatClampNeg 0) + m15) < 999) then (((a31 118).getD x1.toNatClampNeg 0) + m15) else 999), .int x1, .ref 118] (ku (ku i5 7467 ((i5 7467) + (((a 118).getD (25 : Int32).toNatClampNeg 0) - m15))) 7465 ((i5 7465) + m15)) a31 q5 r5 (by rfl) ?_
            generalize hm36 : (bif decide ((((a31 118).getD x1.toNatClampNeg 0) + m15) < 999) then (((a31 118).getD x1.toNatClampNeg 0) + m15) else 999) = m36 at m37 ⊢
            have qm36 := hm36.symm
            refine ko_iast3 mi_k165.1 (n := 31) (c := 31) (ax := (0, 0, 0, 0, 0)) (mi_k165.2 _ _ (by rfl)) (by rfl) (ksG118 _ _ _ _) (ksA118 _ _ _ _) (hJ31.I.2.1 118) rfl (oh11 hp0.1) (oh12 hp0.2) ?_
            intro a38 ea38 fa38
            have hJ38 := kG_a3 hJ31 118 rfl ea38 fa38 (kE_nset (p := 118) (by decide) (oh11 hp0.1) (oh20 hp0.2) (oh21 hp0.2))
            have r39 : ((0 : Int) ≤ ((a38 118).getD (18 : Int32).toNatClampNeg 0).toInt) ∧ (((a38 118).getD (18 : Int32).toNatClampNeg 0).toInt ≤ 5) := kE_n18 (p := 118) hJ38.I (by decide)
            have u40 : ((a27 118).getD (18 : Int32).toNatClampNeg 0).toInt = ((a5 118).getD (18 : Int32).toNatClampNeg 0).toInt := congrArg (fun z : List Int32 => (z.getD (18 : Int32).toNatClampNeg 0).toInt) (fa27 118 (by decide))
            have u41 : ((a31 118).getD (18 : Int32).toNatClampNeg 0).toInt = ((a27 118).getD (18 : Int32).toNatClampNeg 0).toInt := congrArg Int32.toInt ((congrArg (fun z : List Int32 => z.getD (18 : Int32).toNatClampNeg 0) ea31).trans (kgs_ne (oh4 koh18) (oh11 r2.1) (oh23 r2.2 koh18)))
            have u42 : ((a38 118).getD (18 : Int32).toNatClampNeg 0).toInt = ((a31 118).getD (18 : Int32).toNatClampNeg 0).toInt := congrArg Int32.toInt ((congrArg (fun z : List Int32 => z.getD (18 : Int32).toNatClampNeg 0) ea38).trans (kgs_ne (oh4 koh18) (oh11 hp0.1) (oh23 hp0.2 koh18)))
            exact ft_ret mi_k165 (by rfl) (hP  _ _ _ _ hJ38 ⟨(oh70 p5_2 u40 u41 u42), ((kT5 (show a38 118 = sGive x1 (a 118) from (by first | rfl | (simp only [ea38, ea31, qm36, qm15, qd11, fa27 118 (by decide), sMn, sMx, sGive, sCoin]; done) | (simp only [ea38, ea31, qm36, qm15, qd11, fa27 118 (by decide), sMn, sMx, sGive, sCoin]; rfl))) ((show i5 7464 = i 7464 from (by first | rfl | (simp only [(hL5.fi 7464 rfl : i5 7464 = i 7464), sMn, sMx, sGive, sCoin]; done) | (simp only [(hL5.fi 7464 rfl : i5 7464 = i 7464), sMn, sMx, sGive, sCoin]; rfl))).trans (cY_neg (y := i 7464) (d := (a 118).getD 19 0) (oh25 c12 efi5_7464 koh8))) (show ((i5 7465) + m15) = i 7465 + sCoin (a 118) from (by first | rfl | (simp only [(hL5.fi 7465 rfl : i5 7465 = i 7465), qm15, qd11, sMn, sMx, sGive, sCoin]; done) | (simp only [(hL5.fi 7465 rfl : i5 7465 = i 7465), qm15, qd11, sMn, sMx, sGive, sCoin]; rfl))) (show ((i5 7467) + (((a 118).getD (25 : Int32).toNatClampNeg 0) - m15)) = i 7467 + ((a 118).getD (25 : Int32).toNatClampNeg 0 - sCoin (a 118)) from (by first | rfl | (simp only [(hL5.fi 7467 rfl : i5 7467 = i 7467), qm15, qd11, sMn, sMx, sGive, sCoin]; done) | (simp only [(hL5.fi 7467 rfl : i5 7467 = i 7467), qm15, qd11, sMn, sMx, sGive, sCoin]; rfl))) (show a38 141 = (a 141).set ((8 * ((a 118).getD (19 : Int32).toNatClampNeg 0)) + x1).toNatClampNeg ((a 141).getD ((8 * ((a 118).getD (19 : Int32).toNatClampNeg 0)) + x1).toNatClampNeg 0 + sCoin (a 118)) from (by first | rfl | (simp only [fa38 141 (by decide), fa31 141 (by decide), ea27, hL5.fa 141 rfl, qm15, qd11, fa4 141 (by decide), sMn, sMx, sGive, sCoin]; done) | (simp only [fa38 141 (by decide), fa31 141 (by decide), ea27, hL5.fa 141 rfl, qm15, qd11, fa4 141 (by decide), sMn, sMx, sGive, sCoin]; rfl)))).trans (show _ = sPay x1 (a 118, i 7464, i 7465, i 7467, a 141) from (if_neg (oh26 c13)).symm))⟩)
          ·
            have c43 : ((a 118).getD (19 : Int32).toNatClampNeg 0).toInt = x1.toInt := kd_neF c; clear c
            exact ft_ret mi_k165 (by rfl) (hP  _ _ _ _ hG10 ⟨(oh71 p5_2), ((kT5 (show a5 118 = sDrop (a 118) from (by first | rfl | (simp only [qd11, sMn, sMx, sGive, sCoin]; done) | (simp only [qd11, sMn, sMx, sGive, sCoin]; rfl))) ((show i5 7464 = i 7464 from (by first | rfl | (simp only [(hL5.fi 7464 rfl : i5 7464 = i 7464), sMn, sMx, sGive, sCoin]; done) | (simp only [(hL5.fi 7464 rfl : i5 7464 = i 7464), sMn, sMx, sGive, sCoin]; rfl))).trans (cY_neg (y := i 7464) (d := (a 118).getD 19 0) (oh25 c12 efi5_7464 koh8))) (show i5 7465 = i 7465 from (by first | rfl | (simp only [(hL5.fi 7465 rfl : i5 7465 = i 7465), sMn, sMx, sGive, sCoin]; done) | (simp only [(hL5.fi 7465 rfl : i5 7465 = i 7465), sMn, sMx, sGive, sCoin]; rfl))) (show i5 7467 = i 7467 from (by first | rfl | (simp only [(hL5.fi 7467 rfl : i5 7467 = i 7467), sMn, sMx, sGive, sCoin]; done) | (simp only [(hL5.fi 7467 rfl : i5 7467 = i 7467), sMn, sMx, sGive, sCoin]; rfl))) (show a5 141 = a 141 from (by first | rfl | (simp only [hL5.fa 141 rfl, fa4 141 (by decide), sMn, sMx, sGive, sCoin]; done) | (simp only [hL5.fa 141 rfl, fa4 141 (by decide), sMn, sMx, sGive, sCoin]; rfl)))).trans (show _ = sPay x1 (a 118, i 7464, i 7465, i 7467, a 141) from (if_pos (oh28 c43)).symm))⟩)
        ·
          have c44 : (i5 7464).toInt = (8 : Int32).toInt := kd_neF c; clear c
          have hJ45 := kG_i hG10 7464 rfl (v := ((a 118).getD (19 : Int32).toNatClampNeg 0)) (kd_bd _)
          refine ft_go mi_k165 5 104 [(4, .int l4_5), (3, .int ((a 118).getD (25 : Int32).toNatClampNeg 0)), (2, .int ((a 118).getD (19 : Int32).toNatClampNeg 0)), (0, .ref 116), (1, .int x1)] [.int x1, .int ((a 118).getD (19 : Int32).toNatClampNeg 0)] (ku i5 7464 ((a 118).getD (19 : Int32).toNatClampNeg 0)) a5 q5 r5 (by rfl) ?_
          refine ft_if mi_k165 (((a 118).getD (19 : Int32).toNatClampNeg 0) != x1) 108 107 [(4, .int l4_5), (3, .int ((a 118).getD (25 : Int32).toNatClampNeg 0)), (2, .int ((a 118).getD (19 : Int32).toNatClampNeg 0)), (0, .ref 116), (1, .int x1)] [] (by rfl) (fun c => ?_) (fun c => ?_)
          ·
            have c46 : ((a 118).getD (19 : Int32).toNatClampNeg 0).toInt ≠ x1.toInt := kd_ne c; clear c
            refine ft_go mi_k165 4 114 [(4, .int l4_5), (3, .int ((a 118).getD (25 : Int32).toNatClampNeg 0)), (2, .int ((a 118).getD (19 : Int32).toNatClampNeg 0)), (0, .ref 116), (1, .int x1)] [.int ((a 118).getD (19 : Int32).toNatClampNeg 0), .ref 118, .int ((a 118).getD (25 : Int32).toNatClampNeg 0)] (ku i5 7464 ((a 118).getD (19 : Int32).toNatClampNeg 0)) a5 q5 r5 (by rfl) ?_
            refine ko_iald3 mi_k165.1 (n := 31) (c := 31) (ax := (0, 0, 0, 0, 0)) (mi_k165.2 _ _ (by rfl)) (by rfl) (ksG118 _ _ _ _) (hJ45.I.2.1 118) rfl (oh11 r2.1) (oh12 r2.2) ?_
            have r47 : ((((a 118).getD (19 : Int32).toNatClampNeg 0).toInt = 18 → (0 : Int) ≤ ((a5 118).getD ((a 118).getD (19 : Int32).toNatClampNeg 0).toNatClampNeg 0).toInt ∧ ((a5 118).getD ((a 118).getD (19 : Int32).toNatClampNeg 0).toNatClampNeg 0).toInt ≤ 5)) ∧ ((19 ≤ ((a 118).getD (19 : Int32).toNatClampNeg 0).toInt → ((a 118).getD (19 : Int32).toNatClampNeg 0).toInt ≤ 24 → (0 : Int) ≤ ((a5 118).getD ((a 118).getD (19 : Int32).toNatClampNeg 0).toNatClampNeg 0).toInt ∧ ((a5 118).getD ((a 118).getD (19 : Int32).toNatClampNeg 0).toNatClampNeg 0).toInt ≤ 7)) := kE_ncond (p := 118) hJ45.I (by decide) (j := ((a 118).getD (19 : Int32).toNatClampNeg 0)) (oh11 r2.1)
            have m49 : (((bif decide (((a5 118).getD ((a 118).getD (19 : Int32).toNatClampNeg 0).toNatClampNeg 0) < ((a 118).getD (25 : Int32).toNatClampNeg 0)) then ((a5 118).getD ((a 118).getD (19 : Int32).toNatClampNeg 0).toNatClampNeg 0) else ((a 118).getD (25 : Int32).toNatClampNeg 0)).toInt ≤ ((a 118).getD (25 : Int32).toNatClampNeg 0).toInt) ∧ ((bif decide (((a5 118).getD ((a 118).getD (19 : Int32).toNatClampNeg 0).toNatClampNeg 0) < ((a 118).getD (25 : Int32).toNatClampNeg 0)) then ((a5 118).getD ((a 118).getD (19 : Int32).toNatClampNeg 0).toNatClampNeg 0) else ((a 118).getD (25 : Int32).toNatClampNeg 0)).toInt ≤ ((a5 118).getD ((a 118).getD (19 : Int32).toNatClampNeg 0).toNatClampNeg 0).toInt)) ∧ ((bif decide (((a5 118).getD ((a 118).getD (19 : Int32).toNatClampNeg 0).toNatClampNeg 0) < ((a 118).getD (25 : Int32).toNatClampNeg 0)) then ((a5 118).getD ((a 118).getD (19 : Int32).toNatClampNeg 0).toNatClampNeg 0) else ((a 118).getD (25 : Int32).toNatClampNeg 0)).toInt = ((a 118).getD (25 : Int32).toNatClampNeg 0).toInt ∨ (bif decide (((a5 118).getD ((a 118).getD (19 : Int32).toNatClampNeg 0).toNatClampNeg 0) < ((a 118).getD (25 : Int32).toNatClampNeg 0)) then ((a5 118).getD ((a 118).getD (19 : Int32).toNatClampNeg 0).toNatClampNeg 0) else ((a 118).getD (25 : Int32).toNatClampNeg 0)).toInt = ((a5 118).getD ((a 118).getD (19 : Int32).toNatClampNeg 0).toNatClampNeg 0).toInt) := kd_min
            refine ft_go mi_k165 1 118 [(4, .int l4_5), (3, .int ((a 118).getD (25 : Int32).toNatClampNeg 0)), (2, .int ((a 118).getD (19 : Int32).toNatClampNeg 0)), (0, .ref 116), (1, .int x1)] [.int (bif decide (((a5 118).getD ((a 118).getD (19 : Int32).toNatClampNeg 0).toNatClampNeg 0) < ((a 118).getD (25 : Int32).toNatClampNeg 0)) then ((a5 118).getD ((a 118).getD (19 : Int32).toNatClampNeg 0).toNatClampNeg 0) else ((a 118).getD (25 : Int32).toNatClampNeg 0))] (ku i5 7464 ((a 118).getD (19 : Int32).toNatClampNeg 0)) a5 q5 r5 (by rfl) ?_
            generalize hm48 : (bif decide (((a5 118).getD ((a 118).getD (19 : Int32).toNatClampNeg 0).toNatClampNeg 0) < ((a 118).getD (25 : Int32).toNatClampNeg 0)) then ((a5 118).getD ((a 118).getD (19 : Int32).toNatClampNeg 0).toNatClampNeg 0) else ((a 118).getD (25 : Int32).toNatClampNeg 0)) = m48 at m49 ⊢
            have qm48 := hm48.symm
            have efi5_7467 : (i5 7467).toInt = (i 7467).toInt := hL5.ti 7467 rfl
            have b50 : ((-2147483648 : Int) ≤ ((a 118).getD (25 : Int32).toNatClampNeg 0).toInt) ∧ (((a 118).getD (25 : Int32).toNatClampNeg 0).toInt ≤ 2147483647) := kd_bd ((a 118).getD (25 : Int32).toNatClampNeg 0)
            have b51 : ((-2147483648 : Int) ≤ m48.toInt) ∧ (m48.toInt ≤ 2147483647) := kd_bd m48
            have b52 : ((-2147483648 : Int) ≤ (i5 7467).toInt) ∧ ((i5 7467).toInt ≤ 2147483647) := kd_bd (i5 7467)
            have b53 : ((-2147483648 : Int) ≤ (((a 118).getD (25 : Int32).toNatClampNeg 0) - m48).toInt) ∧ ((((a 118).getD (25 : Int32).toNatClampNeg 0) - m48).toInt ≤ 2147483647) := kd_bd (((a 118).getD (25 : Int32).toNatClampNeg 0) - m48)
            have hJ54 := kG_i hJ45 7467 rfl (v := ((i5 7467) + (((a 118).getD (25 : Int32).toNatClampNeg 0) - m48))) (kd_bd _)
            have efi5_7465 : (i5 7465).toInt = (i 7465).toInt := hL5.ti 7465 rfl
            have b55 : ((-2147483648 : Int) ≤ (i5 7465).toInt) ∧ ((i5 7465).toInt ≤ 2147483647) := kd_bd (i5 7465)
            have hJ56 := kG_i hJ54 7465 rfl (v := ((i5 7465) + m48)) (kd_bd _)
            have s57 : (8 * ((a 118).getD (19 : Int32).toNatClampNeg 0)).toInt = 8 * ((a 118).getD (19 : Int32).toNatClampNeg 0).toInt := kd_cmul 8 koh8 (oh14 r2.1) (oh15 r2.2)
            have s58 : ((8 * ((a 118).getD (19 : Int32).toNatClampNeg 0)) + x1).toInt = (8 * ((a 118).getD (19 : Int32).toNatClampNeg 0)).toInt + x1.toInt := kd_add (oh16 hp0.1 r2.1 s57) (oh17 hp0.2 r2.2 s57)
            refine ft_go mi_k165 23 155 [(4, .int m48), (3, .int ((a 118).getD (25 : Int32).toNatClampNeg 0)), (2, .int ((a 118).getD (19 : Int32).toNatClampNeg 0)), (0, .ref 116), (1, .int x1)] [.int ((8 * ((a 118).getD (19 : Int32).toNatClampNeg 0)) + x1), .ref 141, .int ((8 * ((a 118).getD (19 : Int32).toNatClampNeg 0)) + x1), .ref 141] (ku (ku (ku i5 7464 ((a 118).getD (19 : Int32).toNatClampNeg 0)) 7467 ((i5 7467) + (((a 118).getD (25 : Int32).toNatClampNeg 0) - m48))) 7465 ((i5 7465) + m48)) a5 q5 r5 (by rfl) ?_
            refine ko_iald3 mi_k165.1 (n := 64) (c := 64) (ax := (0, 0, 0, 0, 0)) (mi_k165.2 _ _ (by rfl)) (by rfl) (ksG141 _ _ _ _) (hJ56.I.2.1 141) rfl (oh18 hp0.1 r2.1 s57 s58) (oh19 hp0.2 r2.2 s57 s58) ?_
            have b59 : ((-2147483648 : Int) ≤ ((a5 141).getD ((8 * ((a 118).getD (19 : Int32).toNatClampNeg 0)) + x1).toNatClampNeg 0).toInt) ∧ (((a5 141).getD ((8 * ((a 118).getD (19 : Int32).toNatClampNeg 0)) + x1).toNatClampNeg 0).toInt ≤ 2147483647) := kd_bd ((a5 141).getD ((8 * ((a 118).getD (19 : Int32).toNatClampNeg 0)) + x1).toNatClampNeg 0)
            refine ft_go mi_k165 2 159 [(4, .int m48), (3, .int ((a 118).getD (25 : Int32).toNatClampNeg 0)), (2, .int ((a 118).getD (19 : Int32).toNatClampNeg 0)), (0, .ref 116), (1, .int x1)] [.int (((a5 141).getD ((8 * ((a 118).getD (19 : Int32).toNatClampNeg 0)) + x1).toNatClampNeg 0) + m48), .int ((8 * ((a 118).getD (19 : Int32).toNatClampNeg 0)) + x1), .ref 141] (ku (ku (ku i5 7464 ((a 118).getD (19 : Int32).toNatClampNeg 0)) 7467 ((i5 7467) + (((a 118).getD (25 : Int32).toNatClampNeg 0) - m48))) 7465 ((i5 7465) + m48)) a5 q5 r5 (by rfl) ?_
            refine ko_iast3 mi_k165.1 (n := 64) (c := 64) (ax := (0, 0, 0, 0, 0)) (mi_k165.2 _ _ (by rfl)) (by rfl) (ksG141 _ _ _ _) (ksA141 _ _ _ _) (hJ56.I.2.1 141) rfl (oh18 hp0.1 r2.1 s57 s58) (oh19 hp0.2 r2.2 s57 s58) ?_
            intro a60 ea60 fa60
            have hJ60 := kG_a3 hJ56 141 rfl ea60 fa60 (kd_bd _)
            refine ft_go mi_k165 4 166 [(4, .int m48), (3, .int ((a 118).getD (25 : Int32).toNatClampNeg 0)), (2, .int ((a 118).getD (19 : Int32).toNatClampNeg 0)), (0, .ref 116), (1, .int x1)] [.int ((a 118).getD (19 : Int32).toNatClampNeg 0), .ref 118, .int ((a 118).getD (19 : Int32).toNatClampNeg 0), .ref 118] (ku (ku (ku i5 7464 ((a 118).getD (19 : Int32).toNatClampNeg 0)) 7467 ((i5 7467) + (((a 118).getD (25 : Int32).toNatClampNeg 0) - m48))) 7465 ((i5 7465) + m48)) a60 q5 r5 (by rfl) ?_
            refine ko_iald3 mi_k165.1 (n := 31) (c := 31) (ax := (0, 0, 0, 0, 0)) (mi_k165.2 _ _ (by rfl)) (by rfl) (ksG118 _ _ _ _) (hJ60.I.2.1 118) rfl (oh11 r2.1) (oh12 r2.2) ?_
            have r61 : ((((a 118).getD (19 : Int32).toNatClampNeg 0).toInt = 18 → (0 : Int) ≤ ((a60 118).getD ((a 118).getD (19 : Int32).toNatClampNeg 0).toNatClampNeg 0).toInt ∧ ((a60 118).getD ((a 118).getD (19 : Int32).toNatClampNeg 0).toNatClampNeg 0).toInt ≤ 5)) ∧ ((19 ≤ ((a 118).getD (19 : Int32).toNatClampNeg 0).toInt → ((a 118).getD (19 : Int32).toNatClampNeg 0).toInt ≤ 24 → (0 : Int) ≤ ((a60 118).getD ((a 118).getD (19 : Int32).toNatClampNeg 0).toNatClampNeg 0).toInt ∧ ((a60 118).getD ((a 118).getD (19 : Int32).toNatClampNeg 0).toNatClampNeg 0).toInt ≤ 7)) := kE_ncond (p := 118) hJ60.I (by decide) (j := ((a 118).getD (19 : Int32).toNatClampNeg 0)) (oh11 r2.1)
            have u62 : ((a60 118).getD ((a 118).getD (19 : Int32).toNatClampNeg 0).toNatClampNeg 0).toInt = ((a5 118).getD ((a 118).getD (19 : Int32).toNatClampNeg 0).toNatClampNeg 0).toInt := congrArg (fun z : List Int32 => (z.getD ((a 118).getD (19 : Int32).toNatClampNeg 0).toNatClampNeg 0).toInt) (fa60 118 (by decide))
            have b63 : ((-2147483648 : Int) ≤ ((a60 118).getD ((a 118).getD (19 : Int32).toNatClampNeg 0).toNatClampNeg 0).toInt) ∧ (((a60 118).getD ((a 118).getD (19 : Int32).toNatClampNeg 0).toNatClampNeg 0).toInt ≤ 2147483647) := kd_bd ((a60 118).getD ((a 118).getD (19 : Int32).toNatClampNeg 0).toNatClampNeg 0)
            refine ft_go mi_k165 2 170 [(4, .int m48), (3, .int ((a 118).getD (25 : Int32).toNatClampNeg 0)), (2, .int ((a 118).getD (19 : Int32).toNatClampNeg 0)), (0, .ref 116), (1, .int x1)] [.int (((a60 118).getD ((a 118).getD (19 : Int32).toNatClampNeg 0).toNatClampNeg 0) - m48), .int ((a 118).getD (19 : Int32).toNatClampNeg 0), .ref 118] (ku (ku (ku i5 7464 ((a 118).getD (19 : Int32).toNatClampNeg 0)) 7467 ((i5 7467) + (((a 118).getD (25 : Int32).toNatClampNeg 0) - m48))) 7465 ((i5 7465) + m48)) a60 q5 r5 (by rfl) ?_
            refine ko_iast3 mi_k165.1 (n := 31) (c := 31) (ax := (0, 0, 0, 0, 0)) (mi_k165.2 _ _ (by rfl)) (by rfl) (ksG118 _ _ _ _) (ksA118 _ _ _ _) (hJ60.I.2.1 118) rfl (oh11 r2.1) (oh12 r2.2) ?_
            intro a64 ea64 fa64
            have hJ64 := kG_a3 hJ60 118 rfl ea64 fa64 (kE_nset (p := 118) (by decide) (oh11 r2.1) (oh20 r2.2) (oh21 r2.2))
            refine ft_go mi_k165 7 184 [(4, .int m48), (3, .int ((a 118).getD (25 : Int32).toNatClampNeg 0)), (2, .int ((a 118).getD (19 : Int32).toNatClampNeg 0)), (0, .ref 116), (1, .int x1)] [.int x1, .ref 118, .int 999, .int x1, .ref 118] (ku (ku (ku i5 7464 ((a 118).getD (19 : Int32).toNatClampNeg 0)) 7467 ((i5 7467) + (((a 118).getD (25 : Int32).toNatClampNeg 0) - m48))) 7465 ((i5 7465) + m48)) a64 q5 r5 (by rfl) ?_
            refine ko_iald3 mi_k165.1 (n := 31) (c := 31) (ax := (0, 0, 0, 0, 0)) (mi_k165.2 _ _ (by rfl)) (by rfl) (ksG118 _ _ _ _) (hJ64.I.2.1 118) rfl (oh11 hp0.1) (oh12 hp0.2) ?_
            have r65 : ((x1.toInt = 18 → (0 : Int) ≤ ((a64 118).getD x1.toNatClampNeg 0).toInt ∧ ((a64 118).getD x1.toNatClampNeg 0).toInt ≤ 5)) ∧ ((19 ≤ x1.toInt → x1.toInt ≤ 24 → (0 : Int) ≤ ((a64 118).getD x1.toNatClampNeg 0).toInt ∧ ((a64 118).getD x1.toNatClampNeg 0).toInt ≤ 7)) := kE_ncond (p := 118) hJ64.I (by decide) (j := x1) (oh11 hp0.1)
            have u66 : ((a60 118).getD x1.toNatClampNeg 0).toInt = ((a5 118).getD x1.toNatClampNeg 0).toInt := congrArg (fun z : List Int32 => (z.getD x1.toNatClampNeg 0).toInt) (fa60 118 (by decide))
            have u67 : ((a64 118).getD x1.toNatClampNeg 0).toInt = ((a60 118).getD x1.toNatClampNeg 0).toInt := congrArg Int32.toInt ((congrArg (fun z : List Int32 => z.getD x1.toNatClampNeg 0) ea64).trans (kgs_ne (oh11 hp0.1) (oh11 r2.1) (oh22 c46)))
            have b68 : ((-2147483648 : Int) ≤ ((a64 118).getD x1.toNatClampNeg 0).toInt) ∧ (((a64 118).getD x1.toNatClampNeg 0).toInt ≤ 2147483647) := kd_bd ((a64 118).getD x1.toNatClampNeg 0)
            refine ft_go mi_k165 2 188 [(4, .int m48), (3, .int ((a 118).getD (25 : Int32).toNatClampNeg 0)), (2, .int ((a 118).getD (19 : Int32).toNatClampNeg 0)), (0, .ref 116), (1, .int x1)] [.int (((a64 118).getD x1.toNatClampNeg 0) + m48), .int 999, .int x1, .ref 118] (ku (ku (ku i5 7464 ((a 118).getD (19 : Int32).toNatClampNeg 0)) 7467 ((i5 7467) + (((a 118).getD (25 : Int32).toNatClampNeg 0) - m48))) 7465 ((i5 7465) + m48)) a64 q5 r5 (by rfl) ?_
            have m70 : (((bif decide ((((a64 118).getD x1.toNatClampNeg 0) + m48) < 999) then (((a64 118).getD x1.toNatClampNeg 0) + m48) else 999).toInt ≤ (999 : Int32).toInt) ∧ ((bif decide ((((a64 118).getD x1.toNatClampNeg 0) + m48) < 999) then (((a64 118).getD x1.toNatClampNeg 0) + m48) else 999).toInt ≤ (((a64 118).getD x1.toNatClampNeg 0) + m48).toInt)) ∧ ((bif decide ((((a64 118).getD x1.toNatClampNeg 0) + m48) < 999) then (((a64 118).getD x1.toNatClampNeg 0) + m48) else 999).toInt = (999 : Int32).toInt ∨ (bif decide ((((a64 118).getD x1.toNatClampNeg 0) + m48) < 999) then (((a64 118).getD x1.toNatClampNeg 0) + m48) else 999).toInt = (((a64 118).getD x1.toNatClampNeg 0) + m48).toInt) := kd_min
            refine ft_go mi_k165 1 191 [(4, .int m48), (3, .int ((a 118).getD (25 : Int32).toNatClampNeg 0)), (2, .int ((a 118).getD (19 : Int32).toNatClampNeg 0)), (0, .ref 116), (1, .int x1)] [.int (bif decide ((((a64 118).getD x1.toNatClampNeg 0) + m48) < 999) then (((a64 118).getD x1.toNatClampNeg 0) + m48) else 999), .int x1, .ref 118] (ku (ku (ku i5 7464 ((a 118).getD (19 : Int32).toNatClampNeg 0)) 7467 ((i5 7467) + (((a 118).getD (25 : Int32).toNatClampNeg 0) - m48))) 7465 ((i5 7465) + m48)) a64 q5 r5 (by rfl) ?_
            generalize hm69 : (bif decide ((((a64 118).getD x1.toNatClampNeg 0) + m48) < 999) then (((a64 118).getD x1.toNatClampNeg 0) + m48) else 999) = m69 at m70 ⊢
            have qm69 := hm69.symm
            refine ko_iast3 mi_k165.1 (n := 31) (c := 31) (ax := (0, 0, 0, 0, 0)) (mi_k165.2 _ _ (by rfl)) (by rfl) (ksG118 _ _ _ _) (ksA118 _ _ _ _) (hJ64.I.2.1 118) rfl (oh11 hp0.1) (oh12 hp0.2) ?_
            intro a71 ea71 fa71
            have hJ71 := kG_a3 hJ64 118 rfl ea71 fa71 (kE_nset (p := 118) (by decide) (oh11 hp0.1) (oh20 hp0.2) (oh21 hp0.2))
            have r72 : ((0 : Int) ≤ ((a71 118).getD (18 : Int32).toNatClampNeg 0).toInt) ∧ (((a71 118).getD (18 : Int32).toNatClampNeg 0).toInt ≤ 5) := kE_n18 (p := 118) hJ71.I (by decide)
            have u73 : ((a60 118).getD (18 : Int32).toNatClampNeg 0).toInt = ((a5 118).getD (18 : Int32).toNatClampNeg 0).toInt := congrArg (fun z : List Int32 => (z.getD (18 : Int32).toNatClampNeg 0).toInt) (fa60 118 (by decide))
            have u74 : ((a64 118).getD (18 : Int32).toNatClampNeg 0).toInt = ((a60 118).getD (18 : Int32).toNatClampNeg 0).toInt := congrArg Int32.toInt ((congrArg (fun z : List Int32 => z.getD (18 : Int32).toNatClampNeg 0) ea64).trans (kgs_ne (oh4 koh18) (oh11 r2.1) (oh23 r2.2 koh18)))
            have u75 : ((a71 118).getD (18 : Int32).toNatClampNeg 0).toInt = ((a64 118).getD (18 : Int32).toNatClampNeg 0).toInt := congrArg Int32.toInt ((congrArg (fun z : List Int32 => z.getD (18 : Int32).toNatClampNeg 0) ea71).trans (kgs_ne (oh4 koh18) (oh11 hp0.1) (oh23 hp0.2 koh18)))
            exact ft_ret mi_k165 (by rfl) (hP  _ _ _ _ hJ71 ⟨(oh70 p5_2 u73 u74 u75), ((kT5 (show a71 118 = sGive x1 (a 118) from (by first | rfl | (simp only [ea71, ea64, qm69, qm48, qd11, fa60 118 (by decide), sMn, sMx, sGive, sCoin]; done) | (simp only [ea71, ea64, qm69, qm48, qd11, fa60 118 (by decide), sMn, sMx, sGive, sCoin]; rfl))) ((show ((a 118).getD (19 : Int32).toNatClampNeg 0) = (a 118).getD 19 0 from rfl).trans (cY_pos (y := i 7464) (d := (a 118).getD 19 0) (oh29 c44 efi5_7464 koh8))) (show ((i5 7465) + m48) = i 7465 + sCoin (a 118) from (by first | rfl | (simp only [(hL5.fi 7465 rfl : i5 7465 = i 7465), qm48, qd11, sMn, sMx, sGive, sCoin]; done) | (simp only [(hL5.fi 7465 rfl : i5 7465 = i 7465), qm48, qd11, sMn, sMx, sGive, sCoin]; rfl))) (show ((i5 7467) + (((a 118).getD (25 : Int32).toNatClampNeg 0) - m48)) = i 7467 + ((a 118).getD (25 : Int32).toNatClampNeg 0 - sCoin (a 118)) from (by first | rfl | (simp only [(hL5.fi 7467 rfl : i5 7467 = i 7467), qm48, qd11, sMn, sMx, sGive, sCoin]; done) | (simp only [(hL5.fi 7467 rfl : i5 7467 = i 7467), qm48, qd11, sMn, sMx, sGive, sCoin]; rfl))) (show a71 141 = (a 141).set ((8 * ((a 118).getD (19 : Int32).toNatClampNeg 0)) + x1).toNatClampNeg ((a 141).getD ((8 * ((a 118).getD (19 : Int32).toNatClampNeg 0)) + x1).toNatClampNeg 0 + sCoin (a 118)) from (by first | rfl | (simp only [fa71 141 (by decide), fa64 141 (by decide), ea60, hL5.fa 141 rfl, qm48, qd11, fa4 141 (by decide), sMn, sMx, sGive, sCoin]; done) | (simp only [fa71 141 (by decide), fa64 141 (by decide), ea60, hL5.fa 141 rfl, qm48, qd11, fa4 141 (by decide), sMn, sMx, sGive, sCoin]; rfl)))).trans (show _ = sPay x1 (a 118, i 7464, i 7465, i 7467, a 141) from (if_neg (oh26 c46)).symm))⟩)
          ·
            have c76 : ((a 118).getD (19 : Int32).toNatClampNeg 0).toInt = x1.toInt := kd_neF c; clear c
            exact ft_ret mi_k165 (by rfl) (hP  _ _ _ _ hJ45 ⟨(oh71 p5_2), ((kT5 (show a5 118 = sDrop (a 118) from (by first | rfl | (simp only [qd11, sMn, sMx, sGive, sCoin]; done) | (simp only [qd11, sMn, sMx, sGive, sCoin]; rfl))) ((show ((a 118).getD (19 : Int32).toNatClampNeg 0) = (a 118).getD 19 0 from rfl).trans (cY_pos (y := i 7464) (d := (a 118).getD 19 0) (oh29 c44 efi5_7464 koh8))) (show i5 7465 = i 7465 from (by first | rfl | (simp only [(hL5.fi 7465 rfl : i5 7465 = i 7465), sMn, sMx, sGive, sCoin]; done) | (simp only [(hL5.fi 7465 rfl : i5 7465 = i 7465), sMn, sMx, sGive, sCoin]; rfl))) (show i5 7467 = i 7467 from (by first | rfl | (simp only [(hL5.fi 7467 rfl : i5 7467 = i 7467), sMn, sMx, sGive, sCoin]; done) | (simp only [(hL5.fi 7467 rfl : i5 7467 = i 7467), sMn, sMx, sGive, sCoin]; rfl))) (show a5 141 = a 141 from (by first | rfl | (simp only [hL5.fa 141 rfl, fa4 141 (by decide), sMn, sMx, sGive, sCoin]; done) | (simp only [hL5.fa 141 rfl, fa4 141 (by decide), sMn, sMx, sGive, sCoin]; rfl)))).trans (show _ = sPay x1 (a 118, i 7464, i 7465, i 7467, a 141) from (if_pos (oh28 c76)).symm))⟩)
      ·
        have c77 : l4_5.toInt < ((a5 118).getD (18 : Int32).toNatClampNeg 0).toInt := kd_leF c; clear c
        have s78 : (19 + l4_5).toInt = (19 : Int32).toInt + l4_5.toInt := kd_add (oh30 p5_0 koh19) (oh31 c77 p5_2 r1.2 koh19)
        have s79 : (20 + l4_5).toInt = (20 : Int32).toInt + l4_5.toInt := kd_add (oh32 p5_0 koh20) (oh33 c77 p5_2 r1.2 koh20)
        refine ft_go mi_k165 10 60 [(4, .int l4_5), (3, .int ((a 118).getD (25 : Int32).toNatClampNeg 0)), (2, .int ((a 118).getD (19 : Int32).toNatClampNeg 0)), (0, .ref 116), (1, .int x1)] [.int (20 + l4_5), .ref 118, .int (19 + l4_5), .ref 118] i5 a5 q5 r5 (by rfl) ?_
        refine ko_iald3 mi_k165.1 (n := 31) (c := 31) (ax := (0, 0, 0, 0, 0)) (mi_k165.2 _ _ (by rfl)) (by rfl) (ksG118 _ _ _ _) (hL5.I.2.1 118) rfl (oh34 p5_0 s79 koh20) (oh35 c77 p5_2 r1.2 s79 koh20) ?_
        have r80 : (((20 + l4_5).toInt = 18 → (0 : Int) ≤ ((a5 118).getD (20 + l4_5).toNatClampNeg 0).toInt ∧ ((a5 118).getD (20 + l4_5).toNatClampNeg 0).toInt ≤ 5)) ∧ ((19 ≤ (20 + l4_5).toInt → (20 + l4_5).toInt ≤ 24 → (0 : Int) ≤ ((a5 118).getD (20 + l4_5).toNatClampNeg 0).toInt ∧ ((a5 118).getD (20 + l4_5).toNatClampNeg 0).toInt ≤ 7)) := kE_ncond (p := 118) hL5.I (by decide) (j := (20 + l4_5)) (oh34 p5_0 s79 koh20)
        refine ko_iast3 mi_k165.1 (n := 31) (c := 31) (ax := (0, 0, 0, 0, 0)) (mi_k165.2 _ _ (by rfl)) (by rfl) (ksG118 _ _ _ _) (ksA118 _ _ _ _) (hL5.I.2.1 118) rfl (oh37 p5_0 s78 koh19) (oh38 c77 p5_2 r1.2 s78 koh19) ?_
        intro a81 ea81 fa81
        have hJ81 := kG_a3 hL5 118 rfl ea81 fa81 (kE_nset (p := 118) (by decide) (oh37 p5_0 s78 koh19) (oh39 p5_0 s78 koh19) (oh40 c77 p5_0 p5_2 r1.2 r80.2 s79 koh20))
        have s82 : (25 + l4_5).toInt = (25 : Int32).toInt + l4_5.toInt := kd_add (oh41 p5_0 koh25) (oh42 c77 p5_2 r1.2 koh25)
        have s83 : (26 + l4_5).toInt = (26 : Int32).toInt + l4_5.toInt := kd_add (oh43 p5_0 koh26) (oh44 c77 p5_2 r1.2 koh26)
        refine ft_go mi_k165 10 80 [(4, .int l4_5), (3, .int ((a 118).getD (25 : Int32).toNatClampNeg 0)), (2, .int ((a 118).getD (19 : Int32).toNatClampNeg 0)), (0, .ref 116), (1, .int x1)] [.int (26 + l4_5), .ref 118, .int (25 + l4_5), .ref 118] i5 a81 q5 r5 (by rfl) ?_
        refine ko_iald3 mi_k165.1 (n := 31) (c := 31) (ax := (0, 0, 0, 0, 0)) (mi_k165.2 _ _ (by rfl)) (by rfl) (ksG118 _ _ _ _) (hJ81.I.2.1 118) rfl (oh45 p5_0 s83 koh26) (oh46 c77 p5_2 r1.2 s83 koh26) ?_
        have r84 : (((26 + l4_5).toInt = 18 → (0 : Int) ≤ ((a81 118).getD (26 + l4_5).toNatClampNeg 0).toInt ∧ ((a81 118).getD (26 + l4_5).toNatClampNeg 0).toInt ≤ 5)) ∧ ((19 ≤ (26 + l4_5).toInt → (26 + l4_5).toInt ≤ 24 → (0 : Int) ≤ ((a81 118).getD (26 + l4_5).toNatClampNeg 0).toInt ∧ ((a81 118).getD (26 + l4_5).toNatClampNeg 0).toInt ≤ 7)) := kE_ncond (p := 118) hJ81.I (by decide) (j := (26 + l4_5)) (oh45 p5_0 s83 koh26)
        have u85 : ((a81 118).getD (26 + l4_5).toNatClampNeg 0).toInt = ((a5 118).getD (26 + l4_5).toNatClampNeg 0).toInt := congrArg Int32.toInt ((congrArg (fun z : List Int32 => z.getD (26 + l4_5).toNatClampNeg 0) ea81).trans (kgs_ne (oh45 p5_0 s83 koh26) (oh37 p5_0 s78 koh19) (oh47 s78 s83 koh19 koh26)))
        refine ko_iast3 mi_k165.1 (n := 31) (c := 31) (ax := (0, 0, 0, 0, 0)) (mi_k165.2 _ _ (by rfl)) (by rfl) (ksG118 _ _ _ _) (ksA118 _ _ _ _) (hJ81.I.2.1 118) rfl (oh48 p5_0 s82 koh25) (oh49 c77 p5_2 r1.2 s82 koh25) ?_
        intro a86 ea86 fa86
        have hJ86 := kG_a3 hJ81 118 rfl ea86 fa86 (kE_nset (p := 118) (by decide) (oh48 p5_0 s82 koh25) (oh50 p5_0 s82 koh25) (oh51 p5_0 s82 koh25))
        have s87 : (l4_5 + 1).toInt = l4_5.toInt + (1 : Int32).toInt := kd_add (oh52 p5_0 koh1) (oh53 c77 p5_2 r1.2 koh1)
        refine ft_go mi_k165 2 30 [(4, .int (l4_5 + 1)), (3, .int ((a 118).getD (25 : Int32).toNatClampNeg 0)), (2, .int ((a 118).getD (19 : Int32).toNatClampNeg 0)), (0, .ref 116), (1, .int x1)] [] i5 a86 q5 r5 (by rfl) ?_
        have r88 : ((0 : Int) ≤ ((a86 118).getD (18 : Int32).toNatClampNeg 0).toInt) ∧ (((a86 118).getD (18 : Int32).toNatClampNeg 0).toInt ≤ 5) := kE_n18 (p := 118) hJ86.I (by decide)
        have u89 : ((a81 118).getD (18 : Int32).toNatClampNeg 0).toInt = ((a5 118).getD (18 : Int32).toNatClampNeg 0).toInt := congrArg Int32.toInt ((congrArg (fun z : List Int32 => z.getD (18 : Int32).toNatClampNeg 0) ea81).trans (kgs_ne (oh4 koh18) (oh37 p5_0 s78 koh19) (oh55 p5_0 s78 koh19 koh18)))
        have u90 : ((a86 118).getD (18 : Int32).toNatClampNeg 0).toInt = ((a81 118).getD (18 : Int32).toNatClampNeg 0).toInt := congrArg Int32.toInt ((congrArg (fun z : List Int32 => z.getD (18 : Int32).toNatClampNeg 0) ea86).trans (kgs_ne (oh4 koh18) (oh48 p5_0 s82 koh25) (oh56 p5_0 s82 koh25 koh18)))
        exact ih5 _ _ _ _ _ hJ86 (oh54 p5_0 s87 koh1) (oh57 c77 s87 u89 u90 koh1) (oh72 p5_2 u89 u90) (sSh_step (y := (19 + l4_5)) (z := (20 + l4_5)) (u := (25 + l4_5)) (v := (26 + l4_5)) O5_0 (oh11 p5_0) (oh59 s78 koh19) (oh60 s79 koh20) (oh61 s82 koh25) (oh62 s83 koh26) (oh63 s87 koh1) ea81 ea86) (kj_meas (oh64 s87 koh1) (oh65 c77 p5_2 r1.2) hm5)
  have r91 : ((0 : Int) ≤ ((a4 118).getD (18 : Int32).toNatClampNeg 0).toInt) ∧ (((a4 118).getD (18 : Int32).toNatClampNeg 0).toInt ≤ 5) := kE_n18 (p := 118) hJ4.I (by decide)
  have u92 : ((a4 118).getD (18 : Int32).toNatClampNeg 0).toInt = (((a 118).getD (18 : Int32).toNatClampNeg 0) - 1).toInt := congrArg Int32.toInt ((congrArg (fun z : List Int32 => z.getD (18 : Int32).toNatClampNeg 0) ea4).trans (kgs_eq2 (n := 31) (c := 31) (hG.I.2.1 118) rfl (oh4 koh18) (oh5 koh18)))
  exact lp5 _ _ _ _ _ _ (kG_self _ hJ4.I hJ4.R) (oh66 koh0) (oh67 r91.1 koh0) (oh68 s3 u92 koh1) (sSh_zero _ koh0) (Nat.lt_succ_self _)
def yw166_116 : kW := ([7464, 7465, 7466, 7467], [118, 128, 129, 141], [], [])
def yw166_116_L45 : kW := ([7464, 7465, 7467], [118, 141], [], [])
set_option maxRecDepth 100000 in
theorem ke166_116 {i : Nat → Int32} {a : Nat → List Int32} {q : Nat → List Int64} {r : Nat → Nat} (hI : kI i a q) (hr : kr r) (x1 : Int32) (hp0 : ((0 : Int) ≤ x1.toInt) ∧ (x1.toInt ≤ 7)) (hE_code : kCode i a) : km 9 166 [.ref 116, .int x1] (ks i a q r) (kVI yw166_116 i a q r (fun v i1 a1 q1 r1 => (((v.toInt = 1) ∧ (¬ ((((a 117).getD (16 + x1).toNatClampNeg 0).toInt = 1) ∧ ((i 7427).toInt = 0)))) ∨ ((v.toInt = 0) ∧ (((a 117).getD (16 + x1).toNatClampNeg 0).toInt = 1) ∧ ((i 7427).toInt = 0))) ∧ ((¬ ((((a 117).getD (16 + x1).toNatClampNeg 0).toInt = 1) ∧ ((i 7427).toInt = 0)) → a1 118 = sCome x1 (gBuy (i 7431) (a 120) (a 121) (a 122) (a 123) (i 7432) (a 117) (a 118) (gPaid (i 7426) x1 (a 118) (i 7467) (a 141)).1 x1) (gPaid (i 7426) x1 (a 118) (i 7467) (a 141)).1) ∧ (¬ ((((a 117).getD (16 + x1).toNatClampNeg 0).toInt = 1) ∧ ((i 7427).toInt = 0)) → i1 7464 = (gPaid (i 7426) x1 (a 118) (i 7467) (a 141)).2.1) ∧ (¬ ((((a 117).getD (16 + x1).toNatClampNeg 0).toInt = 1) ∧ ((i 7427).toInt = 0)) → i1 7465 = (gPaid (i 7426) x1 (a 118) (i 7467) (a 141)).2.2.1) ∧ (¬ ((((a 117).getD (16 + x1).toNatClampNeg 0).toInt = 1) ∧ ((i 7427).toInt = 0)) → i1 7466 = (gBuy (i 7431) (a 120) (a 121) (a 122) (a 123) (i 7432) (a 117) (a 118) (gPaid (i 7426) x1 (a 118) (i 7467) (a 141)).1 x1)) ∧ (¬ ((((a 117).getD (16 + x1).toNatClampNeg 0).toInt = 1) ∧ ((i 7427).toInt = 0)) → i1 7467 = (gPaid (i 7426) x1 (a 118) (i 7467) (a 141)).2.2.2.1) ∧ (¬ ((((a 117).getD (16 + x1).toNatClampNeg 0).toInt = 1) ∧ ((i 7427).toInt = 0)) → a1 141 = (gPaid (i 7426) x1 (a 118) (i 7467) (a 141)).2.2.2.2) ∧ ((((a 117).getD (16 + x1).toNatClampNeg 0).toInt = 1) ∧ ((i 7427).toInt = 0) → a1 118 = a 118) ∧ ((((a 117).getD (16 + x1).toNatClampNeg 0).toInt = 1) ∧ ((i 7427).toInt = 0) → i1 7464 = 8) ∧ ((((a 117).getD (16 + x1).toNatClampNeg 0).toInt = 1) ∧ ((i 7427).toInt = 0) → i1 7465 = 0) ∧ ((((a 117).getD (16 + x1).toNatClampNeg 0).toInt = 1) ∧ ((i 7427).toInt = 0) → i1 7466 = 0) ∧ ((((a 117).getD (16 + x1).toNatClampNeg 0).toInt = 1) ∧ ((i 7427).toInt = 0) → i1 7467 = i 7467) ∧ ((((a 117).getD (16 + x1).toNatClampNeg 0).toInt = 1) ∧ ((i 7427).toInt = 0) → a1 141 = a 141)))) := by
  have hG := kG_self yw166_116 hI hr
  refine km_ofI (q := (mi_h166, mi_c166)) rfl (by decide) (Nat.le_of_ble_eq_true rfl) ?_
  intro P hP
  have hJ1 := kG_i hG 7464 rfl (v := 8) (kd_bd _)
  have hJ2 := kG_i hJ1 7465 rfl (v := 0) (kd_bd _)
  have hJ3 := kG_i hJ2 7466 rfl (v := 0) (kd_bd _)
  have s4 : (16 + x1).toInt = (16 : Int32).toInt + x1.toInt := kd_add (oh73 hp0.1 koh16) (oh74 hp0.2 koh16)
  refine ft_go mi_k166 14 24 [(0, .ref 116), (1, .int x1)] [.int (16 + x1), .ref 117] (ku (ku (ku i 7464 8) 7465 0) 7466 0) a q r (by rfl) ?_
  refine ko_iald3 mi_k166.1 (n := 24) (c := 24) (ax := (0, 0, 0, 0, 0)) (mi_k166.2 _ _ (by rfl)) (by rfl) (ksG117 _ _ _ _) (hJ3.I.2.1 117) rfl (oh75 hp0.1 s4 koh16) (oh76 hp0.2 s4 koh16) ?_
  refine ft_go mi_k166 1 26 [(0, .ref 116), (1, .int x1)] [.int 1, .int ((a 117).getD (16 + x1).toNatClampNeg 0)] (ku (ku (ku i 7464 8) 7465 0) 7466 0) a q r (by rfl) ?_
  refine ft_if mi_k166 (((a 117).getD (16 + x1).toNatClampNeg 0) != 1) 38 29 [(0, .ref 116), (1, .int x1)] [] (by rfl) (fun c => ?_) (fun c => ?_)
  ·
    have c5 : ((a 117).getD (16 + x1).toNatClampNeg 0).toInt ≠ (1 : Int32).toInt := kd_ne c; clear c
    refine ft_go mi_k166 3 43 [(0, .ref 116), (1, .int x1)] [.int x1, .ref 118] (ku (ku (ku i 7464 8) 7465 0) 7466 0) a q r (by rfl) ?_
    refine ko_iald3 mi_k166.1 (n := 31) (c := 31) (ax := (0, 0, 0, 0, 0)) (mi_k166.2 _ _ (by rfl)) (by rfl) (ksG118 _ _ _ _) (hJ3.I.2.1 118) rfl (oh11 hp0.1) (oh12 hp0.2) ?_
    have r6 : ((x1.toInt = 18 → (0 : Int) ≤ ((a 118).getD x1.toNatClampNeg 0).toInt ∧ ((a 118).getD x1.toNatClampNeg 0).toInt ≤ 5)) ∧ ((19 ≤ x1.toInt → x1.toInt ≤ 24 → (0 : Int) ≤ ((a 118).getD x1.toNatClampNeg 0).toInt ∧ ((a 118).getD x1.toNatClampNeg 0).toInt ≤ 7)) := kE_ncond (p := 118) hJ3.I (by decide) (j := x1) (oh11 hp0.1)
    refine ft_go mi_k166 1 45 [(2, .int ((a 118).getD x1.toNatClampNeg 0)), (0, .ref 116), (1, .int x1)] [] (ku (ku (ku i 7464 8) 7465 0) 7466 0) a q r (by rfl) ?_
    have lp7 : ∀ (nz : Nat) (i7 : Nat → Int32) (a7 : Nat → List Int32) (q7 : Nat → List Int64) (r7 : Nat → Nat), kG yw166_116_L45 (ku (ku (ku i 7464 8) 7465 0) 7466 0) a q r i7 a7 q7 r7 → sPaid (i 7426) x1 ((a7 118).getD 18 0).toInt.toNat (a7 118, i7 7464, i7 7465, i7 7467, a7 141) = (gPaid (i 7426) x1 (a 118) (i 7467) (a 141)) → (((a7 118).getD (18 : Int32).toNatClampNeg 0).toInt).toNat < nz → ko 9 (mi_h166, mi_c166) P (45, [(2, .int ((a 118).getD x1.toNatClampNeg 0)), (0, .ref 116), (1, .int x1)], [], (0, 0), ks i7 a7 q7 r7) := by
      intro nz
      induction nz with
      | zero =>
        intro _ _ _ _ _ _ hm
        exact absurd hm (Nat.not_lt_zero _)
      | succ nz ih7 =>
        intro i7 a7 q7 r7 hL7 O7_0 hm7
        have r9 : ((0 : Int) ≤ ((a7 118).getD (18 : Int32).toNatClampNeg 0).toInt) ∧ (((a7 118).getD (18 : Int32).toNatClampNeg 0).toInt ≤ 5) := kE_n18 (p := 118) hL7.I (by decide)
        refine ft_go mi_k166 3 51 [(2, .int ((a 118).getD x1.toNatClampNeg 0)), (0, .ref 116), (1, .int x1)] [.int 18, .ref 118] i7 a7 q7 r7 (by rfl) ?_
        refine ko_iald3 mi_k166.1 (n := 31) (c := 31) (ax := (0, 0, 0, 0, 0)) (mi_k166.2 _ _ (by rfl)) (by rfl) (ksG118 _ _ _ _) (hL7.I.2.1 118) rfl (oh4 koh18) (oh5 koh18) ?_
        have fi7_7426 : ((1 : Int) ≤ (i7 7426).toInt) ∧ ((i7 7426).toInt ≤ 5) := hL7.I.1 7426
        have fi_7426 : ((1 : Int) ≤ (i 7426).toInt) ∧ ((i 7426).toInt ≤ 5) := hJ3.I.1 7426
        have efi7_7426 : (i7 7426).toInt = (i 7426).toInt := hL7.ti 7426 rfl
        refine ft_go mi_k166 2 56 [(2, .int ((a 118).getD x1.toNatClampNeg 0)), (0, .ref 116), (1, .int x1)] [.int (i7 7426), .int ((a7 118).getD (18 : Int32).toNatClampNeg 0)] i7 a7 q7 r7 (by rfl) ?_
        refine ft_if mi_k166 (decide (((a7 118).getD (18 : Int32).toNatClampNeg 0) < (i7 7426))) 67 59 [(2, .int ((a 118).getD x1.toNatClampNeg 0)), (0, .ref 116), (1, .int x1)] [] (by rfl) (fun c => ?_) (fun c => ?_)
        ·
          have c10 : ((a7 118).getD (18 : Int32).toNatClampNeg 0).toInt < (i7 7426).toInt := kd_lt c; clear c
          have hG11 := kG_call hJ3 hL7 (by decide +kernel)
          have E12 : (a7 118, i7 7464, i7 7465, i7 7467, a7 141) = (gPaid (i 7426) x1 (a 118) (i 7467) (a 141)) := sP_done O7_0 (oh77 c10 efi7_7426)
          have E12_0 : a7 118 = (gPaid (i 7426) x1 (a 118) (i 7467) (a 141)).1 := congrArg (fun z : kSt => z.1) E12
          have E12_1 : i7 7464 = (gPaid (i 7426) x1 (a 118) (i 7467) (a 141)).2.1 := congrArg (fun z : kSt => z.2.1) E12
          have E12_2 : i7 7465 = (gPaid (i 7426) x1 (a 118) (i 7467) (a 141)).2.2.1 := congrArg (fun z : kSt => z.2.2.1) E12
          have E12_3 : i7 7467 = (gPaid (i 7426) x1 (a 118) (i 7467) (a 141)).2.2.2.1 := congrArg (fun z : kSt => z.2.2.2.1) E12
          have E12_4 : a7 141 = (gPaid (i 7426) x1 (a 118) (i 7467) (a 141)).2.2.2.2 := congrArg (fun z : kSt => z.2.2.2.2) E12
          refine ft_go mi_k166 4 71 [(2, .int ((a 118).getD x1.toNatClampNeg 0)), (0, .ref 116), (1, .int x1)] [.int ((a 118).getD x1.toNatClampNeg 0), .int x1, .ref 116, .ref 116] i7 a7 q7 r7 (by rfl) ?_
          refine ko_callI mi_k166.1 (pc := 71) (ls := [(2, .int ((a 118).getD x1.toNatClampNeg 0)), (0, .ref 116), (1, .int x1)]) (st := [.int ((a 118).getD x1.toNatClampNeg 0), .int x1, .ref 116, .ref 116]) (h := ks i7 a7 q7 r7) (i := (.invokevirtual 254, 3, 163, 0, 9, 0, 418)) (mi_k166.2 _ _ (by rfl)) (ft_invS mi_pq163 (by rfl)) (cy := mi_c163) mi_pq163 rfl (ke163_116 hG11.I hG11.R x1 ((a 118).getD x1.toNatClampNeg 0) (oh175 hp0.1 hp0.2) (kCode_of (i1 := i7) hE_code (hG11.fi 7432 rfl) (hG11.fa 120 rfl) (hG11.fa 121 rfl) (hG11.fa 122 rfl) (hG11.fa 123 rfl))) (by decide) ?_
          intro vg13 ig13 ag13 qg13 rg13 kg13 hg13
          have hGg13 := kG_call hG11 kg13 (by decide +kernel)
          obtain ⟨hg13, og13⟩ := hg13
          have q14 : vg13 = rBuyV (i7 7431) (wLaw (a7 120) (a7 121) (a7 122) (a7 123) [(a7 117).getD x1.toNatClampNeg 0, ((a 118).getD x1.toNatClampNeg 0), (a7 117).getD (8 + x1).toNatClampNeg 0, (a7 118).getD (9 : Int32).toNatClampNeg 0, (a7 118).getD (10 + x1).toNatClampNeg 0, (a7 118).getD (8 : Int32).toNatClampNeg 0] (i7 7432).toInt.toNat 0) ((a7 117).getD x1.toNatClampNeg 0) ((a7 117).getD (8 + x1).toNatClampNeg 0) ((a7 118).getD (10 + x1).toNatClampNeg 0) := og13
          have hJ15 := kG_i hGg13 7466 rfl (v := vg13) (kd_bd _)
          refine ft_go mi_k166 7 89 [(2, .int ((a 118).getD x1.toNatClampNeg 0)), (0, .ref 116), (1, .int x1)] [.int 18, .ref 118, .int 19, .ref 118] (ku ig13 7466 vg13) ag13 qg13 rg13 (by rfl) ?_
          refine ko_iald3 mi_k166.1 (n := 31) (c := 31) (ax := (0, 0, 0, 0, 0)) (mi_k166.2 _ _ (by rfl)) (by rfl) (ksG118 _ _ _ _) (hJ15.I.2.1 118) rfl (oh4 koh18) (oh5 koh18) ?_
          have r16 : ((0 : Int) ≤ ((ag13 118).getD (18 : Int32).toNatClampNeg 0).toInt) ∧ (((ag13 118).getD (18 : Int32).toNatClampNeg 0).toInt ≤ 5) := kE_n18 (p := 118) hJ15.I (by decide)
          have u17 : ((ag13 118).getD (18 : Int32).toNatClampNeg 0).toInt = ((a7 118).getD (18 : Int32).toNatClampNeg 0).toInt := congrArg (fun z : List Int32 => (z.getD (18 : Int32).toNatClampNeg 0).toInt) (kg13.fa 118 rfl)
          have s18 : (19 + ((ag13 118).getD (18 : Int32).toNatClampNeg 0)).toInt = (19 : Int32).toInt + ((ag13 118).getD (18 : Int32).toNatClampNeg 0).toInt := kd_add (oh30 r16.1 koh19) (oh177 r16.2 koh19)
          refine ft_go mi_k166 2 92 [(2, .int ((a 118).getD x1.toNatClampNeg 0)), (0, .ref 116), (1, .int x1)] [.int x1, .int (19 + ((ag13 118).getD (18 : Int32).toNatClampNeg 0)), .ref 118] (ku ig13 7466 vg13) ag13 qg13 rg13 (by rfl) ?_
          refine ko_iast3 mi_k166.1 (n := 31) (c := 31) (ax := (0, 0, 0, 0, 0)) (mi_k166.2 _ _ (by rfl)) (by rfl) (ksG118 _ _ _ _) (ksA118 _ _ _ _) (hJ15.I.2.1 118) rfl (oh37 r16.1 s18 koh19) (oh178 r16.2 s18 koh19) ?_
          intro a19 ea19 fa19
          have hJ19 := kG_a3 hJ15 118 rfl ea19 fa19 (kE_nset (p := 118) (by decide) (oh37 r16.1 s18 koh19) (oh39 r16.1 s18 koh19) (oh179 hp0.1 hp0.2))
          refine ft_go mi_k166 6 105 [(2, .int ((a 118).getD x1.toNatClampNeg 0)), (0, .ref 116), (1, .int x1)] [.int 18, .ref 118, .int 25, .ref 118] (ku ig13 7466 vg13) a19 qg13 rg13 (by rfl) ?_
          refine ko_iald3 mi_k166.1 (n := 31) (c := 31) (ax := (0, 0, 0, 0, 0)) (mi_k166.2 _ _ (by rfl)) (by rfl) (ksG118 _ _ _ _) (hJ19.I.2.1 118) rfl (oh4 koh18) (oh5 koh18) ?_
          have r20 : ((0 : Int) ≤ ((a19 118).getD (18 : Int32).toNatClampNeg 0).toInt) ∧ (((a19 118).getD (18 : Int32).toNatClampNeg 0).toInt ≤ 5) := kE_n18 (p := 118) hJ19.I (by decide)
          have u21 : ((a19 118).getD (18 : Int32).toNatClampNeg 0).toInt = ((ag13 118).getD (18 : Int32).toNatClampNeg 0).toInt := congrArg Int32.toInt ((congrArg (fun z : List Int32 => z.getD (18 : Int32).toNatClampNeg 0) ea19).trans (kgs_ne (oh4 koh18) (oh37 r16.1 s18 koh19) (oh55 r16.1 s18 koh19 koh18)))
          have s22 : (25 + ((a19 118).getD (18 : Int32).toNatClampNeg 0)).toInt = (25 : Int32).toInt + ((a19 118).getD (18 : Int32).toNatClampNeg 0).toInt := kd_add (oh41 r20.1 koh25) (oh180 r20.2 koh25)
          refine ft_go mi_k166 3 111 [(2, .int ((a 118).getD x1.toNatClampNeg 0)), (0, .ref 116), (1, .int x1)] [.int vg13, .int (25 + ((a19 118).getD (18 : Int32).toNatClampNeg 0)), .ref 118] (ku ig13 7466 vg13) a19 qg13 rg13 (by rfl) ?_
          refine ko_iast3 mi_k166.1 (n := 31) (c := 31) (ax := (0, 0, 0, 0, 0)) (mi_k166.2 _ _ (by rfl)) (by rfl) (ksG118 _ _ _ _) (ksA118 _ _ _ _) (hJ19.I.2.1 118) rfl (oh48 r20.1 s22 koh25) (oh181 r20.2 s22 koh25) ?_
          intro a23 ea23 fa23
          have hJ23 := kG_a3 hJ19 118 rfl ea23 fa23 (kE_nset (p := 118) (by decide) (oh48 r20.1 s22 koh25) (oh50 r20.1 s22 koh25) (oh51 r20.1 s22 koh25))
          refine ft_go mi_k166 4 119 [(2, .int ((a 118).getD x1.toNatClampNeg 0)), (0, .ref 116), (1, .int x1)] [.int 18, .ref 118, .int 18, .ref 118] (ku ig13 7466 vg13) a23 qg13 rg13 (by rfl) ?_
          refine ko_iald3 mi_k166.1 (n := 31) (c := 31) (ax := (0, 0, 0, 0, 0)) (mi_k166.2 _ _ (by rfl)) (by rfl) (ksG118 _ _ _ _) (hJ23.I.2.1 118) rfl (oh4 koh18) (oh5 koh18) ?_
          have r24 : ((0 : Int) ≤ ((a23 118).getD (18 : Int32).toNatClampNeg 0).toInt) ∧ (((a23 118).getD (18 : Int32).toNatClampNeg 0).toInt ≤ 5) := kE_n18 (p := 118) hJ23.I (by decide)
          have u25 : ((a23 118).getD (18 : Int32).toNatClampNeg 0).toInt = ((a19 118).getD (18 : Int32).toNatClampNeg 0).toInt := congrArg Int32.toInt ((congrArg (fun z : List Int32 => z.getD (18 : Int32).toNatClampNeg 0) ea23).trans (kgs_ne (oh4 koh18) (oh48 r20.1 s22 koh25) (oh56 r20.1 s22 koh25 koh18)))
          have s26 : (((a23 118).getD (18 : Int32).toNatClampNeg 0) + 1).toInt = ((a23 118).getD (18 : Int32).toNatClampNeg 0).toInt + (1 : Int32).toInt := kd_add (oh52 r24.1 koh1) (oh182 r24.2 koh1)
          refine ft_go mi_k166 2 122 [(2, .int ((a 118).getD x1.toNatClampNeg 0)), (0, .ref 116), (1, .int x1)] [.int (((a23 118).getD (18 : Int32).toNatClampNeg 0) + 1), .int 18, .ref 118] (ku ig13 7466 vg13) a23 qg13 rg13 (by rfl) ?_
          refine ko_iast3 mi_k166.1 (n := 31) (c := 31) (ax := (0, 0, 0, 0, 0)) (mi_k166.2 _ _ (by rfl)) (by rfl) (ksG118 _ _ _ _) (ksA118 _ _ _ _) (hJ23.I.2.1 118) rfl (oh4 koh18) (oh5 koh18) ?_
          intro a27 ea27 fa27
          have hJ27 := kG_a3 hJ23 118 rfl ea27 fa27 (kE_nset (p := 118) (by decide) (oh4 koh18) (oh183 c10 fi7_7426.2 r24.1 s26 u17 u21 u25 koh1 koh18) (oh9 koh18))
          refine ft_go mi_k166 4 130 [(2, .int ((a 118).getD x1.toNatClampNeg 0)), (0, .ref 116), (1, .int x1)] [.int 9, .ref 118, .int 9, .ref 118] (ku ig13 7466 vg13) a27 qg13 rg13 (by rfl) ?_
          refine ko_iald3 mi_k166.1 (n := 31) (c := 31) (ax := (0, 0, 0, 0, 0)) (mi_k166.2 _ _ (by rfl)) (by rfl) (ksG118 _ _ _ _) (hJ27.I.2.1 118) rfl (oh93 koh9) (oh94 koh9) ?_
          have u28 : ((ag13 118).getD (9 : Int32).toNatClampNeg 0).toInt = ((a7 118).getD (9 : Int32).toNatClampNeg 0).toInt := congrArg (fun z : List Int32 => (z.getD (9 : Int32).toNatClampNeg 0).toInt) (kg13.fa 118 rfl)
          have u29 : ((a19 118).getD (9 : Int32).toNatClampNeg 0).toInt = ((ag13 118).getD (9 : Int32).toNatClampNeg 0).toInt := congrArg Int32.toInt ((congrArg (fun z : List Int32 => z.getD (9 : Int32).toNatClampNeg 0) ea19).trans (kgs_ne (oh93 koh9) (oh37 r16.1 s18 koh19) (oh184 r16.1 s18 koh19 koh9)))
          have u30 : ((a23 118).getD (9 : Int32).toNatClampNeg 0).toInt = ((a19 118).getD (9 : Int32).toNatClampNeg 0).toInt := congrArg Int32.toInt ((congrArg (fun z : List Int32 => z.getD (9 : Int32).toNatClampNeg 0) ea23).trans (kgs_ne (oh93 koh9) (oh48 r20.1 s22 koh25) (oh185 r20.1 s22 koh25 koh9)))
          have u31 : ((a27 118).getD (9 : Int32).toNatClampNeg 0).toInt = ((a23 118).getD (9 : Int32).toNatClampNeg 0).toInt := congrArg Int32.toInt ((congrArg (fun z : List Int32 => z.getD (9 : Int32).toNatClampNeg 0) ea27).trans (kgs_ne (oh93 koh9) (oh4 koh18) (oh186 koh9 koh18)))
          have b32 : ((-2147483648 : Int) ≤ ((a27 118).getD (9 : Int32).toNatClampNeg 0).toInt) ∧ (((a27 118).getD (9 : Int32).toNatClampNeg 0).toInt ≤ 2147483647) := kd_bd ((a27 118).getD (9 : Int32).toNatClampNeg 0)
          refine ft_go mi_k166 2 133 [(2, .int ((a 118).getD x1.toNatClampNeg 0)), (0, .ref 116), (1, .int x1)] [.int (((a27 118).getD (9 : Int32).toNatClampNeg 0) + 1), .int 9, .ref 118] (ku ig13 7466 vg13) a27 qg13 rg13 (by rfl) ?_
          refine ko_iast3 mi_k166.1 (n := 31) (c := 31) (ax := (0, 0, 0, 0, 0)) (mi_k166.2 _ _ (by rfl)) (by rfl) (ksG118 _ _ _ _) (ksA118 _ _ _ _) (hJ27.I.2.1 118) rfl (oh93 koh9) (oh94 koh9) ?_
          intro a33 ea33 fa33
          have hJ33 := kG_a3 hJ27 118 rfl ea33 fa33 (kE_nset (p := 118) (by decide) (oh93 koh9) (oh187 koh9) (oh188 koh9))
          have s34 : (10 + x1).toInt = (10 : Int32).toInt + x1.toInt := kd_add (oh85 hp0.1 koh10) (oh86 hp0.2 koh10)
          refine ft_go mi_k166 6 143 [(2, .int ((a 118).getD x1.toNatClampNeg 0)), (0, .ref 116), (1, .int x1)] [.int (10 + x1), .ref 118, .int (10 + x1), .ref 118] (ku ig13 7466 vg13) a33 qg13 rg13 (by rfl) ?_
          refine ko_iald3 mi_k166.1 (n := 31) (c := 31) (ax := (0, 0, 0, 0, 0)) (mi_k166.2 _ _ (by rfl)) (by rfl) (ksG118 _ _ _ _) (hJ33.I.2.1 118) rfl (oh87 hp0.1 s34 koh10) (oh88 hp0.2 s34 koh10) ?_
          have r35 : (((10 + x1).toInt = 18 → (0 : Int) ≤ ((a33 118).getD (10 + x1).toNatClampNeg 0).toInt ∧ ((a33 118).getD (10 + x1).toNatClampNeg 0).toInt ≤ 5)) ∧ ((19 ≤ (10 + x1).toInt → (10 + x1).toInt ≤ 24 → (0 : Int) ≤ ((a33 118).getD (10 + x1).toNatClampNeg 0).toInt ∧ ((a33 118).getD (10 + x1).toNatClampNeg 0).toInt ≤ 7)) := kE_ncond (p := 118) hJ33.I (by decide) (j := (10 + x1)) (oh87 hp0.1 s34 koh10)
          have u36 : ((ag13 118).getD (10 + x1).toNatClampNeg 0).toInt = ((a7 118).getD (10 + x1).toNatClampNeg 0).toInt := congrArg (fun z : List Int32 => (z.getD (10 + x1).toNatClampNeg 0).toInt) (kg13.fa 118 rfl)
          have u37 : ((a19 118).getD (10 + x1).toNatClampNeg 0).toInt = ((ag13 118).getD (10 + x1).toNatClampNeg 0).toInt := congrArg Int32.toInt ((congrArg (fun z : List Int32 => z.getD (10 + x1).toNatClampNeg 0) ea19).trans (kgs_ne (oh87 hp0.1 s34 koh10) (oh37 r16.1 s18 koh19) (oh189 hp0.2 r16.1 s18 s34 koh19 koh10)))
          have u38 : ((a23 118).getD (10 + x1).toNatClampNeg 0).toInt = ((a19 118).getD (10 + x1).toNatClampNeg 0).toInt := congrArg Int32.toInt ((congrArg (fun z : List Int32 => z.getD (10 + x1).toNatClampNeg 0) ea23).trans (kgs_ne (oh87 hp0.1 s34 koh10) (oh48 r20.1 s22 koh25) (oh190 hp0.2 r20.1 s22 s34 koh25 koh10)))
          have u39 : ((a27 118).getD (10 + x1).toNatClampNeg 0).toInt = ((a23 118).getD (10 + x1).toNatClampNeg 0).toInt := congrArg Int32.toInt ((congrArg (fun z : List Int32 => z.getD (10 + x1).toNatClampNeg 0) ea27).trans (kgs_ne (oh87 hp0.1 s34 koh10) (oh4 koh18) (oh191 hp0.2 s34 koh10 koh18)))
          have u40 : ((a33 118).getD (10 + x1).toNatClampNeg 0).toInt = ((a27 118).getD (10 + x1).toNatClampNeg 0).toInt := congrArg Int32.toInt ((congrArg (fun z : List Int32 => z.getD (10 + x1).toNatClampNeg 0) ea33).trans (kgs_ne (oh87 hp0.1 s34 koh10) (oh93 koh9) (oh192 hp0.1 s34 koh10 koh9)))
          have b41 : ((-2147483648 : Int) ≤ ((a33 118).getD (10 + x1).toNatClampNeg 0).toInt) ∧ (((a33 118).getD (10 + x1).toNatClampNeg 0).toInt ≤ 2147483647) := kd_bd ((a33 118).getD (10 + x1).toNatClampNeg 0)
          refine ft_go mi_k166 2 146 [(2, .int ((a 118).getD x1.toNatClampNeg 0)), (0, .ref 116), (1, .int x1)] [.int (((a33 118).getD (10 + x1).toNatClampNeg 0) + 1), .int (10 + x1), .ref 118] (ku ig13 7466 vg13) a33 qg13 rg13 (by rfl) ?_
          refine ko_iast3 mi_k166.1 (n := 31) (c := 31) (ax := (0, 0, 0, 0, 0)) (mi_k166.2 _ _ (by rfl)) (by rfl) (ksG118 _ _ _ _) (ksA118 _ _ _ _) (hJ33.I.2.1 118) rfl (oh87 hp0.1 s34 koh10) (oh88 hp0.2 s34 koh10) ?_
          intro a42 ea42 fa42
          have hJ42 := kG_a3 hJ33 118 rfl ea42 fa42 (kE_nset (p := 118) (by decide) (oh87 hp0.1 s34 koh10) (oh193 hp0.2 s34 koh10) (oh194 hp0.2 s34 koh10))
          refine ft_go mi_k166 1 148 [(2, .int ((a 118).getD x1.toNatClampNeg 0)), (0, .ref 116), (1, .int x1)] [.int 1] (ku ig13 7466 vg13) a42 qg13 rg13 (by rfl) ?_
          exact ft_ret mi_k166 (by rfl) (hP 1 _ _ _ _ hJ42 ⟨(oh195 c5 koh1), ⟨(fun _ => (show a42 118 = sCome x1 (gBuy (i 7431) (a 120) (a 121) (a 122) (a 123) (i 7432) (a 117) (a 118) (gPaid (i 7426) x1 (a 118) (i 7467) (a 141)).1 x1) (gPaid (i 7426) x1 (a 118) (i 7467) (a 141)).1 from (by first | rfl | (simp only [ea42, ea33, ea27, ea23, ea19, q14, (hL7.fi 7431 rfl : i7 7431 = i 7431), hL7.fa 120 rfl, hL7.fa 121 rfl, hL7.fa 122 rfl, hL7.fa 123 rfl, hL7.fa 117 rfl, E12_0, (hL7.fi 7432 rfl : i7 7432 = i 7432), kg13.fa 118 rfl, sMn, sMx, gBuy, sCome, sC1, sC2, sC3, sC4, sC5]; done) | (simp only [ea42, ea33, ea27, ea23, ea19, q14, (hL7.fi 7431 rfl : i7 7431 = i 7431), hL7.fa 120 rfl, hL7.fa 121 rfl, hL7.fa 122 rfl, hL7.fa 123 rfl, hL7.fa 117 rfl, E12_0, (hL7.fi 7432 rfl : i7 7432 = i 7432), kg13.fa 118 rfl, sMn, sMx, gBuy, sCome, sC1, sC2, sC3, sC4, sC5]; rfl)))), (fun _ => (show ig13 7464 = (gPaid (i 7426) x1 (a 118) (i 7467) (a 141)).2.1 from (by first | rfl | (simp only [(kg13.fi 7464 rfl : ig13 7464 = i7 7464), E12_1, sMn, sMx, gBuy, sCome, sC1, sC2, sC3, sC4, sC5]; done) | (simp only [(kg13.fi 7464 rfl : ig13 7464 = i7 7464), E12_1, sMn, sMx, gBuy, sCome, sC1, sC2, sC3, sC4, sC5]; rfl)))), (fun _ => (show ig13 7465 = (gPaid (i 7426) x1 (a 118) (i 7467) (a 141)).2.2.1 from (by first | rfl | (simp only [(kg13.fi 7465 rfl : ig13 7465 = i7 7465), E12_2, sMn, sMx, gBuy, sCome, sC1, sC2, sC3, sC4, sC5]; done) | (simp only [(kg13.fi 7465 rfl : ig13 7465 = i7 7465), E12_2, sMn, sMx, gBuy, sCome, sC1, sC2, sC3, sC4, sC5]; rfl)))), (fun _ => (show vg13 = (gBuy (i 7431) (a 120) (a 121) (a 122) (a 123) (i 7432) (a 117) (a 118) (gPaid (i 7426) x1 (a 118) (i 7467) (a 141)).1 x1) from (by first | rfl | (simp only [q14, (hL7.fi 7431 rfl : i7 7431 = i 7431), hL7.fa 120 rfl, hL7.fa 121 rfl, hL7.fa 122 rfl, hL7.fa 123 rfl, hL7.fa 117 rfl, E12_0, (hL7.fi 7432 rfl : i7 7432 = i 7432), sMn, sMx, gBuy, sCome, sC1, sC2, sC3, sC4, sC5]; done) | (simp only [q14, (hL7.fi 7431 rfl : i7 7431 = i 7431), hL7.fa 120 rfl, hL7.fa 121 rfl, hL7.fa 122 rfl, hL7.fa 123 rfl, hL7.fa 117 rfl, E12_0, (hL7.fi 7432 rfl : i7 7432 = i 7432), sMn, sMx, gBuy, sCome, sC1, sC2, sC3, sC4, sC5]; rfl)))), (fun _ => (show ig13 7467 = (gPaid (i 7426) x1 (a 118) (i 7467) (a 141)).2.2.2.1 from (by first | rfl | (simp only [(kg13.fi 7467 rfl : ig13 7467 = i7 7467), E12_3, sMn, sMx, gBuy, sCome, sC1, sC2, sC3, sC4, sC5]; done) | (simp only [(kg13.fi 7467 rfl : ig13 7467 = i7 7467), E12_3, sMn, sMx, gBuy, sCome, sC1, sC2, sC3, sC4, sC5]; rfl)))), (fun _ => (show a42 141 = (gPaid (i 7426) x1 (a 118) (i 7467) (a 141)).2.2.2.2 from (by first | rfl | (simp only [fa42 141 (by decide), fa33 141 (by decide), fa27 141 (by decide), fa23 141 (by decide), fa19 141 (by decide), kg13.fa 141 rfl, E12_4, sMn, sMx, gBuy, sCome, sC1, sC2, sC3, sC4, sC5]; done) | (simp only [fa42 141 (by decide), fa33 141 (by decide), fa27 141 (by decide), fa23 141 (by decide), fa19 141 (by decide), kg13.fa 141 rfl, E12_4, sMn, sMx, gBuy, sCome, sC1, sC2, sC3, sC4, sC5]; rfl)))), (fun h => absurd h (oh196 c5 koh1)), (fun h => absurd h (oh196 c5 koh1)), (fun h => absurd h (oh196 c5 koh1)), (fun h => absurd h (oh196 c5 koh1)), (fun h => absurd h (oh196 c5 koh1)), (fun h => absurd h (oh196 c5 koh1))⟩⟩)
        ·
          have c43 : (i7 7426).toInt ≤ ((a7 118).getD (18 : Int32).toNatClampNeg 0).toInt := kd_ltF c; clear c
          refine ft_go mi_k166 2 61 [(2, .int ((a 118).getD x1.toNatClampNeg 0)), (0, .ref 116), (1, .int x1)] [.int x1, .ref 116] i7 a7 q7 r7 (by rfl) ?_
          refine ko_callN mi_k166.1 (pc := 61) (ls := [(2, .int ((a 118).getD x1.toNatClampNeg 0)), (0, .ref 116), (1, .int x1)]) (st := [.int x1, .ref 116]) (h := ks i7 a7 q7 r7) (i := (.invokevirtual 250, 3, 165, 0, 9, 0, 416)) (mi_k166.2 _ _ (by rfl)) (ft_invS mi_pq165 (by rfl)) (cy := mi_c165) mi_pq165 rfl (kf165_116 hL7.I hL7.R x1 (oh175 hp0.1 hp0.2) (oh197 c43 fi7_7426.1)) (by decide) ?_
          intro ig44 ag44 qg44 rg44 kg44 hg44
          have hGg44 := kG_call hL7 kg44 (by decide +kernel)
          obtain ⟨hg44, og44⟩ := hg44
          have r45 : ((0 : Int) ≤ ((ag44 118).getD (18 : Int32).toNatClampNeg 0).toInt) ∧ (((ag44 118).getD (18 : Int32).toNatClampNeg 0).toInt ≤ 5) := kE_n18 (p := 118) hGg44.I (by decide)
          have z46 : ((ag44 118).getD (18 : Int32).toNatClampNeg 0).toInt = (((a7 118).getD (18 : Int32).toNatClampNeg 0).toInt - 1) := hg44
          refine ft_go mi_k166 1 45 [(2, .int ((a 118).getD x1.toNatClampNeg 0)), (0, .ref 116), (1, .int x1)] [] ig44 ag44 qg44 rg44 (by rfl) ?_
          exact ih7 _ _ _ _ hGg44 (sP_again (S := (a7 118, i7 7464, i7 7465, i7 7467, a7 141)) (S1 := (ag44 118, ig44 7464, ig44 7465, ig44 7467, ag44 141)) O7_0 og44 (oh198 fi_7426.1) (oh103 c43 efi7_7426) (oh199 z46)) (kj_meas (oh200 z46) (oh197 c43 fi7_7426.1) hm7)
    exact lp7 _ _ _ _ _ (kG_self _ hJ3.I hJ3.R) rfl (Nat.lt_succ_self _)
  ·
    have c47 : ((a 117).getD (16 + x1).toNatClampNeg 0).toInt = (1 : Int32).toInt := kd_neF c; clear c
    refine ft_go mi_k166 2 33 [(0, .ref 116), (1, .int x1)] [.int (i 7427)] (ku (ku (ku i 7464 8) 7465 0) 7466 0) a q r (by rfl) ?_
    refine ft_if mi_k166 ((i 7427) != 0) 38 36 [(0, .ref 116), (1, .int x1)] [] (by rfl) (fun c => ?_) (fun c => ?_)
    ·
      have c48 : (i 7427).toInt ≠ (0 : Int32).toInt := kd_ne c; clear c
      refine ft_go mi_k166 3 43 [(0, .ref 116), (1, .int x1)] [.int x1, .ref 118] (ku (ku (ku i 7464 8) 7465 0) 7466 0) a q r (by rfl) ?_
      refine ko_iald3 mi_k166.1 (n := 31) (c := 31) (ax := (0, 0, 0, 0, 0)) (mi_k166.2 _ _ (by rfl)) (by rfl) (ksG118 _ _ _ _) (hJ3.I.2.1 118) rfl (oh11 hp0.1) (oh12 hp0.2) ?_
      have r49 : ((x1.toInt = 18 → (0 : Int) ≤ ((a 118).getD x1.toNatClampNeg 0).toInt ∧ ((a 118).getD x1.toNatClampNeg 0).toInt ≤ 5)) ∧ ((19 ≤ x1.toInt → x1.toInt ≤ 24 → (0 : Int) ≤ ((a 118).getD x1.toNatClampNeg 0).toInt ∧ ((a 118).getD x1.toNatClampNeg 0).toInt ≤ 7)) := kE_ncond (p := 118) hJ3.I (by decide) (j := x1) (oh11 hp0.1)
      refine ft_go mi_k166 1 45 [(2, .int ((a 118).getD x1.toNatClampNeg 0)), (0, .ref 116), (1, .int x1)] [] (ku (ku (ku i 7464 8) 7465 0) 7466 0) a q r (by rfl) ?_
      have lp50 : ∀ (nz : Nat) (i50 : Nat → Int32) (a50 : Nat → List Int32) (q50 : Nat → List Int64) (r50 : Nat → Nat), kG yw166_116_L45 (ku (ku (ku i 7464 8) 7465 0) 7466 0) a q r i50 a50 q50 r50 → sPaid (i 7426) x1 ((a50 118).getD 18 0).toInt.toNat (a50 118, i50 7464, i50 7465, i50 7467, a50 141) = (gPaid (i 7426) x1 (a 118) (i 7467) (a 141)) → (((a50 118).getD (18 : Int32).toNatClampNeg 0).toInt).toNat < nz → ko 9 (mi_h166, mi_c166) P (45, [(2, .int ((a 118).getD x1.toNatClampNeg 0)), (0, .ref 116), (1, .int x1)], [], (0, 0), ks i50 a50 q50 r50) := by
        intro nz
        induction nz with
        | zero =>
          intro _ _ _ _ _ _ hm
          exact absurd hm (Nat.not_lt_zero _)
        | succ nz ih50 =>
          intro i50 a50 q50 r50 hL50 O50_0 hm50
          have r52 : ((0 : Int) ≤ ((a50 118).getD (18 : Int32).toNatClampNeg 0).toInt) ∧ (((a50 118).getD (18 : Int32).toNatClampNeg 0).toInt ≤ 5) := kE_n18 (p := 118) hL50.I (by decide)
          refine ft_go mi_k166 3 51 [(2, .int ((a 118).getD x1.toNatClampNeg 0)), (0, .ref 116), (1, .int x1)] [.int 18, .ref 118] i50 a50 q50 r50 (by rfl) ?_
          refine ko_iald3 mi_k166.1 (n := 31) (c := 31) (ax := (0, 0, 0, 0, 0)) (mi_k166.2 _ _ (by rfl)) (by rfl) (ksG118 _ _ _ _) (hL50.I.2.1 118) rfl (oh4 koh18) (oh5 koh18) ?_
          have fi50_7426 : ((1 : Int) ≤ (i50 7426).toInt) ∧ ((i50 7426).toInt ≤ 5) := hL50.I.1 7426
          have fi_7426 : ((1 : Int) ≤ (i 7426).toInt) ∧ ((i 7426).toInt ≤ 5) := hJ3.I.1 7426
          have efi50_7426 : (i50 7426).toInt = (i 7426).toInt := hL50.ti 7426 rfl
          refine ft_go mi_k166 2 56 [(2, .int ((a 118).getD x1.toNatClampNeg 0)), (0, .ref 116), (1, .int x1)] [.int (i50 7426), .int ((a50 118).getD (18 : Int32).toNatClampNeg 0)] i50 a50 q50 r50 (by rfl) ?_
          refine ft_if mi_k166 (decide (((a50 118).getD (18 : Int32).toNatClampNeg 0) < (i50 7426))) 67 59 [(2, .int ((a 118).getD x1.toNatClampNeg 0)), (0, .ref 116), (1, .int x1)] [] (by rfl) (fun c => ?_) (fun c => ?_)
          ·
            have c53 : ((a50 118).getD (18 : Int32).toNatClampNeg 0).toInt < (i50 7426).toInt := kd_lt c; clear c
            have hG54 := kG_call hJ3 hL50 (by decide +kernel)
            have E55 : (a50 118, i50 7464, i50 7465, i50 7467, a50 141) = (gPaid (i 7426) x1 (a 118) (i 7467) (a 141)) := sP_done O50_0 (oh77 c53 efi50_7426)
            have E55_0 : a50 118 = (gPaid (i 7426) x1 (a 118) (i 7467) (a 141)).1 := congrArg (fun z : kSt => z.1) E55
            have E55_1 : i50 7464 = (gPaid (i 7426) x1 (a 118) (i 7467) (a 141)).2.1 := congrArg (fun z : kSt => z.2.1) E55
            have E55_2 : i50 7465 = (gPaid (i 7426) x1 (a 118) (i 7467) (a 141)).2.2.1 := congrArg (fun z : kSt => z.2.2.1) E55
            have E55_3 : i50 7467 = (gPaid (i 7426) x1 (a 118) (i 7467) (a 141)).2.2.2.1 := congrArg (fun z : kSt => z.2.2.2.1) E55
            have E55_4 : a50 141 = (gPaid (i 7426) x1 (a 118) (i 7467) (a 141)).2.2.2.2 := congrArg (fun z : kSt => z.2.2.2.2) E55
            refine ft_go mi_k166 4 71 [(2, .int ((a 118).getD x1.toNatClampNeg 0)), (0, .ref 116), (1, .int x1)] [.int ((a 118).getD x1.toNatClampNeg 0), .int x1, .ref 116, .ref 116] i50 a50 q50 r50 (by rfl) ?_
            refine ko_callI mi_k166.1 (pc := 71) (ls := [(2, .int ((a 118).getD x1.toNatClampNeg 0)), (0, .ref 116), (1, .int x1)]) (st := [.int ((a 118).getD x1.toNatClampNeg 0), .int x1, .ref 116, .ref 116]) (h := ks i50 a50 q50 r50) (i := (.invokevirtual 254, 3, 163, 0, 9, 0, 418)) (mi_k166.2 _ _ (by rfl)) (ft_invS mi_pq163 (by rfl)) (cy := mi_c163) mi_pq163 rfl (ke163_116 hG54.I hG54.R x1 ((a 118).getD x1.toNatClampNeg 0) (oh175 hp0.1 hp0.2) (kCode_of (i1 := i50) hE_code (hG54.fi 7432 rfl) (hG54.fa 120 rfl) (hG54.fa 121 rfl) (hG54.fa 122 rfl) (hG54.fa 123 rfl))) (by decide) ?_
            intro vg56 ig56 ag56 qg56 rg56 kg56 hg56
            have hGg56 := kG_call hG54 kg56 (by decide +kernel)
            obtain ⟨hg56, og56⟩ := hg56
            have q57 : vg56 = rBuyV (i50 7431) (wLaw (a50 120) (a50 121) (a50 122) (a50 123) [(a50 117).getD x1.toNatClampNeg 0, ((a 118).getD x1.toNatClampNeg 0), (a50 117).getD (8 + x1).toNatClampNeg 0, (a50 118).getD (9 : Int32).toNatClampNeg 0, (a50 118).getD (10 + x1).toNatClampNeg 0, (a50 118).getD (8 : Int32).toNatClampNeg 0] (i50 7432).toInt.toNat 0) ((a50 117).getD x1.toNatClampNeg 0) ((a50 117).getD (8 + x1).toNatClampNeg 0) ((a50 118).getD (10 + x1).toNatClampNeg 0) := og56
            have hJ58 := kG_i hGg56 7466 rfl (v := vg56) (kd_bd _)
            refine ft_go mi_k166 7 89 [(2, .int ((a 118).getD x1.toNatClampNeg 0)), (0, .ref 116), (1, .int x1)] [.int 18, .ref 118, .int 19, .ref 118] (ku ig56 7466 vg56) ag56 qg56 rg56 (by rfl) ?_
            refine ko_iald3 mi_k166.1 (n := 31) (c := 31) (ax := (0, 0, 0, 0, 0)) (mi_k166.2 _ _ (by rfl)) (by rfl) (ksG118 _ _ _ _) (hJ58.I.2.1 118) rfl (oh4 koh18) (oh5 koh18) ?_
            have r59 : ((0 : Int) ≤ ((ag56 118).getD (18 : Int32).toNatClampNeg 0).toInt) ∧ (((ag56 118).getD (18 : Int32).toNatClampNeg 0).toInt ≤ 5) := kE_n18 (p := 118) hJ58.I (by decide)
            have u60 : ((ag56 118).getD (18 : Int32).toNatClampNeg 0).toInt = ((a50 118).getD (18 : Int32).toNatClampNeg 0).toInt := congrArg (fun z : List Int32 => (z.getD (18 : Int32).toNatClampNeg 0).toInt) (kg56.fa 118 rfl)
            have s61 : (19 + ((ag56 118).getD (18 : Int32).toNatClampNeg 0)).toInt = (19 : Int32).toInt + ((ag56 118).getD (18 : Int32).toNatClampNeg 0).toInt := kd_add (oh30 r59.1 koh19) (oh177 r59.2 koh19)
            refine ft_go mi_k166 2 92 [(2, .int ((a 118).getD x1.toNatClampNeg 0)), (0, .ref 116), (1, .int x1)] [.int x1, .int (19 + ((ag56 118).getD (18 : Int32).toNatClampNeg 0)), .ref 118] (ku ig56 7466 vg56) ag56 qg56 rg56 (by rfl) ?_
            refine ko_iast3 mi_k166.1 (n := 31) (c := 31) (ax := (0, 0, 0, 0, 0)) (mi_k166.2 _ _ (by rfl)) (by rfl) (ksG118 _ _ _ _) (ksA118 _ _ _ _) (hJ58.I.2.1 118) rfl (oh37 r59.1 s61 koh19) (oh178 r59.2 s61 koh19) ?_
            intro a62 ea62 fa62
            have hJ62 := kG_a3 hJ58 118 rfl ea62 fa62 (kE_nset (p := 118) (by decide) (oh37 r59.1 s61 koh19) (oh39 r59.1 s61 koh19) (oh179 hp0.1 hp0.2))
            refine ft_go mi_k166 6 105 [(2, .int ((a 118).getD x1.toNatClampNeg 0)), (0, .ref 116), (1, .int x1)] [.int 18, .ref 118, .int 25, .ref 118] (ku ig56 7466 vg56) a62 qg56 rg56 (by rfl) ?_
            refine ko_iald3 mi_k166.1 (n := 31) (c := 31) (ax := (0, 0, 0, 0, 0)) (mi_k166.2 _ _ (by rfl)) (by rfl) (ksG118 _ _ _ _) (hJ62.I.2.1 118) rfl (oh4 koh18) (oh5 koh18) ?_
            have r63 : ((0 : Int) ≤ ((a62 118).getD (18 : Int32).toNatClampNeg 0).toInt) ∧ (((a62 118).getD (18 : Int32).toNatClampNeg 0).toInt ≤ 5) := kE_n18 (p := 118) hJ62.I (by decide)
            have u64 : ((a62 118).getD (18 : Int32).toNatClampNeg 0).toInt = ((ag56 118).getD (18 : Int32).toNatClampNeg 0).toInt := congrArg Int32.toInt ((congrArg (fun z : List Int32 => z.getD (18 : Int32).toNatClampNeg 0) ea62).trans (kgs_ne (oh4 koh18) (oh37 r59.1 s61 koh19) (oh55 r59.1 s61 koh19 koh18)))
            have s65 : (25 + ((a62 118).getD (18 : Int32).toNatClampNeg 0)).toInt = (25 : Int32).toInt + ((a62 118).getD (18 : Int32).toNatClampNeg 0).toInt := kd_add (oh41 r63.1 koh25) (oh180 r63.2 koh25)
            refine ft_go mi_k166 3 111 [(2, .int ((a 118).getD x1.toNatClampNeg 0)), (0, .ref 116), (1, .int x1)] [.int vg56, .int (25 + ((a62 118).getD (18 : Int32).toNatClampNeg 0)), .ref 118] (ku ig56 7466 vg56) a62 qg56 rg56 (by rfl) ?_
            refine ko_iast3 mi_k166.1 (n := 31) (c := 31) (ax := (0, 0, 0, 0, 0)) (mi_k166.2 _ _ (by rfl)) (by rfl) (ksG118 _ _ _ _) (ksA118 _ _ _ _) (hJ62.I.2.1 118) rfl (oh48 r63.1 s65 koh25) (oh181 r63.2 s65 koh25) ?_
            intro a66 ea66 fa66
            have hJ66 := kG_a3 hJ62 118 rfl ea66 fa66 (kE_nset (p := 118) (by decide) (oh48 r63.1 s65 koh25) (oh50 r63.1 s65 koh25) (oh51 r63.1 s65 koh25))
            refine ft_go mi_k166 4 119 [(2, .int ((a 118).getD x1.toNatClampNeg 0)), (0, .ref 116), (1, .int x1)] [.int 18, .ref 118, .int 18, .ref 118] (ku ig56 7466 vg56) a66 qg56 rg56 (by rfl) ?_
            refine ko_iald3 mi_k166.1 (n := 31) (c := 31) (ax := (0, 0, 0, 0, 0)) (mi_k166.2 _ _ (by rfl)) (by rfl) (ksG118 _ _ _ _) (hJ66.I.2.1 118) rfl (oh4 koh18) (oh5 koh18) ?_
            have r67 : ((0 : Int) ≤ ((a66 118).getD (18 : Int32).toNatClampNeg 0).toInt) ∧ (((a66 118).getD (18 : Int32).toNatClampNeg 0).toInt ≤ 5) := kE_n18 (p := 118) hJ66.I (by decide)
            have u68 : ((a66 118).getD (18 : Int32).toNatClampNeg 0).toInt = ((a62 118).getD (18 : Int32).toNatClampNeg 0).toInt := congrArg Int32.toInt ((congrArg (fun z : List Int32 => z.getD (18 : Int32).toNatClampNeg 0) ea66).trans (kgs_ne (oh4 koh18) (oh48 r63.1 s65 koh25) (oh56 r63.1 s65 koh25 koh18)))
            have s69 : (((a66 118).getD (18 : Int32).toNatClampNeg 0) + 1).toInt = ((a66 118).getD (18 : Int32).toNatClampNeg 0).toInt + (1 : Int32).toInt := kd_add (oh52 r67.1 koh1) (oh182 r67.2 koh1)
            refine ft_go mi_k166 2 122 [(2, .int ((a 118).getD x1.toNatClampNeg 0)), (0, .ref 116), (1, .int x1)] [.int (((a66 118).getD (18 : Int32).toNatClampNeg 0) + 1), .int 18, .ref 118] (ku ig56 7466 vg56) a66 qg56 rg56 (by rfl) ?_
            refine ko_iast3 mi_k166.1 (n := 31) (c := 31) (ax := (0, 0, 0, 0, 0)) (mi_k166.2 _ _ (by rfl)) (by rfl) (ksG118 _ _ _ _) (ksA118 _ _ _ _) (hJ66.I.2.1 118) rfl (oh4 koh18) (oh5 koh18) ?_
            intro a70 ea70 fa70
            have hJ70 := kG_a3 hJ66 118 rfl ea70 fa70 (kE_nset (p := 118) (by decide) (oh4 koh18) (oh183 c53 fi50_7426.2 r67.1 s69 u60 u64 u68 koh1 koh18) (oh9 koh18))
            refine ft_go mi_k166 4 130 [(2, .int ((a 118).getD x1.toNatClampNeg 0)), (0, .ref 116), (1, .int x1)] [.int 9, .ref 118, .int 9, .ref 118] (ku ig56 7466 vg56) a70 qg56 rg56 (by rfl) ?_
            refine ko_iald3 mi_k166.1 (n := 31) (c := 31) (ax := (0, 0, 0, 0, 0)) (mi_k166.2 _ _ (by rfl)) (by rfl) (ksG118 _ _ _ _) (hJ70.I.2.1 118) rfl (oh93 koh9) (oh94 koh9) ?_
            have u71 : ((ag56 118).getD (9 : Int32).toNatClampNeg 0).toInt = ((a50 118).getD (9 : Int32).toNatClampNeg 0).toInt := congrArg (fun z : List Int32 => (z.getD (9 : Int32).toNatClampNeg 0).toInt) (kg56.fa 118 rfl)
            have u72 : ((a62 118).getD (9 : Int32).toNatClampNeg 0).toInt = ((ag56 118).getD (9 : Int32).toNatClampNeg 0).toInt := congrArg Int32.toInt ((congrArg (fun z : List Int32 => z.getD (9 : Int32).toNatClampNeg 0) ea62).trans (kgs_ne (oh93 koh9) (oh37 r59.1 s61 koh19) (oh184 r59.1 s61 koh19 koh9)))
            have u73 : ((a66 118).getD (9 : Int32).toNatClampNeg 0).toInt = ((a62 118).getD (9 : Int32).toNatClampNeg 0).toInt := congrArg Int32.toInt ((congrArg (fun z : List Int32 => z.getD (9 : Int32).toNatClampNeg 0) ea66).trans (kgs_ne (oh93 koh9) (oh48 r63.1 s65 koh25) (oh185 r63.1 s65 koh25 koh9)))
            have u74 : ((a70 118).getD (9 : Int32).toNatClampNeg 0).toInt = ((a66 118).getD (9 : Int32).toNatClampNeg 0).toInt := congrArg Int32.toInt ((congrArg (fun z : List Int32 => z.getD (9 : Int32).toNatClampNeg 0) ea70).trans (kgs_ne (oh93 koh9) (oh4 koh18) (oh186 koh9 koh18)))
            have b75 : ((-2147483648 : Int) ≤ ((a70 118).getD (9 : Int32).toNatClampNeg 0).toInt) ∧ (((a70 118).getD (9 : Int32).toNatClampNeg 0).toInt ≤ 2147483647) := kd_bd ((a70 118).getD (9 : Int32).toNatClampNeg 0)
            refine ft_go mi_k166 2 133 [(2, .int ((a 118).getD x1.toNatClampNeg 0)), (0, .ref 116), (1, .int x1)] [.int (((a70 118).getD (9 : Int32).toNatClampNeg 0) + 1), .int 9, .ref 118] (ku ig56 7466 vg56) a70 qg56 rg56 (by rfl) ?_
            refine ko_iast3 mi_k166.1 (n := 31) (c := 31) (ax := (0, 0, 0, 0, 0)) (mi_k166.2 _ _ (by rfl)) (by rfl) (ksG118 _ _ _ _) (ksA118 _ _ _ _) (hJ70.I.2.1 118) rfl (oh93 koh9) (oh94 koh9) ?_
            intro a76 ea76 fa76
            have hJ76 := kG_a3 hJ70 118 rfl ea76 fa76 (kE_nset (p := 118) (by decide) (oh93 koh9) (oh187 koh9) (oh188 koh9))
            have s77 : (10 + x1).toInt = (10 : Int32).toInt + x1.toInt := kd_add (oh85 hp0.1 koh10) (oh86 hp0.2 koh10)
            refine ft_go mi_k166 6 143 [(2, .int ((a 118).getD x1.toNatClampNeg 0)), (0, .ref 116), (1, .int x1)] [.int (10 + x1), .ref 118, .int (10 + x1), .ref 118] (ku ig56 7466 vg56) a76 qg56 rg56 (by rfl) ?_
            refine ko_iald3 mi_k166.1 (n := 31) (c := 31) (ax := (0, 0, 0, 0, 0)) (mi_k166.2 _ _ (by rfl)) (by rfl) (ksG118 _ _ _ _) (hJ76.I.2.1 118) rfl (oh87 hp0.1 s77 koh10) (oh88 hp0.2 s77 koh10) ?_
            have r78 : (((10 + x1).toInt = 18 → (0 : Int) ≤ ((a76 118).getD (10 + x1).toNatClampNeg 0).toInt ∧ ((a76 118).getD (10 + x1).toNatClampNeg 0).toInt ≤ 5)) ∧ ((19 ≤ (10 + x1).toInt → (10 + x1).toInt ≤ 24 → (0 : Int) ≤ ((a76 118).getD (10 + x1).toNatClampNeg 0).toInt ∧ ((a76 118).getD (10 + x1).toNatClampNeg 0).toInt ≤ 7)) := kE_ncond (p := 118) hJ76.I (by decide) (j := (10 + x1)) (oh87 hp0.1 s77 koh10)
            have u79 : ((ag56 118).getD (10 + x1).toNatClampNeg 0).toInt = ((a50 118).getD (10 + x1).toNatClampNeg 0).toInt := congrArg (fun z : List Int32 => (z.getD (10 + x1).toNatClampNeg 0).toInt) (kg56.fa 118 rfl)
            have u80 : ((a62 118).getD (10 + x1).toNatClampNeg 0).toInt = ((ag56 118).getD (10 + x1).toNatClampNeg 0).toInt := congrArg Int32.toInt ((congrArg (fun z : List Int32 => z.getD (10 + x1).toNatClampNeg 0) ea62).trans (kgs_ne (oh87 hp0.1 s77 koh10) (oh37 r59.1 s61 koh19) (oh189 hp0.2 r59.1 s61 s77 koh19 koh10)))
            have u81 : ((a66 118).getD (10 + x1).toNatClampNeg 0).toInt = ((a62 118).getD (10 + x1).toNatClampNeg 0).toInt := congrArg Int32.toInt ((congrArg (fun z : List Int32 => z.getD (10 + x1).toNatClampNeg 0) ea66).trans (kgs_ne (oh87 hp0.1 s77 koh10) (oh48 r63.1 s65 koh25) (oh190 hp0.2 r63.1 s65 s77 koh25 koh10)))
            have u82 : ((a70 118).getD (10 + x1).toNatClampNeg 0).toInt = ((a66 118).getD (10 + x1).toNatClampNeg 0).toInt := congrArg Int32.toInt ((congrArg (fun z : List Int32 => z.getD (10 + x1).toNatClampNeg 0) ea70).trans (kgs_ne (oh87 hp0.1 s77 koh10) (oh4 koh18) (oh191 hp0.2 s77 koh10 koh18)))
            have u83 : ((a76 118).getD (10 + x1).toNatClampNeg 0).toInt = ((a70 118).getD (10 + x1).toNatClampNeg 0).toInt := congrArg Int32.toInt ((congrArg (fun z : List Int32 => z.getD (10 + x1).toNatClampNeg 0) ea76).trans (kgs_ne (oh87 hp0.1 s77 koh10) (oh93 koh9) (oh192 hp0.1 s77 koh10 koh9)))
            have b84 : ((-2147483648 : Int) ≤ ((a76 118).getD (10 + x1).toNatClampNeg 0).toInt) ∧ (((a76 118).getD (10 + x1).toNatClampNeg 0).toInt ≤ 2147483647) := kd_bd ((a76 118).getD (10 + x1).toNatClampNeg 0)
            refine ft_go mi_k166 2 146 [(2, .int ((a 118).getD x1.toNatClampNeg 0)), (0, .ref 116), (1, .int x1)] [.int (((a76 118).getD (10 + x1).toNatClampNeg 0) + 1), .int (10 + x1), .ref 118] (ku ig56 7466 vg56) a76 qg56 rg56 (by rfl) ?_
            refine ko_iast3 mi_k166.1 (n := 31) (c := 31) (ax := (0, 0, 0, 0, 0)) (mi_k166.2 _ _ (by rfl)) (by rfl) (ksG118 _ _ _ _) (ksA118 _ _ _ _) (hJ76.I.2.1 118) rfl (oh87 hp0.1 s77 koh10) (oh88 hp0.2 s77 koh10) ?_
            intro a85 ea85 fa85
            have hJ85 := kG_a3 hJ76 118 rfl ea85 fa85 (kE_nset (p := 118) (by decide) (oh87 hp0.1 s77 koh10) (oh193 hp0.2 s77 koh10) (oh194 hp0.2 s77 koh10))
            refine ft_go mi_k166 1 148 [(2, .int ((a 118).getD x1.toNatClampNeg 0)), (0, .ref 116), (1, .int x1)] [.int 1] (ku ig56 7466 vg56) a85 qg56 rg56 (by rfl) ?_
            exact ft_ret mi_k166 (by rfl) (hP 1 _ _ _ _ hJ85 ⟨(oh201 c48 koh0 koh1), ⟨(fun _ => (show a85 118 = sCome x1 (gBuy (i 7431) (a 120) (a 121) (a 122) (a 123) (i 7432) (a 117) (a 118) (gPaid (i 7426) x1 (a 118) (i 7467) (a 141)).1 x1) (gPaid (i 7426) x1 (a 118) (i 7467) (a 141)).1 from (by first | rfl | (simp only [ea85, ea76, ea70, ea66, ea62, q57, (hL50.fi 7431 rfl : i50 7431 = i 7431), hL50.fa 120 rfl, hL50.fa 121 rfl, hL50.fa 122 rfl, hL50.fa 123 rfl, hL50.fa 117 rfl, E55_0, (hL50.fi 7432 rfl : i50 7432 = i 7432), kg56.fa 118 rfl, sMn, sMx, gBuy, sCome, sC1, sC2, sC3, sC4, sC5]; done) | (simp only [ea85, ea76, ea70, ea66, ea62, q57, (hL50.fi 7431 rfl : i50 7431 = i 7431), hL50.fa 120 rfl, hL50.fa 121 rfl, hL50.fa 122 rfl, hL50.fa 123 rfl, hL50.fa 117 rfl, E55_0, (hL50.fi 7432 rfl : i50 7432 = i 7432), kg56.fa 118 rfl, sMn, sMx, gBuy, sCome, sC1, sC2, sC3, sC4, sC5]; rfl)))), (fun _ => (show ig56 7464 = (gPaid (i 7426) x1 (a 118) (i 7467) (a 141)).2.1 from (by first | rfl | (simp only [(kg56.fi 7464 rfl : ig56 7464 = i50 7464), E55_1, sMn, sMx, gBuy, sCome, sC1, sC2, sC3, sC4, sC5]; done) | (simp only [(kg56.fi 7464 rfl : ig56 7464 = i50 7464), E55_1, sMn, sMx, gBuy, sCome, sC1, sC2, sC3, sC4, sC5]; rfl)))), (fun _ => (show ig56 7465 = (gPaid (i 7426) x1 (a 118) (i 7467) (a 141)).2.2.1 from (by first | rfl | (simp only [(kg56.fi 7465 rfl : ig56 7465 = i50 7465), E55_2, sMn, sMx, gBuy, sCome, sC1, sC2, sC3, sC4, sC5]; done) | (simp only [(kg56.fi 7465 rfl : ig56 7465 = i50 7465), E55_2, sMn, sMx, gBuy, sCome, sC1, sC2, sC3, sC4, sC5]; rfl)))), (fun _ => (show vg56 = (gBuy (i 7431) (a 120) (a 121) (a 122) (a 123) (i 7432) (a 117) (a 118) (gPaid (i 7426) x1 (a 118) (i 7467) (a 141)).1 x1) from (by first | rfl | (simp only [q57, (hL50.fi 7431 rfl : i50 7431 = i 7431), hL50.fa 120 rfl, hL50.fa 121 rfl, hL50.fa 122 rfl, hL50.fa 123 rfl, hL50.fa 117 rfl, E55_0, (hL50.fi 7432 rfl : i50 7432 = i 7432), sMn, sMx, gBuy, sCome, sC1, sC2, sC3, sC4, sC5]; done) | (simp only [q57, (hL50.fi 7431 rfl : i50 7431 = i 7431), hL50.fa 120 rfl, hL50.fa 121 rfl, hL50.fa 122 rfl, hL50.fa 123 rfl, hL50.fa 117 rfl, E55_0, (hL50.fi 7432 rfl : i50 7432 = i 7432), sMn, sMx, gBuy, sCome, sC1, sC2, sC3, sC4, sC5]; rfl)))), (fun _ => (show ig56 7467 = (gPaid (i 7426) x1 (a 118) (i 7467) (a 141)).2.2.2.1 from (by first | rfl | (simp only [(kg56.fi 7467 rfl : ig56 7467 = i50 7467), E55_3, sMn, sMx, gBuy, sCome, sC1, sC2, sC3, sC4, sC5]; done) | (simp only [(kg56.fi 7467 rfl : ig56 7467 = i50 7467), E55_3, sMn, sMx, gBuy, sCome, sC1, sC2, sC3, sC4, sC5]; rfl)))), (fun _ => (show a85 141 = (gPaid (i 7426) x1 (a 118) (i 7467) (a 141)).2.2.2.2 from (by first | rfl | (simp only [fa85 141 (by decide), fa76 141 (by decide), fa70 141 (by decide), fa66 141 (by decide), fa62 141 (by decide), kg56.fa 141 rfl, E55_4, sMn, sMx, gBuy, sCome, sC1, sC2, sC3, sC4, sC5]; done) | (simp only [fa85 141 (by decide), fa76 141 (by decide), fa70 141 (by decide), fa66 141 (by decide), fa62 141 (by decide), kg56.fa 141 rfl, E55_4, sMn, sMx, gBuy, sCome, sC1, sC2, sC3, sC4, sC5]; rfl)))), (fun h => absurd h (oh202 c48 koh0)), (fun h => absurd h (oh202 c48 koh0)), (fun h => absurd h (oh202 c48 koh0)), (fun h => absurd h (oh202 c48 koh0)), (fun h => absurd h (oh202 c48 koh0)), (fun h => absurd h (oh202 c48 koh0))⟩⟩)
          ·
            have c86 : (i50 7426).toInt ≤ ((a50 118).getD (18 : Int32).toNatClampNeg 0).toInt := kd_ltF c; clear c
            refine ft_go mi_k166 2 61 [(2, .int ((a 118).getD x1.toNatClampNeg 0)), (0, .ref 116), (1, .int x1)] [.int x1, .ref 116] i50 a50 q50 r50 (by rfl) ?_
            refine ko_callN mi_k166.1 (pc := 61) (ls := [(2, .int ((a 118).getD x1.toNatClampNeg 0)), (0, .ref 116), (1, .int x1)]) (st := [.int x1, .ref 116]) (h := ks i50 a50 q50 r50) (i := (.invokevirtual 250, 3, 165, 0, 9, 0, 416)) (mi_k166.2 _ _ (by rfl)) (ft_invS mi_pq165 (by rfl)) (cy := mi_c165) mi_pq165 rfl (kf165_116 hL50.I hL50.R x1 (oh175 hp0.1 hp0.2) (oh197 c86 fi50_7426.1)) (by decide) ?_
            intro ig87 ag87 qg87 rg87 kg87 hg87
            have hGg87 := kG_call hL50 kg87 (by decide +kernel)
            obtain ⟨hg87, og87⟩ := hg87
            have r88 : ((0 : Int) ≤ ((ag87 118).getD (18 : Int32).toNatClampNeg 0).toInt) ∧ (((ag87 118).getD (18 : Int32).toNatClampNeg 0).toInt ≤ 5) := kE_n18 (p := 118) hGg87.I (by decide)
            have z89 : ((ag87 118).getD (18 : Int32).toNatClampNeg 0).toInt = (((a50 118).getD (18 : Int32).toNatClampNeg 0).toInt - 1) := hg87
            refine ft_go mi_k166 1 45 [(2, .int ((a 118).getD x1.toNatClampNeg 0)), (0, .ref 116), (1, .int x1)] [] ig87 ag87 qg87 rg87 (by rfl) ?_
            exact ih50 _ _ _ _ hGg87 (sP_again (S := (a50 118, i50 7464, i50 7465, i50 7467, a50 141)) (S1 := (ag87 118, ig87 7464, ig87 7465, ig87 7467, ag87 141)) O50_0 og87 (oh198 fi_7426.1) (oh103 c86 efi50_7426) (oh199 z89)) (kj_meas (oh200 z89) (oh197 c86 fi50_7426.1) hm50)
      exact lp50 _ _ _ _ _ (kG_self _ hJ3.I hJ3.R) rfl (Nat.lt_succ_self _)
    ·
      have c90 : (i 7427).toInt = (0 : Int32).toInt := kd_neF c; clear c
      refine ft_go mi_k166 1 37 [(0, .ref 116), (1, .int x1)] [.int 0] (ku (ku (ku i 7464 8) 7465 0) 7466 0) a q r (by rfl) ?_
      exact ft_ret mi_k166 (by rfl) (hP 0 _ _ _ _ hJ3 ⟨(oh203 c47 c90 koh1 koh0), ⟨(fun h => absurd h (oh204 c47 c90 koh1 koh0)), (fun h => absurd h (oh204 c47 c90 koh1 koh0)), (fun h => absurd h (oh204 c47 c90 koh1 koh0)), (fun h => absurd h (oh204 c47 c90 koh1 koh0)), (fun h => absurd h (oh204 c47 c90 koh1 koh0)), (fun h => absurd h (oh204 c47 c90 koh1 koh0)), (fun _ => (show a 118 = a 118 from rfl)), (fun _ => (show (8 : Int32) = 8 from (by first | rfl | (simp only [sMn, sMx, gBuy, sCome, sC1, sC2, sC3, sC4, sC5]; done) | (simp only [sMn, sMx, gBuy, sCome, sC1, sC2, sC3, sC4, sC5]; rfl)))), (fun _ => (show (0 : Int32) = 0 from (by first | rfl | (simp only [sMn, sMx, gBuy, sCome, sC1, sC2, sC3, sC4, sC5]; done) | (simp only [sMn, sMx, gBuy, sCome, sC1, sC2, sC3, sC4, sC5]; rfl)))), (fun _ => (show (0 : Int32) = 0 from (by first | rfl | (simp only [sMn, sMx, gBuy, sCome, sC1, sC2, sC3, sC4, sC5]; done) | (simp only [sMn, sMx, gBuy, sCome, sC1, sC2, sC3, sC4, sC5]; rfl)))), (fun _ => (show i 7467 = i 7467 from rfl)), (fun _ => (show a 141 = a 141 from rfl))⟩⟩)
