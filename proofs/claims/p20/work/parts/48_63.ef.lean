theorem kofm1 : ((-1) : Int32).toInt = (-1) := by decide
theorem kof0 : (0 : Int32).toInt = 0 := by decide
theorem kof1 : (1 : Int32).toInt = 1 := by decide
theorem kof10 : (10 : Int32).toInt = 10 := by decide
theorem kof100 : (100 : Int32).toInt = 100 := by decide
theorem kof6 : (6 : Int32).toInt = 6 := by decide
theorem kof12 : (12 : Int32).toInt = 12 := by decide
theorem kof8 : (8 : Int32).toInt = 8 := by decide
theorem kof31 : (31 : Int32).toInt = 31 := by decide
theorem kof64 : (64 : Int32).toInt = 64 := by decide
theorem kof20 : (20 : Int32).toInt = 20 := by decide
theorem kof10000 : (10000 : Int32).toInt = 10000 := by decide
theorem kof30 : (30 : Int32).toInt = 30 := by decide
theorem of0 {a0 a1 : Int} (h0 : a0 ≤ a1) (h1 : a0 = 31) : 31 ≤ a1 := by omega
theorem of1 {a0 a1 : Int} (h0 : a0 = 0) (h1 : (0 : Int) ≤ a1) : (-2147483648 : Int) ≤ a0 + a1 := oz226 h0 h1
theorem of2 {a0 a1 a2 : Int} (h0 : a0 < a1) (h1 : a2 = 0) (h2 : a1 = 31) : a2 + a0 ≤ 2147483647 := oz227 h0 h1 h2
theorem of3 {a0 : Int} (h0 : (0 : Int) ≤ a0) : (0 : Int) ≤ a0 := oz3 h0
theorem of4 {a0 a1 : Int} (h0 : a0 < a1) (h1 : a1 = 31) : a0 < 31 := oz228 h0 h1
theorem of5 {a0 a1 a2 : Int} (h0 : a0 = 0) (h1 : (0 : Int) ≤ a1) (h2 : a2 = a0 + a1) : (0 : Int) ≤ a2 := oz229 h0 h1 h2
theorem of6 {a0 a1 a2 a3 : Int} (h0 : a0 < a1) (h1 : a2 = 0) (h2 : a3 = a2 + a0) (h3 : a1 = 31) : a3 < 31 := oz230 h0 h1 h2 h3
theorem of7 {a0 a1 a2 a3 : Int} (h0 : a0 = 0) (h1 : (a1 = 18 → (0 : Int) ≤ a2 ∧ a2 ≤ 5)) (h2 : a3 = a0 + a1) : a3 = 18 → (0 : Int) ≤ a2 ∧ a2 ≤ 5 := oz231 h0 h1 h2
theorem of8 {a0 a1 a2 a3 : Int} (h0 : a0 = 0) (h1 : (19 ≤ a1 → a1 ≤ 24 → (0 : Int) ≤ a2 ∧ a2 ≤ 7)) (h2 : a3 = a0 + a1) : 19 ≤ a3 → a3 ≤ 24 → (0 : Int) ≤ a2 ∧ a2 ≤ 7 := oz232 h0 h1 h2
theorem of9 {a0 a1 : Int} (h0 : (0 : Int) ≤ a0) (h1 : a1 = 1) : (-2147483648 : Int) ≤ a0 + a1 := oz12 h0 h1
theorem of10 {a0 a1 a2 : Int} (h0 : a0 < a1) (h1 : a1 = 31) (h2 : a2 = 1) : a0 + a2 ≤ 2147483647 := oz233 h0 h1 h2
theorem of11 {a0 a1 a2 : Int} (h0 : (0 : Int) ≤ a0) (h1 : a1 = a0 + a2) (h2 : a2 = 1) : (0 : Int) ≤ a1 := oz14 h0 h1 h2
theorem of12 {a0 a1 a2 : Int} (h0 : a0 = 0) (h1 : a1 = a0 + a2) : a1 = ((0 : Nat) : Int) + a2 := by omega
theorem of13 {a0 : Int}  : a0 = a0 := oz34
theorem of14 {a0 a1 a2 : Int} (h0 : a0 = a1 + a2) (h1 : a2 = 1) : a0 = a1 + 1 := oz169 h0 h1
theorem of15 {a0 a1 a2 : Int} (h0 : a0 = a1 + a2) (h1 : a2 = 1) : (31 - a0) < (31 - a1) := oz234 h0 h1
theorem of16 {a0 a1 : Int} (h0 : a0 < a1) (h1 : a1 = 31) : (1 : Int) ≤ (31 - a0) := oz235 h0 h1
theorem of17 {a0 : Int} (h0 : a0 = 0) : (0 : Int) ≤ a0 := oz46 h0
theorem of18 {a0 a1 a2 a3 : Int} (h0 : a0 = 0) (h1 : (a1 = 18 → (0 : Int) ≤ a2 ∧ a2 ≤ 5)) (h2 : a1 = a0 + a3) : a3 = 18 → (0 : Int) ≤ a2 ∧ a2 ≤ 5 := oz383 h0 h1 h2
theorem of19 {a0 a1 a2 a3 : Int} (h0 : a0 = 0) (h1 : (19 ≤ a1 → a1 ≤ 24 → (0 : Int) ≤ a2 ∧ a2 ≤ 7)) (h2 : a1 = a0 + a3) : 19 ≤ a3 → a3 ≤ 24 → (0 : Int) ≤ a2 ∧ a2 ≤ 7 := oz384 h0 h1 h2
theorem of20 {a0 : Int} (h0 : a0 = 0) : a0 = 0 := oz236 h0
theorem of21 {a0 a1 : Int} (h0 : a0 < a1) (h1 : a1 = 64) : a0 < 64 := oz237 h0 h1
theorem of22 {a0 a1 a2 : Int} (h0 : a0 < a1) (h1 : a1 = 64) (h2 : a2 = 1) : a0 + a2 ≤ 2147483647 := oz238 h0 h1 h2
theorem of23 {a0 a1 a2 : Int} (h0 : a0 = a1 + a2) (h1 : a2 = 1) : (64 - a0) < (64 - a1) := oz239 h0 h1
theorem of24 {a0 a1 : Int} (h0 : a0 < a1) (h1 : a1 = 64) : (1 : Int) ≤ (64 - a0) := oz240 h0 h1
theorem of30 {a0 : Int} (h0 : a0 ≤ 5) : a0 < 6 := oz19 h0
theorem of34 {a0 : Int} (h0 : (0 : Int) ≤ a0) (h1 : a0 ≤ 5) : ((0 : Int) ≤ a0) ∧ (a0 ≤ 5) := oz35 h0 h1
theorem of59 {a0 : Int} (h0 : a0 ≤ 20) : a0 < 21 := oz222 h0
theorem of66 {a0 a1 : Int} (h0 : a0 ≤ 8) (h1 : a1 < a0) : a1 < 31 := oz385 h0 h1
theorem of70 {a0 a1 : Int} (h0 : a0 ≤ a1) (h1 : a0 = 0) : (0 : Int) ≤ a1 := oz389 h0 h1
theorem of71 {a0 a1 : Int} (h0 : a0 < a1) (h1 : a1 ≤ 21) : a0 < 21 := oz241 h0 h1
theorem of72 {a0 : Int} (h0 : a0 ≤ 7) : a0 < 31 := oz65 h0
theorem of73 {a0 a1 : Int} (h0 : a0 < a1) (h1 : (0 : Int) ≤ a0) (h2 : a1 ≤ 60) : ((0 : Int) ≤ a0) ∧ (a0 ≤ 59) := oz506 h0 h1 h2
theorem of74 {a0 a1 a2 : Int} (h0 : a0 < a1) (h1 : a1 ≤ 60) (h2 : a2 = 1) : a0 + a2 ≤ 2147483647 := oz307 h0 h1 h2
theorem of75 {a0 a1 a2 : Int} (h0 : a0 = a1 + a2) (h1 : a2 = 1) : (60 - a0) < (60 - a1) := oz507 h0 h1
theorem of76 {a0 a1 : Int} (h0 : a0 < a1) (h1 : a1 ≤ 60) : (1 : Int) ≤ (60 - a0) := oz508 h0 h1
theorem of77 {a0 a1 : Int} (h0 : a0 ≠ a1) (h1 : a0 = a1) (h2 : a1 = (-1)) : False := oz390 h0 h1 h2
theorem of78 {a0 a1 a2 : Int} (h0 : a0 ≤ a1) (h1 : a1 = 0) (h2 : a2 = 1) : a0 + a2 ≤ 2147483647 := oz391 h0 h1 h2
theorem of79 {a0 a1 a2 a3 : Int} (h0 : a0 = a1 + a2) (h1 : a2 = 1) : (a3 - a0) < (a3 - a1) := oz44 h0 h1
theorem of80 {a0 a1 : Int} (h0 : a0 < a1) : (1 : Int) ≤ (a1 - a0) := oz45 h0
theorem of95 {a0 a1 a2 : Int} (h0 : a0 < a1) (h1 : a0 = 0) (h2 : a2 = 1) : (-2147483648 : Int) ≤ a1 + a2 := oz402 h0 h1 h2
theorem of96 {a0 a1 a2 a3 : Int} (h0 : a0 < a1) (h1 : a1 ≤ a2) (h2 : a2 = 20) (h3 : a3 = 1) : a0 + a3 ≤ 2147483647 := oz403 h0 h1 h2 h3
theorem of97 {a0 a1 a2 a3 : Int} (h0 : a0 < a1) (h1 : a2 = a1 + a3) (h2 : a0 = 0) (h3 : a3 = 1) : (0 : Int) ≤ a2 := oz404 h0 h1 h2 h3
theorem of98 {a0 a1 : Int} (h0 : a0 = a1) (h1 : (0 : Int) ≤ a0) (h2 : a1 = (-1)) : False := oz405 h0 h1 h2
theorem of100 {a0 : Int} (h0 : a0 ≤ 7) : a0 ≤ 7 := oz407 h0
theorem of115 {a0 a1 : Int} (h0 : a0 ≤ a1) : a0 ≤ a1 := oz173 h0
theorem of118 {a0 a1 : Int} (h0 : a0 ≤ 8) (h1 : (0 : Int) ≤ a1) (h2 : a1 < a0) : ((0 : Int) ≤ a1) ∧ (a1 ≤ 7) := oz423 h0 h1 h2
theorem of126 {a0 a1 a2 : Int} (h0 : a0 = a1) (h1 : (0 : Int) ≤ a2) (h2 : a1 = (a2 + 1)) : (1 : Int) ≤ a0 := oz429 h0 h1 h2
theorem of127 {a0 a1 a2 : Int} (h0 : a0 ≤ a1) (h1 : a1 ≤ 21) (h2 : a2 = 1) : a0 + a2 ≤ 2147483647 := oz430 h0 h1 h2
theorem of129 {a0 : Int} (h0 : a0 ≤ 19) : a0 ≤ 19 := oz432 h0
theorem of130 {a0 a1 a2 a3 : Int} (h0 : a0 = a1 + a2) (h1 : a2 = 1) : ((a3 + 1) - a0) < ((a3 + 1) - a1) := oz433 h0 h1
theorem of131 {a0 a1 : Int} (h0 : a0 ≤ a1) : (1 : Int) ≤ ((a1 + 1) - a0) := oz434 h0
theorem of132 {a0 a1 : Int} (h0 : a0 ≠ a1) (h1 : a0 ≤ 20) (h2 : a1 = 20) : a0 ≤ 19 := oz435 h0 h1 h2
theorem of133 {a0 a1 a2 : Int} (h0 : a0 ≤ a1) (h1 : (0 : Int) ≤ a0) (h2 : a1 = a2) : ((0 : Int) ≤ a0) ∧ (a0 ≤ a2) := oz436 h0 h1 h2
theorem of134 {a0 a1 : Int} (h0 : a0 = a1) (h1 : a0 ≤ 19) : a1 ≤ 20 := oz437 h0 h1
theorem of135 {a0 a1 a2 a3 a4 : Int} (h0 : a0 = a1) (h1 : a2 = a3) (h2 : a1 = (a3 + 1)) (h3 : a4 = (a0 - 1)) : a2 = a4 := oz438 h0 h1 h2 h3
theorem of137 {a0 : Int} (h0 : a0 ≤ 19) : a0 ≤ 20 := oz440 h0
theorem of138 {a0 a1 : Int} (h0 : a0 < a1) (h1 : a1 ≤ 8) (h2 : (0 : Int) ≤ a0) : ((0 : Int) ≤ a0) ∧ (a0 ≤ 7) := oz441 h0 h1 h2
theorem of139 {a0 a1 a2 : Int} (h0 : a0 < a1) (h1 : a1 ≤ 8) (h2 : a2 = 1) : a0 + a2 ≤ 2147483647 := oz442 h0 h1 h2
theorem of140 {a0 a1 a2 a3 : Int} (h0 : a0 = a1) (h1 : a2 ≤ 19) (h2 : a1 = (a2 + 1)) (h3 : a3 = (a0 - 1)) : a3 ≤ 19 := oz443 h0 h1 h2 h3
theorem of142 {a0 a1 a2 a3 a4 a5 a6 : Int} (h0 : a0 = a1) (h1 : a2 = a0) (h2 : a3 = a2) (h3 : a4 = a5 + a6) (h4 : a6 = 1) : (a3 - a4) < (a1 - a5) := oz445 h0 h1 h2 h3 h4
theorem of143 {a0 a1 a2 : Int} (h0 : a0 ≤ a1) (h1 : a1 ≤ a2) (h2 : a0 = 0) : ((0 : Int) ≤ a1) ∧ (a1 ≤ a2) := oz446 h0 h1 h2
theorem of144 {a0 a1 a2 a3 a4 : Int} (h0 : a0 = a1) (h1 : a2 ≤ a3) (h2 : a1 = (a3 + 1)) (h3 : a4 = (a0 - 1)) : a2 ≤ a4 := oz447 h0 h1 h2 h3
theorem of145 {a0 a1 : Int} (h0 : a0 ≤ 20) (h1 : a1 = 1) : a0 + a1 ≤ 2147483647 := oz448 h0 h1
theorem of149 {a0 a1 a2 a3 : Int} (h0 : a0 < a1) (h1 : a1 ≤ 21) (h2 : (0 : Int) ≤ a2) (h3 : a0 = a2 + a3) (h4 : a3 = 1) : ((0 : Int) ≤ a2) ∧ (a2 ≤ 19) := oz452 h0 h1 h2 h3 h4
theorem of150 {a0 a1 a2 a3 : Int} (h0 : a0 < a1) (h1 : a1 ≤ 21) (h2 : (0 : Int) ≤ a2) (h3 : a0 = a2 + a3) (h4 : a3 = 1) : ((0 : Int) ≤ a0) ∧ (a0 ≤ 20) := oz453 h0 h1 h2 h3 h4
theorem of151 {a0 a1 a2 a3 : Int} (h0 : a0 = a1) (h1 : a2 = a0) (h2 : a3 = a2) (h3 : a1 ≤ 20) : a3 ≤ 20 := oz454 h0 h1 h2 h3
theorem of152 {a0 a1 a2 a3 : Int} (h0 : a0 < a1) (h1 : a0 = a2 + a3) (h2 : a3 = 1) : (1 : Int) ≤ (a1 - a2) := oz455 h0 h1 h2
theorem of153 {a0 : Int} (h0 : a0 = 0) : ((0 : Int) ≤ a0) ∧ (a0 ≤ 20) := oz456 h0
theorem of154 {a0 a1 : Int} (h0 : a0 = a1) (h1 : a1 ≤ 20) : a0 ≤ 20 := oz457 h0 h1
theorem of160 {a0 : Int} (h0 : a0 = 0) : ((0 : Int) ≤ a0) ∧ (a0 ≤ 7) := oz463 h0
theorem of161 {a0 a1 : Int} (h0 : a0 = (a1 / 10)) (h1 : (0 : Int) ≤ a1) : (-2147483648 : Int) ≤ 8 * a0 := oz464 h0 h1
theorem of162 {a0 a1 a2 : Int} (h0 : a0 ≤ 8) (h1 : a1 = (a2 / 10)) (h2 : (a2 / 10) < a0) (h3 : (a2 % 10) < a0) (h4 : (a2 / 10) ≠ (a2 % 10)) : 8 * a1 ≤ 2147483647 := oz465 h0 h1 h2 h3 h4
theorem of163 {a0 a1 a2 a3 : Int} (h0 : a0 = (a1 / 10)) (h1 : a2 = 8 * a0) (h2 : a3 = (a1 % 10)) (h3 : (0 : Int) ≤ a1) : (-2147483648 : Int) ≤ a2 + a3 := oz466 h0 h1 h2 h3
theorem of164 {a0 a1 a2 a3 a4 : Int} (h0 : a0 ≤ 8) (h1 : a1 = (a2 / 10)) (h2 : a3 = 8 * a1) (h3 : a4 = (a2 % 10)) (h4 : (a2 / 10) < a0) (h5 : (a2 % 10) < a0) (h6 : (a2 / 10) ≠ (a2 % 10)) : a3 + a4 ≤ 2147483647 := oz467 h0 h1 h2 h3 h4 h5 h6
theorem of165 {a0 a1 a2 a3 a4 : Int} (h0 : a0 = (a1 / 10)) (h1 : a2 = 8 * a0) (h2 : a3 = (a1 % 10)) (h3 : a4 = a2 + a3) (h4 : (0 : Int) ≤ a1) : (0 : Int) ≤ a4 := oz468 h0 h1 h2 h3 h4
theorem of166 {a0 a1 a2 a3 a4 a5 : Int} (h0 : a0 ≤ 8) (h1 : a1 = (a2 / 10)) (h2 : a3 = 8 * a1) (h3 : a4 = (a2 % 10)) (h4 : a5 = a3 + a4) (h5 : (a2 / 10) < a0) (h6 : (a2 % 10) < a0) (h7 : (a2 / 10) ≠ (a2 % 10)) : a5 < 64 := oz469 h0 h1 h2 h3 h4 h5 h6 h7
theorem of187 {a0 : Int} (h0 : (1 : Int) ≤ a0) : (0 : Int) ≤ a0 := oz489 h0
theorem of188 {a0 a1 : Int} (h0 : a0 < a1) (h1 : a1 ≤ 8) : a0 < 31 := oz490 h0 h1
theorem of189 {a0 a1 : Int} (h0 : (1 : Int) ≤ a0) (h1 : a1 = 1) : (-2147483648 : Int) ≤ a0 + a1 := oz491 h0 h1
theorem of190 {a0 : Int} (h0 : (0 : Int) ≤ a0) (h1 : a0 ≤ 7) : ((0 : Int) ≤ a0) ∧ (a0 ≤ 7) := oz181 h0 h1
theorem of191 {a0 a1 a2 : Int} (h0 : (1 : Int) ≤ a0) (h1 : a1 = a0 + a2) (h2 : a2 = 1) : (1 : Int) ≤ a1 := oz492 h0 h1 h2
theorem of192 {a0 a1 : Int} (h0 : a0 < a1) (h1 : a1 ≤ 8) (h2 : (1 : Int) ≤ a0) : ((0 : Int) ≤ a0) ∧ (a0 ≤ 7) := oz493 h0 h1 h2
theorem of193 {a0 : Int} (h0 : a0 = 1) : (1 : Int) ≤ a0 := oz494 h0
theorem of202 {a0 : Int} (h0 : (0 : Int) ≤ (a0 / 10)) (h1 : (a0 / 10) ≤ 5) : ((0 : Int) ≤ (a0 / 10)) ∧ ((a0 / 10) ≤ 5) := oz503 h0 h1
theorem of203 {a0 : Int} (h0 : (a0 % 10) ≤ 5) : (a0 % 10) ≤ 5 := oz504 h0
theorem of204 {a0 a1 : Int} (h0 : a0 = (a1 / 10)) (h1 : (0 : Int) ≤ a1) (h2 : (a1 / 10) ≤ 5) (h3 : (a1 % 10) ≤ 5) : ((0 : Int) ≤ a0) ∧ (a0 ≤ 5) := oz505 h0 h1 h2 h3
theorem of205 {a0 a1 : Int} (h0 : a0 = (a1 % 10)) (h1 : (a1 % 10) ≤ 5) : ((0 : Int) ≤ a0) ∧ (a0 ≤ 5) := oz509 h0 h1
theorem of206 {a0 a1 : Int} (h0 : a0 < a1) (h1 : a1 ≤ 8) : a0 ≤ 7 := oz512 h0 h1
theorem of207 {a0 a1 a2 a3 a4 : Int} (h0 : a0 = a1) (h1 : a2 = a3 + a4) (h2 : a4 = 1) : (a0 - a2) < (a1 - a3) := oz308 h0 h1 h2
theorem of208 {a0 a1 : Int} (h0 : a0 < a1) (h1 : a1 ≤ 8) : a0 ≤ 8 := oz513 h0 h1
theorem of209 {a0 a1 a2 : Int} (h0 : a0 ≤ a1) (h1 : a2 = (a1 / 100)) (h2 : a0 = 0) : (0 : Int) ≤ a2 := oz535 h0 h1 h2
theorem of210 {a0 a1 : Int} (h0 : a0 = a1) (h1 : a0 ≠ a1) (h2 : a1 = (-1)) : False := oz536 h0 h1 h2
theorem of211 {a0 a1 a2 a3 : Int} (h0 : a0 < a1) (h1 : a1 ≤ a2) (h2 : a2 = 30) (h3 : a3 = 1) : a0 + a3 ≤ 2147483647 := oz537 h0 h1 h2 h3
theorem of212 {a0 a1 a2 : Int} (h0 : a0 < a1) (h1 : a1 ≤ a2) (h2 : a2 = 30) : (1 : Int) ≤ (31 - a0) := oz538 h0 h1 h2
theorem of213 {a0 a1 a2 : Int} (h0 : a0 < a1) (h1 : a2 = a1) (h2 : a0 = 0) : a2 ≠ 0 := oz539 h0 h1 h2
theorem of214 {a0 a1 a2 : Int} (h0 : a0 < a1) (h1 : a2 = a1) (h2 : a0 = 0) : (1 : Int) ≤ a2 := oz540 h0 h1 h2
theorem of215 {a0 a1 a2 a3 : Int} (h0 : a0 < a1) (h1 : a1 = (a2 % 100)) (h2 : a3 = 1) : a0 + a3 ≤ 2147483647 := oz541 h0 h1 h2
theorem of216 {a0 a1 a2 : Int} (h0 : a0 = a1 + a2) (h1 : a2 = 1) : (100 - a0) < (100 - a1) := oz542 h0 h1
theorem of217 {a0 a1 a2 : Int} (h0 : a0 < a1) (h1 : a1 = (a2 % 100)) : (1 : Int) ≤ (100 - a0) := oz543 h0 h1
theorem of218 {a0 a1 a2 a3 : Int} (h0 : a0 < a1) (h1 : a2 = a1) (h2 : a3 = a2) (h3 : a0 = 0) : a3 ≠ 0 := oz544 h0 h1 h2 h3
theorem of219 {a0 a1 a2 a3 : Int} (h0 : a0 < a1) (h1 : a2 = a1) (h2 : a3 = a2) (h3 : a0 = 0) : (1 : Int) ≤ a3 := oz545 h0 h1 h2 h3
theorem of220 {a0 a1 a2 a3 a4 : Int} (h0 : a0 ≤ a1) (h1 : a0 = a2) (h2 : a2 = a3) (h3 : (0 : Int) ≤ a4) (h4 : a4 < a3) (h5 : a1 = 0) : False := oz546 h0 h1 h2 h3 h4 h5
theorem of221 {a0 : Int} (h0 : (1 : Int) ≤ a0) : (1 : Int) ≤ a0 := oz526 h0
theorem of222 {a0 : Int} (h0 : a0 ≤ 5) : a0 ≤ 5 := oz527 h0
theorem of223 {a0 a1 : Int} (h0 : a0 < a1) (h1 : a1 = 6) : a0 ≤ 5 := oz528 h0 h1
theorem of224 {a0 a1 a2 : Int} (h0 : a0 < a1) (h1 : a1 = 6) (h2 : a2 = 1) : a0 + a2 ≤ 2147483647 := oz529 h0 h1 h2
theorem of225 {a0 a1 a2 : Int} (h0 : a0 = a1 + a2) (h1 : a2 = 1) : (6 - a0) < (6 - a1) := oz530 h0 h1
theorem of226 {a0 a1 : Int} (h0 : a0 < a1) (h1 : a1 = 6) : (1 : Int) ≤ (6 - a0) := oz531 h0 h1
theorem of227 {a0 a1 : Int} (h0 : a0 < a1) (h1 : a1 = 6) : a0 ≤ 8 := oz532 h0 h1
def yw168_116_139 : kW := ([], [139], [], [])
def yw168_116_139_L2 : kW := ([], [139], [], [])
set_option maxRecDepth 100000 in
theorem ke168_116_139 {i : Nat → Int32} {a : Nat → List Int32} {q : Nat → List Int64} {r : Nat → Nat} (hI : kI i a q) (hr : kr r) (x2 : Int32) (hp0 : x2.toInt = 0) : km 1 168 [.ref 116, .ref 139, .int x2] (ks i a q r) (kVN yw168_116_139 i a q r (fun i1 a1 q1 r1 => (True) ∧ a1 139 = a 118)) := by
  have hG := kG_self yw168_116_139 hI hr
  refine km_ofN (q := (mi_h168, mi_c168)) rfl (by decide) (Nat.le_of_ble_eq_true rfl) ?_
  intro P hP
  refine ft_go mi_k168 2 2 [(3, .int 0), (0, .ref 116), (1, .ref 139), (2, .int x2)] [] i a q r (by rfl) ?_
  have lp1 : ∀ (nz : Nat) (i1 : Nat → Int32) (a1 : Nat → List Int32) (q1 : Nat → List Int64) (r1 : Nat → Nat) (l3_1 : Int32), kG yw168_116_139_L2 i a q r i1 a1 q1 r1 → (0 : Int) ≤ l3_1.toInt → kCopd (a1 139) (a 118) 0 l3_1.toInt → ((31 - l3_1.toInt)).toNat < nz → ko 1 (mi_h168, mi_c168) P (2, [(3, .int l3_1), (0, .ref 116), (1, .ref 139), (2, .int x2)], [], (0, 0), ks i1 a1 q1 r1) := by
    intro nz
    induction nz with
    | zero =>
      intro _ _ _ _ _ _ _ _ hm
      exact absurd hm (Nat.not_lt_zero _)
    | succ nz ih1 =>
      intro i1 a1 q1 r1 l3_1 hL1 p1_0 O1_0 hm1
      refine ft_go mi_k168 2 5 [(3, .int l3_1), (0, .ref 116), (1, .ref 139), (2, .int x2)] [.int 31, .int l3_1] i1 a1 q1 r1 (by rfl) ?_
      refine ft_if mi_k168 (decide (31 ≤ l3_1)) 25 8 [(3, .int l3_1), (0, .ref 116), (1, .ref 139), (2, .int x2)] [] (by rfl) (fun c => ?_) (fun c => ?_)
      ·
        have c2 : (31 : Int32).toInt ≤ l3_1.toInt := kd_le c; clear c
        have hG3 := kG_call hG hL1 (by decide +kernel)
        exact ft_ret mi_k168 (by rfl) (hP  _ _ _ _ hG3 ⟨trivial, (show a1 139 = a 118 from (kCopd_end O1_0 (hG3.I.2.1 139) (hG.I.2.1 118) (of0 c2 kof31)))⟩)
      ·
        have c4 : l3_1.toInt < (31 : Int32).toInt := kd_leF c; clear c
        have s5 : (x2 + l3_1).toInt = x2.toInt + l3_1.toInt := kd_add (of1 hp0 p1_0) (of2 c4 hp0 kof31)
        refine ft_go mi_k168 7 17 [(3, .int l3_1), (0, .ref 116), (1, .ref 139), (2, .int x2)] [.int l3_1, .ref 118, .int (x2 + l3_1), .ref 139] i1 a1 q1 r1 (by rfl) ?_
        refine ko_iald3 mi_k168.1 (n := 31) (c := 31) (ax := (0, 0, 0, 0, 0)) (mi_k168.2 _ _ (by rfl)) (by rfl) (ksG118 _ _ _ _) (hL1.I.2.1 118) rfl (of3 p1_0) (of4 c4 kof31) ?_
        have r6 : ((l3_1.toInt = 18 → (0 : Int) ≤ ((a1 118).getD l3_1.toNatClampNeg 0).toInt ∧ ((a1 118).getD l3_1.toNatClampNeg 0).toInt ≤ 5)) ∧ ((19 ≤ l3_1.toInt → l3_1.toInt ≤ 24 → (0 : Int) ≤ ((a1 118).getD l3_1.toNatClampNeg 0).toInt ∧ ((a1 118).getD l3_1.toNatClampNeg 0).toInt ≤ 7)) := kE_ncond (p := 118) hL1.I (by decide) (j := l3_1) (of3 p1_0)
        have u7 : ((a1 118).getD l3_1.toNatClampNeg 0).toInt = ((a 118).getD l3_1.toNatClampNeg 0).toInt := congrArg (fun z : List Int32 => (z.getD l3_1.toNatClampNeg 0).toInt) (hL1.fa 118 rfl)
        refine ko_iast3 mi_k168.1 (n := 31) (c := 31) (ax := (0, 0, 0, 0, 0)) (mi_k168.2 _ _ (by rfl)) (by rfl) (ksG139 _ _ _ _) (ksA139 _ _ _ _) (hL1.I.2.1 139) rfl (of5 hp0 p1_0 s5) (of6 c4 hp0 s5 kof31) ?_
        intro a8 ea8 fa8
        have hJ8 := kG_a3 hL1 139 rfl ea8 fa8 (kE_nset (p := 139) (by decide) (of5 hp0 p1_0 s5) (of7 hp0 r6.1 s5) (of8 hp0 r6.2 s5))
        have s9 : (l3_1 + 1).toInt = l3_1.toInt + (1 : Int32).toInt := kd_add (of9 p1_0 kof1) (of10 c4 kof31 kof1)
        refine ft_go mi_k168 2 2 [(3, .int (l3_1 + 1)), (0, .ref 116), (1, .ref 139), (2, .int x2)] [] i1 a8 q1 r1 (by rfl) ?_
        exact ih1 _ _ _ _ _ hJ8 (of11 p1_0 s9 kof1) (kCopd_step O1_0 (hL1.I.2.1 139) (of3 p1_0) (of4 c4 kof31) (of12 hp0 s5) of13 (of6 c4 hp0 s5 kof31) (of14 s9 kof1) (hL1.fa 118 rfl) ea8 rfl) (kj_meas (of15 s9 kof1) (of16 c4 kof31) hm1)
  exact lp1 _ _ _ _ _ _ (kG_self _ hG.I hG.R) (of17 kof0) (kCopd_zero kof0) (Nat.lt_succ_self _)
def yw169_116_139 : kW := ([], [118], [], [])
def yw169_116_139_L2 : kW := ([], [118], [], [])
set_option maxRecDepth 100000 in
theorem ke169_116_139 {i : Nat → Int32} {a : Nat → List Int32} {q : Nat → List Int64} {r : Nat → Nat} (hI : kI i a q) (hr : kr r) (x2 : Int32) (hp0 : x2.toInt = 0) : km 1 169 [.ref 116, .ref 139, .int x2] (ks i a q r) (kVN yw169_116_139 i a q r (fun i1 a1 q1 r1 => (True) ∧ a1 118 = a 139)) := by
  have hG := kG_self yw169_116_139 hI hr
  refine km_ofN (q := (mi_h169, mi_c169)) rfl (by decide) (Nat.le_of_ble_eq_true rfl) ?_
  intro P hP
  refine ft_go mi_k169 2 2 [(3, .int 0), (0, .ref 116), (1, .ref 139), (2, .int x2)] [] i a q r (by rfl) ?_
  have lp1 : ∀ (nz : Nat) (i1 : Nat → Int32) (a1 : Nat → List Int32) (q1 : Nat → List Int64) (r1 : Nat → Nat) (l3_1 : Int32), kG yw169_116_139_L2 i a q r i1 a1 q1 r1 → (0 : Int) ≤ l3_1.toInt → kCopb (a1 118) (a 139) 0 l3_1.toInt → ((31 - l3_1.toInt)).toNat < nz → ko 1 (mi_h169, mi_c169) P (2, [(3, .int l3_1), (0, .ref 116), (1, .ref 139), (2, .int x2)], [], (0, 0), ks i1 a1 q1 r1) := by
    intro nz
    induction nz with
    | zero =>
      intro _ _ _ _ _ _ _ _ hm
      exact absurd hm (Nat.not_lt_zero _)
    | succ nz ih1 =>
      intro i1 a1 q1 r1 l3_1 hL1 p1_0 O1_0 hm1
      refine ft_go mi_k169 2 5 [(3, .int l3_1), (0, .ref 116), (1, .ref 139), (2, .int x2)] [.int 31, .int l3_1] i1 a1 q1 r1 (by rfl) ?_
      refine ft_if mi_k169 (decide (31 ≤ l3_1)) 25 8 [(3, .int l3_1), (0, .ref 116), (1, .ref 139), (2, .int x2)] [] (by rfl) (fun c => ?_) (fun c => ?_)
      ·
        have c2 : (31 : Int32).toInt ≤ l3_1.toInt := kd_le c; clear c
        have hG3 := kG_call hG hL1 (by decide +kernel)
        exact ft_ret mi_k169 (by rfl) (hP  _ _ _ _ hG3 ⟨trivial, (show a1 118 = a 139 from (kCopb_end O1_0 (hG3.I.2.1 118) (hG.I.2.1 139) (of0 c2 kof31)))⟩)
      ·
        have c4 : l3_1.toInt < (31 : Int32).toInt := kd_leF c; clear c
        have s5 : (x2 + l3_1).toInt = x2.toInt + l3_1.toInt := kd_add (of1 hp0 p1_0) (of2 c4 hp0 kof31)
        refine ft_go mi_k169 7 17 [(3, .int l3_1), (0, .ref 116), (1, .ref 139), (2, .int x2)] [.int (x2 + l3_1), .ref 139, .int l3_1, .ref 118] i1 a1 q1 r1 (by rfl) ?_
        refine ko_iald3 mi_k169.1 (n := 31) (c := 31) (ax := (0, 0, 0, 0, 0)) (mi_k169.2 _ _ (by rfl)) (by rfl) (ksG139 _ _ _ _) (hL1.I.2.1 139) rfl (of5 hp0 p1_0 s5) (of6 c4 hp0 s5 kof31) ?_
        have r6 : (((x2 + l3_1).toInt = 18 → (0 : Int) ≤ ((a1 139).getD (x2 + l3_1).toNatClampNeg 0).toInt ∧ ((a1 139).getD (x2 + l3_1).toNatClampNeg 0).toInt ≤ 5)) ∧ ((19 ≤ (x2 + l3_1).toInt → (x2 + l3_1).toInt ≤ 24 → (0 : Int) ≤ ((a1 139).getD (x2 + l3_1).toNatClampNeg 0).toInt ∧ ((a1 139).getD (x2 + l3_1).toNatClampNeg 0).toInt ≤ 7)) := kE_ncond (p := 139) hL1.I (by decide) (j := (x2 + l3_1)) (of5 hp0 p1_0 s5)
        refine ko_iast3 mi_k169.1 (n := 31) (c := 31) (ax := (0, 0, 0, 0, 0)) (mi_k169.2 _ _ (by rfl)) (by rfl) (ksG118 _ _ _ _) (ksA118 _ _ _ _) (hL1.I.2.1 118) rfl (of3 p1_0) (of4 c4 kof31) ?_
        intro a7 ea7 fa7
        have hJ7 := kG_a3 hL1 118 rfl ea7 fa7 (kE_nset (p := 118) (by decide) (of3 p1_0) (of18 hp0 r6.1 s5) (of19 hp0 r6.2 s5))
        have s8 : (l3_1 + 1).toInt = l3_1.toInt + (1 : Int32).toInt := kd_add (of9 p1_0 kof1) (of10 c4 kof31 kof1)
        refine ft_go mi_k169 2 2 [(3, .int (l3_1 + 1)), (0, .ref 116), (1, .ref 139), (2, .int x2)] [] i1 a7 q1 r1 (by rfl) ?_
        exact ih1 _ _ _ _ _ hJ7 (of11 p1_0 s8 kof1) (kCopb_step O1_0 (hL1.I.2.1 118) (of3 p1_0) (of4 c4 kof31) (of12 hp0 s5) of13 (of4 c4 kof31) (of14 s8 kof1) (hL1.fa 139 rfl) ea7 rfl) (kj_meas (of15 s8 kof1) (of16 c4 kof31) hm1)
  exact lp1 _ _ _ _ _ _ (kG_self _ hG.I hG.R) (of17 kof0) (kCopb_zero kof0) (Nat.lt_succ_self _)
def yw171_116 : kW := ([7467], [139, 141], [], [])
def yw171_116_L16 : kW := ([], [141], [], [])
set_option maxRecDepth 100000 in
theorem ke171_116 {i : Nat → Int32} {a : Nat → List Int32} {q : Nat → List Int64} {r : Nat → Nat} (hI : kI i a q) (hr : kr r)  : km 3 171 [.ref 116] (ks i a q r) (kVN yw171_116 i a q r (fun i1 a1 q1 r1 => (True) ∧ (a1 139 = a 118 ∧ a1 118 = a 118))) := by
  have hG := kG_self yw171_116 hI hr
  refine km_ofN (q := (mi_h171, mi_c171)) rfl (by decide) (Nat.le_of_ble_eq_true rfl) ?_
  intro P hP
  refine ft_go mi_k171 4 6 [(0, .ref 116)] [.int 0, .ref 139, .ref 116] i a q r (by rfl) ?_
  refine ko_callN mi_k171.1 (pc := 6) (ls := [(0, .ref 116)]) (st := [.int 0, .ref 139, .ref 116]) (h := ks i a q r) (i := (.invokevirtual 263, 3, 168, 0, 9, 0, 413)) (mi_k171.2 _ _ (by rfl)) (ft_invS mi_pq168 (by rfl)) (cy := mi_c168) mi_pq168 rfl (ke168_116_139 hG.I hG.R 0 (of20 kof0)) (by decide) ?_
  intro ig1 ag1 qg1 rg1 kg1 hg1
  have hGg1 := kG_call hG kg1 (by decide +kernel)
  obtain ⟨hg1, og1⟩ := hg1
  have q2 : ag1 139 = a 118 := og1
  have hJ3 := kG_i hGg1 7467 rfl (v := 0) (kd_bd _)
  refine ft_go mi_k171 5 16 [(1, .int 0), (0, .ref 116)] [] (ku ig1 7467 0) ag1 qg1 rg1 (by rfl) ?_
  have lp4 : ∀ (nz : Nat) (i4 : Nat → Int32) (a4 : Nat → List Int32) (q4 : Nat → List Int64) (r4 : Nat → Nat) (l1_4 : Int32), kG yw171_116_L16 (ku ig1 7467 0) ag1 qg1 rg1 i4 a4 q4 r4 → (0 : Int) ≤ l1_4.toInt → a4 139 = a 118 → a4 118 = a 118 → ((64 - l1_4.toInt)).toNat < nz → ko 3 (mi_h171, mi_c171) P (16, [(1, .int l1_4), (0, .ref 116)], [], (0, 0), ks i4 a4 q4 r4) := by
    intro nz
    induction nz with
    | zero =>
      intro _ _ _ _ _ _ _ _ _ hm
      exact absurd hm (Nat.not_lt_zero _)
    | succ nz ih4 =>
      intro i4 a4 q4 r4 l1_4 hL4 p4_0 O4_0 O4_1 hm4
      refine ft_go mi_k171 2 19 [(1, .int l1_4), (0, .ref 116)] [.int 64, .int l1_4] i4 a4 q4 r4 (by rfl) ?_
      refine ft_if mi_k171 (decide (64 ≤ l1_4)) 35 22 [(1, .int l1_4), (0, .ref 116)] [] (by rfl) (fun c => ?_) (fun c => ?_)
      ·
        have c5 : (64 : Int32).toInt ≤ l1_4.toInt := kd_le c; clear c
        have hG6 := kG_call hJ3 hL4 (by decide +kernel)
        exact ft_ret mi_k171 (by rfl) (hP  _ _ _ _ hG6 ⟨trivial, ⟨(show a4 139 = a 118 from (by first | rfl | (simp only [O4_0, sMn, sMx]; done) | (simp only [O4_0, sMn, sMx]; rfl))), (show a4 118 = a 118 from (by first | rfl | (simp only [O4_1, sMn, sMx]; done) | (simp only [O4_1, sMn, sMx]; rfl)))⟩⟩)
      ·
        have c7 : l1_4.toInt < (64 : Int32).toInt := kd_leF c; clear c
        refine ft_go mi_k171 4 28 [(1, .int l1_4), (0, .ref 116)] [.int 0, .int l1_4, .ref 141] i4 a4 q4 r4 (by rfl) ?_
        refine ko_iast3 mi_k171.1 (n := 64) (c := 64) (ax := (0, 0, 0, 0, 0)) (mi_k171.2 _ _ (by rfl)) (by rfl) (ksG141 _ _ _ _) (ksA141 _ _ _ _) (hL4.I.2.1 141) rfl (of3 p4_0) (of21 c7 kof64) ?_
        intro a8 ea8 fa8
        have hJ8 := kG_a3 hL4 141 rfl ea8 fa8 (kd_bd _)
        have s9 : (l1_4 + 1).toInt = l1_4.toInt + (1 : Int32).toInt := kd_add (of9 p4_0 kof1) (of22 c7 kof64 kof1)
        refine ft_go mi_k171 2 16 [(1, .int (l1_4 + 1)), (0, .ref 116)] [] i4 a8 q4 r4 (by rfl) ?_
        exact ih4 _ _ _ _ _ hJ8 (of11 p4_0 s9 kof1) (by first | rfl | (simp only [fa8 139 (by decide), O4_0, sMn, sMx]; done) | (simp only [fa8 139 (by decide), O4_0, sMn, sMx]; rfl)) (by first | rfl | (simp only [fa8 118 (by decide), O4_1, sMn, sMx]; done) | (simp only [fa8 118 (by decide), O4_1, sMn, sMx]; rfl)) (kj_meas (of23 s9 kof1) (of24 c7 kof64) hm4)
  exact lp4 _ _ _ _ _ _ (kG_self _ hJ3.I hJ3.R) (of17 kof0) (by first | rfl | (simp only [q2, sMn, sMx]; done) | (simp only [q2, sMn, sMx]; rfl)) (by first | rfl | (simp only [kg1.fa 118 rfl, sMn, sMx]; done) | (simp only [kg1.fa 118 rfl, sMn, sMx]; rfl)) (Nat.lt_succ_self _)
def yw172_116 : kW := ([7464, 7465, 7466, 7467], [118, 128, 129, 139, 141, 143, 144, 145], [], [])
set_option maxRecDepth 100000 in
theorem ke172_116 {i : Nat → Int32} {a : Nat → List Int32} {q : Nat → List Int64} {r : Nat → Nat} (hI : kI i a q) (hr : kr r) (x1 : Int32) (hp0 : ((0 : Int) ≤ x1.toInt) ∧ (x1.toInt ≤ 7)) (hE_code : kCode i a) : km 13 172 [.ref 116, .int x1] (ks i a q r) (kVI yw172_116 i a q r (fun v i1 a1 q1 r1 => (True) ∧ a1 118 = a 118)) := by
  have hG := kG_self yw172_116 hI hr
  refine km_ofI (q := (mi_h172, mi_c172)) rfl (by decide) (Nat.le_of_ble_eq_true rfl) ?_
  intro P hP
  refine ft_go mi_k172 1 1 [(0, .ref 116), (1, .int x1)] [.ref 116] i a q r (by rfl) ?_
  refine ko_callN mi_k172.1 (pc := 1) (ls := [(0, .ref 116), (1, .int x1)]) (st := [.ref 116]) (h := ks i a q r) (i := (.invokevirtual 267, 3, 171, 0, 9, 0, 412)) (mi_k172.2 _ _ (by rfl)) (ft_invS mi_pq171 (by rfl)) (cy := mi_c171) mi_pq171 rfl (ke171_116 hG.I hG.R ) (by decide) ?_
  intro ig1 ag1 qg1 rg1 kg1 hg1
  have hGg1 := kG_call hG kg1 (by decide +kernel)
  obtain ⟨hg1, og1⟩ := hg1
  have q2 : ag1 139 = a 118 := og1.1
  have q3 : ag1 118 = a 118 := og1.2
  refine ft_go mi_k172 1 5 [(0, .ref 116), (1, .int x1)] [.ref 116] ig1 ag1 qg1 rg1 (by rfl) ?_
  refine ko_callN mi_k172.1 (pc := 5) (ls := [(0, .ref 116), (1, .int x1)]) (st := [.ref 116]) (h := ks ig1 ag1 qg1 rg1) (i := (.invokevirtual 270, 3, 170, 0, 9, 0, 414)) (mi_k172.2 _ _ (by rfl)) (ft_invS mi_pq170 (by rfl)) (cy := mi_c170) mi_pq170 rfl (kc170_116 hGg1.I hGg1.R (kCode_of (i1 := ig1) hE_code (hGg1.fi 7432 rfl) (hGg1.fa 120 rfl) (hGg1.fa 121 rfl) (hGg1.fa 122 rfl) (hGg1.fa 123 rfl))) (by decide) ?_
  intro ig4 ag4 qg4 rg4 kg4 hg4
  have hGg4 := kG_call hGg1 kg4 (by decide +kernel)
  refine ft_go mi_k172 3 13 [(0, .ref 116), (1, .int x1)] [.int x1, .ref 118] ig4 ag4 qg4 rg4 (by rfl) ?_
  refine ko_iald3 mi_k172.1 (n := 31) (c := 31) (ax := (0, 0, 0, 0, 0)) (mi_k172.2 _ _ (by rfl)) (by rfl) (ksG118 _ _ _ _) (hGg4.I.2.1 118) rfl (of3 hp0.1) (of72 hp0.2) ?_
  have r5 : ((x1.toInt = 18 → (0 : Int) ≤ ((ag4 118).getD x1.toNatClampNeg 0).toInt ∧ ((ag4 118).getD x1.toNatClampNeg 0).toInt ≤ 5)) ∧ ((19 ≤ x1.toInt → x1.toInt ≤ 24 → (0 : Int) ≤ ((ag4 118).getD x1.toNatClampNeg 0).toInt ∧ ((ag4 118).getD x1.toNatClampNeg 0).toInt ≤ 7)) := kE_ncond (p := 118) hGg4.I (by decide) (j := x1) (of3 hp0.1)
  refine ft_go mi_k172 5 21 [(2, .int ((ag4 118).getD x1.toNatClampNeg 0)), (0, .ref 116), (1, .int x1)] [.int 0, .ref 139, .ref 116] ig4 ag4 qg4 rg4 (by rfl) ?_
  refine ko_callN mi_k172.1 (pc := 21) (ls := [(2, .int ((ag4 118).getD x1.toNatClampNeg 0)), (0, .ref 116), (1, .int x1)]) (st := [.int 0, .ref 139, .ref 116]) (h := ks ig4 ag4 qg4 rg4) (i := (.invokevirtual 273, 3, 169, 0, 9, 0, 423)) (mi_k172.2 _ _ (by rfl)) (ft_invS mi_pq169 (by rfl)) (cy := mi_c169) mi_pq169 rfl (ke169_116_139 hGg4.I hGg4.R 0 (of20 kof0)) (by decide) ?_
  intro ig6 ag6 qg6 rg6 kg6 hg6
  have hGg6 := kG_call hGg4 kg6 (by decide +kernel)
  obtain ⟨hg6, og6⟩ := hg6
  have q7 : ag6 118 = ag4 139 := og6
  refine ft_go mi_k172 1 25 [(2, .int ((ag4 118).getD x1.toNatClampNeg 0)), (0, .ref 116), (1, .int x1)] [.int ((ag4 118).getD x1.toNatClampNeg 0)] ig6 ag6 qg6 rg6 (by rfl) ?_
  exact ft_ret mi_k172 (by rfl) (hP ((ag4 118).getD x1.toNatClampNeg 0) _ _ _ _ hGg6 ⟨trivial, (show ag6 118 = a 118 from (by first | rfl | (simp only [q7, kg4.fa 139 rfl, q2, sMn, sMx]; done) | (simp only [q7, kg4.fa 139 rfl, q2, sMn, sMx]; rfl)))⟩)
def yw192_116 : kW := ([7464, 7465, 7466, 7467], [118, 128, 129, 139, 141, 143, 144, 145], [], [])
set_option maxRecDepth 100000 in
theorem ke192_116 {i : Nat → Int32} {a : Nat → List Int32} {q : Nat → List Int64} {r : Nat → Nat} (hI : kI i a q) (hr : kr r) (x1 : Int32) (hp0 : ((0 : Int) ≤ x1.toInt) ∧ (x1.toInt ≤ 5)) (hE_code : kCode i a) : km 13 192 [.ref 116, .int x1] (ks i a q r) (kVI yw192_116 i a q r (fun v i1 a1 q1 r1 => (True) ∧ a1 118 = a 118)) := by
  have hG := kG_self yw192_116 hI hr
  refine km_ofI (q := (mi_h192, mi_c192)) rfl (by decide) (Nat.le_of_ble_eq_true rfl) ?_
  intro P hP
  refine ft_go mi_k192 1 1 [(0, .ref 116), (1, .int x1)] [.ref 116] i a q r (by rfl) ?_
  refine ko_callN mi_k192.1 (pc := 1) (ls := [(0, .ref 116), (1, .int x1)]) (st := [.ref 116]) (h := ks i a q r) (i := (.invokevirtual 267, 3, 171, 0, 9, 0, 412)) (mi_k192.2 _ _ (by rfl)) (ft_invS mi_pq171 (by rfl)) (cy := mi_c171) mi_pq171 rfl (ke171_116 hG.I hG.R ) (by decide) ?_
  intro ig1 ag1 qg1 rg1 kg1 hg1
  have hGg1 := kG_call hG kg1 (by decide +kernel)
  obtain ⟨hg1, og1⟩ := hg1
  have q2 : ag1 139 = a 118 := og1.1
  have q3 : ag1 118 = a 118 := og1.2
  refine ft_go mi_k192 1 5 [(0, .ref 116), (1, .int x1)] [.ref 116] ig1 ag1 qg1 rg1 (by rfl) ?_
  refine ko_callN mi_k192.1 (pc := 5) (ls := [(0, .ref 116), (1, .int x1)]) (st := [.ref 116]) (h := ks ig1 ag1 qg1 rg1) (i := (.invokevirtual 270, 3, 170, 0, 9, 0, 414)) (mi_k192.2 _ _ (by rfl)) (ft_invS mi_pq170 (by rfl)) (cy := mi_c170) mi_pq170 rfl (kc170_116 hGg1.I hGg1.R (kCode_of (i1 := ig1) hE_code (hGg1.fi 7432 rfl) (hGg1.fa 120 rfl) (hGg1.fa 121 rfl) (hGg1.fa 122 rfl) (hGg1.fa 123 rfl))) (by decide) ?_
  intro ig4 ag4 qg4 rg4 kg4 hg4
  have hGg4 := kG_call hGg1 kg4 (by decide +kernel)
  refine ft_go mi_k192 4 14 [(0, .ref 116), (1, .int x1)] [.int 0, .ref 139, .ref 116] ig4 ag4 qg4 rg4 (by rfl) ?_
  refine ko_callN mi_k192.1 (pc := 14) (ls := [(0, .ref 116), (1, .int x1)]) (st := [.int 0, .ref 139, .ref 116]) (h := ks ig4 ag4 qg4 rg4) (i := (.invokevirtual 273, 3, 169, 0, 9, 0, 423)) (mi_k192.2 _ _ (by rfl)) (ft_invS mi_pq169 (by rfl)) (cy := mi_c169) mi_pq169 rfl (ke169_116_139 hGg4.I hGg4.R 0 (of20 kof0)) (by decide) ?_
  intro ig5 ag5 qg5 rg5 kg5 hg5
  have hGg5 := kG_call hGg4 kg5 (by decide +kernel)
  obtain ⟨hg5, og5⟩ := hg5
  have q6 : ag5 118 = ag4 139 := og5
  refine ft_go mi_k192 2 19 [(2, .int 0), (0, .ref 116), (1, .int x1)] [] ig5 ag5 qg5 rg5 (by rfl) ?_
  have lp7 : ∀ (nz : Nat) (l2_7 : Int32), (0 : Int) ≤ l2_7.toInt → ag5 118 = a 118 → ((60 - l2_7.toInt)).toNat < nz → ko 13 (mi_h192, mi_c192) P (19, [(2, .int l2_7), (0, .ref 116), (1, .int x1)], [], (0, 0), ks ig5 ag5 qg5 rg5) := by
    intro nz
    induction nz with
    | zero =>
      intro _ _ _ hm
      exact absurd hm (Nat.not_lt_zero _)
    | succ nz ih7 =>
      intro l2_7 p7_0 O7_0 hm7
      refine ft_go mi_k192 4 25 [(2, .int l2_7), (0, .ref 116), (1, .int x1)] [.int x1, .ref 137, .int l2_7] ig5 ag5 qg5 rg5 (by rfl) ?_
      refine ko_iald3 mi_k192.1 (n := 6) (c := 6) (ax := (0, 0, 0, 0, 0)) (mi_k192.2 _ _ (by rfl)) (by rfl) (ksG137 _ _ _ _) (hGg5.I.2.1 137) rfl (of3 hp0.1) (of30 hp0.2) ?_
      have r8 : ((0 : Int) ≤ ((ag5 137).getD x1.toNatClampNeg 0).toInt) ∧ (((ag5 137).getD x1.toNatClampNeg 0).toInt ≤ 60) := hGg5.I.2.2.1 137 (x1.toNatClampNeg)
      refine ft_if mi_k192 (decide (((ag5 137).getD x1.toNatClampNeg 0) ≤ l2_7)) 71 29 [(2, .int l2_7), (0, .ref 116), (1, .int x1)] [] (by rfl) (fun c => ?_) (fun c => ?_)
      ·
        have c9 : ((ag5 137).getD x1.toNatClampNeg 0).toInt ≤ l2_7.toInt := kd_le c; clear c
        refine ft_go mi_k192 1 73 [(2, .int l2_7), (0, .ref 116), (1, .int x1)] [.int (-2)] ig5 ag5 qg5 rg5 (by rfl) ?_
        exact ft_ret mi_k192 (by rfl) (hP (-2) _ _ _ _ hGg5 ⟨trivial, (show ag5 118 = a 118 from (by first | rfl | (simp only [q6, kg4.fa 139 rfl, q2, sMn, sMx]; done) | (simp only [q6, kg4.fa 139 rfl, q2, sMn, sMx]; rfl)))⟩)
      ·
        have c10 : l2_7.toInt < ((ag5 137).getD x1.toNatClampNeg 0).toInt := kd_leF c; clear c
        have fig5_7469 : ((0 : Int) ≤ (ig5 7469).toInt) ∧ ((ig5 7469).toInt ≤ 21) := hGg5.I.1 7469
        refine ft_go mi_k192 3 34 [(2, .int l2_7), (0, .ref 116), (1, .int x1)] [.int (ig5 7469), .int l2_7] ig5 ag5 qg5 rg5 (by rfl) ?_
        refine ft_if mi_k192 (decide ((ig5 7469) ≤ l2_7)) 63 37 [(2, .int l2_7), (0, .ref 116), (1, .int x1)] [] (by rfl) (fun c => ?_) (fun c => ?_)
        ·
          have c11 : (ig5 7469).toInt ≤ l2_7.toInt := kd_le c; clear c
          refine ft_go mi_k192 1 64 [(2, .int l2_7), (0, .ref 116), (1, .int x1)] [.int l2_7] ig5 ag5 qg5 rg5 (by rfl) ?_
          exact ft_ret mi_k192 (by rfl) (hP l2_7 _ _ _ _ hGg5 ⟨trivial, (show ag5 118 = a 118 from (by first | rfl | (simp only [q6, kg4.fa 139 rfl, q2, sMn, sMx]; done) | (simp only [q6, kg4.fa 139 rfl, q2, sMn, sMx]; rfl)))⟩)
        ·
          have c12 : l2_7.toInt < (ig5 7469).toInt := kd_leF c; clear c
          refine ft_go mi_k192 3 40 [(2, .int l2_7), (0, .ref 116), (1, .int x1)] [.int l2_7, .int x1, .ref 116] ig5 ag5 qg5 rg5 (by rfl) ?_
          refine ko_callPI mi_k192.1 (pc := 40) (ls := [(2, .int l2_7), (0, .ref 116), (1, .int x1)]) (st := [.int l2_7, .int x1, .ref 116]) (h := ks ig5 ag5 qg5 rg5) (i := (.invokevirtual 133, 3, 137, 0, 9, 0, 384)) (mi_k192.2 _ _ (by rfl)) (ft_invS mi_pq137 (by rfl)) (cy := mi_c137) mi_pq137 rfl (kc137_116 hGg5.I hGg5.R x1 l2_7 (of34 hp0.1 hp0.2) (of73 c10 p7_0 r8.2)) (by decide) ?_
          intro vg13 hg13
          refine ft_go mi_k192 1 45 [(2, .int l2_7), (0, .ref 116), (1, .int x1)] [.int 9, .int vg13] ig5 ag5 qg5 rg5 (by rfl) ?_
          refine ft_if mi_k192 (vg13 == 9) 65 48 [(2, .int l2_7), (0, .ref 116), (1, .int x1)] [] (by rfl) (fun c => ?_) (fun c => ?_)
          ·
            have c15 : vg13.toInt = (9 : Int32).toInt := kd_eq c; clear c
            have s16 : (l2_7 + 1).toInt = l2_7.toInt + (1 : Int32).toInt := kd_add (of9 p7_0 kof1) (of74 c10 r8.2 kof1)
            refine ft_go mi_k192 2 19 [(2, .int (l2_7 + 1)), (0, .ref 116), (1, .int x1)] [] ig5 ag5 qg5 rg5 (by rfl) ?_
            exact ih7 _ (of11 p7_0 s16 kof1) (by first | rfl | (simp only [q6, kg4.fa 139 rfl, q2, sMn, sMx]; done) | (simp only [q6, kg4.fa 139 rfl, q2, sMn, sMx]; rfl)) (kj_meas (of75 s16 kof1) (of76 c10 r8.2) hm7)
          ·
            have c17 : vg13.toInt ≠ (9 : Int32).toInt := kd_eqF c; clear c
            refine ft_go mi_k192 3 51 [(2, .int l2_7), (0, .ref 116), (1, .int x1)] [.int l2_7, .int x1, .ref 116] ig5 ag5 qg5 rg5 (by rfl) ?_
            refine ko_callPI mi_k192.1 (pc := 51) (ls := [(2, .int l2_7), (0, .ref 116), (1, .int x1)]) (st := [.int l2_7, .int x1, .ref 116]) (h := ks ig5 ag5 qg5 rg5) (i := (.invokevirtual 133, 3, 137, 0, 9, 0, 384)) (mi_k192.2 _ _ (by rfl)) (ft_invS mi_pq137 (by rfl)) (cy := mi_c137) mi_pq137 rfl (kc137_116 hGg5.I hGg5.R x1 l2_7 (of34 hp0.1 hp0.2) (of73 c10 p7_0 r8.2)) (by decide) ?_
            intro vg18 hg18
            refine ft_go mi_k192 3 59 [(2, .int l2_7), (0, .ref 116), (1, .int x1)] [.int l2_7, .ref 143, .int vg18] ig5 ag5 qg5 rg5 (by rfl) ?_
            refine ko_iald3 mi_k192.1 (n := 21) (c := 21) (ax := (0, 0, 0, 0, 0)) (mi_k192.2 _ _ (by rfl)) (by rfl) (ksG143 _ _ _ _) (hGg5.I.2.1 143) rfl (of3 p7_0) (of71 c12 fig5_7469.2) ?_
            refine ft_if mi_k192 (vg18 == ((ag5 143).getD l2_7.toNatClampNeg 0)) 65 63 [(2, .int l2_7), (0, .ref 116), (1, .int x1)] [] (by rfl) (fun c => ?_) (fun c => ?_)
            ·
              have c20 : vg18.toInt = ((ag5 143).getD l2_7.toNatClampNeg 0).toInt := kd_eq c; clear c
              have s21 : (l2_7 + 1).toInt = l2_7.toInt + (1 : Int32).toInt := kd_add (of9 p7_0 kof1) (of74 c10 r8.2 kof1)
              refine ft_go mi_k192 2 19 [(2, .int (l2_7 + 1)), (0, .ref 116), (1, .int x1)] [] ig5 ag5 qg5 rg5 (by rfl) ?_
              exact ih7 _ (of11 p7_0 s21 kof1) (by first | rfl | (simp only [q6, kg4.fa 139 rfl, q2, sMn, sMx]; done) | (simp only [q6, kg4.fa 139 rfl, q2, sMn, sMx]; rfl)) (kj_meas (of75 s21 kof1) (of76 c10 r8.2) hm7)
            ·
              have c22 : vg18.toInt ≠ ((ag5 143).getD l2_7.toNatClampNeg 0).toInt := kd_eqF c; clear c
              refine ft_go mi_k192 1 64 [(2, .int l2_7), (0, .ref 116), (1, .int x1)] [.int l2_7] ig5 ag5 qg5 rg5 (by rfl) ?_
              exact ft_ret mi_k192 (by rfl) (hP l2_7 _ _ _ _ hGg5 ⟨trivial, (show ag5 118 = a 118 from (by first | rfl | (simp only [q6, kg4.fa 139 rfl, q2, sMn, sMx]; done) | (simp only [q6, kg4.fa 139 rfl, q2, sMn, sMx]; rfl)))⟩)
  exact lp7 _ _ (of17 kof0) (by first | rfl | (simp only [q6, kg4.fa 139 rfl, q2, sMn, sMx]; done) | (simp only [q6, kg4.fa 139 rfl, q2, sMn, sMx]; rfl)) (Nat.lt_succ_self _)
def yw177_116 : kW := ([7464, 7465, 7466, 7467, 7469], [118, 128, 129, 139, 141, 142, 143, 144, 145], [], [])
def yw177_116_L59 : kW := ([7464, 7465, 7466, 7467], [118, 128, 129, 141, 143, 144, 145], [], [])
set_option maxRecDepth 100000 in
theorem ke177_116 {i : Nat → Int32} {a : Nat → List Int32} {q : Nat → List Int64} {r : Nat → Nat} (hI : kI i a q) (hr : kr r) (x1 : Int32) (x2 : Int32) (x3 : Int32) (hE_code : kCode i a) : km 13 177 [.ref 116, .int x1, .int x2, .int x3] (ks i a q r) (kVI yw177_116 i a q r (fun v i1 a1 q1 r1 => (True) ∧ a1 118 = a 118)) := by
  have hG := kG_self yw177_116 hI hr
  refine km_ofI (q := (mi_h177, mi_c177)) rfl (by decide) (Nat.le_of_ble_eq_true rfl) ?_
  intro P hP
  refine ft_go mi_k177 1 1 [(0, .ref 116), (1, .int x1), (2, .int x2), (3, .int x3)] [.int x1] i a q r (by rfl) ?_
  refine ko_callPI mi_k177.1 (pc := 1) (ls := [(0, .ref 116), (1, .int x1), (2, .int x2), (3, .int x3)]) (st := [.int x1]) (h := ks i a q r) (i := (.invokestatic 127, 3, 133, 0, 9, 0, 382)) (mi_k177.2 _ _ (by rfl)) (ft_invS mi_pq133 (by rfl)) (cy := mi_c133) mi_pq133 rfl (kc133 hG.I hG.R x1) (by decide) ?_
  intro vg1 hg1
  rcases hg1 with ⟨eg1, hg1⟩ | ⟨eg1, hg1⟩
  ·
    subst eg1
    have z2 : ((0 : Int) ≤ x1.toInt) ∧ (x1.toInt ≤ 5) := hg1
    refine ft_go mi_k177 4 11 [(0, .ref 116), (1, .int x1), (2, .int x2), (3, .int x3)] [.int 20, .int 0, .int x2] i a q r (by rfl) ?_
    refine ko_callPI mi_k177.1 (pc := 11) (ls := [(0, .ref 116), (1, .int x1), (2, .int x2), (3, .int x3)]) (st := [.int 20, .int 0, .int x2]) (h := ks i a q r) (i := (.invokestatic 119, 3, 131, 0, 9, 0, 379)) (mi_k177.2 _ _ (by rfl)) (ft_invS mi_pq131 (by rfl)) (cy := mi_c131) mi_pq131 rfl (kc131 hG.I hG.R x2 0 20) (by decide) ?_
    intro vg3 hg3
    rcases hg3 with ⟨eg3, hg3⟩ | ⟨eg3, hg3⟩
    ·
      subst eg3
      have z4 : ((0 : Int32).toInt ≤ x2.toInt) ∧ (x2.toInt ≤ (20 : Int32).toInt) := hg3
      refine ft_go mi_k177 3 19 [(0, .ref 116), (1, .int x1), (2, .int x2), (3, .int x3)] [.int (-1), .int x3] i a q r (by rfl) ?_
      refine ft_if mi_k177 (x3 == (-1)) 32 22 [(0, .ref 116), (1, .int x1), (2, .int x2), (3, .int x3)] [] (by rfl) (fun c => ?_) (fun c => ?_)
      ·
        have c5 : x3.toInt = ((-1) : Int32).toInt := kd_eq c; clear c
        refine ft_go mi_k177 2 34 [(0, .ref 116), (1, .int x1), (2, .int x2), (3, .int x3)] [.int x1, .ref 116] i a q r (by rfl) ?_
        refine ko_callPI mi_k177.1 (pc := 34) (ls := [(0, .ref 116), (1, .int x1), (2, .int x2), (3, .int x3)]) (st := [.int x1, .ref 116]) (h := ks i a q r) (i := (.invokevirtual 276, 3, 173, 0, 9, 0, 410)) (mi_k177.2 _ _ (by rfl)) (ft_invS mi_pq173 (by rfl)) (cy := mi_c173) mi_pq173 rfl (kc173_116 hG.I hG.R x1 (of34 z2.1 z2.2)) (by decide) ?_
        intro vg6 hg6
        refine ft_go mi_k177 2 41 [(4, .int vg6), (0, .ref 116), (1, .int x1), (2, .int x2), (3, .int x3)] [.int vg6] i a q r (by rfl) ?_
        refine ft_if mi_k177 (decide (0 ≤ vg6)) 47 44 [(4, .int vg6), (0, .ref 116), (1, .int x1), (2, .int x2), (3, .int x3)] [] (by rfl) (fun c => ?_) (fun c => ?_)
        ·
          have c8 : (0 : Int32).toInt ≤ vg6.toInt := kd_le c; clear c
          refine ft_go mi_k177 2 49 [(4, .int vg6), (0, .ref 116), (1, .int x1), (2, .int x2), (3, .int x3)] [.int x1, .ref 116] i a q r (by rfl) ?_
          refine ko_callN mi_k177.1 (pc := 49) (ls := [(4, .int vg6), (0, .ref 116), (1, .int x1), (2, .int x2), (3, .int x3)]) (st := [.int x1, .ref 116]) (h := ks i a q r) (i := (.invokevirtual 279, 3, 174, 0, 9, 0, 411)) (mi_k177.2 _ _ (by rfl)) (ft_invS mi_pq174 (by rfl)) (cy := mi_c174) mi_pq174 rfl (kc174_116 hG.I hG.R x1 (of34 z2.1 z2.2)) (by decide) ?_
          intro ig9 ag9 qg9 rg9 kg9 hg9
          have hGg9 := kG_call hG kg9 (by decide +kernel)
          refine ft_go mi_k177 1 53 [(4, .int vg6), (0, .ref 116), (1, .int x1), (2, .int x2), (3, .int x3)] [.ref 116] ig9 ag9 qg9 rg9 (by rfl) ?_
          refine ko_callN mi_k177.1 (pc := 53) (ls := [(4, .int vg6), (0, .ref 116), (1, .int x1), (2, .int x2), (3, .int x3)]) (st := [.ref 116]) (h := ks ig9 ag9 qg9 rg9) (i := (.invokevirtual 267, 3, 171, 0, 9, 0, 412)) (mi_k177.2 _ _ (by rfl)) (ft_invS mi_pq171 (by rfl)) (cy := mi_c171) mi_pq171 rfl (ke171_116 hGg9.I hGg9.R ) (by decide) ?_
          intro ig11 ag11 qg11 rg11 kg11 hg11
          have hGg11 := kG_call hGg9 kg11 (by decide +kernel)
          obtain ⟨hg11, og11⟩ := hg11
          have q12 : ag11 139 = ag9 118 := og11.1
          have q13 : ag11 118 = ag9 118 := og11.2
          refine ft_go mi_k177 2 59 [(5, .int 0), (4, .int vg6), (0, .ref 116), (1, .int x1), (2, .int x2), (3, .int x3)] [] ig11 ag11 qg11 rg11 (by rfl) ?_
          have lp14 : ∀ (nz : Nat) (i14 : Nat → Int32) (a14 : Nat → List Int32) (q14 : Nat → List Int64) (r14 : Nat → Nat) (l5_14 : Int32), kG yw177_116_L59 ig11 ag11 qg11 rg11 i14 a14 q14 r14 → (0 : Int) ≤ l5_14.toInt → a14 139 = a 118 → ((x2.toInt - l5_14.toInt)).toNat < nz → ko 13 (mi_h177, mi_c177) P (59, [(5, .int l5_14), (4, .int vg6), (0, .ref 116), (1, .int x1), (2, .int x2), (3, .int x3)], [], (0, 0), ks i14 a14 q14 r14) := by
            intro nz
            induction nz with
            | zero =>
              intro _ _ _ _ _ _ _ _ hm
              exact absurd hm (Nat.not_lt_zero _)
            | succ nz ih14 =>
              intro i14 a14 q14 r14 l5_14 hL14 p14_0 O14_0 hm14
              refine ft_go mi_k177 2 62 [(5, .int l5_14), (4, .int vg6), (0, .ref 116), (1, .int x1), (2, .int x2), (3, .int x3)] [.int x2, .int l5_14] i14 a14 q14 r14 (by rfl) ?_
              refine ft_if mi_k177 (decide (x2 ≤ l5_14)) 84 65 [(5, .int l5_14), (4, .int vg6), (0, .ref 116), (1, .int x1), (2, .int x2), (3, .int x3)] [] (by rfl) (fun c => ?_) (fun c => ?_)
              ·
                have c15 : x2.toInt ≤ l5_14.toInt := kd_le c; clear c
                have hG16 := kG_call hGg11 hL14 (by decide +kernel)
                refine ft_go mi_k177 2 86 [(5, .int l5_14), (4, .int vg6), (0, .ref 116), (1, .int x1), (2, .int x2), (3, .int x3)] [.int (-1), .int x3] i14 a14 q14 r14 (by rfl) ?_
                refine ft_if mi_k177 (x3 != (-1)) 96 89 [(5, .int l5_14), (4, .int vg6), (0, .ref 116), (1, .int x1), (2, .int x2), (3, .int x3)] [] (by rfl) (fun c => ?_) (fun c => ?_)
                ·
                  have c17 : x3.toInt ≠ ((-1) : Int32).toInt := kd_ne c; clear c
                  exact (of77 c17 c5 kofm1).elim
                ·
                  have c18 : x3.toInt = ((-1) : Int32).toInt := kd_neF c; clear c
                  refine ft_go mi_k177 8 110 [(5, .int (i14 7467)), (4, .int vg6), (0, .ref 116), (1, .int x1), (2, .int x2), (3, .int x3)] [.int 0, .ref 139, .ref 116] i14 a14 q14 r14 (by rfl) ?_
                  refine ko_callN mi_k177.1 (pc := 110) (ls := [(5, .int (i14 7467)), (4, .int vg6), (0, .ref 116), (1, .int x1), (2, .int x2), (3, .int x3)]) (st := [.int 0, .ref 139, .ref 116]) (h := ks i14 a14 q14 r14) (i := (.invokevirtual 273, 3, 169, 0, 9, 0, 423)) (mi_k177.2 _ _ (by rfl)) (ft_invS mi_pq169 (by rfl)) (cy := mi_c169) mi_pq169 rfl (ke169_116_139 hG16.I hG16.R 0 (of20 kof0)) (by decide) ?_
                  intro ig19 ag19 qg19 rg19 kg19 hg19
                  have hGg19 := kG_call hG16 kg19 (by decide +kernel)
                  obtain ⟨hg19, og19⟩ := hg19
                  have q20 : ag19 118 = a14 139 := og19
                  refine ft_go mi_k177 1 115 [(5, .int (i14 7467)), (4, .int vg6), (0, .ref 116), (1, .int x1), (2, .int x2), (3, .int x3)] [.int (i14 7467)] ig19 ag19 qg19 rg19 (by rfl) ?_
                  exact ft_ret mi_k177 (by rfl) (hP (i14 7467) _ _ _ _ hGg19 ⟨trivial, (show ag19 118 = a 118 from (by first | rfl | (simp only [q20, O14_0, sMn, sMx]; done) | (simp only [q20, O14_0, sMn, sMx]; rfl)))⟩)
              ·
                have c21 : l5_14.toInt < x2.toInt := kd_leF c; clear c
                refine ft_go mi_k177 1 67 [(5, .int l5_14), (4, .int vg6), (0, .ref 116), (1, .int x1), (2, .int x2), (3, .int x3)] [.int l5_14] i14 a14 q14 r14 (by rfl) ?_
                refine ft_if mi_k177 (decide (l5_14 ≤ 0)) 74 70 [(5, .int l5_14), (4, .int vg6), (0, .ref 116), (1, .int x1), (2, .int x2), (3, .int x3)] [] (by rfl) (fun c => ?_) (fun c => ?_)
                ·
                  have c22 : l5_14.toInt ≤ (0 : Int32).toInt := kd_le c; clear c
                  refine ft_go mi_k177 1 75 [(5, .int l5_14), (4, .int vg6), (0, .ref 116), (1, .int x1), (2, .int x2), (3, .int x3)] [.ref 116] i14 a14 q14 r14 (by rfl) ?_
                  have hG23 := kG_call hGg11 hL14 (by decide +kernel)
                  refine ko_callN mi_k177.1 (pc := 75) (ls := [(5, .int l5_14), (4, .int vg6), (0, .ref 116), (1, .int x1), (2, .int x2), (3, .int x3)]) (st := [.ref 116]) (h := ks i14 a14 q14 r14) (i := (.invokevirtual 270, 3, 170, 0, 9, 0, 414)) (mi_k177.2 _ _ (by rfl)) (ft_invS mi_pq170 (by rfl)) (cy := mi_c170) mi_pq170 rfl (kc170_116 hL14.I hL14.R (kCode_of (i1 := i14) hE_code (hG23.fi 7432 rfl) (hG23.fa 120 rfl) (hG23.fa 121 rfl) (hG23.fa 122 rfl) (hG23.fa 123 rfl))) (by decide) ?_
                  intro ig24 ag24 qg24 rg24 kg24 hg24
                  have hGg24 := kG_call hL14 kg24 (by decide +kernel)
                  have s25 : (l5_14 + 1).toInt = l5_14.toInt + (1 : Int32).toInt := kd_add (of9 p14_0 kof1) (of78 c22 kof0 kof1)
                  refine ft_go mi_k177 2 59 [(5, .int (l5_14 + 1)), (4, .int vg6), (0, .ref 116), (1, .int x1), (2, .int x2), (3, .int x3)] [] ig24 ag24 qg24 rg24 (by rfl) ?_
                  exact ih14 _ _ _ _ _ hGg24 (of11 p14_0 s25 kof1) (by first | rfl | (simp only [kg24.fa 139 rfl, O14_0, sMn, sMx]; done) | (simp only [kg24.fa 139 rfl, O14_0, sMn, sMx]; rfl)) (kj_meas (of79 s25 kof1) (of80 c21) hm14)
                ·
                  have c26 : (0 : Int32).toInt < l5_14.toInt := kd_leF c; clear c
                  refine ft_go mi_k177 1 71 [(5, .int l5_14), (4, .int vg6), (0, .ref 116), (1, .int x1), (2, .int x2), (3, .int x3)] [.ref 116] i14 a14 q14 r14 (by rfl) ?_
                  refine ko_callN mi_k177.1 (pc := 71) (ls := [(5, .int l5_14), (4, .int vg6), (0, .ref 116), (1, .int x1), (2, .int x2), (3, .int x3)]) (st := [.ref 116]) (h := ks i14 a14 q14 r14) (i := (.invokevirtual 282, 3, 167, 0, 9, 0, 426)) (mi_k177.2 _ _ (by rfl)) (ft_invS mi_pq167 (by rfl)) (cy := mi_c167) mi_pq167 rfl (kc167_116 hL14.I hL14.R ) (by decide) ?_
                  intro ig27 ag27 qg27 rg27 kg27 hg27
                  have hGg27 := kG_call hL14 kg27 (by decide +kernel)
                  refine ft_go mi_k177 1 75 [(5, .int l5_14), (4, .int vg6), (0, .ref 116), (1, .int x1), (2, .int x2), (3, .int x3)] [.ref 116] ig27 ag27 qg27 rg27 (by rfl) ?_
                  have hG28 := kG_call hGg11 hGg27 (by decide +kernel)
                  refine ko_callN mi_k177.1 (pc := 75) (ls := [(5, .int l5_14), (4, .int vg6), (0, .ref 116), (1, .int x1), (2, .int x2), (3, .int x3)]) (st := [.ref 116]) (h := ks ig27 ag27 qg27 rg27) (i := (.invokevirtual 270, 3, 170, 0, 9, 0, 414)) (mi_k177.2 _ _ (by rfl)) (ft_invS mi_pq170 (by rfl)) (cy := mi_c170) mi_pq170 rfl (kc170_116 hGg27.I hGg27.R (kCode_of (i1 := ig27) hE_code (hG28.fi 7432 rfl) (hG28.fa 120 rfl) (hG28.fa 121 rfl) (hG28.fa 122 rfl) (hG28.fa 123 rfl))) (by decide) ?_
                  intro ig29 ag29 qg29 rg29 kg29 hg29
                  have hGg29 := kG_call hGg27 kg29 (by decide +kernel)
                  have s30 : (l5_14 + 1).toInt = l5_14.toInt + (1 : Int32).toInt := kd_add (of95 c26 kof0 kof1) (of96 c21 z4.2 kof20 kof1)
                  refine ft_go mi_k177 2 59 [(5, .int (l5_14 + 1)), (4, .int vg6), (0, .ref 116), (1, .int x1), (2, .int x2), (3, .int x3)] [] ig29 ag29 qg29 rg29 (by rfl) ?_
                  exact ih14 _ _ _ _ _ hGg29 (of97 c26 s30 kof0 kof1) (by first | rfl | (simp only [kg29.fa 139 rfl, kg27.fa 139 rfl, O14_0, sMn, sMx]; done) | (simp only [kg29.fa 139 rfl, kg27.fa 139 rfl, O14_0, sMn, sMx]; rfl)) (kj_meas (of79 s30 kof1) (of80 c21) hm14)
          exact lp14 _ _ _ _ _ _ (kG_self _ hGg11.I hGg11.R) (of17 kof0) (by first | rfl | (simp only [q12, kg9.fa 118 rfl, sMn, sMx]; done) | (simp only [q12, kg9.fa 118 rfl, sMn, sMx]; rfl)) (Nat.lt_succ_self _)
        ·
          have c31 : vg6.toInt < (0 : Int32).toInt := kd_leF c; clear c
          refine ft_go mi_k177 1 46 [(4, .int vg6), (0, .ref 116), (1, .int x1), (2, .int x2), (3, .int x3)] [.int vg6] i a q r (by rfl) ?_
          exact ft_ret mi_k177 (by rfl) (hP vg6 _ _ _ _ hG ⟨trivial, (show a 118 = a 118 from rfl)⟩)
      ·
        have c32 : x3.toInt ≠ ((-1) : Int32).toInt := kd_eqF c; clear c
        refine ft_go mi_k177 2 24 [(0, .ref 116), (1, .int x1), (2, .int x2), (3, .int x3)] [.int x3, .ref 116] i a q r (by rfl) ?_
        refine ko_callPI mi_k177.1 (pc := 24) (ls := [(0, .ref 116), (1, .int x1), (2, .int x2), (3, .int x3)]) (st := [.int x3, .ref 116]) (h := ks i a q r) (i := (.invokevirtual 137, 3, 132, 0, 9, 0, 387)) (mi_k177.2 _ _ (by rfl)) (ft_invS mi_pq132 (by rfl)) (cy := mi_c132) mi_pq132 rfl (kc132_116 hG.I hG.R x3) (by decide) ?_
        intro vg33 hg33
        rcases hg33 with ⟨eg33, hg33⟩ | ⟨eg33, hg33⟩
        ·
          subst eg33
          have fi_7424 : ((0 : Int) ≤ (i 7424).toInt) ∧ ((i 7424).toInt ≤ 8) := hG.I.1 7424
          have z34 : ((0 : Int) ≤ x3.toInt) ∧ (x3.toInt < (i 7424).toInt) := hg33
          refine ft_go mi_k177 3 34 [(0, .ref 116), (1, .int x1), (2, .int x2), (3, .int x3)] [.int x1, .ref 116] i a q r (by rfl) ?_
          refine ko_callPI mi_k177.1 (pc := 34) (ls := [(0, .ref 116), (1, .int x1), (2, .int x2), (3, .int x3)]) (st := [.int x1, .ref 116]) (h := ks i a q r) (i := (.invokevirtual 276, 3, 173, 0, 9, 0, 410)) (mi_k177.2 _ _ (by rfl)) (ft_invS mi_pq173 (by rfl)) (cy := mi_c173) mi_pq173 rfl (kc173_116 hG.I hG.R x1 (of34 z2.1 z2.2)) (by decide) ?_
          intro vg35 hg35
          refine ft_go mi_k177 2 41 [(4, .int vg35), (0, .ref 116), (1, .int x1), (2, .int x2), (3, .int x3)] [.int vg35] i a q r (by rfl) ?_
          refine ft_if mi_k177 (decide (0 ≤ vg35)) 47 44 [(4, .int vg35), (0, .ref 116), (1, .int x1), (2, .int x2), (3, .int x3)] [] (by rfl) (fun c => ?_) (fun c => ?_)
          ·
            have c37 : (0 : Int32).toInt ≤ vg35.toInt := kd_le c; clear c
            refine ft_go mi_k177 2 49 [(4, .int vg35), (0, .ref 116), (1, .int x1), (2, .int x2), (3, .int x3)] [.int x1, .ref 116] i a q r (by rfl) ?_
            refine ko_callN mi_k177.1 (pc := 49) (ls := [(4, .int vg35), (0, .ref 116), (1, .int x1), (2, .int x2), (3, .int x3)]) (st := [.int x1, .ref 116]) (h := ks i a q r) (i := (.invokevirtual 279, 3, 174, 0, 9, 0, 411)) (mi_k177.2 _ _ (by rfl)) (ft_invS mi_pq174 (by rfl)) (cy := mi_c174) mi_pq174 rfl (kc174_116 hG.I hG.R x1 (of34 z2.1 z2.2)) (by decide) ?_
            intro ig38 ag38 qg38 rg38 kg38 hg38
            have hGg38 := kG_call hG kg38 (by decide +kernel)
            refine ft_go mi_k177 1 53 [(4, .int vg35), (0, .ref 116), (1, .int x1), (2, .int x2), (3, .int x3)] [.ref 116] ig38 ag38 qg38 rg38 (by rfl) ?_
            refine ko_callN mi_k177.1 (pc := 53) (ls := [(4, .int vg35), (0, .ref 116), (1, .int x1), (2, .int x2), (3, .int x3)]) (st := [.ref 116]) (h := ks ig38 ag38 qg38 rg38) (i := (.invokevirtual 267, 3, 171, 0, 9, 0, 412)) (mi_k177.2 _ _ (by rfl)) (ft_invS mi_pq171 (by rfl)) (cy := mi_c171) mi_pq171 rfl (ke171_116 hGg38.I hGg38.R ) (by decide) ?_
            intro ig40 ag40 qg40 rg40 kg40 hg40
            have hGg40 := kG_call hGg38 kg40 (by decide +kernel)
            obtain ⟨hg40, og40⟩ := hg40
            have q41 : ag40 139 = ag38 118 := og40.1
            have q42 : ag40 118 = ag38 118 := og40.2
            refine ft_go mi_k177 2 59 [(5, .int 0), (4, .int vg35), (0, .ref 116), (1, .int x1), (2, .int x2), (3, .int x3)] [] ig40 ag40 qg40 rg40 (by rfl) ?_
            have lp43 : ∀ (nz : Nat) (i43 : Nat → Int32) (a43 : Nat → List Int32) (q43 : Nat → List Int64) (r43 : Nat → Nat) (l5_43 : Int32), kG yw177_116_L59 ig40 ag40 qg40 rg40 i43 a43 q43 r43 → (0 : Int) ≤ l5_43.toInt → a43 139 = a 118 → ((x2.toInt - l5_43.toInt)).toNat < nz → ko 13 (mi_h177, mi_c177) P (59, [(5, .int l5_43), (4, .int vg35), (0, .ref 116), (1, .int x1), (2, .int x2), (3, .int x3)], [], (0, 0), ks i43 a43 q43 r43) := by
              intro nz
              induction nz with
              | zero =>
                intro _ _ _ _ _ _ _ _ hm
                exact absurd hm (Nat.not_lt_zero _)
              | succ nz ih43 =>
                intro i43 a43 q43 r43 l5_43 hL43 p43_0 O43_0 hm43
                refine ft_go mi_k177 2 62 [(5, .int l5_43), (4, .int vg35), (0, .ref 116), (1, .int x1), (2, .int x2), (3, .int x3)] [.int x2, .int l5_43] i43 a43 q43 r43 (by rfl) ?_
                refine ft_if mi_k177 (decide (x2 ≤ l5_43)) 84 65 [(5, .int l5_43), (4, .int vg35), (0, .ref 116), (1, .int x1), (2, .int x2), (3, .int x3)] [] (by rfl) (fun c => ?_) (fun c => ?_)
                ·
                  have c44 : x2.toInt ≤ l5_43.toInt := kd_le c; clear c
                  have hG45 := kG_call hGg40 hL43 (by decide +kernel)
                  refine ft_go mi_k177 2 86 [(5, .int l5_43), (4, .int vg35), (0, .ref 116), (1, .int x1), (2, .int x2), (3, .int x3)] [.int (-1), .int x3] i43 a43 q43 r43 (by rfl) ?_
                  refine ft_if mi_k177 (x3 != (-1)) 96 89 [(5, .int l5_43), (4, .int vg35), (0, .ref 116), (1, .int x1), (2, .int x2), (3, .int x3)] [] (by rfl) (fun c => ?_) (fun c => ?_)
                  ·
                    have c46 : x3.toInt ≠ ((-1) : Int32).toInt := kd_ne c; clear c
                    refine ft_go mi_k177 3 101 [(5, .int l5_43), (4, .int vg35), (0, .ref 116), (1, .int x1), (2, .int x2), (3, .int x3)] [.int x3, .ref 118] i43 a43 q43 r43 (by rfl) ?_
                    refine ko_iald3 mi_k177.1 (n := 31) (c := 31) (ax := (0, 0, 0, 0, 0)) (mi_k177.2 _ _ (by rfl)) (by rfl) (ksG118 _ _ _ _) (hG45.I.2.1 118) rfl (of3 z34.1) (of66 fi_7424.2 z34.2) ?_
                    have r47 : ((x3.toInt = 18 → (0 : Int) ≤ ((a43 118).getD x3.toNatClampNeg 0).toInt ∧ ((a43 118).getD x3.toNatClampNeg 0).toInt ≤ 5)) ∧ ((19 ≤ x3.toInt → x3.toInt ≤ 24 → (0 : Int) ≤ ((a43 118).getD x3.toNatClampNeg 0).toInt ∧ ((a43 118).getD x3.toNatClampNeg 0).toInt ≤ 7)) := kE_ncond (p := 118) hG45.I (by decide) (j := x3) (of3 z34.1)
                    refine ft_go mi_k177 5 110 [(5, .int ((a43 118).getD x3.toNatClampNeg 0)), (4, .int vg35), (0, .ref 116), (1, .int x1), (2, .int x2), (3, .int x3)] [.int 0, .ref 139, .ref 116] i43 a43 q43 r43 (by rfl) ?_
                    refine ko_callN mi_k177.1 (pc := 110) (ls := [(5, .int ((a43 118).getD x3.toNatClampNeg 0)), (4, .int vg35), (0, .ref 116), (1, .int x1), (2, .int x2), (3, .int x3)]) (st := [.int 0, .ref 139, .ref 116]) (h := ks i43 a43 q43 r43) (i := (.invokevirtual 273, 3, 169, 0, 9, 0, 423)) (mi_k177.2 _ _ (by rfl)) (ft_invS mi_pq169 (by rfl)) (cy := mi_c169) mi_pq169 rfl (ke169_116_139 hG45.I hG45.R 0 (of20 kof0)) (by decide) ?_
                    intro ig48 ag48 qg48 rg48 kg48 hg48
                    have hGg48 := kG_call hG45 kg48 (by decide +kernel)
                    obtain ⟨hg48, og48⟩ := hg48
                    have q49 : ag48 118 = a43 139 := og48
                    refine ft_go mi_k177 1 115 [(5, .int ((a43 118).getD x3.toNatClampNeg 0)), (4, .int vg35), (0, .ref 116), (1, .int x1), (2, .int x2), (3, .int x3)] [.int ((a43 118).getD x3.toNatClampNeg 0)] ig48 ag48 qg48 rg48 (by rfl) ?_
                    exact ft_ret mi_k177 (by rfl) (hP ((a43 118).getD x3.toNatClampNeg 0) _ _ _ _ hGg48 ⟨trivial, (show ag48 118 = a 118 from (by first | rfl | (simp only [q49, O43_0, sMn, sMx]; done) | (simp only [q49, O43_0, sMn, sMx]; rfl)))⟩)
                  ·
                    have c50 : x3.toInt = ((-1) : Int32).toInt := kd_neF c; clear c
                    exact (of98 c50 z34.1 kofm1).elim
                ·
                  have c51 : l5_43.toInt < x2.toInt := kd_leF c; clear c
                  refine ft_go mi_k177 1 67 [(5, .int l5_43), (4, .int vg35), (0, .ref 116), (1, .int x1), (2, .int x2), (3, .int x3)] [.int l5_43] i43 a43 q43 r43 (by rfl) ?_
                  refine ft_if mi_k177 (decide (l5_43 ≤ 0)) 74 70 [(5, .int l5_43), (4, .int vg35), (0, .ref 116), (1, .int x1), (2, .int x2), (3, .int x3)] [] (by rfl) (fun c => ?_) (fun c => ?_)
                  ·
                    have c52 : l5_43.toInt ≤ (0 : Int32).toInt := kd_le c; clear c
                    refine ft_go mi_k177 1 75 [(5, .int l5_43), (4, .int vg35), (0, .ref 116), (1, .int x1), (2, .int x2), (3, .int x3)] [.ref 116] i43 a43 q43 r43 (by rfl) ?_
                    have hG53 := kG_call hGg40 hL43 (by decide +kernel)
                    refine ko_callN mi_k177.1 (pc := 75) (ls := [(5, .int l5_43), (4, .int vg35), (0, .ref 116), (1, .int x1), (2, .int x2), (3, .int x3)]) (st := [.ref 116]) (h := ks i43 a43 q43 r43) (i := (.invokevirtual 270, 3, 170, 0, 9, 0, 414)) (mi_k177.2 _ _ (by rfl)) (ft_invS mi_pq170 (by rfl)) (cy := mi_c170) mi_pq170 rfl (kc170_116 hL43.I hL43.R (kCode_of (i1 := i43) hE_code (hG53.fi 7432 rfl) (hG53.fa 120 rfl) (hG53.fa 121 rfl) (hG53.fa 122 rfl) (hG53.fa 123 rfl))) (by decide) ?_
                    intro ig54 ag54 qg54 rg54 kg54 hg54
                    have hGg54 := kG_call hL43 kg54 (by decide +kernel)
                    have s55 : (l5_43 + 1).toInt = l5_43.toInt + (1 : Int32).toInt := kd_add (of9 p43_0 kof1) (of78 c52 kof0 kof1)
                    refine ft_go mi_k177 2 59 [(5, .int (l5_43 + 1)), (4, .int vg35), (0, .ref 116), (1, .int x1), (2, .int x2), (3, .int x3)] [] ig54 ag54 qg54 rg54 (by rfl) ?_
                    exact ih43 _ _ _ _ _ hGg54 (of11 p43_0 s55 kof1) (by first | rfl | (simp only [kg54.fa 139 rfl, O43_0, sMn, sMx]; done) | (simp only [kg54.fa 139 rfl, O43_0, sMn, sMx]; rfl)) (kj_meas (of79 s55 kof1) (of80 c51) hm43)
                  ·
                    have c56 : (0 : Int32).toInt < l5_43.toInt := kd_leF c; clear c
                    refine ft_go mi_k177 1 71 [(5, .int l5_43), (4, .int vg35), (0, .ref 116), (1, .int x1), (2, .int x2), (3, .int x3)] [.ref 116] i43 a43 q43 r43 (by rfl) ?_
                    refine ko_callN mi_k177.1 (pc := 71) (ls := [(5, .int l5_43), (4, .int vg35), (0, .ref 116), (1, .int x1), (2, .int x2), (3, .int x3)]) (st := [.ref 116]) (h := ks i43 a43 q43 r43) (i := (.invokevirtual 282, 3, 167, 0, 9, 0, 426)) (mi_k177.2 _ _ (by rfl)) (ft_invS mi_pq167 (by rfl)) (cy := mi_c167) mi_pq167 rfl (kc167_116 hL43.I hL43.R ) (by decide) ?_
                    intro ig57 ag57 qg57 rg57 kg57 hg57
                    have hGg57 := kG_call hL43 kg57 (by decide +kernel)
                    refine ft_go mi_k177 1 75 [(5, .int l5_43), (4, .int vg35), (0, .ref 116), (1, .int x1), (2, .int x2), (3, .int x3)] [.ref 116] ig57 ag57 qg57 rg57 (by rfl) ?_
                    have hG58 := kG_call hGg40 hGg57 (by decide +kernel)
                    refine ko_callN mi_k177.1 (pc := 75) (ls := [(5, .int l5_43), (4, .int vg35), (0, .ref 116), (1, .int x1), (2, .int x2), (3, .int x3)]) (st := [.ref 116]) (h := ks ig57 ag57 qg57 rg57) (i := (.invokevirtual 270, 3, 170, 0, 9, 0, 414)) (mi_k177.2 _ _ (by rfl)) (ft_invS mi_pq170 (by rfl)) (cy := mi_c170) mi_pq170 rfl (kc170_116 hGg57.I hGg57.R (kCode_of (i1 := ig57) hE_code (hG58.fi 7432 rfl) (hG58.fa 120 rfl) (hG58.fa 121 rfl) (hG58.fa 122 rfl) (hG58.fa 123 rfl))) (by decide) ?_
                    intro ig59 ag59 qg59 rg59 kg59 hg59
                    have hGg59 := kG_call hGg57 kg59 (by decide +kernel)
                    have s60 : (l5_43 + 1).toInt = l5_43.toInt + (1 : Int32).toInt := kd_add (of95 c56 kof0 kof1) (of96 c51 z4.2 kof20 kof1)
                    refine ft_go mi_k177 2 59 [(5, .int (l5_43 + 1)), (4, .int vg35), (0, .ref 116), (1, .int x1), (2, .int x2), (3, .int x3)] [] ig59 ag59 qg59 rg59 (by rfl) ?_
                    exact ih43 _ _ _ _ _ hGg59 (of97 c56 s60 kof0 kof1) (by first | rfl | (simp only [kg59.fa 139 rfl, kg57.fa 139 rfl, O43_0, sMn, sMx]; done) | (simp only [kg59.fa 139 rfl, kg57.fa 139 rfl, O43_0, sMn, sMx]; rfl)) (kj_meas (of79 s60 kof1) (of80 c51) hm43)
            exact lp43 _ _ _ _ _ _ (kG_self _ hGg40.I hGg40.R) (of17 kof0) (by first | rfl | (simp only [q41, kg38.fa 118 rfl, sMn, sMx]; done) | (simp only [q41, kg38.fa 118 rfl, sMn, sMx]; rfl)) (Nat.lt_succ_self _)
          ·
            have c61 : vg35.toInt < (0 : Int32).toInt := kd_leF c; clear c
            refine ft_go mi_k177 1 46 [(4, .int vg35), (0, .ref 116), (1, .int x1), (2, .int x2), (3, .int x3)] [.int vg35] i a q r (by rfl) ?_
            exact ft_ret mi_k177 (by rfl) (hP vg35 _ _ _ _ hG ⟨trivial, (show a 118 = a 118 from rfl)⟩)
        ·
          subst eg33
          refine ft_go mi_k177 2 31 [(0, .ref 116), (1, .int x1), (2, .int x2), (3, .int x3)] [.int (-1)] i a q r (by rfl) ?_
          exact ft_ret mi_k177 (by rfl) (hP (-1) _ _ _ _ hG ⟨trivial, (show a 118 = a 118 from rfl)⟩)
    ·
      subst eg3
      refine ft_go mi_k177 2 31 [(0, .ref 116), (1, .int x1), (2, .int x2), (3, .int x3)] [.int (-1)] i a q r (by rfl) ?_
      exact ft_ret mi_k177 (by rfl) (hP (-1) _ _ _ _ hG ⟨trivial, (show a 118 = a 118 from rfl)⟩)
  ·
    subst eg1
    refine ft_go mi_k177 2 31 [(0, .ref 116), (1, .int x1), (2, .int x2), (3, .int x3)] [.int (-1)] i a q r (by rfl) ?_
    exact ft_ret mi_k177 (by rfl) (hP (-1) _ _ _ _ hG ⟨trivial, (show a 118 = a 118 from rfl)⟩)
def yw180_116 : kW := ([7464, 7465, 7466, 7467, 7469], [118, 128, 129, 139, 141, 142, 143, 144, 145], [], [])
def yw180_116_L73 : kW := ([7464, 7465, 7466, 7467, 7469], [118, 128, 129, 139, 141, 142, 143, 144, 145], [], [])
set_option maxRecDepth 100000 in
theorem ke180_116 {i : Nat → Int32} {a : Nat → List Int32} {q : Nat → List Int64} {r : Nat → Nat} (hI : kI i a q) (hr : kr r) (x1 : Int32) (x2 : Int32) (x3 : Int32) (hE_code : kCode i a) : km 15 180 [.ref 116, .int x1, .int x2, .int x3] (ks i a q r) (kVI yw180_116 i a q r (fun v i1 a1 q1 r1 => (True) ∧ a1 118 = a 118)) := by
  have hG := kG_self yw180_116 hI hr
  refine km_ofI (q := (mi_h180, mi_c180)) rfl (by decide) (Nat.le_of_ble_eq_true rfl) ?_
  intro P hP
  refine ft_go mi_k180 1 1 [(0, .ref 116), (1, .int x1), (2, .int x2), (3, .int x3)] [.int x1] i a q r (by rfl) ?_
  refine ko_callPI mi_k180.1 (pc := 1) (ls := [(0, .ref 116), (1, .int x1), (2, .int x2), (3, .int x3)]) (st := [.int x1]) (h := ks i a q r) (i := (.invokestatic 127, 3, 133, 0, 9, 0, 382)) (mi_k180.2 _ _ (by rfl)) (ft_invS mi_pq133 (by rfl)) (cy := mi_c133) mi_pq133 rfl (kc133 hG.I hG.R x1) (by decide) ?_
  intro vg1 hg1
  rcases hg1 with ⟨eg1, hg1⟩ | ⟨eg1, hg1⟩
  ·
    subst eg1
    have z2 : ((0 : Int) ≤ x1.toInt) ∧ (x1.toInt ≤ 5) := hg1
    refine ft_go mi_k180 3 9 [(0, .ref 116), (1, .int x1), (2, .int x2), (3, .int x3)] [.int x2, .ref 116] i a q r (by rfl) ?_
    refine ko_callPI mi_k180.1 (pc := 9) (ls := [(0, .ref 116), (1, .int x1), (2, .int x2), (3, .int x3)]) (st := [.int x2, .ref 116]) (h := ks i a q r) (i := (.invokevirtual 137, 3, 132, 0, 9, 0, 387)) (mi_k180.2 _ _ (by rfl)) (ft_invS mi_pq132 (by rfl)) (cy := mi_c132) mi_pq132 rfl (kc132_116 hG.I hG.R x2) (by decide) ?_
    intro vg3 hg3
    rcases hg3 with ⟨eg3, hg3⟩ | ⟨eg3, hg3⟩
    ·
      subst eg3
      have fi_7424 : ((0 : Int) ≤ (i 7424).toInt) ∧ ((i 7424).toInt ≤ 8) := hG.I.1 7424
      have z4 : ((0 : Int) ≤ x2.toInt) ∧ (x2.toInt < (i 7424).toInt) := hg3
      refine ft_go mi_k180 4 18 [(0, .ref 116), (1, .int x1), (2, .int x2), (3, .int x3)] [.int 1, .int 0, .int x3] i a q r (by rfl) ?_
      refine ko_callPI mi_k180.1 (pc := 18) (ls := [(0, .ref 116), (1, .int x1), (2, .int x2), (3, .int x3)]) (st := [.int 1, .int 0, .int x3]) (h := ks i a q r) (i := (.invokestatic 119, 3, 131, 0, 9, 0, 379)) (mi_k180.2 _ _ (by rfl)) (ft_invS mi_pq131 (by rfl)) (cy := mi_c131) mi_pq131 rfl (kc131 hG.I hG.R x3 0 1) (by decide) ?_
      intro vg5 hg5
      rcases hg5 with ⟨eg5, hg5⟩ | ⟨eg5, hg5⟩
      ·
        subst eg5
        refine ft_go mi_k180 3 28 [(0, .ref 116), (1, .int x1), (2, .int x2), (3, .int x3)] [.int x1, .ref 116] i a q r (by rfl) ?_
        refine ko_callPI mi_k180.1 (pc := 28) (ls := [(0, .ref 116), (1, .int x1), (2, .int x2), (3, .int x3)]) (st := [.int x1, .ref 116]) (h := ks i a q r) (i := (.invokevirtual 276, 3, 173, 0, 9, 0, 410)) (mi_k180.2 _ _ (by rfl)) (ft_invS mi_pq173 (by rfl)) (cy := mi_c173) mi_pq173 rfl (kc173_116 hG.I hG.R x1 (of34 z2.1 z2.2)) (by decide) ?_
        intro vg7 hg7
        refine ft_go mi_k180 2 35 [(4, .int vg7), (0, .ref 116), (1, .int x1), (2, .int x2), (3, .int x3)] [.int vg7] i a q r (by rfl) ?_
        refine ft_if mi_k180 (decide (0 ≤ vg7)) 41 38 [(4, .int vg7), (0, .ref 116), (1, .int x1), (2, .int x2), (3, .int x3)] [] (by rfl) (fun c => ?_) (fun c => ?_)
        ·
          have c9 : (0 : Int32).toInt ≤ vg7.toInt := kd_le c; clear c
          refine ft_go mi_k180 2 43 [(4, .int vg7), (0, .ref 116), (1, .int x1), (2, .int x2), (3, .int x3)] [.int x1, .ref 116] i a q r (by rfl) ?_
          refine ko_callN mi_k180.1 (pc := 43) (ls := [(4, .int vg7), (0, .ref 116), (1, .int x1), (2, .int x2), (3, .int x3)]) (st := [.int x1, .ref 116]) (h := ks i a q r) (i := (.invokevirtual 279, 3, 174, 0, 9, 0, 411)) (mi_k180.2 _ _ (by rfl)) (ft_invS mi_pq174 (by rfl)) (cy := mi_c174) mi_pq174 rfl (kc174_116 hG.I hG.R x1 (of34 z2.1 z2.2)) (by decide) ?_
          intro ig10 ag10 qg10 rg10 kg10 hg10
          have hGg10 := kG_call hG kg10 (by decide +kernel)
          have fig10_7469 : ((0 : Int) ≤ (ig10 7469).toInt) ∧ ((ig10 7469).toInt ≤ 21) := hGg10.I.1 7469
          have z11 : (ig10 7469).toInt ≤ 20 := hg10
          refine ft_go mi_k180 3 52 [(4, .int vg7), (0, .ref 116), (1, .int x1), (2, .int x2), (3, .int x3)] [.int 20, .int (ig10 7469)] ig10 ag10 qg10 rg10 (by rfl) ?_
          refine ft_if mi_k180 ((ig10 7469) != 20) 58 55 [(4, .int vg7), (0, .ref 116), (1, .int x1), (2, .int x2), (3, .int x3)] [] (by rfl) (fun c => ?_) (fun c => ?_)
          ·
            have c12 : (ig10 7469).toInt ≠ (20 : Int32).toInt := kd_ne c; clear c
            refine ft_go mi_k180 9 73 [(8, .int 0), (7, .int (ig10 7469)), (6, .int (-1)), (5, .int 0), (4, .int vg7), (0, .ref 116), (1, .int x1), (2, .int x2), (3, .int x3)] [] ig10 ag10 qg10 rg10 (by rfl) ?_
            have lp13 : ∀ (nz : Nat) (i13 : Nat → Int32) (a13 : Nat → List Int32) (q13 : Nat → List Int64) (r13 : Nat → Nat) (l8_13 : Int32) (l6_13 : Int32) (l5_13 : Int32), kG yw180_116_L73 ig10 ag10 qg10 rg10 i13 a13 q13 r13 → (0 : Int) ≤ l8_13.toInt → (ig10 7469).toInt = (i13 7469).toInt → (ig10 7469).toInt ≤ 19 → a13 118 = a 118 → ((((ig10 7469).toInt + 1) - l8_13.toInt)).toNat < nz → ko 15 (mi_h180, mi_c180) P (73, [(8, .int l8_13), (7, .int (ig10 7469)), (6, .int l6_13), (5, .int l5_13), (4, .int vg7), (0, .ref 116), (1, .int x1), (2, .int x2), (3, .int x3)], [], (0, 0), ks i13 a13 q13 r13) := by
              intro nz
              induction nz with
              | zero =>
                intro _ _ _ _ _ _ _ _ _ _ _ _ hm
                exact absurd hm (Nat.not_lt_zero _)
              | succ nz ih13 =>
                intro i13 a13 q13 r13 l8_13 l6_13 l5_13 hL13 p13_0 p13_1 p13_2 O13_0 hm13
                have fi13_7469 : ((0 : Int) ≤ (i13 7469).toInt) ∧ ((i13 7469).toInt ≤ 21) := hL13.I.1 7469
                refine ft_go mi_k180 2 77 [(8, .int l8_13), (7, .int (ig10 7469)), (6, .int l6_13), (5, .int l5_13), (4, .int vg7), (0, .ref 116), (1, .int x1), (2, .int x2), (3, .int x3)] [.int (ig10 7469), .int l8_13] i13 a13 q13 r13 (by rfl) ?_
                refine ft_if mi_k180 (decide ((ig10 7469) < l8_13)) 124 80 [(8, .int l8_13), (7, .int (ig10 7469)), (6, .int l6_13), (5, .int l5_13), (4, .int vg7), (0, .ref 116), (1, .int x1), (2, .int x2), (3, .int x3)] [] (by rfl) (fun c => ?_) (fun c => ?_)
                ·
                  have c14 : (ig10 7469).toInt < l8_13.toInt := kd_lt c; clear c
                  have hG15 := kG_call hGg10 hL13 (by decide +kernel)
                  refine ft_go mi_k180 1 125 [(8, .int l8_13), (7, .int (ig10 7469)), (6, .int l6_13), (5, .int l5_13), (4, .int vg7), (0, .ref 116), (1, .int x1), (2, .int x2), (3, .int x3)] [.int x3] i13 a13 q13 r13 (by rfl) ?_
                  refine ft_if mi_k180 (x3 != 0) 133 128 [(8, .int l8_13), (7, .int (ig10 7469)), (6, .int l6_13), (5, .int l5_13), (4, .int vg7), (0, .ref 116), (1, .int x1), (2, .int x2), (3, .int x3)] [] (by rfl) (fun c => ?_) (fun c => ?_)
                  ·
                    have c16 : x3.toInt ≠ (0 : Int32).toInt := kd_ne c; clear c
                    refine ft_go mi_k180 1 135 [(8, .int l8_13), (7, .int (ig10 7469)), (6, .int l6_13), (5, .int l5_13), (4, .int vg7), (0, .ref 116), (1, .int x1), (2, .int x2), (3, .int x3)] [.int l6_13] i13 a13 q13 r13 (by rfl) ?_
                    exact ft_ret mi_k180 (by rfl) (hP l6_13 _ _ _ _ hG15 ⟨trivial, (show a13 118 = a 118 from (by first | rfl | (simp only [O13_0, sMn, sMx]; done) | (simp only [O13_0, sMn, sMx]; rfl)))⟩)
                  ·
                    have c17 : x3.toInt = (0 : Int32).toInt := kd_neF c; clear c
                    refine ft_go mi_k180 2 135 [(8, .int l8_13), (7, .int (ig10 7469)), (6, .int l6_13), (5, .int l5_13), (4, .int vg7), (0, .ref 116), (1, .int x1), (2, .int x2), (3, .int x3)] [.int l5_13] i13 a13 q13 r13 (by rfl) ?_
                    exact ft_ret mi_k180 (by rfl) (hP l5_13 _ _ _ _ hG15 ⟨trivial, (show a13 118 = a 118 from (by first | rfl | (simp only [O13_0, sMn, sMx]; done) | (simp only [O13_0, sMn, sMx]; rfl)))⟩)
                ·
                  have c18 : l8_13.toInt ≤ (ig10 7469).toInt := kd_ltF c; clear c
                  refine ft_go mi_k180 3 84 [(8, .int l8_13), (7, .int (ig10 7469)), (6, .int l6_13), (5, .int l5_13), (4, .int vg7), (0, .ref 116), (1, .int x1), (2, .int x2), (3, .int x3)] [.int x2, .int l8_13, .ref 116] i13 a13 q13 r13 (by rfl) ?_
                  refine ko_callN mi_k180.1 (pc := 84) (ls := [(8, .int l8_13), (7, .int (ig10 7469)), (6, .int l6_13), (5, .int l5_13), (4, .int vg7), (0, .ref 116), (1, .int x1), (2, .int x2), (3, .int x3)]) (st := [.int x2, .int l8_13, .ref 116]) (h := ks i13 a13 q13 r13) (i := (.invokevirtual 284, 3, 178, 0, 9, 0, 428)) (mi_k180.2 _ _ (by rfl)) (ft_invS mi_pq178 (by rfl)) (cy := mi_c178) mi_pq178 rfl (kc178_116 hL13.I hL13.R l8_13 x2 (of133 c18 p13_0 p13_1) (of134 p13_1 p13_2) (of118 fi_7424.2 z4.1 z4.2)) (by decide) ?_
                  intro ig19 ag19 qg19 rg19 kg19 hg19
                  have hGg19 := kG_call hL13 kg19 (by decide +kernel)
                  have z20 : (ig19 7469).toInt = ((i13 7469).toInt + 1) := hg19
                  refine ft_go mi_k180 2 89 [(8, .int l8_13), (7, .int (ig10 7469)), (6, .int l6_13), (5, .int l5_13), (4, .int vg7), (0, .ref 116), (1, .int x1), (2, .int x2), (3, .int x3)] [.int x2, .ref 116] ig19 ag19 qg19 rg19 (by rfl) ?_
                  have hG21 := kG_call hGg10 hGg19 (by decide +kernel)
                  refine ko_callI mi_k180.1 (pc := 89) (ls := [(8, .int l8_13), (7, .int (ig10 7469)), (6, .int l6_13), (5, .int l5_13), (4, .int vg7), (0, .ref 116), (1, .int x1), (2, .int x2), (3, .int x3)]) (st := [.int x2, .ref 116]) (h := ks ig19 ag19 qg19 rg19) (i := (.invokevirtual 288, 3, 172, 0, 9, 0, 429)) (mi_k180.2 _ _ (by rfl)) (ft_invS mi_pq172 (by rfl)) (cy := mi_c172) mi_pq172 rfl (ke172_116 hGg19.I hGg19.R x2 (of118 fi_7424.2 z4.1 z4.2) (kCode_of (i1 := ig19) hE_code (hG21.fi 7432 rfl) (hG21.fa 120 rfl) (hG21.fa 121 rfl) (hG21.fa 122 rfl) (hG21.fa 123 rfl))) (by decide) ?_
                  intro vg22 ig22 ag22 qg22 rg22 kg22 hg22
                  have hGg22 := kG_call hGg19 kg22 (by decide +kernel)
                  obtain ⟨hg22, og22⟩ := hg22
                  have q23 : ag22 118 = ag19 118 := og22
                  refine ft_go mi_k180 3 97 [(9, .int vg22), (8, .int l8_13), (7, .int (ig10 7469)), (6, .int l6_13), (5, .int l5_13), (4, .int vg7), (0, .ref 116), (1, .int x1), (2, .int x2), (3, .int x3)] [.int l8_13, .ref 116] ig22 ag22 qg22 rg22 (by rfl) ?_
                  have efig22_7469 : (ig22 7469).toInt = (ig19 7469).toInt := kg22.ti 7469 rfl
                  refine ko_callN mi_k180.1 (pc := 97) (ls := [(9, .int vg22), (8, .int l8_13), (7, .int (ig10 7469)), (6, .int l6_13), (5, .int l5_13), (4, .int vg7), (0, .ref 116), (1, .int x1), (2, .int x2), (3, .int x3)]) (st := [.int l8_13, .ref 116]) (h := ks ig22 ag22 qg22 rg22) (i := (.invokevirtual 291, 3, 179, 0, 9, 0, 430)) (mi_k180.2 _ _ (by rfl)) (ft_invS mi_pq179 (by rfl)) (cy := mi_c179) mi_pq179 rfl (kc179_116 hGg22.I hGg22.R l8_13 (of3 p13_0) (of126 efig22_7469 fi13_7469.1 z20)) (by decide) ?_
                  intro ig24 ag24 qg24 rg24 kg24 hg24
                  have hGg24 := kG_call hGg22 kg24 (by decide +kernel)
                  have z25 : (ig24 7469).toInt = ((ig22 7469).toInt - 1) := hg24
                  refine ft_go mi_k180 2 104 [(9, .int vg22), (8, .int l8_13), (7, .int (ig10 7469)), (6, .int l6_13), (5, .int l5_13), (4, .int vg7), (0, .ref 116), (1, .int x1), (2, .int x2), (3, .int x3)] [.int l6_13, .int vg22] ig24 ag24 qg24 rg24 (by rfl) ?_
                  refine ft_if mi_k180 (decide (l6_13 < vg22)) 110 107 [(9, .int vg22), (8, .int l8_13), (7, .int (ig10 7469)), (6, .int l6_13), (5, .int l5_13), (4, .int vg7), (0, .ref 116), (1, .int x1), (2, .int x2), (3, .int x3)] [] (by rfl) (fun c => ?_) (fun c => ?_)
                  ·
                    have c26 : l6_13.toInt < vg22.toInt := kd_lt c; clear c
                    have s27 : (l8_13 + 1).toInt = l8_13.toInt + (1 : Int32).toInt := kd_add (of9 p13_0 kof1) (of127 c18 fig10_7469.2 kof1)
                    refine ft_go mi_k180 6 73 [(8, .int (l8_13 + 1)), (5, .int l8_13), (6, .int vg22), (9, .int vg22), (7, .int (ig10 7469)), (4, .int vg7), (0, .ref 116), (1, .int x1), (2, .int x2), (3, .int x3)] [] ig24 ag24 qg24 rg24 (by rfl) ?_
                    refine ko_perm [(8, .int (l8_13 + 1)), (7, .int (ig10 7469)), (6, .int vg22), (5, .int l8_13), (4, .int vg7), (0, .ref 116), (1, .int x1), (2, .int x2), (3, .int x3)] (List.forall_mem_cons.mpr ⟨(List.Mem.head _), (List.forall_mem_cons.mpr ⟨(List.Mem.tail _ (List.Mem.tail _ (List.Mem.tail _ (List.Mem.tail _ (List.Mem.head _))))), (List.forall_mem_cons.mpr ⟨(List.Mem.tail _ (List.Mem.tail _ (List.Mem.head _))), (List.forall_mem_cons.mpr ⟨(List.Mem.tail _ (List.Mem.head _)), (List.forall_mem_cons.mpr ⟨(List.Mem.tail _ (List.Mem.tail _ (List.Mem.tail _ (List.Mem.tail _ (List.Mem.tail _ (List.Mem.head _)))))), (List.forall_mem_cons.mpr ⟨(List.Mem.tail _ (List.Mem.tail _ (List.Mem.tail _ (List.Mem.tail _ (List.Mem.tail _ (List.Mem.tail _ (List.Mem.head _))))))), (List.forall_mem_cons.mpr ⟨(List.Mem.tail _ (List.Mem.tail _ (List.Mem.tail _ (List.Mem.tail _ (List.Mem.tail _ (List.Mem.tail _ (List.Mem.tail _ (List.Mem.head _)))))))), (List.forall_mem_cons.mpr ⟨(List.Mem.tail _ (List.Mem.tail _ (List.Mem.tail _ (List.Mem.tail _ (List.Mem.tail _ (List.Mem.tail _ (List.Mem.tail _ (List.Mem.tail _ (List.Mem.head _))))))))), (List.forall_mem_cons.mpr ⟨(List.Mem.tail _ (List.Mem.tail _ (List.Mem.tail _ (List.Mem.tail _ (List.Mem.tail _ (List.Mem.tail _ (List.Mem.tail _ (List.Mem.tail _ (List.Mem.tail _ (List.Mem.head _)))))))))), (fun _ h => absurd h List.not_mem_nil)⟩)⟩)⟩)⟩)⟩)⟩)⟩)⟩)⟩) ?_
                    exact ih13 _ _ _ _ _ _ _ hGg24 (of11 p13_0 s27 kof1) (of135 efig22_7469 p13_1 z20 z25) (of129 p13_2) (by first | rfl | (simp only [kg24.fa 118 rfl, q23, kg19.fa 118 rfl, O13_0, sMn, sMx]; done) | (simp only [kg24.fa 118 rfl, q23, kg19.fa 118 rfl, O13_0, sMn, sMx]; rfl)) (kj_meas (of130 s27 kof1) (of131 c18) hm13)
                  ·
                    have c28 : vg22.toInt ≤ l6_13.toInt := kd_ltF c; clear c
                    have s29 : (l8_13 + 1).toInt = l8_13.toInt + (1 : Int32).toInt := kd_add (of9 p13_0 kof1) (of127 c18 fig10_7469.2 kof1)
                    refine ft_go mi_k180 3 73 [(8, .int (l8_13 + 1)), (9, .int vg22), (7, .int (ig10 7469)), (6, .int l6_13), (5, .int l5_13), (4, .int vg7), (0, .ref 116), (1, .int x1), (2, .int x2), (3, .int x3)] [] ig24 ag24 qg24 rg24 (by rfl) ?_
                    refine ko_perm [(8, .int (l8_13 + 1)), (7, .int (ig10 7469)), (6, .int l6_13), (5, .int l5_13), (4, .int vg7), (0, .ref 116), (1, .int x1), (2, .int x2), (3, .int x3)] (List.forall_mem_cons.mpr ⟨(List.Mem.head _), (List.forall_mem_cons.mpr ⟨(List.Mem.tail _ (List.Mem.tail _ (List.Mem.head _))), (List.forall_mem_cons.mpr ⟨(List.Mem.tail _ (List.Mem.tail _ (List.Mem.tail _ (List.Mem.head _)))), (List.forall_mem_cons.mpr ⟨(List.Mem.tail _ (List.Mem.tail _ (List.Mem.tail _ (List.Mem.tail _ (List.Mem.head _))))), (List.forall_mem_cons.mpr ⟨(List.Mem.tail _ (List.Mem.tail _ (List.Mem.tail _ (List.Mem.tail _ (List.Mem.tail _ (List.Mem.head _)))))), (List.forall_mem_cons.mpr ⟨(List.Mem.tail _ (List.Mem.tail _ (List.Mem.tail _ (List.Mem.tail _ (List.Mem.tail _ (List.Mem.tail _ (List.Mem.head _))))))), (List.forall_mem_cons.mpr ⟨(List.Mem.tail _ (List.Mem.tail _ (List.Mem.tail _ (List.Mem.tail _ (List.Mem.tail _ (List.Mem.tail _ (List.Mem.tail _ (List.Mem.head _)))))))), (List.forall_mem_cons.mpr ⟨(List.Mem.tail _ (List.Mem.tail _ (List.Mem.tail _ (List.Mem.tail _ (List.Mem.tail _ (List.Mem.tail _ (List.Mem.tail _ (List.Mem.tail _ (List.Mem.head _))))))))), (List.forall_mem_cons.mpr ⟨(List.Mem.tail _ (List.Mem.tail _ (List.Mem.tail _ (List.Mem.tail _ (List.Mem.tail _ (List.Mem.tail _ (List.Mem.tail _ (List.Mem.tail _ (List.Mem.tail _ (List.Mem.head _)))))))))), (fun _ h => absurd h List.not_mem_nil)⟩)⟩)⟩)⟩)⟩)⟩)⟩)⟩)⟩) ?_
                    exact ih13 _ _ _ _ _ _ _ hGg24 (of11 p13_0 s29 kof1) (of135 efig22_7469 p13_1 z20 z25) (of129 p13_2) (by first | rfl | (simp only [kg24.fa 118 rfl, q23, kg19.fa 118 rfl, O13_0, sMn, sMx]; done) | (simp only [kg24.fa 118 rfl, q23, kg19.fa 118 rfl, O13_0, sMn, sMx]; rfl)) (kj_meas (of130 s29 kof1) (of131 c18) hm13)
            exact lp13 _ _ _ _ _ _ _ _ (kG_self _ hGg10.I hGg10.R) (of17 kof0) of13 (of132 c12 z11 kof20) (by first | rfl | (simp only [kg10.fa 118 rfl, sMn, sMx]; done) | (simp only [kg10.fa 118 rfl, sMn, sMx]; rfl)) (Nat.lt_succ_self _)
          ·
            have c30 : (ig10 7469).toInt = (20 : Int32).toInt := kd_neF c; clear c
            refine ft_go mi_k180 1 57 [(4, .int vg7), (0, .ref 116), (1, .int x1), (2, .int x2), (3, .int x3)] [.int (-5)] ig10 ag10 qg10 rg10 (by rfl) ?_
            exact ft_ret mi_k180 (by rfl) (hP (-5) _ _ _ _ hGg10 ⟨trivial, (show ag10 118 = a 118 from (by first | rfl | (simp only [kg10.fa 118 rfl, sMn, sMx]; done) | (simp only [kg10.fa 118 rfl, sMn, sMx]; rfl)))⟩)
        ·
          have c31 : vg7.toInt < (0 : Int32).toInt := kd_leF c; clear c
          refine ft_go mi_k180 1 40 [(4, .int vg7), (0, .ref 116), (1, .int x1), (2, .int x2), (3, .int x3)] [.int vg7] i a q r (by rfl) ?_
          exact ft_ret mi_k180 (by rfl) (hP vg7 _ _ _ _ hG ⟨trivial, (show a 118 = a 118 from rfl)⟩)
      ·
        subst eg5
        refine ft_go mi_k180 2 25 [(0, .ref 116), (1, .int x1), (2, .int x2), (3, .int x3)] [.int (-1)] i a q r (by rfl) ?_
        exact ft_ret mi_k180 (by rfl) (hP (-1) _ _ _ _ hG ⟨trivial, (show a 118 = a 118 from rfl)⟩)
    ·
      subst eg3
      refine ft_go mi_k180 2 25 [(0, .ref 116), (1, .int x1), (2, .int x2), (3, .int x3)] [.int (-1)] i a q r (by rfl) ?_
      exact ft_ret mi_k180 (by rfl) (hP (-1) _ _ _ _ hG ⟨trivial, (show a 118 = a 118 from rfl)⟩)
  ·
    subst eg1
    refine ft_go mi_k180 2 25 [(0, .ref 116), (1, .int x1), (2, .int x2), (3, .int x3)] [.int (-1)] i a q r (by rfl) ?_
    exact ft_ret mi_k180 (by rfl) (hP (-1) _ _ _ _ hG ⟨trivial, (show a 118 = a 118 from rfl)⟩)
def yw181_116 : kW := ([7464, 7465, 7466, 7467, 7469], [118, 128, 129, 139, 141, 142, 143, 144, 145], [], [])
def yw181_116_L82 : kW := ([7464, 7465, 7466, 7467, 7469], [118, 128, 129, 139, 141, 142, 143, 144, 145], [], [])
set_option maxRecDepth 100000 in
theorem ke181_116 {i : Nat → Int32} {a : Nat → List Int32} {q : Nat → List Int64} {r : Nat → Nat} (hI : kI i a q) (hr : kr r) (x1 : Int32) (x2 : Int32) (x3 : Int32) (x4 : Int32) (hE_code : kCode i a) : km 15 181 [.ref 116, .int x1, .int x2, .int x3, .int x4] (ks i a q r) (kVI yw181_116 i a q r (fun v i1 a1 q1 r1 => (True) ∧ a1 118 = a 118)) := by
  have hG := kG_self yw181_116 hI hr
  refine km_ofI (q := (mi_h181, mi_c181)) rfl (by decide) (Nat.le_of_ble_eq_true rfl) ?_
  intro P hP
  refine ft_go mi_k181 1 1 [(0, .ref 116), (1, .int x1), (2, .int x2), (3, .int x3), (4, .int x4)] [.int x1] i a q r (by rfl) ?_
  refine ko_callPI mi_k181.1 (pc := 1) (ls := [(0, .ref 116), (1, .int x1), (2, .int x2), (3, .int x3), (4, .int x4)]) (st := [.int x1]) (h := ks i a q r) (i := (.invokestatic 127, 3, 133, 0, 9, 0, 382)) (mi_k181.2 _ _ (by rfl)) (ft_invS mi_pq133 (by rfl)) (cy := mi_c133) mi_pq133 rfl (kc133 hG.I hG.R x1) (by decide) ?_
  intro vg1 hg1
  rcases hg1 with ⟨eg1, hg1⟩ | ⟨eg1, hg1⟩
  ·
    subst eg1
    have z2 : ((0 : Int) ≤ x1.toInt) ∧ (x1.toInt ≤ 5) := hg1
    refine ft_go mi_k181 2 8 [(0, .ref 116), (1, .int x1), (2, .int x2), (3, .int x3), (4, .int x4)] [.int x2] i a q r (by rfl) ?_
    refine ft_if mi_k181 (decide (x2 < 0)) 29 11 [(0, .ref 116), (1, .int x1), (2, .int x2), (3, .int x3), (4, .int x4)] [] (by rfl) (fun c => ?_) (fun c => ?_)
    ·
      have c3 : x2.toInt < (0 : Int32).toInt := kd_lt c; clear c
      refine ft_go mi_k181 1 30 [(0, .ref 116), (1, .int x1), (2, .int x2), (3, .int x3), (4, .int x4)] [.int (-1)] i a q r (by rfl) ?_
      exact ft_ret mi_k181 (by rfl) (hP (-1) _ _ _ _ hG ⟨trivial, (show a 118 = a 118 from rfl)⟩)
    ·
      have c4 : (0 : Int32).toInt ≤ x2.toInt := kd_ltF c; clear c
      refine ft_go mi_k181 2 13 [(0, .ref 116), (1, .int x1), (2, .int x2), (3, .int x3), (4, .int x4)] [.int x3, .ref 116] i a q r (by rfl) ?_
      refine ko_callPI mi_k181.1 (pc := 13) (ls := [(0, .ref 116), (1, .int x1), (2, .int x2), (3, .int x3), (4, .int x4)]) (st := [.int x3, .ref 116]) (h := ks i a q r) (i := (.invokevirtual 137, 3, 132, 0, 9, 0, 387)) (mi_k181.2 _ _ (by rfl)) (ft_invS mi_pq132 (by rfl)) (cy := mi_c132) mi_pq132 rfl (kc132_116 hG.I hG.R x3) (by decide) ?_
      intro vg5 hg5
      rcases hg5 with ⟨eg5, hg5⟩ | ⟨eg5, hg5⟩
      ·
        subst eg5
        have fi_7424 : ((0 : Int) ≤ (i 7424).toInt) ∧ ((i 7424).toInt ≤ 8) := hG.I.1 7424
        have z6 : ((0 : Int) ≤ x3.toInt) ∧ (x3.toInt < (i 7424).toInt) := hg5
        refine ft_go mi_k181 4 23 [(0, .ref 116), (1, .int x1), (2, .int x2), (3, .int x3), (4, .int x4)] [.int 1, .int 0, .int x4] i a q r (by rfl) ?_
        refine ko_callPI mi_k181.1 (pc := 23) (ls := [(0, .ref 116), (1, .int x1), (2, .int x2), (3, .int x3), (4, .int x4)]) (st := [.int 1, .int 0, .int x4]) (h := ks i a q r) (i := (.invokestatic 119, 3, 131, 0, 9, 0, 379)) (mi_k181.2 _ _ (by rfl)) (ft_invS mi_pq131 (by rfl)) (cy := mi_c131) mi_pq131 rfl (kc131 hG.I hG.R x4 0 1) (by decide) ?_
        intro vg7 hg7
        rcases hg7 with ⟨eg7, hg7⟩ | ⟨eg7, hg7⟩
        ·
          subst eg7
          refine ft_go mi_k181 3 33 [(0, .ref 116), (1, .int x1), (2, .int x2), (3, .int x3), (4, .int x4)] [.int x1, .ref 116] i a q r (by rfl) ?_
          refine ko_callPI mi_k181.1 (pc := 33) (ls := [(0, .ref 116), (1, .int x1), (2, .int x2), (3, .int x3), (4, .int x4)]) (st := [.int x1, .ref 116]) (h := ks i a q r) (i := (.invokevirtual 276, 3, 173, 0, 9, 0, 410)) (mi_k181.2 _ _ (by rfl)) (ft_invS mi_pq173 (by rfl)) (cy := mi_c173) mi_pq173 rfl (kc173_116 hG.I hG.R x1 (of34 z2.1 z2.2)) (by decide) ?_
          intro vg9 hg9
          refine ft_go mi_k181 2 40 [(5, .int vg9), (0, .ref 116), (1, .int x1), (2, .int x2), (3, .int x3), (4, .int x4)] [.int vg9] i a q r (by rfl) ?_
          refine ft_if mi_k181 (decide (0 ≤ vg9)) 46 43 [(5, .int vg9), (0, .ref 116), (1, .int x1), (2, .int x2), (3, .int x3), (4, .int x4)] [] (by rfl) (fun c => ?_) (fun c => ?_)
          ·
            have c11 : (0 : Int32).toInt ≤ vg9.toInt := kd_le c; clear c
            refine ft_go mi_k181 2 48 [(5, .int vg9), (0, .ref 116), (1, .int x1), (2, .int x2), (3, .int x3), (4, .int x4)] [.int x1, .ref 116] i a q r (by rfl) ?_
            refine ko_callN mi_k181.1 (pc := 48) (ls := [(5, .int vg9), (0, .ref 116), (1, .int x1), (2, .int x2), (3, .int x3), (4, .int x4)]) (st := [.int x1, .ref 116]) (h := ks i a q r) (i := (.invokevirtual 279, 3, 174, 0, 9, 0, 411)) (mi_k181.2 _ _ (by rfl)) (ft_invS mi_pq174 (by rfl)) (cy := mi_c174) mi_pq174 rfl (kc174_116 hG.I hG.R x1 (of34 z2.1 z2.2)) (by decide) ?_
            intro ig12 ag12 qg12 rg12 kg12 hg12
            have hGg12 := kG_call hG kg12 (by decide +kernel)
            have z13 : (ig12 7469).toInt ≤ 20 := hg12
            refine ft_go mi_k181 3 56 [(5, .int vg9), (0, .ref 116), (1, .int x1), (2, .int x2), (3, .int x3), (4, .int x4)] [.int (ig12 7469), .int x2] ig12 ag12 qg12 rg12 (by rfl) ?_
            refine ft_if mi_k181 (decide (x2 ≤ (ig12 7469))) 61 59 [(5, .int vg9), (0, .ref 116), (1, .int x1), (2, .int x2), (3, .int x3), (4, .int x4)] [] (by rfl) (fun c => ?_) (fun c => ?_)
            ·
              have c14 : x2.toInt ≤ (ig12 7469).toInt := kd_le c; clear c
              refine ft_go mi_k181 3 67 [(5, .int vg9), (0, .ref 116), (1, .int x1), (2, .int x2), (3, .int x3), (4, .int x4)] [.int 20, .int (ig12 7469)] ig12 ag12 qg12 rg12 (by rfl) ?_
              refine ft_if mi_k181 ((ig12 7469) != 20) 73 70 [(5, .int vg9), (0, .ref 116), (1, .int x1), (2, .int x2), (3, .int x3), (4, .int x4)] [] (by rfl) (fun c => ?_) (fun c => ?_)
              ·
                have c15 : (ig12 7469).toInt ≠ (20 : Int32).toInt := kd_ne c; clear c
                refine ft_go mi_k181 6 82 [(8, .int 0), (7, .int (-1)), (6, .int 0), (5, .int vg9), (0, .ref 116), (1, .int x1), (2, .int x2), (3, .int x3), (4, .int x4)] [] ig12 ag12 qg12 rg12 (by rfl) ?_
                have lp16 : ∀ (nz : Nat) (i16 : Nat → Int32) (a16 : Nat → List Int32) (q16 : Nat → List Int64) (r16 : Nat → Nat) (l8_16 : Int32) (l7_16 : Int32) (l6_16 : Int32), kG yw181_116_L82 ig12 ag12 qg12 rg12 i16 a16 q16 r16 → (0 : Int) ≤ l8_16.toInt → (i16 7469).toInt ≤ 19 → x2.toInt ≤ (i16 7469).toInt → a16 118 = a 118 → (((i16 7424).toInt - l8_16.toInt)).toNat < nz → ko 15 (mi_h181, mi_c181) P (82, [(8, .int l8_16), (7, .int l7_16), (6, .int l6_16), (5, .int vg9), (0, .ref 116), (1, .int x1), (2, .int x2), (3, .int x3), (4, .int x4)], [], (0, 0), ks i16 a16 q16 r16) := by
                  intro nz
                  induction nz with
                  | zero =>
                    intro _ _ _ _ _ _ _ _ _ _ _ _ hm
                    exact absurd hm (Nat.not_lt_zero _)
                  | succ nz ih16 =>
                    intro i16 a16 q16 r16 l8_16 l7_16 l6_16 hL16 p16_0 p16_1 p16_2 O16_0 hm16
                    have fi16_7469 : ((0 : Int) ≤ (i16 7469).toInt) ∧ ((i16 7469).toInt ≤ 21) := hL16.I.1 7469
                    have fi16_7424 : ((0 : Int) ≤ (i16 7424).toInt) ∧ ((i16 7424).toInt ≤ 8) := hL16.I.1 7424
                    refine ft_go mi_k181 3 88 [(8, .int l8_16), (7, .int l7_16), (6, .int l6_16), (5, .int vg9), (0, .ref 116), (1, .int x1), (2, .int x2), (3, .int x3), (4, .int x4)] [.int (i16 7424), .int l8_16] i16 a16 q16 r16 (by rfl) ?_
                    refine ft_if mi_k181 (decide ((i16 7424) ≤ l8_16)) 134 91 [(8, .int l8_16), (7, .int l7_16), (6, .int l6_16), (5, .int vg9), (0, .ref 116), (1, .int x1), (2, .int x2), (3, .int x3), (4, .int x4)] [] (by rfl) (fun c => ?_) (fun c => ?_)
                    ·
                      have c17 : (i16 7424).toInt ≤ l8_16.toInt := kd_le c; clear c
                      have hG18 := kG_call hGg12 hL16 (by decide +kernel)
                      refine ft_go mi_k181 1 136 [(8, .int l8_16), (7, .int l7_16), (6, .int l6_16), (5, .int vg9), (0, .ref 116), (1, .int x1), (2, .int x2), (3, .int x3), (4, .int x4)] [.int x4] i16 a16 q16 r16 (by rfl) ?_
                      refine ft_if mi_k181 (x4 != 0) 144 139 [(8, .int l8_16), (7, .int l7_16), (6, .int l6_16), (5, .int vg9), (0, .ref 116), (1, .int x1), (2, .int x2), (3, .int x3), (4, .int x4)] [] (by rfl) (fun c => ?_) (fun c => ?_)
                      ·
                        have c19 : x4.toInt ≠ (0 : Int32).toInt := kd_ne c; clear c
                        refine ft_go mi_k181 1 146 [(8, .int l8_16), (7, .int l7_16), (6, .int l6_16), (5, .int vg9), (0, .ref 116), (1, .int x1), (2, .int x2), (3, .int x3), (4, .int x4)] [.int l7_16] i16 a16 q16 r16 (by rfl) ?_
                        exact ft_ret mi_k181 (by rfl) (hP l7_16 _ _ _ _ hG18 ⟨trivial, (show a16 118 = a 118 from (by first | rfl | (simp only [O16_0, sMn, sMx]; done) | (simp only [O16_0, sMn, sMx]; rfl)))⟩)
                      ·
                        have c20 : x4.toInt = (0 : Int32).toInt := kd_neF c; clear c
                        refine ft_go mi_k181 2 146 [(8, .int l8_16), (7, .int l7_16), (6, .int l6_16), (5, .int vg9), (0, .ref 116), (1, .int x1), (2, .int x2), (3, .int x3), (4, .int x4)] [.int l6_16] i16 a16 q16 r16 (by rfl) ?_
                        exact ft_ret mi_k181 (by rfl) (hP l6_16 _ _ _ _ hG18 ⟨trivial, (show a16 118 = a 118 from (by first | rfl | (simp only [O16_0, sMn, sMx]; done) | (simp only [O16_0, sMn, sMx]; rfl)))⟩)
                    ·
                      have c21 : l8_16.toInt < (i16 7424).toInt := kd_leF c; clear c
                      refine ft_go mi_k181 3 95 [(8, .int l8_16), (7, .int l7_16), (6, .int l6_16), (5, .int vg9), (0, .ref 116), (1, .int x1), (2, .int x2), (3, .int x3), (4, .int x4)] [.int l8_16, .int x2, .ref 116] i16 a16 q16 r16 (by rfl) ?_
                      refine ko_callN mi_k181.1 (pc := 95) (ls := [(8, .int l8_16), (7, .int l7_16), (6, .int l6_16), (5, .int vg9), (0, .ref 116), (1, .int x1), (2, .int x2), (3, .int x3), (4, .int x4)]) (st := [.int l8_16, .int x2, .ref 116]) (h := ks i16 a16 q16 r16) (i := (.invokevirtual 284, 3, 178, 0, 9, 0, 428)) (mi_k181.2 _ _ (by rfl)) (ft_invS mi_pq178 (by rfl)) (cy := mi_c178) mi_pq178 rfl (kc178_116 hL16.I hL16.R x2 l8_16 (of143 c4 p16_2 kof0) (of137 p16_1) (of138 c21 fi16_7424.2 p16_0)) (by decide) ?_
                      intro ig22 ag22 qg22 rg22 kg22 hg22
                      have hGg22 := kG_call hL16 kg22 (by decide +kernel)
                      have z23 : (ig22 7469).toInt = ((i16 7469).toInt + 1) := hg22
                      refine ft_go mi_k181 2 100 [(8, .int l8_16), (7, .int l7_16), (6, .int l6_16), (5, .int vg9), (0, .ref 116), (1, .int x1), (2, .int x2), (3, .int x3), (4, .int x4)] [.int x3, .ref 116] ig22 ag22 qg22 rg22 (by rfl) ?_
                      have hG24 := kG_call hGg12 hGg22 (by decide +kernel)
                      refine ko_callI mi_k181.1 (pc := 100) (ls := [(8, .int l8_16), (7, .int l7_16), (6, .int l6_16), (5, .int vg9), (0, .ref 116), (1, .int x1), (2, .int x2), (3, .int x3), (4, .int x4)]) (st := [.int x3, .ref 116]) (h := ks ig22 ag22 qg22 rg22) (i := (.invokevirtual 288, 3, 172, 0, 9, 0, 429)) (mi_k181.2 _ _ (by rfl)) (ft_invS mi_pq172 (by rfl)) (cy := mi_c172) mi_pq172 rfl (ke172_116 hGg22.I hGg22.R x3 (of118 fi_7424.2 z6.1 z6.2) (kCode_of (i1 := ig22) hE_code (hG24.fi 7432 rfl) (hG24.fa 120 rfl) (hG24.fa 121 rfl) (hG24.fa 122 rfl) (hG24.fa 123 rfl))) (by decide) ?_
                      intro vg25 ig25 ag25 qg25 rg25 kg25 hg25
                      have hGg25 := kG_call hGg22 kg25 (by decide +kernel)
                      obtain ⟨hg25, og25⟩ := hg25
                      have q26 : ag25 118 = ag22 118 := og25
                      refine ft_go mi_k181 3 107 [(9, .int vg25), (8, .int l8_16), (7, .int l7_16), (6, .int l6_16), (5, .int vg9), (0, .ref 116), (1, .int x1), (2, .int x2), (3, .int x3), (4, .int x4)] [.int x2, .ref 116] ig25 ag25 qg25 rg25 (by rfl) ?_
                      have efig25_7469 : (ig25 7469).toInt = (ig22 7469).toInt := kg25.ti 7469 rfl
                      refine ko_callN mi_k181.1 (pc := 107) (ls := [(9, .int vg25), (8, .int l8_16), (7, .int l7_16), (6, .int l6_16), (5, .int vg9), (0, .ref 116), (1, .int x1), (2, .int x2), (3, .int x3), (4, .int x4)]) (st := [.int x2, .ref 116]) (h := ks ig25 ag25 qg25 rg25) (i := (.invokevirtual 291, 3, 179, 0, 9, 0, 430)) (mi_k181.2 _ _ (by rfl)) (ft_invS mi_pq179 (by rfl)) (cy := mi_c179) mi_pq179 rfl (kc179_116 hGg25.I hGg25.R x2 (of70 c4 kof0) (of126 efig25_7469 fi16_7469.1 z23)) (by decide) ?_
                      intro ig27 ag27 qg27 rg27 kg27 hg27
                      have hGg27 := kG_call hGg25 kg27 (by decide +kernel)
                      have z28 : (ig27 7469).toInt = ((ig25 7469).toInt - 1) := hg27
                      refine ft_go mi_k181 2 114 [(9, .int vg25), (8, .int l8_16), (7, .int l7_16), (6, .int l6_16), (5, .int vg9), (0, .ref 116), (1, .int x1), (2, .int x2), (3, .int x3), (4, .int x4)] [.int l7_16, .int vg25] ig27 ag27 qg27 rg27 (by rfl) ?_
                      refine ft_if mi_k181 (decide (l7_16 < vg25)) 120 117 [(9, .int vg25), (8, .int l8_16), (7, .int l7_16), (6, .int l6_16), (5, .int vg9), (0, .ref 116), (1, .int x1), (2, .int x2), (3, .int x3), (4, .int x4)] [] (by rfl) (fun c => ?_) (fun c => ?_)
                      ·
                        have c29 : l7_16.toInt < vg25.toInt := kd_lt c; clear c
                        have s30 : (l8_16 + 1).toInt = l8_16.toInt + (1 : Int32).toInt := kd_add (of9 p16_0 kof1) (of139 c21 fi16_7424.2 kof1)
                        refine ft_go mi_k181 6 82 [(8, .int (l8_16 + 1)), (6, .int l8_16), (7, .int vg25), (9, .int vg25), (5, .int vg9), (0, .ref 116), (1, .int x1), (2, .int x2), (3, .int x3), (4, .int x4)] [] ig27 ag27 qg27 rg27 (by rfl) ?_
                        refine ko_perm [(8, .int (l8_16 + 1)), (7, .int vg25), (6, .int l8_16), (5, .int vg9), (0, .ref 116), (1, .int x1), (2, .int x2), (3, .int x3), (4, .int x4)] (List.forall_mem_cons.mpr ⟨(List.Mem.head _), (List.forall_mem_cons.mpr ⟨(List.Mem.tail _ (List.Mem.tail _ (List.Mem.head _))), (List.forall_mem_cons.mpr ⟨(List.Mem.tail _ (List.Mem.head _)), (List.forall_mem_cons.mpr ⟨(List.Mem.tail _ (List.Mem.tail _ (List.Mem.tail _ (List.Mem.tail _ (List.Mem.head _))))), (List.forall_mem_cons.mpr ⟨(List.Mem.tail _ (List.Mem.tail _ (List.Mem.tail _ (List.Mem.tail _ (List.Mem.tail _ (List.Mem.head _)))))), (List.forall_mem_cons.mpr ⟨(List.Mem.tail _ (List.Mem.tail _ (List.Mem.tail _ (List.Mem.tail _ (List.Mem.tail _ (List.Mem.tail _ (List.Mem.head _))))))), (List.forall_mem_cons.mpr ⟨(List.Mem.tail _ (List.Mem.tail _ (List.Mem.tail _ (List.Mem.tail _ (List.Mem.tail _ (List.Mem.tail _ (List.Mem.tail _ (List.Mem.head _)))))))), (List.forall_mem_cons.mpr ⟨(List.Mem.tail _ (List.Mem.tail _ (List.Mem.tail _ (List.Mem.tail _ (List.Mem.tail _ (List.Mem.tail _ (List.Mem.tail _ (List.Mem.tail _ (List.Mem.head _))))))))), (List.forall_mem_cons.mpr ⟨(List.Mem.tail _ (List.Mem.tail _ (List.Mem.tail _ (List.Mem.tail _ (List.Mem.tail _ (List.Mem.tail _ (List.Mem.tail _ (List.Mem.tail _ (List.Mem.tail _ (List.Mem.head _)))))))))), (fun _ h => absurd h List.not_mem_nil)⟩)⟩)⟩)⟩)⟩)⟩)⟩)⟩)⟩) ?_
                        have efig22_7424 : (ig22 7424).toInt = (i16 7424).toInt := kg22.ti 7424 rfl
                        have efig25_7424 : (ig25 7424).toInt = (ig22 7424).toInt := kg25.ti 7424 rfl
                        have efig27_7424 : (ig27 7424).toInt = (ig25 7424).toInt := kg27.ti 7424 rfl
                        exact ih16 _ _ _ _ _ _ _ hGg27 (of11 p16_0 s30 kof1) (of140 efig25_7469 p16_1 z23 z28) (of144 efig25_7469 p16_2 z23 z28) (by first | rfl | (simp only [kg27.fa 118 rfl, q26, kg22.fa 118 rfl, O16_0, sMn, sMx]; done) | (simp only [kg27.fa 118 rfl, q26, kg22.fa 118 rfl, O16_0, sMn, sMx]; rfl)) (kj_meas (of142 efig22_7424 efig25_7424 efig27_7424 s30 kof1) (of80 c21) hm16)
                      ·
                        have c31 : vg25.toInt ≤ l7_16.toInt := kd_ltF c; clear c
                        have s32 : (l8_16 + 1).toInt = l8_16.toInt + (1 : Int32).toInt := kd_add (of9 p16_0 kof1) (of139 c21 fi16_7424.2 kof1)
                        refine ft_go mi_k181 3 82 [(8, .int (l8_16 + 1)), (9, .int vg25), (7, .int l7_16), (6, .int l6_16), (5, .int vg9), (0, .ref 116), (1, .int x1), (2, .int x2), (3, .int x3), (4, .int x4)] [] ig27 ag27 qg27 rg27 (by rfl) ?_
                        refine ko_perm [(8, .int (l8_16 + 1)), (7, .int l7_16), (6, .int l6_16), (5, .int vg9), (0, .ref 116), (1, .int x1), (2, .int x2), (3, .int x3), (4, .int x4)] (List.forall_mem_cons.mpr ⟨(List.Mem.head _), (List.forall_mem_cons.mpr ⟨(List.Mem.tail _ (List.Mem.tail _ (List.Mem.head _))), (List.forall_mem_cons.mpr ⟨(List.Mem.tail _ (List.Mem.tail _ (List.Mem.tail _ (List.Mem.head _)))), (List.forall_mem_cons.mpr ⟨(List.Mem.tail _ (List.Mem.tail _ (List.Mem.tail _ (List.Mem.tail _ (List.Mem.head _))))), (List.forall_mem_cons.mpr ⟨(List.Mem.tail _ (List.Mem.tail _ (List.Mem.tail _ (List.Mem.tail _ (List.Mem.tail _ (List.Mem.head _)))))), (List.forall_mem_cons.mpr ⟨(List.Mem.tail _ (List.Mem.tail _ (List.Mem.tail _ (List.Mem.tail _ (List.Mem.tail _ (List.Mem.tail _ (List.Mem.head _))))))), (List.forall_mem_cons.mpr ⟨(List.Mem.tail _ (List.Mem.tail _ (List.Mem.tail _ (List.Mem.tail _ (List.Mem.tail _ (List.Mem.tail _ (List.Mem.tail _ (List.Mem.head _)))))))), (List.forall_mem_cons.mpr ⟨(List.Mem.tail _ (List.Mem.tail _ (List.Mem.tail _ (List.Mem.tail _ (List.Mem.tail _ (List.Mem.tail _ (List.Mem.tail _ (List.Mem.tail _ (List.Mem.head _))))))))), (List.forall_mem_cons.mpr ⟨(List.Mem.tail _ (List.Mem.tail _ (List.Mem.tail _ (List.Mem.tail _ (List.Mem.tail _ (List.Mem.tail _ (List.Mem.tail _ (List.Mem.tail _ (List.Mem.tail _ (List.Mem.head _)))))))))), (fun _ h => absurd h List.not_mem_nil)⟩)⟩)⟩)⟩)⟩)⟩)⟩)⟩)⟩) ?_
                        have efig22_7424 : (ig22 7424).toInt = (i16 7424).toInt := kg22.ti 7424 rfl
                        have efig25_7424 : (ig25 7424).toInt = (ig22 7424).toInt := kg25.ti 7424 rfl
                        have efig27_7424 : (ig27 7424).toInt = (ig25 7424).toInt := kg27.ti 7424 rfl
                        exact ih16 _ _ _ _ _ _ _ hGg27 (of11 p16_0 s32 kof1) (of140 efig25_7469 p16_1 z23 z28) (of144 efig25_7469 p16_2 z23 z28) (by first | rfl | (simp only [kg27.fa 118 rfl, q26, kg22.fa 118 rfl, O16_0, sMn, sMx]; done) | (simp only [kg27.fa 118 rfl, q26, kg22.fa 118 rfl, O16_0, sMn, sMx]; rfl)) (kj_meas (of142 efig22_7424 efig25_7424 efig27_7424 s32 kof1) (of80 c21) hm16)
                exact lp16 _ _ _ _ _ _ _ _ (kG_self _ hGg12.I hGg12.R) (of17 kof0) (of132 c15 z13 kof20) (of115 c14) (by first | rfl | (simp only [kg12.fa 118 rfl, sMn, sMx]; done) | (simp only [kg12.fa 118 rfl, sMn, sMx]; rfl)) (Nat.lt_succ_self _)
              ·
                have c33 : (ig12 7469).toInt = (20 : Int32).toInt := kd_neF c; clear c
                refine ft_go mi_k181 1 72 [(5, .int vg9), (0, .ref 116), (1, .int x1), (2, .int x2), (3, .int x3), (4, .int x4)] [.int (-5)] ig12 ag12 qg12 rg12 (by rfl) ?_
                exact ft_ret mi_k181 (by rfl) (hP (-5) _ _ _ _ hGg12 ⟨trivial, (show ag12 118 = a 118 from (by first | rfl | (simp only [kg12.fa 118 rfl, sMn, sMx]; done) | (simp only [kg12.fa 118 rfl, sMn, sMx]; rfl)))⟩)
            ·
              have c34 : (ig12 7469).toInt < x2.toInt := kd_leF c; clear c
              refine ft_go mi_k181 1 60 [(5, .int vg9), (0, .ref 116), (1, .int x1), (2, .int x2), (3, .int x3), (4, .int x4)] [.int (-1)] ig12 ag12 qg12 rg12 (by rfl) ?_
              exact ft_ret mi_k181 (by rfl) (hP (-1) _ _ _ _ hGg12 ⟨trivial, (show ag12 118 = a 118 from (by first | rfl | (simp only [kg12.fa 118 rfl, sMn, sMx]; done) | (simp only [kg12.fa 118 rfl, sMn, sMx]; rfl)))⟩)
          ·
            have c35 : vg9.toInt < (0 : Int32).toInt := kd_leF c; clear c
            refine ft_go mi_k181 1 45 [(5, .int vg9), (0, .ref 116), (1, .int x1), (2, .int x2), (3, .int x3), (4, .int x4)] [.int vg9] i a q r (by rfl) ?_
            exact ft_ret mi_k181 (by rfl) (hP vg9 _ _ _ _ hG ⟨trivial, (show a 118 = a 118 from rfl)⟩)
        ·
          subst eg7
          refine ft_go mi_k181 2 30 [(0, .ref 116), (1, .int x1), (2, .int x2), (3, .int x3), (4, .int x4)] [.int (-1)] i a q r (by rfl) ?_
          exact ft_ret mi_k181 (by rfl) (hP (-1) _ _ _ _ hG ⟨trivial, (show a 118 = a 118 from rfl)⟩)
      ·
        subst eg5
        refine ft_go mi_k181 2 30 [(0, .ref 116), (1, .int x1), (2, .int x2), (3, .int x3), (4, .int x4)] [.int (-1)] i a q r (by rfl) ?_
        exact ft_ret mi_k181 (by rfl) (hP (-1) _ _ _ _ hG ⟨trivial, (show a 118 = a 118 from rfl)⟩)
  ·
    subst eg1
    refine ft_go mi_k181 2 30 [(0, .ref 116), (1, .int x1), (2, .int x2), (3, .int x3), (4, .int x4)] [.int (-1)] i a q r (by rfl) ?_
    exact ft_ret mi_k181 (by rfl) (hP (-1) _ _ _ _ hG ⟨trivial, (show a 118 = a 118 from rfl)⟩)
def yw183_116 : kW := ([7464, 7465, 7466, 7467, 7469], [118, 128, 129, 139, 141, 142, 143, 144, 145], [], [])
def yw183_116_L60 : kW := ([7464, 7465, 7466, 7467], [118, 128, 129, 139, 141, 142, 143, 144, 145], [], [])
set_option maxRecDepth 100000 in
theorem ke183_116 {i : Nat → Int32} {a : Nat → List Int32} {q : Nat → List Int64} {r : Nat → Nat} (hI : kI i a q) (hr : kr r) (x1 : Int32) (x2 : Int32) (x3 : Int32) (hE_code : kCode i a) : km 15 183 [.ref 116, .int x1, .int x2, .int x3] (ks i a q r) (kVI yw183_116 i a q r (fun v i1 a1 q1 r1 => (True) ∧ a1 118 = a 118)) := by
  have hG := kG_self yw183_116 hI hr
  refine km_ofI (q := (mi_h183, mi_c183)) rfl (by decide) (Nat.le_of_ble_eq_true rfl) ?_
  intro P hP
  refine ft_go mi_k183 1 1 [(0, .ref 116), (1, .int x1), (2, .int x2), (3, .int x3)] [.int x1] i a q r (by rfl) ?_
  refine ko_callPI mi_k183.1 (pc := 1) (ls := [(0, .ref 116), (1, .int x1), (2, .int x2), (3, .int x3)]) (st := [.int x1]) (h := ks i a q r) (i := (.invokestatic 127, 3, 133, 0, 9, 0, 382)) (mi_k183.2 _ _ (by rfl)) (ft_invS mi_pq133 (by rfl)) (cy := mi_c133) mi_pq133 rfl (kc133 hG.I hG.R x1) (by decide) ?_
  intro vg1 hg1
  rcases hg1 with ⟨eg1, hg1⟩ | ⟨eg1, hg1⟩
  ·
    subst eg1
    have z2 : ((0 : Int) ≤ x1.toInt) ∧ (x1.toInt ≤ 5) := hg1
    refine ft_go mi_k183 3 9 [(0, .ref 116), (1, .int x1), (2, .int x2), (3, .int x3)] [.int x2, .ref 116] i a q r (by rfl) ?_
    refine ko_callPI mi_k183.1 (pc := 9) (ls := [(0, .ref 116), (1, .int x1), (2, .int x2), (3, .int x3)]) (st := [.int x2, .ref 116]) (h := ks i a q r) (i := (.invokevirtual 137, 3, 132, 0, 9, 0, 387)) (mi_k183.2 _ _ (by rfl)) (ft_invS mi_pq132 (by rfl)) (cy := mi_c132) mi_pq132 rfl (kc132_116 hG.I hG.R x2) (by decide) ?_
    intro vg3 hg3
    rcases hg3 with ⟨eg3, hg3⟩ | ⟨eg3, hg3⟩
    ·
      subst eg3
      have fi_7424 : ((0 : Int) ≤ (i 7424).toInt) ∧ ((i 7424).toInt ≤ 8) := hG.I.1 7424
      have z4 : ((0 : Int) ≤ x2.toInt) ∧ (x2.toInt < (i 7424).toInt) := hg3
      refine ft_go mi_k183 4 18 [(0, .ref 116), (1, .int x1), (2, .int x2), (3, .int x3)] [.int 1, .int 0, .int x3] i a q r (by rfl) ?_
      refine ko_callPI mi_k183.1 (pc := 18) (ls := [(0, .ref 116), (1, .int x1), (2, .int x2), (3, .int x3)]) (st := [.int 1, .int 0, .int x3]) (h := ks i a q r) (i := (.invokestatic 119, 3, 131, 0, 9, 0, 379)) (mi_k183.2 _ _ (by rfl)) (ft_invS mi_pq131 (by rfl)) (cy := mi_c131) mi_pq131 rfl (kc131 hG.I hG.R x3 0 1) (by decide) ?_
      intro vg5 hg5
      rcases hg5 with ⟨eg5, hg5⟩ | ⟨eg5, hg5⟩
      ·
        subst eg5
        refine ft_go mi_k183 3 28 [(0, .ref 116), (1, .int x1), (2, .int x2), (3, .int x3)] [.int x1, .ref 116] i a q r (by rfl) ?_
        refine ko_callPI mi_k183.1 (pc := 28) (ls := [(0, .ref 116), (1, .int x1), (2, .int x2), (3, .int x3)]) (st := [.int x1, .ref 116]) (h := ks i a q r) (i := (.invokevirtual 276, 3, 173, 0, 9, 0, 410)) (mi_k183.2 _ _ (by rfl)) (ft_invS mi_pq173 (by rfl)) (cy := mi_c173) mi_pq173 rfl (kc173_116 hG.I hG.R x1 (of34 z2.1 z2.2)) (by decide) ?_
        intro vg7 hg7
        refine ft_go mi_k183 2 35 [(4, .int vg7), (0, .ref 116), (1, .int x1), (2, .int x2), (3, .int x3)] [.int vg7] i a q r (by rfl) ?_
        refine ft_if mi_k183 (decide (0 ≤ vg7)) 41 38 [(4, .int vg7), (0, .ref 116), (1, .int x1), (2, .int x2), (3, .int x3)] [] (by rfl) (fun c => ?_) (fun c => ?_)
        ·
          have c9 : (0 : Int32).toInt ≤ vg7.toInt := kd_le c; clear c
          refine ft_go mi_k183 2 43 [(4, .int vg7), (0, .ref 116), (1, .int x1), (2, .int x2), (3, .int x3)] [.int x1, .ref 116] i a q r (by rfl) ?_
          refine ko_callN mi_k183.1 (pc := 43) (ls := [(4, .int vg7), (0, .ref 116), (1, .int x1), (2, .int x2), (3, .int x3)]) (st := [.int x1, .ref 116]) (h := ks i a q r) (i := (.invokevirtual 279, 3, 174, 0, 9, 0, 411)) (mi_k183.2 _ _ (by rfl)) (ft_invS mi_pq174 (by rfl)) (cy := mi_c174) mi_pq174 rfl (kc174_116 hG.I hG.R x1 (of34 z2.1 z2.2)) (by decide) ?_
          intro ig10 ag10 qg10 rg10 kg10 hg10
          have hGg10 := kG_call hG kg10 (by decide +kernel)
          have z11 : (ig10 7469).toInt ≤ 20 := hg10
          refine ft_go mi_k183 4 52 [(5, .int (-2)), (4, .int vg7), (0, .ref 116), (1, .int x1), (2, .int x2), (3, .int x3)] [.int x2, .ref 116] ig10 ag10 qg10 rg10 (by rfl) ?_
          refine ko_callI mi_k183.1 (pc := 52) (ls := [(5, .int (-2)), (4, .int vg7), (0, .ref 116), (1, .int x1), (2, .int x2), (3, .int x3)]) (st := [.int x2, .ref 116]) (h := ks ig10 ag10 qg10 rg10) (i := (.invokevirtual 288, 3, 172, 0, 9, 0, 429)) (mi_k183.2 _ _ (by rfl)) (ft_invS mi_pq172 (by rfl)) (cy := mi_c172) mi_pq172 rfl (ke172_116 hGg10.I hGg10.R x2 (of118 fi_7424.2 z4.1 z4.2) (kCode_of (i1 := ig10) hE_code (hGg10.fi 7432 rfl) (hGg10.fa 120 rfl) (hGg10.fa 121 rfl) (hGg10.fa 122 rfl) (hGg10.fa 123 rfl))) (by decide) ?_
          intro vg12 ig12 ag12 qg12 rg12 kg12 hg12
          have hGg12 := kG_call hGg10 kg12 (by decide +kernel)
          obtain ⟨hg12, og12⟩ := hg12
          have q13 : ag12 118 = ag10 118 := og12
          refine ft_go mi_k183 3 60 [(7, .int 0), (6, .int vg12), (5, .int (-2)), (4, .int vg7), (0, .ref 116), (1, .int x1), (2, .int x2), (3, .int x3)] [] ig12 ag12 qg12 rg12 (by rfl) ?_
          have lp14 : ∀ (nz : Nat) (i14 : Nat → Int32) (a14 : Nat → List Int32) (q14 : Nat → List Int64) (r14 : Nat → Nat) (l7_14 : Int32) (l6_14 : Int32) (l5_14 : Int32), kG yw183_116_L60 ig12 ag12 qg12 rg12 i14 a14 q14 r14 → ((0 : Int) ≤ l7_14.toInt) ∧ (l7_14.toInt ≤ 20) → (i14 7469).toInt ≤ 20 → a14 118 = a 118 → (((i14 7469).toInt - l7_14.toInt)).toNat < nz → ko 15 (mi_h183, mi_c183) P (60, [(7, .int l7_14), (6, .int l6_14), (5, .int l5_14), (4, .int vg7), (0, .ref 116), (1, .int x1), (2, .int x2), (3, .int x3)], [], (0, 0), ks i14 a14 q14 r14) := by
            intro nz
            induction nz with
            | zero =>
              intro _ _ _ _ _ _ _ _ _ _ _ hm
              exact absurd hm (Nat.not_lt_zero _)
            | succ nz ih14 =>
              intro i14 a14 q14 r14 l7_14 l6_14 l5_14 hL14 p14_0 p14_1 O14_0 hm14
              have fi14_7469 : ((0 : Int) ≤ (i14 7469).toInt) ∧ ((i14 7469).toInt ≤ 21) := hL14.I.1 7469
              have s15 : (l7_14 + 1).toInt = l7_14.toInt + (1 : Int32).toInt := kd_add (of9 p14_0.1 kof1) (of145 p14_0.2 kof1)
              refine ft_go mi_k183 5 68 [(7, .int l7_14), (6, .int l6_14), (5, .int l5_14), (4, .int vg7), (0, .ref 116), (1, .int x1), (2, .int x2), (3, .int x3)] [.int (i14 7469), .int (l7_14 + 1)] i14 a14 q14 r14 (by rfl) ?_
              refine ft_if mi_k183 (decide ((i14 7469) ≤ (l7_14 + 1))) 114 71 [(7, .int l7_14), (6, .int l6_14), (5, .int l5_14), (4, .int vg7), (0, .ref 116), (1, .int x1), (2, .int x2), (3, .int x3)] [] (by rfl) (fun c => ?_) (fun c => ?_)
              ·
                have c16 : (i14 7469).toInt ≤ (l7_14 + 1).toInt := kd_le c; clear c
                have hG17 := kG_call hGg12 hL14 (by decide +kernel)
                refine ft_go mi_k183 1 115 [(7, .int l7_14), (6, .int l6_14), (5, .int l5_14), (4, .int vg7), (0, .ref 116), (1, .int x1), (2, .int x2), (3, .int x3)] [.int x3] i14 a14 q14 r14 (by rfl) ?_
                refine ft_if mi_k183 (x3 != 0) 123 118 [(7, .int l7_14), (6, .int l6_14), (5, .int l5_14), (4, .int vg7), (0, .ref 116), (1, .int x1), (2, .int x2), (3, .int x3)] [] (by rfl) (fun c => ?_) (fun c => ?_)
                ·
                  have c18 : x3.toInt ≠ (0 : Int32).toInt := kd_ne c; clear c
                  refine ft_go mi_k183 1 125 [(7, .int l7_14), (6, .int l6_14), (5, .int l5_14), (4, .int vg7), (0, .ref 116), (1, .int x1), (2, .int x2), (3, .int x3)] [.int l6_14] i14 a14 q14 r14 (by rfl) ?_
                  exact ft_ret mi_k183 (by rfl) (hP l6_14 _ _ _ _ hG17 ⟨trivial, (show a14 118 = a 118 from (by first | rfl | (simp only [O14_0, sMn, sMx]; done) | (simp only [O14_0, sMn, sMx]; rfl)))⟩)
                ·
                  have c19 : x3.toInt = (0 : Int32).toInt := kd_neF c; clear c
                  refine ft_go mi_k183 2 125 [(7, .int l7_14), (6, .int l6_14), (5, .int l5_14), (4, .int vg7), (0, .ref 116), (1, .int x1), (2, .int x2), (3, .int x3)] [.int l5_14] i14 a14 q14 r14 (by rfl) ?_
                  exact ft_ret mi_k183 (by rfl) (hP l5_14 _ _ _ _ hG17 ⟨trivial, (show a14 118 = a 118 from (by first | rfl | (simp only [O14_0, sMn, sMx]; done) | (simp only [O14_0, sMn, sMx]; rfl)))⟩)
              ·
                have c20 : (l7_14 + 1).toInt < (i14 7469).toInt := kd_leF c; clear c
                refine ft_go mi_k183 2 74 [(7, .int l7_14), (6, .int l6_14), (5, .int l5_14), (4, .int vg7), (0, .ref 116), (1, .int x1), (2, .int x2), (3, .int x3)] [.int l7_14, .ref 116] i14 a14 q14 r14 (by rfl) ?_
                refine ko_callN mi_k183.1 (pc := 74) (ls := [(7, .int l7_14), (6, .int l6_14), (5, .int l5_14), (4, .int vg7), (0, .ref 116), (1, .int x1), (2, .int x2), (3, .int x3)]) (st := [.int l7_14, .ref 116]) (h := ks i14 a14 q14 r14) (i := (.invokevirtual 294, 3, 182, 0, 9, 0, 433)) (mi_k183.2 _ _ (by rfl)) (ft_invS mi_pq182 (by rfl)) (cy := mi_c182) mi_pq182 rfl (kc182_116 hL14.I hL14.R l7_14 (of149 c20 fi14_7469.2 p14_0.1 s15 kof1)) (by decide) ?_
                intro ig21 ag21 qg21 rg21 kg21 hg21
                have hGg21 := kG_call hL14 kg21 (by decide +kernel)
                refine ft_go mi_k183 2 79 [(7, .int l7_14), (6, .int l6_14), (5, .int l5_14), (4, .int vg7), (0, .ref 116), (1, .int x1), (2, .int x2), (3, .int x3)] [.int x2, .ref 116] ig21 ag21 qg21 rg21 (by rfl) ?_
                have hG22 := kG_call hGg12 hGg21 (by decide +kernel)
                refine ko_callI mi_k183.1 (pc := 79) (ls := [(7, .int l7_14), (6, .int l6_14), (5, .int l5_14), (4, .int vg7), (0, .ref 116), (1, .int x1), (2, .int x2), (3, .int x3)]) (st := [.int x2, .ref 116]) (h := ks ig21 ag21 qg21 rg21) (i := (.invokevirtual 288, 3, 172, 0, 9, 0, 429)) (mi_k183.2 _ _ (by rfl)) (ft_invS mi_pq172 (by rfl)) (cy := mi_c172) mi_pq172 rfl (ke172_116 hGg21.I hGg21.R x2 (of118 fi_7424.2 z4.1 z4.2) (kCode_of (i1 := ig21) hE_code (hG22.fi 7432 rfl) (hG22.fa 120 rfl) (hG22.fa 121 rfl) (hG22.fa 122 rfl) (hG22.fa 123 rfl))) (by decide) ?_
                intro vg23 ig23 ag23 qg23 rg23 kg23 hg23
                have hGg23 := kG_call hGg21 kg23 (by decide +kernel)
                obtain ⟨hg23, og23⟩ := hg23
                have q24 : ag23 118 = ag21 118 := og23
                refine ft_go mi_k183 3 87 [(8, .int vg23), (7, .int l7_14), (6, .int l6_14), (5, .int l5_14), (4, .int vg7), (0, .ref 116), (1, .int x1), (2, .int x2), (3, .int x3)] [.int l7_14, .ref 116] ig23 ag23 qg23 rg23 (by rfl) ?_
                refine ko_callN mi_k183.1 (pc := 87) (ls := [(8, .int vg23), (7, .int l7_14), (6, .int l6_14), (5, .int l5_14), (4, .int vg7), (0, .ref 116), (1, .int x1), (2, .int x2), (3, .int x3)]) (st := [.int l7_14, .ref 116]) (h := ks ig23 ag23 qg23 rg23) (i := (.invokevirtual 294, 3, 182, 0, 9, 0, 433)) (mi_k183.2 _ _ (by rfl)) (ft_invS mi_pq182 (by rfl)) (cy := mi_c182) mi_pq182 rfl (kc182_116 hGg23.I hGg23.R l7_14 (of149 c20 fi14_7469.2 p14_0.1 s15 kof1)) (by decide) ?_
                intro ig25 ag25 qg25 rg25 kg25 hg25
                have hGg25 := kG_call hGg23 kg25 (by decide +kernel)
                refine ft_go mi_k183 2 94 [(8, .int vg23), (7, .int l7_14), (6, .int l6_14), (5, .int l5_14), (4, .int vg7), (0, .ref 116), (1, .int x1), (2, .int x2), (3, .int x3)] [.int l6_14, .int vg23] ig25 ag25 qg25 rg25 (by rfl) ?_
                refine ft_if mi_k183 (decide (l6_14 < vg23)) 100 97 [(8, .int vg23), (7, .int l7_14), (6, .int l6_14), (5, .int l5_14), (4, .int vg7), (0, .ref 116), (1, .int x1), (2, .int x2), (3, .int x3)] [] (by rfl) (fun c => ?_) (fun c => ?_)
                ·
                  have c26 : l6_14.toInt < vg23.toInt := kd_lt c; clear c
                  refine ft_go mi_k183 6 60 [(7, .int (l7_14 + 1)), (5, .int l7_14), (6, .int vg23), (8, .int vg23), (4, .int vg7), (0, .ref 116), (1, .int x1), (2, .int x2), (3, .int x3)] [] ig25 ag25 qg25 rg25 (by rfl) ?_
                  refine ko_perm [(7, .int (l7_14 + 1)), (6, .int vg23), (5, .int l7_14), (4, .int vg7), (0, .ref 116), (1, .int x1), (2, .int x2), (3, .int x3)] (List.forall_mem_cons.mpr ⟨(List.Mem.head _), (List.forall_mem_cons.mpr ⟨(List.Mem.tail _ (List.Mem.tail _ (List.Mem.head _))), (List.forall_mem_cons.mpr ⟨(List.Mem.tail _ (List.Mem.head _)), (List.forall_mem_cons.mpr ⟨(List.Mem.tail _ (List.Mem.tail _ (List.Mem.tail _ (List.Mem.tail _ (List.Mem.head _))))), (List.forall_mem_cons.mpr ⟨(List.Mem.tail _ (List.Mem.tail _ (List.Mem.tail _ (List.Mem.tail _ (List.Mem.tail _ (List.Mem.head _)))))), (List.forall_mem_cons.mpr ⟨(List.Mem.tail _ (List.Mem.tail _ (List.Mem.tail _ (List.Mem.tail _ (List.Mem.tail _ (List.Mem.tail _ (List.Mem.head _))))))), (List.forall_mem_cons.mpr ⟨(List.Mem.tail _ (List.Mem.tail _ (List.Mem.tail _ (List.Mem.tail _ (List.Mem.tail _ (List.Mem.tail _ (List.Mem.tail _ (List.Mem.head _)))))))), (List.forall_mem_cons.mpr ⟨(List.Mem.tail _ (List.Mem.tail _ (List.Mem.tail _ (List.Mem.tail _ (List.Mem.tail _ (List.Mem.tail _ (List.Mem.tail _ (List.Mem.tail _ (List.Mem.head _))))))))), (fun _ h => absurd h List.not_mem_nil)⟩)⟩)⟩)⟩)⟩)⟩)⟩)⟩) ?_
                  have efig21_7469 : (ig21 7469).toInt = (i14 7469).toInt := kg21.ti 7469 rfl
                  have efig23_7469 : (ig23 7469).toInt = (ig21 7469).toInt := kg23.ti 7469 rfl
                  have efig25_7469 : (ig25 7469).toInt = (ig23 7469).toInt := kg25.ti 7469 rfl
                  exact ih14 _ _ _ _ _ _ _ hGg25 (of150 c20 fi14_7469.2 p14_0.1 s15 kof1) (of151 efig21_7469 efig23_7469 efig25_7469 p14_1) (by first | rfl | (simp only [kg25.fa 118 rfl, q24, kg21.fa 118 rfl, O14_0, sMn, sMx]; done) | (simp only [kg25.fa 118 rfl, q24, kg21.fa 118 rfl, O14_0, sMn, sMx]; rfl)) (kj_meas (of142 efig21_7469 efig23_7469 efig25_7469 s15 kof1) (of152 c20 s15 kof1) hm14)
                ·
                  have c27 : vg23.toInt ≤ l6_14.toInt := kd_ltF c; clear c
                  refine ft_go mi_k183 3 60 [(7, .int (l7_14 + 1)), (8, .int vg23), (6, .int l6_14), (5, .int l5_14), (4, .int vg7), (0, .ref 116), (1, .int x1), (2, .int x2), (3, .int x3)] [] ig25 ag25 qg25 rg25 (by rfl) ?_
                  refine ko_perm [(7, .int (l7_14 + 1)), (6, .int l6_14), (5, .int l5_14), (4, .int vg7), (0, .ref 116), (1, .int x1), (2, .int x2), (3, .int x3)] (List.forall_mem_cons.mpr ⟨(List.Mem.head _), (List.forall_mem_cons.mpr ⟨(List.Mem.tail _ (List.Mem.tail _ (List.Mem.head _))), (List.forall_mem_cons.mpr ⟨(List.Mem.tail _ (List.Mem.tail _ (List.Mem.tail _ (List.Mem.head _)))), (List.forall_mem_cons.mpr ⟨(List.Mem.tail _ (List.Mem.tail _ (List.Mem.tail _ (List.Mem.tail _ (List.Mem.head _))))), (List.forall_mem_cons.mpr ⟨(List.Mem.tail _ (List.Mem.tail _ (List.Mem.tail _ (List.Mem.tail _ (List.Mem.tail _ (List.Mem.head _)))))), (List.forall_mem_cons.mpr ⟨(List.Mem.tail _ (List.Mem.tail _ (List.Mem.tail _ (List.Mem.tail _ (List.Mem.tail _ (List.Mem.tail _ (List.Mem.head _))))))), (List.forall_mem_cons.mpr ⟨(List.Mem.tail _ (List.Mem.tail _ (List.Mem.tail _ (List.Mem.tail _ (List.Mem.tail _ (List.Mem.tail _ (List.Mem.tail _ (List.Mem.head _)))))))), (List.forall_mem_cons.mpr ⟨(List.Mem.tail _ (List.Mem.tail _ (List.Mem.tail _ (List.Mem.tail _ (List.Mem.tail _ (List.Mem.tail _ (List.Mem.tail _ (List.Mem.tail _ (List.Mem.head _))))))))), (fun _ h => absurd h List.not_mem_nil)⟩)⟩)⟩)⟩)⟩)⟩)⟩)⟩) ?_
                  have efig21_7469 : (ig21 7469).toInt = (i14 7469).toInt := kg21.ti 7469 rfl
                  have efig23_7469 : (ig23 7469).toInt = (ig21 7469).toInt := kg23.ti 7469 rfl
                  have efig25_7469 : (ig25 7469).toInt = (ig23 7469).toInt := kg25.ti 7469 rfl
                  exact ih14 _ _ _ _ _ _ _ hGg25 (of150 c20 fi14_7469.2 p14_0.1 s15 kof1) (of151 efig21_7469 efig23_7469 efig25_7469 p14_1) (by first | rfl | (simp only [kg25.fa 118 rfl, q24, kg21.fa 118 rfl, O14_0, sMn, sMx]; done) | (simp only [kg25.fa 118 rfl, q24, kg21.fa 118 rfl, O14_0, sMn, sMx]; rfl)) (kj_meas (of142 efig21_7469 efig23_7469 efig25_7469 s15 kof1) (of152 c20 s15 kof1) hm14)
          have efig12_7469 : (ig12 7469).toInt = (ig10 7469).toInt := kg12.ti 7469 rfl
          exact lp14 _ _ _ _ _ _ _ _ (kG_self _ hGg12.I hGg12.R) (of153 kof0) (of154 efig12_7469 z11) (by first | rfl | (simp only [q13, kg10.fa 118 rfl, sMn, sMx]; done) | (simp only [q13, kg10.fa 118 rfl, sMn, sMx]; rfl)) (Nat.lt_succ_self _)
        ·
          have c28 : vg7.toInt < (0 : Int32).toInt := kd_leF c; clear c
          refine ft_go mi_k183 1 40 [(4, .int vg7), (0, .ref 116), (1, .int x1), (2, .int x2), (3, .int x3)] [.int vg7] i a q r (by rfl) ?_
          exact ft_ret mi_k183 (by rfl) (hP vg7 _ _ _ _ hG ⟨trivial, (show a 118 = a 118 from rfl)⟩)
      ·
        subst eg5
        refine ft_go mi_k183 2 25 [(0, .ref 116), (1, .int x1), (2, .int x2), (3, .int x3)] [.int (-1)] i a q r (by rfl) ?_
        exact ft_ret mi_k183 (by rfl) (hP (-1) _ _ _ _ hG ⟨trivial, (show a 118 = a 118 from rfl)⟩)
    ·
      subst eg3
      refine ft_go mi_k183 2 25 [(0, .ref 116), (1, .int x1), (2, .int x2), (3, .int x3)] [.int (-1)] i a q r (by rfl) ?_
      exact ft_ret mi_k183 (by rfl) (hP (-1) _ _ _ _ hG ⟨trivial, (show a 118 = a 118 from rfl)⟩)
  ·
    subst eg1
    refine ft_go mi_k183 2 25 [(0, .ref 116), (1, .int x1), (2, .int x2), (3, .int x3)] [.int (-1)] i a q r (by rfl) ?_
    exact ft_ret mi_k183 (by rfl) (hP (-1) _ _ _ _ hG ⟨trivial, (show a 118 = a 118 from rfl)⟩)
def yw187_116 : kW := ([7464, 7465, 7466, 7467, 7469], [118, 128, 129, 139, 141, 142, 143, 144, 145], [], [])
set_option maxRecDepth 100000 in
theorem ke187_116 {i : Nat → Int32} {a : Nat → List Int32} {q : Nat → List Int64} {r : Nat → Nat} (hI : kI i a q) (hr : kr r) (x1 : Int32) (x2 : Int32) (hE_code : kCode i a) : km 15 187 [.ref 116, .int x1, .int x2] (ks i a q r) (kVI yw187_116 i a q r (fun v i1 a1 q1 r1 => (True) ∧ a1 118 = a 118)) := by
  have hG := kG_self yw187_116 hI hr
  refine km_ofI (q := (mi_h187, mi_c187)) rfl (by decide) (Nat.le_of_ble_eq_true rfl) ?_
  intro P hP
  refine ft_go mi_k187 1 1 [(0, .ref 116), (1, .int x1), (2, .int x2)] [.int x1] i a q r (by rfl) ?_
  refine ko_callPI mi_k187.1 (pc := 1) (ls := [(0, .ref 116), (1, .int x1), (2, .int x2)]) (st := [.int x1]) (h := ks i a q r) (i := (.invokestatic 127, 3, 133, 0, 9, 0, 382)) (mi_k187.2 _ _ (by rfl)) (ft_invS mi_pq133 (by rfl)) (cy := mi_c133) mi_pq133 rfl (kc133 hG.I hG.R x1) (by decide) ?_
  intro vg1 hg1
  rcases hg1 with ⟨eg1, hg1⟩ | ⟨eg1, hg1⟩
  ·
    subst eg1
    have z2 : ((0 : Int) ≤ x1.toInt) ∧ (x1.toInt ≤ 5) := hg1
    refine ft_go mi_k187 3 9 [(0, .ref 116), (1, .int x1), (2, .int x2)] [.int x2, .ref 116] i a q r (by rfl) ?_
    refine ko_callPI mi_k187.1 (pc := 9) (ls := [(0, .ref 116), (1, .int x1), (2, .int x2)]) (st := [.int x2, .ref 116]) (h := ks i a q r) (i := (.invokevirtual 308, 3, 186, 0, 9, 0, 438)) (mi_k187.2 _ _ (by rfl)) (ft_invS mi_pq186 (by rfl)) (cy := mi_c186) mi_pq186 rfl (kc186_116 hG.I hG.R x2) (by decide) ?_
    intro vg3 hg3
    rcases hg3 with ⟨eg3, hg3⟩ | ⟨eg3, hg3⟩
    ·
      subst eg3
      have fi_7424 : ((0 : Int) ≤ (i 7424).toInt) ∧ ((i 7424).toInt ≤ 8) := hG.I.1 7424
      have z4 : ((0 : Int) ≤ x2.toInt) ∧ (((x2.toInt / 10) < (i 7424).toInt) ∧ ((x2.toInt % 10) < (i 7424).toInt)) ∧ ((x2.toInt / 10) ≠ (x2.toInt % 10)) := hg3
      refine ft_go mi_k187 3 19 [(0, .ref 116), (1, .int x1), (2, .int x2)] [.int x1, .ref 116] i a q r (by rfl) ?_
      refine ko_callPI mi_k187.1 (pc := 19) (ls := [(0, .ref 116), (1, .int x1), (2, .int x2)]) (st := [.int x1, .ref 116]) (h := ks i a q r) (i := (.invokevirtual 276, 3, 173, 0, 9, 0, 410)) (mi_k187.2 _ _ (by rfl)) (ft_invS mi_pq173 (by rfl)) (cy := mi_c173) mi_pq173 rfl (kc173_116 hG.I hG.R x1 (of34 z2.1 z2.2)) (by decide) ?_
      intro vg5 hg5
      refine ft_go mi_k187 2 24 [(3, .int vg5), (0, .ref 116), (1, .int x1), (2, .int x2)] [.int vg5] i a q r (by rfl) ?_
      refine ft_if mi_k187 (decide (0 ≤ vg5)) 29 27 [(3, .int vg5), (0, .ref 116), (1, .int x1), (2, .int x2)] [] (by rfl) (fun c => ?_) (fun c => ?_)
      ·
        have c7 : (0 : Int32).toInt ≤ vg5.toInt := kd_le c; clear c
        refine ft_go mi_k187 2 31 [(3, .int vg5), (0, .ref 116), (1, .int x1), (2, .int x2)] [.int x1, .ref 116] i a q r (by rfl) ?_
        refine ko_callN mi_k187.1 (pc := 31) (ls := [(3, .int vg5), (0, .ref 116), (1, .int x1), (2, .int x2)]) (st := [.int x1, .ref 116]) (h := ks i a q r) (i := (.invokevirtual 279, 3, 174, 0, 9, 0, 411)) (mi_k187.2 _ _ (by rfl)) (ft_invS mi_pq174 (by rfl)) (cy := mi_c174) mi_pq174 rfl (kc174_116 hG.I hG.R x1 (of34 z2.1 z2.2)) (by decide) ?_
        intro ig8 ag8 qg8 rg8 kg8 hg8
        have hGg8 := kG_call hG kg8 (by decide +kernel)
        refine ft_go mi_k187 2 36 [(3, .int vg5), (0, .ref 116), (1, .int x1), (2, .int x2)] [.int 0, .ref 116] ig8 ag8 qg8 rg8 (by rfl) ?_
        refine ko_callI mi_k187.1 (pc := 36) (ls := [(3, .int vg5), (0, .ref 116), (1, .int x1), (2, .int x2)]) (st := [.int 0, .ref 116]) (h := ks ig8 ag8 qg8 rg8) (i := (.invokevirtual 288, 3, 172, 0, 9, 0, 429)) (mi_k187.2 _ _ (by rfl)) (ft_invS mi_pq172 (by rfl)) (cy := mi_c172) mi_pq172 rfl (ke172_116 hGg8.I hGg8.R 0 (of160 kof0) (kCode_of (i1 := ig8) hE_code (hGg8.fi 7432 rfl) (hGg8.fa 120 rfl) (hGg8.fa 121 rfl) (hGg8.fa 122 rfl) (hGg8.fa 123 rfl))) (by decide) ?_
        intro vg10 ig10 ag10 qg10 rg10 kg10 hg10
        have hGg10 := kG_call hGg8 kg10 (by decide +kernel)
        obtain ⟨hg10, og10⟩ := hg10
        have q11 : ag10 118 = ag8 118 := og10
        have s12 : (x2 / 10).toInt = (x2.toInt / 10) := kd_div 10 kof10 (by decide) (of3 z4.1)
        have s13 : (8 * (x2 / 10)).toInt = 8 * (x2 / 10).toInt := kd_cmul 8 kof8 (of161 s12 z4.1) (of162 fi_7424.2 s12 z4.2.1.1 z4.2.1.2 z4.2.2)
        have s14 : (x2 - x2 / 10 * 10).toInt = (x2.toInt % 10) := kd_rem 10 kof10 (by decide) (of3 z4.1)
        have s15 : ((8 * (x2 / 10)) + (x2 - x2 / 10 * 10)).toInt = (8 * (x2 / 10)).toInt + (x2 - x2 / 10 * 10).toInt := kd_add (of163 s12 s13 s14 z4.1) (of164 fi_7424.2 s12 s13 s14 z4.2.1.1 z4.2.1.2 z4.2.2)
        refine ft_go mi_k187 12 56 [(3, .int vg5), (0, .ref 116), (1, .int x1), (2, .int x2)] [.int ((8 * (x2 / 10)) + (x2 - x2 / 10 * 10)), .ref 141] ig10 ag10 qg10 rg10 (by rfl) ?_
        refine ko_iald3 mi_k187.1 (n := 64) (c := 64) (ax := (0, 0, 0, 0, 0)) (mi_k187.2 _ _ (by rfl)) (by rfl) (ksG141 _ _ _ _) (hGg10.I.2.1 141) rfl (of165 s12 s13 s14 s15 z4.1) (of166 fi_7424.2 s12 s13 s14 s15 z4.2.1.1 z4.2.1.2 z4.2.2) ?_
        exact ft_ret mi_k187 (by rfl) (hP ((ag10 141).getD ((8 * (x2 / 10)) + (x2 - x2 / 10 * 10)).toNatClampNeg 0) _ _ _ _ hGg10 ⟨trivial, (show ag10 118 = a 118 from (by first | rfl | (simp only [q11, kg8.fa 118 rfl, sMn, sMx]; done) | (simp only [q11, kg8.fa 118 rfl, sMn, sMx]; rfl)))⟩)
      ·
        have c16 : vg5.toInt < (0 : Int32).toInt := kd_leF c; clear c
        refine ft_go mi_k187 1 28 [(3, .int vg5), (0, .ref 116), (1, .int x1), (2, .int x2)] [.int vg5] i a q r (by rfl) ?_
        exact ft_ret mi_k187 (by rfl) (hP vg5 _ _ _ _ hG ⟨trivial, (show a 118 = a 118 from rfl)⟩)
    ·
      subst eg3
      refine ft_go mi_k187 2 16 [(0, .ref 116), (1, .int x1), (2, .int x2)] [.int (-1)] i a q r (by rfl) ?_
      exact ft_ret mi_k187 (by rfl) (hP (-1) _ _ _ _ hG ⟨trivial, (show a 118 = a 118 from rfl)⟩)
  ·
    subst eg1
    refine ft_go mi_k187 2 16 [(0, .ref 116), (1, .int x1), (2, .int x2)] [.int (-1)] i a q r (by rfl) ?_
    exact ft_ret mi_k187 (by rfl) (hP (-1) _ _ _ _ hG ⟨trivial, (show a 118 = a 118 from rfl)⟩)
def yw189_116 : kW := ([7464, 7465, 7466, 7467, 7469], [118, 128, 129, 139, 141, 142, 143, 144, 145, 148], [], [])
set_option maxRecDepth 100000 in
theorem ke189_116 {i : Nat → Int32} {a : Nat → List Int32} {q : Nat → List Int64} {r : Nat → Nat} (hI : kI i a q) (hr : kr r) (x1 : Int32) (x2 : Int32) (hE_code : kCode i a) : km 13 189 [.ref 116, .int x1, .int x2] (ks i a q r) (kVI yw189_116 i a q r (fun v i1 a1 q1 r1 => (True) ∧ a1 118 = a 118)) := by
  have hG := kG_self yw189_116 hI hr
  refine km_ofI (q := (mi_h189, mi_c189)) rfl (by decide) (Nat.le_of_ble_eq_true rfl) ?_
  intro P hP
  refine ft_go mi_k189 1 1 [(0, .ref 116), (1, .int x1), (2, .int x2)] [.int x1] i a q r (by rfl) ?_
  refine ko_callPI mi_k189.1 (pc := 1) (ls := [(0, .ref 116), (1, .int x1), (2, .int x2)]) (st := [.int x1]) (h := ks i a q r) (i := (.invokestatic 127, 3, 133, 0, 9, 0, 382)) (mi_k189.2 _ _ (by rfl)) (ft_invS mi_pq133 (by rfl)) (cy := mi_c133) mi_pq133 rfl (kc133 hG.I hG.R x1) (by decide) ?_
  intro vg1 hg1
  rcases hg1 with ⟨eg1, hg1⟩ | ⟨eg1, hg1⟩
  ·
    subst eg1
    have z2 : ((0 : Int) ≤ x1.toInt) ∧ (x1.toInt ≤ 5) := hg1
    refine ft_go mi_k189 4 10 [(0, .ref 116), (1, .int x1), (2, .int x2)] [.int 1, .int 0, .int x2] i a q r (by rfl) ?_
    refine ko_callPI mi_k189.1 (pc := 10) (ls := [(0, .ref 116), (1, .int x1), (2, .int x2)]) (st := [.int 1, .int 0, .int x2]) (h := ks i a q r) (i := (.invokestatic 119, 3, 131, 0, 9, 0, 379)) (mi_k189.2 _ _ (by rfl)) (ft_invS mi_pq131 (by rfl)) (cy := mi_c131) mi_pq131 rfl (kc131 hG.I hG.R x2 0 1) (by decide) ?_
    intro vg3 hg3
    rcases hg3 with ⟨eg3, hg3⟩ | ⟨eg3, hg3⟩
    ·
      subst eg3
      refine ft_go mi_k189 3 20 [(0, .ref 116), (1, .int x1), (2, .int x2)] [.int x1, .ref 116] i a q r (by rfl) ?_
      refine ko_callPI mi_k189.1 (pc := 20) (ls := [(0, .ref 116), (1, .int x1), (2, .int x2)]) (st := [.int x1, .ref 116]) (h := ks i a q r) (i := (.invokevirtual 276, 3, 173, 0, 9, 0, 410)) (mi_k189.2 _ _ (by rfl)) (ft_invS mi_pq173 (by rfl)) (cy := mi_c173) mi_pq173 rfl (kc173_116 hG.I hG.R x1 (of34 z2.1 z2.2)) (by decide) ?_
      intro vg5 hg5
      refine ft_go mi_k189 2 25 [(3, .int vg5), (0, .ref 116), (1, .int x1), (2, .int x2)] [.int vg5] i a q r (by rfl) ?_
      refine ft_if mi_k189 (decide (0 ≤ vg5)) 30 28 [(3, .int vg5), (0, .ref 116), (1, .int x1), (2, .int x2)] [] (by rfl) (fun c => ?_) (fun c => ?_)
      ·
        have c7 : (0 : Int32).toInt ≤ vg5.toInt := kd_le c; clear c
        refine ft_go mi_k189 2 34 [(3, .int vg5), (0, .ref 116), (1, .int x1), (2, .int x2)] [.int (i 7424)] i a q r (by rfl) ?_
        refine ft_if mi_k189 ((i 7424) != 0) 40 37 [(3, .int vg5), (0, .ref 116), (1, .int x1), (2, .int x2)] [] (by rfl) (fun c => ?_) (fun c => ?_)
        ·
          have c8 : (i 7424).toInt ≠ (0 : Int32).toInt := kd_ne c; clear c
          refine ft_go mi_k189 2 42 [(3, .int vg5), (0, .ref 116), (1, .int x1), (2, .int x2)] [.int x1, .ref 116] i a q r (by rfl) ?_
          refine ko_callN mi_k189.1 (pc := 42) (ls := [(3, .int vg5), (0, .ref 116), (1, .int x1), (2, .int x2)]) (st := [.int x1, .ref 116]) (h := ks i a q r) (i := (.invokevirtual 279, 3, 174, 0, 9, 0, 411)) (mi_k189.2 _ _ (by rfl)) (ft_invS mi_pq174 (by rfl)) (cy := mi_c174) mi_pq174 rfl (kc174_116 hG.I hG.R x1 (of34 z2.1 z2.2)) (by decide) ?_
          intro ig9 ag9 qg9 rg9 kg9 hg9
          have hGg9 := kG_call hG kg9 (by decide +kernel)
          refine ft_go mi_k189 1 46 [(3, .int vg5), (0, .ref 116), (1, .int x1), (2, .int x2)] [.ref 116] ig9 ag9 qg9 rg9 (by rfl) ?_
          refine ko_callN mi_k189.1 (pc := 46) (ls := [(3, .int vg5), (0, .ref 116), (1, .int x1), (2, .int x2)]) (st := [.ref 116]) (h := ks ig9 ag9 qg9 rg9) (i := (.invokevirtual 267, 3, 171, 0, 9, 0, 412)) (mi_k189.2 _ _ (by rfl)) (ft_invS mi_pq171 (by rfl)) (cy := mi_c171) mi_pq171 rfl (ke171_116 hGg9.I hGg9.R ) (by decide) ?_
          intro ig11 ag11 qg11 rg11 kg11 hg11
          have hGg11 := kG_call hGg9 kg11 (by decide +kernel)
          obtain ⟨hg11, og11⟩ := hg11
          have q12 : ag11 139 = ag9 118 := og11.1
          have q13 : ag11 118 = ag9 118 := og11.2
          refine ft_go mi_k189 1 50 [(3, .int vg5), (0, .ref 116), (1, .int x1), (2, .int x2)] [.ref 116] ig11 ag11 qg11 rg11 (by rfl) ?_
          refine ko_callN mi_k189.1 (pc := 50) (ls := [(3, .int vg5), (0, .ref 116), (1, .int x1), (2, .int x2)]) (st := [.ref 116]) (h := ks ig11 ag11 qg11 rg11) (i := (.invokevirtual 270, 3, 170, 0, 9, 0, 414)) (mi_k189.2 _ _ (by rfl)) (ft_invS mi_pq170 (by rfl)) (cy := mi_c170) mi_pq170 rfl (kc170_116 hGg11.I hGg11.R (kCode_of (i1 := ig11) hE_code (hGg11.fi 7432 rfl) (hGg11.fa 120 rfl) (hGg11.fa 121 rfl) (hGg11.fa 122 rfl) (hGg11.fa 123 rfl))) (by decide) ?_
          intro ig14 ag14 qg14 rg14 kg14 hg14
          have hGg14 := kG_call hGg11 kg14 (by decide +kernel)
          refine ft_go mi_k189 4 59 [(5, .int 1), (4, .int 0), (3, .int vg5), (0, .ref 116), (1, .int x1), (2, .int x2)] [] ig14 ag14 qg14 rg14 (by rfl) ?_
          have lp15 : ∀ (nz : Nat) (l5_15 : Int32) (l4_15 : Int32), ((0 : Int) ≤ l4_15.toInt) ∧ (l4_15.toInt ≤ 7) → (1 : Int) ≤ l5_15.toInt → ag14 139 = a 118 → (((ig14 7424).toInt - l5_15.toInt)).toNat < nz → ko 13 (mi_h189, mi_c189) P (59, [(5, .int l5_15), (4, .int l4_15), (3, .int vg5), (0, .ref 116), (1, .int x1), (2, .int x2)], [], (0, 0), ks ig14 ag14 qg14 rg14) := by
            intro nz
            induction nz with
            | zero =>
              intro _ _ _ _ _ hm
              exact absurd hm (Nat.not_lt_zero _)
            | succ nz ih15 =>
              intro l5_15 l4_15 p15_0 p15_1 O15_0 hm15
              have fig14_7424 : ((0 : Int) ≤ (ig14 7424).toInt) ∧ ((ig14 7424).toInt ≤ 8) := hGg14.I.1 7424
              refine ft_go mi_k189 3 65 [(5, .int l5_15), (4, .int l4_15), (3, .int vg5), (0, .ref 116), (1, .int x1), (2, .int x2)] [.int (ig14 7424), .int l5_15] ig14 ag14 qg14 rg14 (by rfl) ?_
              refine ft_if mi_k189 (decide ((ig14 7424) ≤ l5_15)) 111 68 [(5, .int l5_15), (4, .int l4_15), (3, .int vg5), (0, .ref 116), (1, .int x1), (2, .int x2)] [] (by rfl) (fun c => ?_) (fun c => ?_)
              ·
                have c16 : (ig14 7424).toInt ≤ l5_15.toInt := kd_le c; clear c
                refine ft_go mi_k189 4 117 [(5, .int l5_15), (4, .int l4_15), (3, .int vg5), (0, .ref 116), (1, .int x1), (2, .int x2)] [.int 0, .ref 139, .ref 116] ig14 ag14 qg14 rg14 (by rfl) ?_
                refine ko_callN mi_k189.1 (pc := 117) (ls := [(5, .int l5_15), (4, .int l4_15), (3, .int vg5), (0, .ref 116), (1, .int x1), (2, .int x2)]) (st := [.int 0, .ref 139, .ref 116]) (h := ks ig14 ag14 qg14 rg14) (i := (.invokevirtual 273, 3, 169, 0, 9, 0, 423)) (mi_k189.2 _ _ (by rfl)) (ft_invS mi_pq169 (by rfl)) (cy := mi_c169) mi_pq169 rfl (ke169_116_139 hGg14.I hGg14.R 0 (of20 kof0)) (by decide) ?_
                intro ig17 ag17 qg17 rg17 kg17 hg17
                have hGg17 := kG_call hGg14 kg17 (by decide +kernel)
                obtain ⟨hg17, og17⟩ := hg17
                have q18 : ag17 118 = ag14 139 := og17
                refine ft_go mi_k189 1 121 [(5, .int l5_15), (4, .int l4_15), (3, .int vg5), (0, .ref 116), (1, .int x1), (2, .int x2)] [.int x2] ig17 ag17 qg17 rg17 (by rfl) ?_
                refine ft_if mi_k189 (x2 != 0) 131 124 [(5, .int l5_15), (4, .int l4_15), (3, .int vg5), (0, .ref 116), (1, .int x1), (2, .int x2)] [] (by rfl) (fun c => ?_) (fun c => ?_)
                ·
                  have c19 : x2.toInt ≠ (0 : Int32).toInt := kd_ne c; clear c
                  refine ft_go mi_k189 1 133 [(5, .int l5_15), (4, .int l4_15), (3, .int vg5), (0, .ref 116), (1, .int x1), (2, .int x2)] [.int l4_15] ig17 ag17 qg17 rg17 (by rfl) ?_
                  exact ft_ret mi_k189 (by rfl) (hP l4_15 _ _ _ _ hGg17 ⟨trivial, (show ag17 118 = a 118 from (by first | rfl | (simp only [q18, O15_0, sMn, sMx]; done) | (simp only [q18, O15_0, sMn, sMx]; rfl)))⟩)
                ·
                  have c20 : x2.toInt = (0 : Int32).toInt := kd_neF c; clear c
                  refine ft_go mi_k189 1 125 [(5, .int l5_15), (4, .int l4_15), (3, .int vg5), (0, .ref 116), (1, .int x1), (2, .int x2)] [.ref 116] ig17 ag17 qg17 rg17 (by rfl) ?_
                  refine ko_callI mi_k189.1 (pc := 125) (ls := [(5, .int l5_15), (4, .int l4_15), (3, .int vg5), (0, .ref 116), (1, .int x1), (2, .int x2)]) (st := [.ref 116]) (h := ks ig17 ag17 qg17 rg17) (i := (.invokevirtual 311, 3, 188, 0, 9, 0, 440)) (mi_k189.2 _ _ (by rfl)) (ft_invS mi_pq188 (by rfl)) (cy := mi_c188) mi_pq188 rfl (kc188_116 hGg17.I hGg17.R ) (by decide) ?_
                  intro vg21 ig21 ag21 qg21 rg21 kg21 hg21
                  have hGg21 := kG_call hGg17 kg21 (by decide +kernel)
                  refine ft_go mi_k189 1 133 [(5, .int l5_15), (4, .int l4_15), (3, .int vg5), (0, .ref 116), (1, .int x1), (2, .int x2)] [.int vg21] ig21 ag21 qg21 rg21 (by rfl) ?_
                  exact ft_ret mi_k189 (by rfl) (hP vg21 _ _ _ _ hGg21 ⟨trivial, (show ag21 118 = a 118 from (by first | rfl | (simp only [kg21.fa 118 rfl, q18, O15_0, sMn, sMx]; done) | (simp only [kg21.fa 118 rfl, q18, O15_0, sMn, sMx]; rfl)))⟩)
              ·
                have c22 : l5_15.toInt < (ig14 7424).toInt := kd_leF c; clear c
                refine ft_go mi_k189 3 74 [(5, .int l5_15), (4, .int l4_15), (3, .int vg5), (0, .ref 116), (1, .int x1), (2, .int x2)] [.int l5_15, .ref 118] ig14 ag14 qg14 rg14 (by rfl) ?_
                refine ko_iald3 mi_k189.1 (n := 31) (c := 31) (ax := (0, 0, 0, 0, 0)) (mi_k189.2 _ _ (by rfl)) (by rfl) (ksG118 _ _ _ _) (hGg14.I.2.1 118) rfl (of187 p15_1) (of188 c22 fig14_7424.2) ?_
                have r23 : ((l5_15.toInt = 18 → (0 : Int) ≤ ((ag14 118).getD l5_15.toNatClampNeg 0).toInt ∧ ((ag14 118).getD l5_15.toNatClampNeg 0).toInt ≤ 5)) ∧ ((19 ≤ l5_15.toInt → l5_15.toInt ≤ 24 → (0 : Int) ≤ ((ag14 118).getD l5_15.toNatClampNeg 0).toInt ∧ ((ag14 118).getD l5_15.toNatClampNeg 0).toInt ≤ 7)) := kE_ncond (p := 118) hGg14.I (by decide) (j := l5_15) (of187 p15_1)
                refine ft_go mi_k189 3 81 [(5, .int l5_15), (4, .int l4_15), (3, .int vg5), (0, .ref 116), (1, .int x1), (2, .int x2)] [.int l5_15, .ref 139, .int ((ag14 118).getD l5_15.toNatClampNeg 0)] ig14 ag14 qg14 rg14 (by rfl) ?_
                refine ko_iald3 mi_k189.1 (n := 31) (c := 31) (ax := (0, 0, 0, 0, 0)) (mi_k189.2 _ _ (by rfl)) (by rfl) (ksG139 _ _ _ _) (hGg14.I.2.1 139) rfl (of187 p15_1) (of188 c22 fig14_7424.2) ?_
                have r24 : ((l5_15.toInt = 18 → (0 : Int) ≤ ((ag14 139).getD l5_15.toNatClampNeg 0).toInt ∧ ((ag14 139).getD l5_15.toNatClampNeg 0).toInt ≤ 5)) ∧ ((19 ≤ l5_15.toInt → l5_15.toInt ≤ 24 → (0 : Int) ≤ ((ag14 139).getD l5_15.toNatClampNeg 0).toInt ∧ ((ag14 139).getD l5_15.toNatClampNeg 0).toInt ≤ 7)) := kE_ncond (p := 139) hGg14.I (by decide) (j := l5_15) (of187 p15_1)
                have b25 : ((-2147483648 : Int) ≤ ((ag14 118).getD l5_15.toNatClampNeg 0).toInt) ∧ (((ag14 118).getD l5_15.toNatClampNeg 0).toInt ≤ 2147483647) := kd_bd ((ag14 118).getD l5_15.toNatClampNeg 0)
                have b26 : ((-2147483648 : Int) ≤ ((ag14 139).getD l5_15.toNatClampNeg 0).toInt) ∧ (((ag14 139).getD l5_15.toNatClampNeg 0).toInt ≤ 2147483647) := kd_bd ((ag14 139).getD l5_15.toNatClampNeg 0)
                refine ft_go mi_k189 4 89 [(5, .int l5_15), (4, .int l4_15), (3, .int vg5), (0, .ref 116), (1, .int x1), (2, .int x2)] [.int l4_15, .ref 118, .int (((ag14 118).getD l5_15.toNatClampNeg 0) - ((ag14 139).getD l5_15.toNatClampNeg 0))] ig14 ag14 qg14 rg14 (by rfl) ?_
                refine ko_iald3 mi_k189.1 (n := 31) (c := 31) (ax := (0, 0, 0, 0, 0)) (mi_k189.2 _ _ (by rfl)) (by rfl) (ksG118 _ _ _ _) (hGg14.I.2.1 118) rfl (of3 p15_0.1) (of72 p15_0.2) ?_
                have r27 : ((l4_15.toInt = 18 → (0 : Int) ≤ ((ag14 118).getD l4_15.toNatClampNeg 0).toInt ∧ ((ag14 118).getD l4_15.toNatClampNeg 0).toInt ≤ 5)) ∧ ((19 ≤ l4_15.toInt → l4_15.toInt ≤ 24 → (0 : Int) ≤ ((ag14 118).getD l4_15.toNatClampNeg 0).toInt ∧ ((ag14 118).getD l4_15.toNatClampNeg 0).toInt ≤ 7)) := kE_ncond (p := 118) hGg14.I (by decide) (j := l4_15) (of3 p15_0.1)
                refine ft_go mi_k189 3 96 [(5, .int l5_15), (4, .int l4_15), (3, .int vg5), (0, .ref 116), (1, .int x1), (2, .int x2)] [.int l4_15, .ref 139, .int ((ag14 118).getD l4_15.toNatClampNeg 0), .int (((ag14 118).getD l5_15.toNatClampNeg 0) - ((ag14 139).getD l5_15.toNatClampNeg 0))] ig14 ag14 qg14 rg14 (by rfl) ?_
                refine ko_iald3 mi_k189.1 (n := 31) (c := 31) (ax := (0, 0, 0, 0, 0)) (mi_k189.2 _ _ (by rfl)) (by rfl) (ksG139 _ _ _ _) (hGg14.I.2.1 139) rfl (of3 p15_0.1) (of72 p15_0.2) ?_
                have r28 : ((l4_15.toInt = 18 → (0 : Int) ≤ ((ag14 139).getD l4_15.toNatClampNeg 0).toInt ∧ ((ag14 139).getD l4_15.toNatClampNeg 0).toInt ≤ 5)) ∧ ((19 ≤ l4_15.toInt → l4_15.toInt ≤ 24 → (0 : Int) ≤ ((ag14 139).getD l4_15.toNatClampNeg 0).toInt ∧ ((ag14 139).getD l4_15.toNatClampNeg 0).toInt ≤ 7)) := kE_ncond (p := 139) hGg14.I (by decide) (j := l4_15) (of3 p15_0.1)
                have b29 : ((-2147483648 : Int) ≤ ((ag14 118).getD l4_15.toNatClampNeg 0).toInt) ∧ (((ag14 118).getD l4_15.toNatClampNeg 0).toInt ≤ 2147483647) := kd_bd ((ag14 118).getD l4_15.toNatClampNeg 0)
                have b30 : ((-2147483648 : Int) ≤ ((ag14 139).getD l4_15.toNatClampNeg 0).toInt) ∧ (((ag14 139).getD l4_15.toNatClampNeg 0).toInt ≤ 2147483647) := kd_bd ((ag14 139).getD l4_15.toNatClampNeg 0)
                refine ft_go mi_k189 1 98 [(5, .int l5_15), (4, .int l4_15), (3, .int vg5), (0, .ref 116), (1, .int x1), (2, .int x2)] [.int (((ag14 118).getD l4_15.toNatClampNeg 0) - ((ag14 139).getD l4_15.toNatClampNeg 0)), .int (((ag14 118).getD l5_15.toNatClampNeg 0) - ((ag14 139).getD l5_15.toNatClampNeg 0))] ig14 ag14 qg14 rg14 (by rfl) ?_
                refine ft_if mi_k189 (decide ((((ag14 118).getD l5_15.toNatClampNeg 0) - ((ag14 139).getD l5_15.toNatClampNeg 0)) ≤ (((ag14 118).getD l4_15.toNatClampNeg 0) - ((ag14 139).getD l4_15.toNatClampNeg 0)))) 105 101 [(5, .int l5_15), (4, .int l4_15), (3, .int vg5), (0, .ref 116), (1, .int x1), (2, .int x2)] [] (by rfl) (fun c => ?_) (fun c => ?_)
                ·
                  have c31 : (((ag14 118).getD l5_15.toNatClampNeg 0) - ((ag14 139).getD l5_15.toNatClampNeg 0)).toInt ≤ (((ag14 118).getD l4_15.toNatClampNeg 0) - ((ag14 139).getD l4_15.toNatClampNeg 0)).toInt := kd_le c; clear c
                  have s32 : (l5_15 + 1).toInt = l5_15.toInt + (1 : Int32).toInt := kd_add (of189 p15_1 kof1) (of139 c22 fig14_7424.2 kof1)
                  refine ft_go mi_k189 2 59 [(5, .int (l5_15 + 1)), (4, .int l4_15), (3, .int vg5), (0, .ref 116), (1, .int x1), (2, .int x2)] [] ig14 ag14 qg14 rg14 (by rfl) ?_
                  exact ih15 _ _ (of190 p15_0.1 p15_0.2) (of191 p15_1 s32 kof1) (by first | rfl | (simp only [O15_0, sMn, sMx]; done) | (simp only [O15_0, sMn, sMx]; rfl)) (kj_meas (of79 s32 kof1) (of80 c22) hm15)
                ·
                  have c33 : (((ag14 118).getD l4_15.toNatClampNeg 0) - ((ag14 139).getD l4_15.toNatClampNeg 0)).toInt < (((ag14 118).getD l5_15.toNatClampNeg 0) - ((ag14 139).getD l5_15.toNatClampNeg 0)).toInt := kd_leF c; clear c
                  have s34 : (l5_15 + 1).toInt = l5_15.toInt + (1 : Int32).toInt := kd_add (of189 p15_1 kof1) (of139 c22 fig14_7424.2 kof1)
                  refine ft_go mi_k189 4 59 [(5, .int (l5_15 + 1)), (4, .int l5_15), (3, .int vg5), (0, .ref 116), (1, .int x1), (2, .int x2)] [] ig14 ag14 qg14 rg14 (by rfl) ?_
                  exact ih15 _ _ (of192 c22 fig14_7424.2 p15_1) (of191 p15_1 s34 kof1) (by first | rfl | (simp only [O15_0, sMn, sMx]; done) | (simp only [O15_0, sMn, sMx]; rfl)) (kj_meas (of79 s34 kof1) (of80 c22) hm15)
          exact lp15 _ _ _ (of160 kof0) (of193 kof1) (by first | rfl | (simp only [kg14.fa 139 rfl, q12, kg9.fa 118 rfl, sMn, sMx]; done) | (simp only [kg14.fa 139 rfl, q12, kg9.fa 118 rfl, sMn, sMx]; rfl)) (Nat.lt_succ_self _)
        ·
          have c35 : (i 7424).toInt = (0 : Int32).toInt := kd_neF c; clear c
          refine ft_go mi_k189 1 39 [(3, .int vg5), (0, .ref 116), (1, .int x1), (2, .int x2)] [.int (-2)] i a q r (by rfl) ?_
          exact ft_ret mi_k189 (by rfl) (hP (-2) _ _ _ _ hG ⟨trivial, (show a 118 = a 118 from rfl)⟩)
      ·
        have c36 : vg5.toInt < (0 : Int32).toInt := kd_leF c; clear c
        refine ft_go mi_k189 1 29 [(3, .int vg5), (0, .ref 116), (1, .int x1), (2, .int x2)] [.int vg5] i a q r (by rfl) ?_
        exact ft_ret mi_k189 (by rfl) (hP vg5 _ _ _ _ hG ⟨trivial, (show a 118 = a 118 from rfl)⟩)
    ·
      subst eg3
      refine ft_go mi_k189 2 17 [(0, .ref 116), (1, .int x1), (2, .int x2)] [.int (-1)] i a q r (by rfl) ?_
      exact ft_ret mi_k189 (by rfl) (hP (-1) _ _ _ _ hG ⟨trivial, (show a 118 = a 118 from rfl)⟩)
  ·
    subst eg1
    refine ft_go mi_k189 2 17 [(0, .ref 116), (1, .int x1), (2, .int x2)] [.int (-1)] i a q r (by rfl) ?_
    exact ft_ret mi_k189 (by rfl) (hP (-1) _ _ _ _ hG ⟨trivial, (show a 118 = a 118 from rfl)⟩)
def yw193_116 : kW := ([7464, 7465, 7466, 7467, 7469], [118, 128, 129, 139, 141, 142, 143, 144, 145], [], [])
set_option maxRecDepth 100000 in
theorem ke193_116 {i : Nat → Int32} {a : Nat → List Int32} {q : Nat → List Int64} {r : Nat → Nat} (hI : kI i a q) (hr : kr r) (x1 : Int32) (hE_code : kCode i a) : km 15 193 [.ref 116, .int x1] (ks i a q r) (kVI yw193_116 i a q r (fun v i1 a1 q1 r1 => (True) ∧ a1 118 = a 118)) := by
  have hG := kG_self yw193_116 hI hr
  refine km_ofI (q := (mi_h193, mi_c193)) rfl (by decide) (Nat.le_of_ble_eq_true rfl) ?_
  intro P hP
  refine ft_go mi_k193 2 2 [(0, .ref 116), (1, .int x1)] [.int x1, .ref 116] i a q r (by rfl) ?_
  refine ko_callPI mi_k193.1 (pc := 2) (ls := [(0, .ref 116), (1, .int x1)]) (st := [.int x1, .ref 116]) (h := ks i a q r) (i := (.invokevirtual 314, 3, 190, 0, 9, 0, 442)) (mi_k193.2 _ _ (by rfl)) (ft_invS mi_pq190 (by rfl)) (cy := mi_c190) mi_pq190 rfl (kc190_116 hG.I hG.R x1) (by decide) ?_
  intro vg1 hg1
  rcases hg1 with ⟨eg1, hg1⟩ | ⟨eg1, hg1⟩
  ·
    subst eg1
    have z2 : ((0 : Int) ≤ x1.toInt) ∧ (((0 : Int) ≤ (x1.toInt / 10)) ∧ ((x1.toInt / 10) ≤ 5)) ∧ ((x1.toInt % 10) ≤ 5) := hg1
    refine ft_go mi_k193 3 12 [(0, .ref 116), (1, .int x1)] [.int x1, .ref 116] i a q r (by rfl) ?_
    refine ko_callPI mi_k193.1 (pc := 12) (ls := [(0, .ref 116), (1, .int x1)]) (st := [.int x1, .ref 116]) (h := ks i a q r) (i := (.invokevirtual 317, 3, 191, 0, 9, 0, 443)) (mi_k193.2 _ _ (by rfl)) (ft_invS mi_pq191 (by rfl)) (cy := mi_c191) mi_pq191 rfl (kc191_116 hG.I hG.R x1 (of202 z2.2.1.1 z2.2.1.2) (of3 z2.1) (of203 z2.2.2)) (by decide) ?_
    intro vg3 hg3
    refine ft_go mi_k193 2 17 [(2, .int vg3), (0, .ref 116), (1, .int x1)] [.int vg3] i a q r (by rfl) ?_
    refine ft_if mi_k193 (decide (0 ≤ vg3)) 22 20 [(2, .int vg3), (0, .ref 116), (1, .int x1)] [] (by rfl) (fun c => ?_) (fun c => ?_)
    ·
      have c5 : (0 : Int32).toInt ≤ vg3.toInt := kd_le c; clear c
      have s6 : (x1 / 10).toInt = (x1.toInt / 10) := kd_div 10 kof10 (by decide) (of3 z2.1)
      refine ft_go mi_k193 4 27 [(2, .int vg3), (0, .ref 116), (1, .int x1)] [.int (x1 / 10), .ref 116] i a q r (by rfl) ?_
      refine ko_callN mi_k193.1 (pc := 27) (ls := [(2, .int vg3), (0, .ref 116), (1, .int x1)]) (st := [.int (x1 / 10), .ref 116]) (h := ks i a q r) (i := (.invokevirtual 279, 3, 174, 0, 9, 0, 411)) (mi_k193.2 _ _ (by rfl)) (ft_invS mi_pq174 (by rfl)) (cy := mi_c174) mi_pq174 rfl (kc174_116 hG.I hG.R (x1 / 10) (of204 s6 z2.1 z2.2.1.2 z2.2.2)) (by decide) ?_
      intro ig7 ag7 qg7 rg7 kg7 hg7
      have hGg7 := kG_call hG kg7 (by decide +kernel)
      have s9 : (x1 - x1 / 10 * 10).toInt = (x1.toInt % 10) := kd_rem 10 kof10 (by decide) (of3 z2.1)
      refine ft_go mi_k193 4 35 [(2, .int vg3), (0, .ref 116), (1, .int x1)] [.int (x1 - x1 / 10 * 10), .ref 116] ig7 ag7 qg7 rg7 (by rfl) ?_
      refine ko_callI mi_k193.1 (pc := 35) (ls := [(2, .int vg3), (0, .ref 116), (1, .int x1)]) (st := [.int (x1 - x1 / 10 * 10), .ref 116]) (h := ks ig7 ag7 qg7 rg7) (i := (.invokevirtual 320, 3, 192, 0, 9, 0, 444)) (mi_k193.2 _ _ (by rfl)) (ft_invS mi_pq192 (by rfl)) (cy := mi_c192) mi_pq192 rfl (ke192_116 hGg7.I hGg7.R (x1 - x1 / 10 * 10) (of205 s9 z2.2.2) (kCode_of (i1 := ig7) hE_code (hGg7.fi 7432 rfl) (hGg7.fa 120 rfl) (hGg7.fa 121 rfl) (hGg7.fa 122 rfl) (hGg7.fa 123 rfl))) (by decide) ?_
      intro vg10 ig10 ag10 qg10 rg10 kg10 hg10
      have hGg10 := kG_call hGg7 kg10 (by decide +kernel)
      obtain ⟨hg10, og10⟩ := hg10
      have q11 : ag10 118 = ag7 118 := og10
      exact ft_ret mi_k193 (by rfl) (hP vg10 _ _ _ _ hGg10 ⟨trivial, (show ag10 118 = a 118 from (by first | rfl | (simp only [q11, kg7.fa 118 rfl, sMn, sMx]; done) | (simp only [q11, kg7.fa 118 rfl, sMn, sMx]; rfl)))⟩)
    ·
      have c12 : vg3.toInt < (0 : Int32).toInt := kd_leF c; clear c
      refine ft_go mi_k193 1 21 [(2, .int vg3), (0, .ref 116), (1, .int x1)] [.int vg3] i a q r (by rfl) ?_
      exact ft_ret mi_k193 (by rfl) (hP vg3 _ _ _ _ hG ⟨trivial, (show a 118 = a 118 from rfl)⟩)
  ·
    subst eg1
    refine ft_go mi_k193 2 9 [(0, .ref 116), (1, .int x1)] [.int (-1)] i a q r (by rfl) ?_
    exact ft_ret mi_k193 (by rfl) (hP (-1) _ _ _ _ hG ⟨trivial, (show a 118 = a 118 from rfl)⟩)
def yw195_116 : kW := ([7464, 7465, 7466, 7467], [118, 128, 129, 139, 141, 142, 143, 144, 145], [], [])
def yw195_116_L13 : kW := ([7464, 7465, 7466, 7467], [118, 128, 129, 139, 141, 142, 143, 144, 145], [], [])
set_option maxRecDepth 100000 in
theorem ke195_116 {i : Nat → Int32} {a : Nat → List Int32} {q : Nat → List Int64} {r : Nat → Nat} (hI : kI i a q) (hr : kr r) (x1 : Int32) (x2 : Int32) (hp0 : ((0 : Int) ≤ x1.toInt) ∧ (x1.toInt ≤ 5)) (hp1 : ((0 : Int) ≤ x2.toInt) ∧ (x2.toInt ≤ 20)) (hE_code : kCode i a) : km 15 195 [.ref 116, .int x1, .int x2] (ks i a q r) (kVI yw195_116 i a q r (fun v i1 a1 q1 r1 => (True) ∧ a1 118 = a 118)) := by
  have hG := kG_self yw195_116 hI hr
  refine km_ofI (q := (mi_h195, mi_c195)) rfl (by decide) (Nat.le_of_ble_eq_true rfl) ?_
  intro P hP
  refine ft_go mi_k195 3 5 [(0, .ref 116), (1, .int x1), (2, .int x2)] [.int x2, .ref 142] i a q r (by rfl) ?_
  refine ko_iald3 mi_k195.1 (n := 21) (c := 21) (ax := (0, 0, 0, 0, 0)) (mi_k195.2 _ _ (by rfl)) (by rfl) (ksG142 _ _ _ _) (hG.I.2.1 142) rfl (of3 hp1.1) (of59 hp1.2) ?_
  have r1 : ((0 : Int) ≤ ((a 142).getD x2.toNatClampNeg 0).toInt) ∧ (((a 142).getD x2.toNatClampNeg 0).toInt ≤ 7) := hG.I.2.2.1 142 (x2.toNatClampNeg)
  refine ft_go mi_k195 5 13 [(5, .int 0), (4, .int 0), (3, .int ((a 142).getD x2.toNatClampNeg 0)), (0, .ref 116), (1, .int x1), (2, .int x2)] [] i a q r (by rfl) ?_
  have lp2 : ∀ (nz : Nat) (i2 : Nat → Int32) (a2 : Nat → List Int32) (q2 : Nat → List Int64) (r2 : Nat → Nat) (l5_2 : Int32) (l4_2 : Int32), kG yw195_116_L13 i a q r i2 a2 q2 r2 → (0 : Int) ≤ l5_2.toInt → a2 118 = a 118 → (((i2 7424).toInt - l5_2.toInt)).toNat < nz → ko 15 (mi_h195, mi_c195) P (13, [(5, .int l5_2), (4, .int l4_2), (3, .int ((a 142).getD x2.toNatClampNeg 0)), (0, .ref 116), (1, .int x1), (2, .int x2)], [], (0, 0), ks i2 a2 q2 r2) := by
    intro nz
    induction nz with
    | zero =>
      intro _ _ _ _ _ _ _ _ _ hm
      exact absurd hm (Nat.not_lt_zero _)
    | succ nz ih2 =>
      intro i2 a2 q2 r2 l5_2 l4_2 hL2 p2_0 O2_0 hm2
      have fi2_7424 : ((0 : Int) ≤ (i2 7424).toInt) ∧ ((i2 7424).toInt ≤ 8) := hL2.I.1 7424
      refine ft_go mi_k195 3 19 [(5, .int l5_2), (4, .int l4_2), (3, .int ((a 142).getD x2.toNatClampNeg 0)), (0, .ref 116), (1, .int x1), (2, .int x2)] [.int (i2 7424), .int l5_2] i2 a2 q2 r2 (by rfl) ?_
      refine ft_if mi_k195 (decide ((i2 7424) ≤ l5_2)) 55 22 [(5, .int l5_2), (4, .int l4_2), (3, .int ((a 142).getD x2.toNatClampNeg 0)), (0, .ref 116), (1, .int x1), (2, .int x2)] [] (by rfl) (fun c => ?_) (fun c => ?_)
      ·
        have c3 : (i2 7424).toInt ≤ l5_2.toInt := kd_le c; clear c
        have hG4 := kG_call hG hL2 (by decide +kernel)
        refine ft_go mi_k195 4 61 [(5, .int l5_2), (4, .int l4_2), (3, .int ((a 142).getD x2.toNatClampNeg 0)), (0, .ref 116), (1, .int x1), (2, .int x2)] [.int ((a 142).getD x2.toNatClampNeg 0), .int x2, .ref 142] i2 a2 q2 r2 (by rfl) ?_
        refine ko_iast3 mi_k195.1 (n := 21) (c := 21) (ax := (0, 0, 0, 0, 0)) (mi_k195.2 _ _ (by rfl)) (by rfl) (ksG142 _ _ _ _) (ksA142 _ _ _ _) (hG4.I.2.1 142) rfl (of3 hp1.1) (of59 hp1.2) ?_
        intro a5 ea5 fa5
        have hJ5 := kG_a3 hG4 142 rfl ea5 fa5 ⟨(of3 r1.1), (of100 r1.2)⟩
        refine ft_go mi_k195 1 64 [(5, .int l5_2), (4, .int l4_2), (3, .int ((a 142).getD x2.toNatClampNeg 0)), (0, .ref 116), (1, .int x1), (2, .int x2)] [.int l4_2] i2 a5 q2 r2 (by rfl) ?_
        exact ft_ret mi_k195 (by rfl) (hP l4_2 _ _ _ _ hJ5 ⟨trivial, (show a5 118 = a 118 from (by first | rfl | (simp only [fa5 118 (by decide), O2_0, sMn, sMx]; done) | (simp only [fa5 118 (by decide), O2_0, sMn, sMx]; rfl)))⟩)
      ·
        have c6 : l5_2.toInt < (i2 7424).toInt := kd_leF c; clear c
        refine ft_go mi_k195 4 29 [(5, .int l5_2), (4, .int l4_2), (3, .int ((a 142).getD x2.toNatClampNeg 0)), (0, .ref 116), (1, .int x1), (2, .int x2)] [.int l5_2, .int x2, .ref 142] i2 a2 q2 r2 (by rfl) ?_
        refine ko_iast3 mi_k195.1 (n := 21) (c := 21) (ax := (0, 0, 0, 0, 0)) (mi_k195.2 _ _ (by rfl)) (by rfl) (ksG142 _ _ _ _) (ksA142 _ _ _ _) (hL2.I.2.1 142) rfl (of3 hp1.1) (of59 hp1.2) ?_
        intro a7 ea7 fa7
        have hJ7 := kG_a3 hL2 142 rfl ea7 fa7 ⟨(of3 p2_0), (of206 c6 fi2_7424.2)⟩
        refine ft_go mi_k195 2 32 [(5, .int l5_2), (4, .int l4_2), (3, .int ((a 142).getD x2.toNatClampNeg 0)), (0, .ref 116), (1, .int x1), (2, .int x2)] [.int x1, .ref 116] i2 a7 q2 r2 (by rfl) ?_
        have hG8 := kG_call hG hJ7 (by decide +kernel)
        refine ko_callI mi_k195.1 (pc := 32) (ls := [(5, .int l5_2), (4, .int l4_2), (3, .int ((a 142).getD x2.toNatClampNeg 0)), (0, .ref 116), (1, .int x1), (2, .int x2)]) (st := [.int x1, .ref 116]) (h := ks i2 a7 q2 r2) (i := (.invokevirtual 320, 3, 192, 0, 9, 0, 444)) (mi_k195.2 _ _ (by rfl)) (ft_invS mi_pq192 (by rfl)) (cy := mi_c192) mi_pq192 rfl (ke192_116 hJ7.I hJ7.R x1 (of34 hp0.1 hp0.2) (kCode_of (i1 := i2) hE_code (hG8.fi 7432 rfl) (hG8.fa 120 rfl) (hG8.fa 121 rfl) (hG8.fa 122 rfl) (hG8.fa 123 rfl))) (by decide) ?_
        intro vg9 ig9 ag9 qg9 rg9 kg9 hg9
        have hGg9 := kG_call hJ7 kg9 (by decide +kernel)
        obtain ⟨hg9, og9⟩ := hg9
        have q10 : ag9 118 = a7 118 := og9
        refine ft_go mi_k195 1 37 [(5, .int l5_2), (4, .int l4_2), (3, .int ((a 142).getD x2.toNatClampNeg 0)), (0, .ref 116), (1, .int x1), (2, .int x2)] [.int (-2), .int vg9] ig9 ag9 qg9 rg9 (by rfl) ?_
        refine ft_if mi_k195 (vg9 != (-2)) 49 40 [(5, .int l5_2), (4, .int l4_2), (3, .int ((a 142).getD x2.toNatClampNeg 0)), (0, .ref 116), (1, .int x1), (2, .int x2)] [] (by rfl) (fun c => ?_) (fun c => ?_)
        ·
          have c11 : vg9.toInt ≠ ((-2) : Int32).toInt := kd_ne c; clear c
          have s12 : (l5_2 + 1).toInt = l5_2.toInt + (1 : Int32).toInt := kd_add (of9 p2_0 kof1) (of139 c6 fi2_7424.2 kof1)
          refine ft_go mi_k195 2 13 [(5, .int (l5_2 + 1)), (4, .int l4_2), (3, .int ((a 142).getD x2.toNatClampNeg 0)), (0, .ref 116), (1, .int x1), (2, .int x2)] [] ig9 ag9 qg9 rg9 (by rfl) ?_
          have efig9_7424 : (ig9 7424).toInt = (i2 7424).toInt := kg9.ti 7424 rfl
          exact ih2 _ _ _ _ _ _ hGg9 (of11 p2_0 s12 kof1) (by first | rfl | (simp only [q10, fa7 118 (by decide), O2_0, sMn, sMx]; done) | (simp only [q10, fa7 118 (by decide), O2_0, sMn, sMx]; rfl)) (kj_meas (of207 efig9_7424 s12 kof1) (of80 c6) hm2)
        ·
          have c13 : vg9.toInt = ((-2) : Int32).toInt := kd_neF c; clear c
          have s14 : ((1 : Int) ≤ (1 <<< (l5_2 &&& 31)).toInt) ∧ ((1 <<< (l5_2 &&& 31)).toInt ≤ 256) := kd_shl1 (of3 p2_0) (of208 c6 fi2_7424.2)
          have s15 : (l5_2 + 1).toInt = l5_2.toInt + (1 : Int32).toInt := kd_add (of9 p2_0 kof1) (of139 c6 fi2_7424.2 kof1)
          refine ft_go mi_k195 8 13 [(5, .int (l5_2 + 1)), (4, .int (l4_2 ||| (1 <<< (l5_2 &&& 31)))), (3, .int ((a 142).getD x2.toNatClampNeg 0)), (0, .ref 116), (1, .int x1), (2, .int x2)] [] ig9 ag9 qg9 rg9 (by rfl) ?_
          have efig9_7424 : (ig9 7424).toInt = (i2 7424).toInt := kg9.ti 7424 rfl
          exact ih2 _ _ _ _ _ _ hGg9 (of11 p2_0 s15 kof1) (by first | rfl | (simp only [q10, fa7 118 (by decide), O2_0, sMn, sMx]; done) | (simp only [q10, fa7 118 (by decide), O2_0, sMn, sMx]; rfl)) (kj_meas (of207 efig9_7424 s15 kof1) (of80 c6) hm2)
  exact lp2 _ _ _ _ _ _ _ (kG_self _ hG.I hG.R) (of17 kof0) rfl (Nat.lt_succ_self _)
def yw201_116 : kW := ([7464, 7465, 7466, 7467], [118, 128, 129, 139, 141], [], [])
def yw201_116_L71 : kW := ([7464, 7465, 7466, 7467], [118, 128, 129, 141], [], [])
def yw201_116_L91 : kW := ([7464, 7465, 7466, 7467], [118, 128, 129, 141], [], [])
set_option maxRecDepth 100000 in
theorem ke201_116 {i : Nat → Int32} {a : Nat → List Int32} {q : Nat → List Int64} {r : Nat → Nat} (hI : kI i a q) (hr : kr r) (x1 : Int32) (x2 : Int32) (x3 : Int32) (hE_code : kCode i a) : km 11 201 [.ref 116, .int x1, .int x2, .int x3] (ks i a q r) (kVI yw201_116 i a q r (fun v i1 a1 q1 r1 => (True) ∧ a1 118 = a 118)) := by
  have hG := kG_self yw201_116 hI hr
  refine km_ofI (q := (mi_h201, mi_c201)) rfl (by decide) (Nat.le_of_ble_eq_true rfl) ?_
  intro P hP
  refine ft_go mi_k201 1 1 [(0, .ref 116), (1, .int x1), (2, .int x2), (3, .int x3)] [.int x2] i a q r (by rfl) ?_
  refine ft_if mi_k201 (decide (x2 < 0)) 56 4 [(0, .ref 116), (1, .int x1), (2, .int x2), (3, .int x3)] [] (by rfl) (fun c => ?_) (fun c => ?_)
  ·
    have c1 : x2.toInt < (0 : Int32).toInt := kd_lt c; clear c
    refine ft_go mi_k201 1 57 [(0, .ref 116), (1, .int x1), (2, .int x2), (3, .int x3)] [.int (-1)] i a q r (by rfl) ?_
    exact ft_ret mi_k201 (by rfl) (hP (-1) _ _ _ _ hG ⟨trivial, (show a 118 = a 118 from rfl)⟩)
  ·
    have c2 : (0 : Int32).toInt ≤ x2.toInt := kd_ltF c; clear c
    have s3 : (x2 / 10000).toInt = (x2.toInt / 10000) := kd_div 10000 kof10000 (by decide) (of70 c2 kof0)
    refine ft_go mi_k201 5 12 [(0, .ref 116), (1, .int x1), (2, .int x2), (3, .int x3)] [.int 30, .int 1, .int (x2 / 10000)] i a q r (by rfl) ?_
    refine ko_callPI mi_k201.1 (pc := 12) (ls := [(0, .ref 116), (1, .int x1), (2, .int x2), (3, .int x3)]) (st := [.int 30, .int 1, .int (x2 / 10000)]) (h := ks i a q r) (i := (.invokestatic 119, 3, 131, 0, 9, 0, 379)) (mi_k201.2 _ _ (by rfl)) (ft_invS mi_pq131 (by rfl)) (cy := mi_c131) mi_pq131 rfl (kc131 hG.I hG.R (x2 / 10000) 1 30) (by decide) ?_
    intro vg4 hg4
    rcases hg4 with ⟨eg4, hg4⟩ | ⟨eg4, hg4⟩
    ·
      subst eg4
      have z5 : ((1 : Int32).toInt ≤ (x2 / 10000).toInt) ∧ ((x2 / 10000).toInt ≤ (30 : Int32).toInt) := hg4
      have s6 : (x2 / 100).toInt = (x2.toInt / 100) := kd_div 100 kof100 (by decide) (of70 c2 kof0)
      have s7 : ((x2 / 100) - (x2 / 100) / 100 * 100).toInt = ((x2 / 100).toInt % 100) := kd_rem 100 kof100 (by decide) (of209 c2 s6 kof0)
      refine ft_go mi_k201 8 28 [(0, .ref 116), (1, .int x1), (2, .int x2), (3, .int x3)] [.int 60, .int 1, .int ((x2 / 100) - (x2 / 100) / 100 * 100)] i a q r (by rfl) ?_
      refine ko_callPI mi_k201.1 (pc := 28) (ls := [(0, .ref 116), (1, .int x1), (2, .int x2), (3, .int x3)]) (st := [.int 60, .int 1, .int ((x2 / 100) - (x2 / 100) / 100 * 100)]) (h := ks i a q r) (i := (.invokestatic 119, 3, 131, 0, 9, 0, 379)) (mi_k201.2 _ _ (by rfl)) (ft_invS mi_pq131 (by rfl)) (cy := mi_c131) mi_pq131 rfl (kc131 hG.I hG.R ((x2 / 100) - (x2 / 100) / 100 * 100) 1 60) (by decide) ?_
      intro vg8 hg8
      rcases hg8 with ⟨eg8, hg8⟩ | ⟨eg8, hg8⟩
      ·
        subst eg8
        have s10 : (x2 - x2 / 100 * 100).toInt = (x2.toInt % 100) := kd_rem 100 kof100 (by decide) (of70 c2 kof0)
        refine ft_go mi_k201 5 40 [(0, .ref 116), (1, .int x1), (2, .int x2), (3, .int x3)] [.int 12, .int (x2 - x2 / 100 * 100)] i a q r (by rfl) ?_
        refine ft_if mi_k201 (decide (12 < (x2 - x2 / 100 * 100))) 56 43 [(0, .ref 116), (1, .int x1), (2, .int x2), (3, .int x3)] [] (by rfl) (fun c => ?_) (fun c => ?_)
        ·
          have c11 : (12 : Int32).toInt < (x2 - x2 / 100 * 100).toInt := kd_lt c; clear c
          refine ft_go mi_k201 1 57 [(0, .ref 116), (1, .int x1), (2, .int x2), (3, .int x3)] [.int (-1)] i a q r (by rfl) ?_
          exact ft_ret mi_k201 (by rfl) (hP (-1) _ _ _ _ hG ⟨trivial, (show a 118 = a 118 from rfl)⟩)
        ·
          have c12 : (x2 - x2 / 100 * 100).toInt ≤ (12 : Int32).toInt := kd_ltF c; clear c
          refine ft_go mi_k201 2 45 [(0, .ref 116), (1, .int x1), (2, .int x2), (3, .int x3)] [.int (-1), .int x3] i a q r (by rfl) ?_
          refine ft_if mi_k201 (x3 == (-1)) 58 48 [(0, .ref 116), (1, .int x1), (2, .int x2), (3, .int x3)] [] (by rfl) (fun c => ?_) (fun c => ?_)
          ·
            have c13 : x3.toInt = ((-1) : Int32).toInt := kd_eq c; clear c
            refine ft_go mi_k201 1 59 [(0, .ref 116), (1, .int x1), (2, .int x2), (3, .int x3)] [.ref 116] i a q r (by rfl) ?_
            refine ko_callN mi_k201.1 (pc := 59) (ls := [(0, .ref 116), (1, .int x1), (2, .int x2), (3, .int x3)]) (st := [.ref 116]) (h := ks i a q r) (i := (.invokevirtual 267, 3, 171, 0, 9, 0, 412)) (mi_k201.2 _ _ (by rfl)) (ft_invS mi_pq171 (by rfl)) (cy := mi_c171) mi_pq171 rfl (ke171_116 hG.I hG.R ) (by decide) ?_
            intro ig14 ag14 qg14 rg14 kg14 hg14
            have hGg14 := kG_call hG kg14 (by decide +kernel)
            obtain ⟨hg14, og14⟩ := hg14
            have q15 : ag14 139 = a 118 := og14.1
            have q16 : ag14 118 = a 118 := og14.2
            refine ft_go mi_k201 6 71 [(6, .int 0), (5, .int 0), (4, .int x1), (0, .ref 116), (1, .int x1), (2, .int x2), (3, .int x3)] [] ig14 ag14 qg14 rg14 (by rfl) ?_
            have lp17 : ∀ (nz : Nat) (i17 : Nat → Int32) (a17 : Nat → List Int32) (q17 : Nat → List Int64) (r17 : Nat → Nat) (l6_17 : Int32) (l5_17 : Int32) (l4_17 : Int32), kG yw201_116_L71 ig14 ag14 qg14 rg14 i17 a17 q17 r17 → (0 : Int) ≤ l6_17.toInt → a17 118 = a 118 → a17 139 = a 118 → ((31 - l6_17.toInt)).toNat < nz → ko 11 (mi_h201, mi_c201) P (71, [(6, .int l6_17), (5, .int l5_17), (4, .int l4_17), (0, .ref 116), (1, .int x1), (2, .int x2), (3, .int x3)], [], (0, 0), ks i17 a17 q17 r17) := by
              intro nz
              induction nz with
              | zero =>
                intro _ _ _ _ _ _ _ _ _ _ _ hm
                exact absurd hm (Nat.not_lt_zero _)
              | succ nz ih17 =>
                intro i17 a17 q17 r17 l6_17 l5_17 l4_17 hL17 p17_0 O17_0 O17_1 hm17
                refine ft_go mi_k201 4 78 [(6, .int l6_17), (5, .int l5_17), (4, .int l4_17), (0, .ref 116), (1, .int x1), (2, .int x2), (3, .int x3)] [.int (x2 / 10000), .int l6_17] i17 a17 q17 r17 (by rfl) ?_
                refine ft_if mi_k201 (decide ((x2 / 10000) ≤ l6_17)) 186 81 [(6, .int l6_17), (5, .int l5_17), (4, .int l4_17), (0, .ref 116), (1, .int x1), (2, .int x2), (3, .int x3)] [] (by rfl) (fun c => ?_) (fun c => ?_)
                ·
                  have c18 : (x2 / 10000).toInt ≤ l6_17.toInt := kd_le c; clear c
                  have hG19 := kG_call hGg14 hL17 (by decide +kernel)
                  refine ft_go mi_k201 2 188 [(6, .int l6_17), (5, .int l5_17), (4, .int l4_17), (0, .ref 116), (1, .int x1), (2, .int x2), (3, .int x3)] [.int (-1), .int x3] i17 a17 q17 r17 (by rfl) ?_
                  refine ft_if mi_k201 (x3 != (-1)) 198 191 [(6, .int l6_17), (5, .int l5_17), (4, .int l4_17), (0, .ref 116), (1, .int x1), (2, .int x2), (3, .int x3)] [] (by rfl) (fun c => ?_) (fun c => ?_)
                  ·
                    have c20 : x3.toInt ≠ ((-1) : Int32).toInt := kd_ne c; clear c
                    exact (of210 c13 c20 kofm1).elim
                  ·
                    have c21 : x3.toInt = ((-1) : Int32).toInt := kd_neF c; clear c
                    refine ft_go mi_k201 3 200 [(6, .int l6_17), (5, .int l5_17), (4, .int l4_17), (0, .ref 116), (1, .int x1), (2, .int x2), (3, .int x3)] [.int (i17 7467)] i17 a17 q17 r17 (by rfl) ?_
                    exact ft_ret mi_k201 (by rfl) (hP (i17 7467) _ _ _ _ hG19 ⟨trivial, (show a17 118 = a 118 from (by first | rfl | (simp only [O17_0, sMn, sMx]; done) | (simp only [O17_0, sMn, sMx]; rfl)))⟩)
                ·
                  have c22 : l6_17.toInt < (x2 / 10000).toInt := kd_leF c; clear c
                  refine ft_go mi_k201 2 85 [(6, .int l6_17), (5, .int l5_17), (4, .int l4_17), (0, .ref 116), (1, .int x1), (2, .int x2), (3, .int x3)] [.int (i17 7424)] i17 a17 q17 r17 (by rfl) ?_
                  refine ft_if mi_k201 (decide ((i17 7424) ≤ 0)) 186 88 [(6, .int l6_17), (5, .int l5_17), (4, .int l4_17), (0, .ref 116), (1, .int x1), (2, .int x2), (3, .int x3)] [] (by rfl) (fun c => ?_) (fun c => ?_)
                  ·
                    have c23 : (i17 7424).toInt ≤ (0 : Int32).toInt := kd_le c; clear c
                    have hG24 := kG_call hGg14 hL17 (by decide +kernel)
                    refine ft_go mi_k201 2 188 [(6, .int l6_17), (5, .int l5_17), (4, .int l4_17), (0, .ref 116), (1, .int x1), (2, .int x2), (3, .int x3)] [.int (-1), .int x3] i17 a17 q17 r17 (by rfl) ?_
                    refine ft_if mi_k201 (x3 != (-1)) 198 191 [(6, .int l6_17), (5, .int l5_17), (4, .int l4_17), (0, .ref 116), (1, .int x1), (2, .int x2), (3, .int x3)] [] (by rfl) (fun c => ?_) (fun c => ?_)
                    ·
                      have c25 : x3.toInt ≠ ((-1) : Int32).toInt := kd_ne c; clear c
                      exact (of210 c13 c25 kofm1).elim
                    ·
                      have c26 : x3.toInt = ((-1) : Int32).toInt := kd_neF c; clear c
                      refine ft_go mi_k201 3 200 [(6, .int l6_17), (5, .int l5_17), (4, .int l4_17), (0, .ref 116), (1, .int x1), (2, .int x2), (3, .int x3)] [.int (i17 7467)] i17 a17 q17 r17 (by rfl) ?_
                      exact ft_ret mi_k201 (by rfl) (hP (i17 7467) _ _ _ _ hG24 ⟨trivial, (show a17 118 = a 118 from (by first | rfl | (simp only [O17_0, sMn, sMx]; done) | (simp only [O17_0, sMn, sMx]; rfl)))⟩)
                  ·
                    have c27 : (0 : Int32).toInt < (i17 7424).toInt := kd_leF c; clear c
                    refine ft_go mi_k201 2 91 [(7, .int 0), (6, .int l6_17), (5, .int l5_17), (4, .int l4_17), (0, .ref 116), (1, .int x1), (2, .int x2), (3, .int x3)] [] i17 a17 q17 r17 (by rfl) ?_
                    have lp28 : ∀ (nz : Nat) (i28 : Nat → Int32) (a28 : Nat → List Int32) (q28 : Nat → List Int64) (r28 : Nat → Nat) (l7_28 : Int32) (l4_28 : Int32), kG yw201_116_L91 i17 a17 q17 r17 i28 a28 q28 r28 → (0 : Int) ≤ l7_28.toInt → a28 139 = a 118 → ((100 - l7_28.toInt)).toNat < nz → ko 11 (mi_h201, mi_c201) P (91, [(7, .int l7_28), (6, .int l6_17), (5, .int l5_17), (4, .int l4_28), (0, .ref 116), (1, .int x1), (2, .int x2), (3, .int x3)], [], (0, 0), ks i28 a28 q28 r28) := by
                      intro nz
                      induction nz with
                      | zero =>
                        intro _ _ _ _ _ _ _ _ _ hm
                        exact absurd hm (Nat.not_lt_zero _)
                      | succ nz ih28 =>
                        intro i28 a28 q28 r28 l7_28 l4_28 hL28 p28_0 O28_0 hm28
                        refine ft_go mi_k201 6 100 [(7, .int l7_28), (6, .int l6_17), (5, .int l5_17), (4, .int l4_28), (0, .ref 116), (1, .int x1), (2, .int x2), (3, .int x3)] [.int ((x2 / 100) - (x2 / 100) / 100 * 100), .int l7_28] i28 a28 q28 r28 (by rfl) ?_
                        refine ft_if mi_k201 (decide (((x2 / 100) - (x2 / 100) / 100 * 100) ≤ l7_28)) 155 103 [(7, .int l7_28), (6, .int l6_17), (5, .int l5_17), (4, .int l4_28), (0, .ref 116), (1, .int x1), (2, .int x2), (3, .int x3)] [] (by rfl) (fun c => ?_) (fun c => ?_)
                        ·
                          have c29 : ((x2 / 100) - (x2 / 100) / 100 * 100).toInt ≤ l7_28.toInt := kd_le c; clear c
                          have hG30 := kG_call hL17 hL28 (by decide +kernel)
                          refine ft_go mi_k201 2 157 [(7, .int l7_28), (6, .int l6_17), (5, .int l5_17), (4, .int l4_28), (0, .ref 116), (1, .int x1), (2, .int x2), (3, .int x3)] [.int (-1), .int x3] i28 a28 q28 r28 (by rfl) ?_
                          refine ft_if mi_k201 (x3 == (-1)) 171 160 [(7, .int l7_28), (6, .int l6_17), (5, .int l5_17), (4, .int l4_28), (0, .ref 116), (1, .int x1), (2, .int x2), (3, .int x3)] [] (by rfl) (fun c => ?_) (fun c => ?_)
                          ·
                            have c31 : x3.toInt = ((-1) : Int32).toInt := kd_eq c; clear c
                            refine ft_go mi_k201 4 177 [(7, .int l7_28), (6, .int l6_17), (5, .int l5_17), (4, .int l4_28), (0, .ref 116), (1, .int x1), (2, .int x2), (3, .int x3)] [.int 0, .ref 139, .ref 116] i28 a28 q28 r28 (by rfl) ?_
                            refine ko_callN mi_k201.1 (pc := 177) (ls := [(7, .int l7_28), (6, .int l6_17), (5, .int l5_17), (4, .int l4_28), (0, .ref 116), (1, .int x1), (2, .int x2), (3, .int x3)]) (st := [.int 0, .ref 139, .ref 116]) (h := ks i28 a28 q28 r28) (i := (.invokevirtual 273, 3, 169, 0, 9, 0, 423)) (mi_k201.2 _ _ (by rfl)) (ft_invS mi_pq169 (by rfl)) (cy := mi_c169) mi_pq169 rfl (ke169_116_139 hG30.I hG30.R 0 (of20 kof0)) (by decide) ?_
                            intro ig32 ag32 qg32 rg32 kg32 hg32
                            have hGg32 := kG_call hG30 kg32 (by decide +kernel)
                            obtain ⟨hg32, og32⟩ := hg32
                            have q33 : ag32 118 = a28 139 := og32
                            have s34 : (l6_17 + 1).toInt = l6_17.toInt + (1 : Int32).toInt := kd_add (of9 p17_0 kof1) (of211 c22 z5.2 kof30 kof1)
                            refine ft_go mi_k201 2 71 [(6, .int (l6_17 + 1)), (7, .int l7_28), (5, .int l5_17), (4, .int l4_28), (0, .ref 116), (1, .int x1), (2, .int x2), (3, .int x3)] [] ig32 ag32 qg32 rg32 (by rfl) ?_
                            refine ko_perm [(6, .int (l6_17 + 1)), (5, .int l5_17), (4, .int l4_28), (0, .ref 116), (1, .int x1), (2, .int x2), (3, .int x3)] (List.forall_mem_cons.mpr ⟨(List.Mem.head _), (List.forall_mem_cons.mpr ⟨(List.Mem.tail _ (List.Mem.tail _ (List.Mem.head _))), (List.forall_mem_cons.mpr ⟨(List.Mem.tail _ (List.Mem.tail _ (List.Mem.tail _ (List.Mem.head _)))), (List.forall_mem_cons.mpr ⟨(List.Mem.tail _ (List.Mem.tail _ (List.Mem.tail _ (List.Mem.tail _ (List.Mem.head _))))), (List.forall_mem_cons.mpr ⟨(List.Mem.tail _ (List.Mem.tail _ (List.Mem.tail _ (List.Mem.tail _ (List.Mem.tail _ (List.Mem.head _)))))), (List.forall_mem_cons.mpr ⟨(List.Mem.tail _ (List.Mem.tail _ (List.Mem.tail _ (List.Mem.tail _ (List.Mem.tail _ (List.Mem.tail _ (List.Mem.head _))))))), (List.forall_mem_cons.mpr ⟨(List.Mem.tail _ (List.Mem.tail _ (List.Mem.tail _ (List.Mem.tail _ (List.Mem.tail _ (List.Mem.tail _ (List.Mem.tail _ (List.Mem.head _)))))))), (fun _ h => absurd h List.not_mem_nil)⟩)⟩)⟩)⟩)⟩)⟩)⟩) ?_
                            exact ih17 _ _ _ _ _ _ _ hGg32 (of11 p17_0 s34 kof1) (by first | rfl | (simp only [q33, O28_0, sMn, sMx]; done) | (simp only [q33, O28_0, sMn, sMx]; rfl)) (by first | rfl | (simp only [kg32.fa 139 rfl, O28_0, sMn, sMx]; done) | (simp only [kg32.fa 139 rfl, O28_0, sMn, sMx]; rfl)) (kj_meas (of15 s34 kof1) (of212 c22 z5.2 kof30) hm17)
                          ·
                            have c35 : x3.toInt ≠ ((-1) : Int32).toInt := kd_eqF c; clear c
                            exact (of210 c13 c35 kofm1).elim
                        ·
                          have c36 : l7_28.toInt < ((x2 / 100) - (x2 / 100) / 100 * 100).toInt := kd_leF c; clear c
                          have b37 : ((-2147483648 : Int) ≤ l4_28.toInt) ∧ (l4_28.toInt ≤ 2147483647) := kd_bd l4_28
                          have b38 : ((-2147483648 : Int) ≤ (l4_28 * 1103515245).toInt) ∧ ((l4_28 * 1103515245).toInt ≤ 2147483647) := kd_bd (l4_28 * 1103515245)
                          have s39 : (0 : Int) ≤ ((((l4_28 * 1103515245) + 12345).toUInt32 >>> ((16 : Int32).toUInt32 &&& Int32.toUInt32 31)).toInt32).toInt := kd_ushr 16 (by decide) (by decide) (by decide)
                          have s40 : (((((l4_28 * 1103515245) + 12345).toUInt32 >>> ((16 : Int32).toUInt32 &&& Int32.toUInt32 31)).toInt32) - ((((l4_28 * 1103515245) + 12345).toUInt32 >>> ((16 : Int32).toUInt32 &&& Int32.toUInt32 31)).toInt32) / 12 * 12).toInt = (((((l4_28 * 1103515245) + 12345).toUInt32 >>> ((16 : Int32).toUInt32 &&& Int32.toUInt32 31)).toInt32).toInt % 12) := kd_rem 12 kof12 (by decide) (of3 s39)
                          refine ft_go mi_k201 14 127 [(4, .int ((l4_28 * 1103515245) + 12345)), (7, .int l7_28), (6, .int l6_17), (5, .int l5_17), (0, .ref 116), (1, .int x1), (2, .int x2), (3, .int x3)] [.int (x2 - x2 / 100 * 100), .int (((((l4_28 * 1103515245) + 12345).toUInt32 >>> ((16 : Int32).toUInt32 &&& Int32.toUInt32 31)).toInt32) - ((((l4_28 * 1103515245) + 12345).toUInt32 >>> ((16 : Int32).toUInt32 &&& Int32.toUInt32 31)).toInt32) / 12 * 12)] i28 a28 q28 r28 (by rfl) ?_
                          refine ft_if mi_k201 (decide ((x2 - x2 / 100 * 100) ≤ (((((l4_28 * 1103515245) + 12345).toUInt32 >>> ((16 : Int32).toUInt32 &&& Int32.toUInt32 31)).toInt32) - ((((l4_28 * 1103515245) + 12345).toUInt32 >>> ((16 : Int32).toUInt32 &&& Int32.toUInt32 31)).toInt32) / 12 * 12))) 134 130 [(4, .int ((l4_28 * 1103515245) + 12345)), (7, .int l7_28), (6, .int l6_17), (5, .int l5_17), (0, .ref 116), (1, .int x1), (2, .int x2), (3, .int x3)] [] (by rfl) (fun c => ?_) (fun c => ?_)
                          ·
                            have c41 : (x2 - x2 / 100 * 100).toInt ≤ (((((l4_28 * 1103515245) + 12345).toUInt32 >>> ((16 : Int32).toUInt32 &&& Int32.toUInt32 31)).toInt32) - ((((l4_28 * 1103515245) + 12345).toUInt32 >>> ((16 : Int32).toUInt32 &&& Int32.toUInt32 31)).toInt32) / 12 * 12).toInt := kd_le c; clear c
                            have s42 : (0 : Int) ≤ ((((l4_28 * 1103515245) + 12345).toUInt32 >>> ((8 : Int32).toUInt32 &&& Int32.toUInt32 31)).toInt32).toInt := kd_ushr 8 (by decide) (by decide) (by decide)
                            have fi28_7424 : ((0 : Int) ≤ (i28 7424).toInt) ∧ ((i28 7424).toInt ≤ 8) := hL28.I.1 7424
                            have efi28_7424 : (i28 7424).toInt = (i17 7424).toInt := hL28.ti 7424 rfl
                            refine ft_go mi_k201 6 144 [(4, .int ((l4_28 * 1103515245) + 12345)), (7, .int l7_28), (6, .int l6_17), (5, .int l5_17), (0, .ref 116), (1, .int x1), (2, .int x2), (3, .int x3)] [.int (i28 7424), .int ((((l4_28 * 1103515245) + 12345).toUInt32 >>> ((8 : Int32).toUInt32 &&& Int32.toUInt32 31)).toInt32), .ref 116] i28 a28 q28 r28 (by rfl) ?_
                            have s43 : ((0 : Int) ≤ (((((l4_28 * 1103515245) + 12345).toUInt32 >>> ((8 : Int32).toUInt32 &&& Int32.toUInt32 31)).toInt32) - ((((l4_28 * 1103515245) + 12345).toUInt32 >>> ((8 : Int32).toUInt32 &&& Int32.toUInt32 31)).toInt32) / (i28 7424) * (i28 7424)).toInt) ∧ ((((((l4_28 * 1103515245) + 12345).toUInt32 >>> ((8 : Int32).toUInt32 &&& Int32.toUInt32 31)).toInt32) - ((((l4_28 * 1103515245) + 12345).toUInt32 >>> ((8 : Int32).toUInt32 &&& Int32.toUInt32 31)).toInt32) / (i28 7424) * (i28 7424)).toInt < (i28 7424).toInt) := kd_remv (of214 c27 efi28_7424 kof0) (of3 s42)
                            refine ko_irem mi_k201.1 (ax := (0, 0, 0, 0, 0)) (mi_k201.2 _ _ (by rfl)) (of213 c27 efi28_7424 kof0) ?_
                            have hG44 := kG_call hL17 hL28 (by decide +kernel)
                            have hG45 := kG_call hGg14 hG44 (by decide +kernel)
                            refine ko_callI mi_k201.1 (pc := 145) (ls := [(4, .int ((l4_28 * 1103515245) + 12345)), (7, .int l7_28), (6, .int l6_17), (5, .int l5_17), (0, .ref 116), (1, .int x1), (2, .int x2), (3, .int x3)]) (st := [.int (((((l4_28 * 1103515245) + 12345).toUInt32 >>> ((8 : Int32).toUInt32 &&& Int32.toUInt32 31)).toInt32) - ((((l4_28 * 1103515245) + 12345).toUInt32 >>> ((8 : Int32).toUInt32 &&& Int32.toUInt32 31)).toInt32) / (i28 7424) * (i28 7424)), .ref 116]) (h := ks i28 a28 q28 r28) (i := (.invokevirtual 260, 3, 166, 0, 9, 0, 415)) (mi_k201.2 _ _ (by rfl)) (ft_invS mi_pq166 (by rfl)) (cy := mi_c166) mi_pq166 rfl (kc166_116 hL28.I hL28.R (((((l4_28 * 1103515245) + 12345).toUInt32 >>> ((8 : Int32).toUInt32 &&& Int32.toUInt32 31)).toInt32) - ((((l4_28 * 1103515245) + 12345).toUInt32 >>> ((8 : Int32).toUInt32 &&& Int32.toUInt32 31)).toInt32) / (i28 7424) * (i28 7424)) (of118 fi28_7424.2 s43.1 s43.2) (kCode_of (i1 := i28) hE_code (hG45.fi 7432 rfl) (hG45.fa 120 rfl) (hG45.fa 121 rfl) (hG45.fa 122 rfl) (hG45.fa 123 rfl))) (by decide) ?_
                            intro vg46 ig46 ag46 qg46 rg46 kg46 hg46
                            have hGg46 := kG_call hL28 kg46 (by decide +kernel)
                            rcases hg46 with ⟨eg46, hg46⟩ | ⟨eg46, hg46⟩
                            ·
                              subst eg46
                              have s47 : (l7_28 + 1).toInt = l7_28.toInt + (1 : Int32).toInt := kd_add (of9 p28_0 kof1) (of215 c36 s7 kof1)
                              refine ft_go mi_k201 3 91 [(7, .int (l7_28 + 1)), (4, .int ((l4_28 * 1103515245) + 12345)), (6, .int l6_17), (5, .int l5_17), (0, .ref 116), (1, .int x1), (2, .int x2), (3, .int x3)] [] ig46 ag46 qg46 rg46 (by rfl) ?_
                              refine ko_perm [(7, .int (l7_28 + 1)), (6, .int l6_17), (5, .int l5_17), (4, .int ((l4_28 * 1103515245) + 12345)), (0, .ref 116), (1, .int x1), (2, .int x2), (3, .int x3)] (List.forall_mem_cons.mpr ⟨(List.Mem.head _), (List.forall_mem_cons.mpr ⟨(List.Mem.tail _ (List.Mem.tail _ (List.Mem.head _))), (List.forall_mem_cons.mpr ⟨(List.Mem.tail _ (List.Mem.tail _ (List.Mem.tail _ (List.Mem.head _)))), (List.forall_mem_cons.mpr ⟨(List.Mem.tail _ (List.Mem.head _)), (List.forall_mem_cons.mpr ⟨(List.Mem.tail _ (List.Mem.tail _ (List.Mem.tail _ (List.Mem.tail _ (List.Mem.head _))))), (List.forall_mem_cons.mpr ⟨(List.Mem.tail _ (List.Mem.tail _ (List.Mem.tail _ (List.Mem.tail _ (List.Mem.tail _ (List.Mem.head _)))))), (List.forall_mem_cons.mpr ⟨(List.Mem.tail _ (List.Mem.tail _ (List.Mem.tail _ (List.Mem.tail _ (List.Mem.tail _ (List.Mem.tail _ (List.Mem.head _))))))), (List.forall_mem_cons.mpr ⟨(List.Mem.tail _ (List.Mem.tail _ (List.Mem.tail _ (List.Mem.tail _ (List.Mem.tail _ (List.Mem.tail _ (List.Mem.tail _ (List.Mem.head _)))))))), (fun _ h => absurd h List.not_mem_nil)⟩)⟩)⟩)⟩)⟩)⟩)⟩)⟩) ?_
                              exact ih28 _ _ _ _ _ _ hGg46 (of11 p28_0 s47 kof1) (by first | rfl | (simp only [kg46.fa 139 rfl, O28_0, sMn, sMx]; done) | (simp only [kg46.fa 139 rfl, O28_0, sMn, sMx]; rfl)) (kj_meas (of216 s47 kof1) (of217 c36 s7) hm28)
                            ·
                              subst eg46
                              have s48 : (l7_28 + 1).toInt = l7_28.toInt + (1 : Int32).toInt := kd_add (of9 p28_0 kof1) (of215 c36 s7 kof1)
                              refine ft_go mi_k201 3 91 [(7, .int (l7_28 + 1)), (4, .int ((l4_28 * 1103515245) + 12345)), (6, .int l6_17), (5, .int l5_17), (0, .ref 116), (1, .int x1), (2, .int x2), (3, .int x3)] [] ig46 ag46 qg46 rg46 (by rfl) ?_
                              refine ko_perm [(7, .int (l7_28 + 1)), (6, .int l6_17), (5, .int l5_17), (4, .int ((l4_28 * 1103515245) + 12345)), (0, .ref 116), (1, .int x1), (2, .int x2), (3, .int x3)] (List.forall_mem_cons.mpr ⟨(List.Mem.head _), (List.forall_mem_cons.mpr ⟨(List.Mem.tail _ (List.Mem.tail _ (List.Mem.head _))), (List.forall_mem_cons.mpr ⟨(List.Mem.tail _ (List.Mem.tail _ (List.Mem.tail _ (List.Mem.head _)))), (List.forall_mem_cons.mpr ⟨(List.Mem.tail _ (List.Mem.head _)), (List.forall_mem_cons.mpr ⟨(List.Mem.tail _ (List.Mem.tail _ (List.Mem.tail _ (List.Mem.tail _ (List.Mem.head _))))), (List.forall_mem_cons.mpr ⟨(List.Mem.tail _ (List.Mem.tail _ (List.Mem.tail _ (List.Mem.tail _ (List.Mem.tail _ (List.Mem.head _)))))), (List.forall_mem_cons.mpr ⟨(List.Mem.tail _ (List.Mem.tail _ (List.Mem.tail _ (List.Mem.tail _ (List.Mem.tail _ (List.Mem.tail _ (List.Mem.head _))))))), (List.forall_mem_cons.mpr ⟨(List.Mem.tail _ (List.Mem.tail _ (List.Mem.tail _ (List.Mem.tail _ (List.Mem.tail _ (List.Mem.tail _ (List.Mem.tail _ (List.Mem.head _)))))))), (fun _ h => absurd h List.not_mem_nil)⟩)⟩)⟩)⟩)⟩)⟩)⟩)⟩) ?_
                              exact ih28 _ _ _ _ _ _ hGg46 (of11 p28_0 s48 kof1) (by first | rfl | (simp only [kg46.fa 139 rfl, O28_0, sMn, sMx]; done) | (simp only [kg46.fa 139 rfl, O28_0, sMn, sMx]; rfl)) (kj_meas (of216 s48 kof1) (of217 c36 s7) hm28)
                          ·
                            have c49 : (((((l4_28 * 1103515245) + 12345).toUInt32 >>> ((16 : Int32).toUInt32 &&& Int32.toUInt32 31)).toInt32) - ((((l4_28 * 1103515245) + 12345).toUInt32 >>> ((16 : Int32).toUInt32 &&& Int32.toUInt32 31)).toInt32) / 12 * 12).toInt < (x2 - x2 / 100 * 100).toInt := kd_leF c; clear c
                            refine ft_go mi_k201 1 131 [(4, .int ((l4_28 * 1103515245) + 12345)), (7, .int l7_28), (6, .int l6_17), (5, .int l5_17), (0, .ref 116), (1, .int x1), (2, .int x2), (3, .int x3)] [.ref 116] i28 a28 q28 r28 (by rfl) ?_
                            refine ko_callN mi_k201.1 (pc := 131) (ls := [(4, .int ((l4_28 * 1103515245) + 12345)), (7, .int l7_28), (6, .int l6_17), (5, .int l5_17), (0, .ref 116), (1, .int x1), (2, .int x2), (3, .int x3)]) (st := [.ref 116]) (h := ks i28 a28 q28 r28) (i := (.invokevirtual 282, 3, 167, 0, 9, 0, 426)) (mi_k201.2 _ _ (by rfl)) (ft_invS mi_pq167 (by rfl)) (cy := mi_c167) mi_pq167 rfl (kc167_116 hL28.I hL28.R ) (by decide) ?_
                            intro ig50 ag50 qg50 rg50 kg50 hg50
                            have hGg50 := kG_call hL28 kg50 (by decide +kernel)
                            have s51 : (0 : Int) ≤ ((((l4_28 * 1103515245) + 12345).toUInt32 >>> ((8 : Int32).toUInt32 &&& Int32.toUInt32 31)).toInt32).toInt := kd_ushr 8 (by decide) (by decide) (by decide)
                            have fig50_7424 : ((0 : Int) ≤ (ig50 7424).toInt) ∧ ((ig50 7424).toInt ≤ 8) := hGg50.I.1 7424
                            have efi28_7424 : (i28 7424).toInt = (i17 7424).toInt := hL28.ti 7424 rfl
                            have efig50_7424 : (ig50 7424).toInt = (i28 7424).toInt := kg50.ti 7424 rfl
                            refine ft_go mi_k201 6 144 [(4, .int ((l4_28 * 1103515245) + 12345)), (7, .int l7_28), (6, .int l6_17), (5, .int l5_17), (0, .ref 116), (1, .int x1), (2, .int x2), (3, .int x3)] [.int (ig50 7424), .int ((((l4_28 * 1103515245) + 12345).toUInt32 >>> ((8 : Int32).toUInt32 &&& Int32.toUInt32 31)).toInt32), .ref 116] ig50 ag50 qg50 rg50 (by rfl) ?_
                            have s52 : ((0 : Int) ≤ (((((l4_28 * 1103515245) + 12345).toUInt32 >>> ((8 : Int32).toUInt32 &&& Int32.toUInt32 31)).toInt32) - ((((l4_28 * 1103515245) + 12345).toUInt32 >>> ((8 : Int32).toUInt32 &&& Int32.toUInt32 31)).toInt32) / (ig50 7424) * (ig50 7424)).toInt) ∧ ((((((l4_28 * 1103515245) + 12345).toUInt32 >>> ((8 : Int32).toUInt32 &&& Int32.toUInt32 31)).toInt32) - ((((l4_28 * 1103515245) + 12345).toUInt32 >>> ((8 : Int32).toUInt32 &&& Int32.toUInt32 31)).toInt32) / (ig50 7424) * (ig50 7424)).toInt < (ig50 7424).toInt) := kd_remv (of219 c27 efi28_7424 efig50_7424 kof0) (of3 s51)
                            refine ko_irem mi_k201.1 (ax := (0, 0, 0, 0, 0)) (mi_k201.2 _ _ (by rfl)) (of218 c27 efi28_7424 efig50_7424 kof0) ?_
                            have hG53 := kG_call hL17 hGg50 (by decide +kernel)
                            have hG54 := kG_call hGg14 hG53 (by decide +kernel)
                            refine ko_callI mi_k201.1 (pc := 145) (ls := [(4, .int ((l4_28 * 1103515245) + 12345)), (7, .int l7_28), (6, .int l6_17), (5, .int l5_17), (0, .ref 116), (1, .int x1), (2, .int x2), (3, .int x3)]) (st := [.int (((((l4_28 * 1103515245) + 12345).toUInt32 >>> ((8 : Int32).toUInt32 &&& Int32.toUInt32 31)).toInt32) - ((((l4_28 * 1103515245) + 12345).toUInt32 >>> ((8 : Int32).toUInt32 &&& Int32.toUInt32 31)).toInt32) / (ig50 7424) * (ig50 7424)), .ref 116]) (h := ks ig50 ag50 qg50 rg50) (i := (.invokevirtual 260, 3, 166, 0, 9, 0, 415)) (mi_k201.2 _ _ (by rfl)) (ft_invS mi_pq166 (by rfl)) (cy := mi_c166) mi_pq166 rfl (kc166_116 hGg50.I hGg50.R (((((l4_28 * 1103515245) + 12345).toUInt32 >>> ((8 : Int32).toUInt32 &&& Int32.toUInt32 31)).toInt32) - ((((l4_28 * 1103515245) + 12345).toUInt32 >>> ((8 : Int32).toUInt32 &&& Int32.toUInt32 31)).toInt32) / (ig50 7424) * (ig50 7424)) (of118 fig50_7424.2 s52.1 s52.2) (kCode_of (i1 := ig50) hE_code (hG54.fi 7432 rfl) (hG54.fa 120 rfl) (hG54.fa 121 rfl) (hG54.fa 122 rfl) (hG54.fa 123 rfl))) (by decide) ?_
                            intro vg55 ig55 ag55 qg55 rg55 kg55 hg55
                            have hGg55 := kG_call hGg50 kg55 (by decide +kernel)
                            rcases hg55 with ⟨eg55, hg55⟩ | ⟨eg55, hg55⟩
                            ·
                              subst eg55
                              have s56 : (l7_28 + 1).toInt = l7_28.toInt + (1 : Int32).toInt := kd_add (of9 p28_0 kof1) (of215 c36 s7 kof1)
                              refine ft_go mi_k201 3 91 [(7, .int (l7_28 + 1)), (4, .int ((l4_28 * 1103515245) + 12345)), (6, .int l6_17), (5, .int l5_17), (0, .ref 116), (1, .int x1), (2, .int x2), (3, .int x3)] [] ig55 ag55 qg55 rg55 (by rfl) ?_
                              refine ko_perm [(7, .int (l7_28 + 1)), (6, .int l6_17), (5, .int l5_17), (4, .int ((l4_28 * 1103515245) + 12345)), (0, .ref 116), (1, .int x1), (2, .int x2), (3, .int x3)] (List.forall_mem_cons.mpr ⟨(List.Mem.head _), (List.forall_mem_cons.mpr ⟨(List.Mem.tail _ (List.Mem.tail _ (List.Mem.head _))), (List.forall_mem_cons.mpr ⟨(List.Mem.tail _ (List.Mem.tail _ (List.Mem.tail _ (List.Mem.head _)))), (List.forall_mem_cons.mpr ⟨(List.Mem.tail _ (List.Mem.head _)), (List.forall_mem_cons.mpr ⟨(List.Mem.tail _ (List.Mem.tail _ (List.Mem.tail _ (List.Mem.tail _ (List.Mem.head _))))), (List.forall_mem_cons.mpr ⟨(List.Mem.tail _ (List.Mem.tail _ (List.Mem.tail _ (List.Mem.tail _ (List.Mem.tail _ (List.Mem.head _)))))), (List.forall_mem_cons.mpr ⟨(List.Mem.tail _ (List.Mem.tail _ (List.Mem.tail _ (List.Mem.tail _ (List.Mem.tail _ (List.Mem.tail _ (List.Mem.head _))))))), (List.forall_mem_cons.mpr ⟨(List.Mem.tail _ (List.Mem.tail _ (List.Mem.tail _ (List.Mem.tail _ (List.Mem.tail _ (List.Mem.tail _ (List.Mem.tail _ (List.Mem.head _)))))))), (fun _ h => absurd h List.not_mem_nil)⟩)⟩)⟩)⟩)⟩)⟩)⟩)⟩) ?_
                              exact ih28 _ _ _ _ _ _ hGg55 (of11 p28_0 s56 kof1) (by first | rfl | (simp only [kg55.fa 139 rfl, kg50.fa 139 rfl, O28_0, sMn, sMx]; done) | (simp only [kg55.fa 139 rfl, kg50.fa 139 rfl, O28_0, sMn, sMx]; rfl)) (kj_meas (of216 s56 kof1) (of217 c36 s7) hm28)
                            ·
                              subst eg55
                              have s57 : (l7_28 + 1).toInt = l7_28.toInt + (1 : Int32).toInt := kd_add (of9 p28_0 kof1) (of215 c36 s7 kof1)
                              refine ft_go mi_k201 3 91 [(7, .int (l7_28 + 1)), (4, .int ((l4_28 * 1103515245) + 12345)), (6, .int l6_17), (5, .int l5_17), (0, .ref 116), (1, .int x1), (2, .int x2), (3, .int x3)] [] ig55 ag55 qg55 rg55 (by rfl) ?_
                              refine ko_perm [(7, .int (l7_28 + 1)), (6, .int l6_17), (5, .int l5_17), (4, .int ((l4_28 * 1103515245) + 12345)), (0, .ref 116), (1, .int x1), (2, .int x2), (3, .int x3)] (List.forall_mem_cons.mpr ⟨(List.Mem.head _), (List.forall_mem_cons.mpr ⟨(List.Mem.tail _ (List.Mem.tail _ (List.Mem.head _))), (List.forall_mem_cons.mpr ⟨(List.Mem.tail _ (List.Mem.tail _ (List.Mem.tail _ (List.Mem.head _)))), (List.forall_mem_cons.mpr ⟨(List.Mem.tail _ (List.Mem.head _)), (List.forall_mem_cons.mpr ⟨(List.Mem.tail _ (List.Mem.tail _ (List.Mem.tail _ (List.Mem.tail _ (List.Mem.head _))))), (List.forall_mem_cons.mpr ⟨(List.Mem.tail _ (List.Mem.tail _ (List.Mem.tail _ (List.Mem.tail _ (List.Mem.tail _ (List.Mem.head _)))))), (List.forall_mem_cons.mpr ⟨(List.Mem.tail _ (List.Mem.tail _ (List.Mem.tail _ (List.Mem.tail _ (List.Mem.tail _ (List.Mem.tail _ (List.Mem.head _))))))), (List.forall_mem_cons.mpr ⟨(List.Mem.tail _ (List.Mem.tail _ (List.Mem.tail _ (List.Mem.tail _ (List.Mem.tail _ (List.Mem.tail _ (List.Mem.tail _ (List.Mem.head _)))))))), (fun _ h => absurd h List.not_mem_nil)⟩)⟩)⟩)⟩)⟩)⟩)⟩)⟩) ?_
                              exact ih28 _ _ _ _ _ _ hGg55 (of11 p28_0 s57 kof1) (by first | rfl | (simp only [kg55.fa 139 rfl, kg50.fa 139 rfl, O28_0, sMn, sMx]; done) | (simp only [kg55.fa 139 rfl, kg50.fa 139 rfl, O28_0, sMn, sMx]; rfl)) (kj_meas (of216 s57 kof1) (of217 c36 s7) hm28)
                    exact lp28 _ _ _ _ _ _ _ (kG_self _ hL17.I hL17.R) (of17 kof0) (by first | rfl | (simp only [O17_1, sMn, sMx]; done) | (simp only [O17_1, sMn, sMx]; rfl)) (Nat.lt_succ_self _)
            exact lp17 _ _ _ _ _ _ _ _ (kG_self _ hGg14.I hGg14.R) (of17 kof0) (by first | rfl | (simp only [q16, sMn, sMx]; done) | (simp only [q16, sMn, sMx]; rfl)) (by first | rfl | (simp only [q15, sMn, sMx]; done) | (simp only [q15, sMn, sMx]; rfl)) (Nat.lt_succ_self _)
          ·
            have c58 : x3.toInt ≠ ((-1) : Int32).toInt := kd_eqF c; clear c
            refine ft_go mi_k201 2 50 [(0, .ref 116), (1, .int x1), (2, .int x2), (3, .int x3)] [.int x3, .ref 116] i a q r (by rfl) ?_
            refine ko_callPI mi_k201.1 (pc := 50) (ls := [(0, .ref 116), (1, .int x1), (2, .int x2), (3, .int x3)]) (st := [.int x3, .ref 116]) (h := ks i a q r) (i := (.invokevirtual 137, 3, 132, 0, 9, 0, 387)) (mi_k201.2 _ _ (by rfl)) (ft_invS mi_pq132 (by rfl)) (cy := mi_c132) mi_pq132 rfl (kc132_116 hG.I hG.R x3) (by decide) ?_
            intro vg59 hg59
            rcases hg59 with ⟨eg59, hg59⟩ | ⟨eg59, hg59⟩
            ·
              subst eg59
              have fi_7424 : ((0 : Int) ≤ (i 7424).toInt) ∧ ((i 7424).toInt ≤ 8) := hG.I.1 7424
              have z60 : ((0 : Int) ≤ x3.toInt) ∧ (x3.toInt < (i 7424).toInt) := hg59
              refine ft_go mi_k201 2 59 [(0, .ref 116), (1, .int x1), (2, .int x2), (3, .int x3)] [.ref 116] i a q r (by rfl) ?_
              refine ko_callN mi_k201.1 (pc := 59) (ls := [(0, .ref 116), (1, .int x1), (2, .int x2), (3, .int x3)]) (st := [.ref 116]) (h := ks i a q r) (i := (.invokevirtual 267, 3, 171, 0, 9, 0, 412)) (mi_k201.2 _ _ (by rfl)) (ft_invS mi_pq171 (by rfl)) (cy := mi_c171) mi_pq171 rfl (ke171_116 hG.I hG.R ) (by decide) ?_
              intro ig61 ag61 qg61 rg61 kg61 hg61
              have hGg61 := kG_call hG kg61 (by decide +kernel)
              obtain ⟨hg61, og61⟩ := hg61
              have q62 : ag61 139 = a 118 := og61.1
              have q63 : ag61 118 = a 118 := og61.2
              refine ft_go mi_k201 6 71 [(6, .int 0), (5, .int 0), (4, .int x1), (0, .ref 116), (1, .int x1), (2, .int x2), (3, .int x3)] [] ig61 ag61 qg61 rg61 (by rfl) ?_
              have lp64 : ∀ (nz : Nat) (i64 : Nat → Int32) (a64 : Nat → List Int32) (q64 : Nat → List Int64) (r64 : Nat → Nat) (l6_64 : Int32) (l5_64 : Int32) (l4_64 : Int32), kG yw201_116_L71 ig61 ag61 qg61 rg61 i64 a64 q64 r64 → (0 : Int) ≤ l6_64.toInt → a64 118 = a 118 → a64 139 = a 118 → ((31 - l6_64.toInt)).toNat < nz → ko 11 (mi_h201, mi_c201) P (71, [(6, .int l6_64), (5, .int l5_64), (4, .int l4_64), (0, .ref 116), (1, .int x1), (2, .int x2), (3, .int x3)], [], (0, 0), ks i64 a64 q64 r64) := by
                intro nz
                induction nz with
                | zero =>
                  intro _ _ _ _ _ _ _ _ _ _ _ hm
                  exact absurd hm (Nat.not_lt_zero _)
                | succ nz ih64 =>
                  intro i64 a64 q64 r64 l6_64 l5_64 l4_64 hL64 p64_0 O64_0 O64_1 hm64
                  refine ft_go mi_k201 4 78 [(6, .int l6_64), (5, .int l5_64), (4, .int l4_64), (0, .ref 116), (1, .int x1), (2, .int x2), (3, .int x3)] [.int (x2 / 10000), .int l6_64] i64 a64 q64 r64 (by rfl) ?_
                  refine ft_if mi_k201 (decide ((x2 / 10000) ≤ l6_64)) 186 81 [(6, .int l6_64), (5, .int l5_64), (4, .int l4_64), (0, .ref 116), (1, .int x1), (2, .int x2), (3, .int x3)] [] (by rfl) (fun c => ?_) (fun c => ?_)
                  ·
                    have c65 : (x2 / 10000).toInt ≤ l6_64.toInt := kd_le c; clear c
                    have hG66 := kG_call hGg61 hL64 (by decide +kernel)
                    refine ft_go mi_k201 2 188 [(6, .int l6_64), (5, .int l5_64), (4, .int l4_64), (0, .ref 116), (1, .int x1), (2, .int x2), (3, .int x3)] [.int (-1), .int x3] i64 a64 q64 r64 (by rfl) ?_
                    refine ft_if mi_k201 (x3 != (-1)) 198 191 [(6, .int l6_64), (5, .int l5_64), (4, .int l4_64), (0, .ref 116), (1, .int x1), (2, .int x2), (3, .int x3)] [] (by rfl) (fun c => ?_) (fun c => ?_)
                    ·
                      have c67 : x3.toInt ≠ ((-1) : Int32).toInt := kd_ne c; clear c
                      refine ft_go mi_k201 1 200 [(6, .int l6_64), (5, .int l5_64), (4, .int l4_64), (0, .ref 116), (1, .int x1), (2, .int x2), (3, .int x3)] [.int l5_64] i64 a64 q64 r64 (by rfl) ?_
                      exact ft_ret mi_k201 (by rfl) (hP l5_64 _ _ _ _ hG66 ⟨trivial, (show a64 118 = a 118 from (by first | rfl | (simp only [O64_0, sMn, sMx]; done) | (simp only [O64_0, sMn, sMx]; rfl)))⟩)
                    ·
                      have c68 : x3.toInt = ((-1) : Int32).toInt := kd_neF c; clear c
                      exact (of98 c68 z60.1 kofm1).elim
                  ·
                    have c69 : l6_64.toInt < (x2 / 10000).toInt := kd_leF c; clear c
                    have efig61_7424 : (ig61 7424).toInt = (i 7424).toInt := kg61.ti 7424 rfl
                    have efi64_7424 : (i64 7424).toInt = (ig61 7424).toInt := hL64.ti 7424 rfl
                    refine ft_go mi_k201 2 85 [(6, .int l6_64), (5, .int l5_64), (4, .int l4_64), (0, .ref 116), (1, .int x1), (2, .int x2), (3, .int x3)] [.int (i64 7424)] i64 a64 q64 r64 (by rfl) ?_
                    refine ft_if mi_k201 (decide ((i64 7424) ≤ 0)) 186 88 [(6, .int l6_64), (5, .int l5_64), (4, .int l4_64), (0, .ref 116), (1, .int x1), (2, .int x2), (3, .int x3)] [] (by rfl) (fun c => ?_) (fun c => ?_)
                    ·
                      have c70 : (i64 7424).toInt ≤ (0 : Int32).toInt := kd_le c; clear c
                      exact (of220 c70 efi64_7424 efig61_7424 z60.1 z60.2 kof0).elim
                    ·
                      have c71 : (0 : Int32).toInt < (i64 7424).toInt := kd_leF c; clear c
                      refine ft_go mi_k201 2 91 [(7, .int 0), (6, .int l6_64), (5, .int l5_64), (4, .int l4_64), (0, .ref 116), (1, .int x1), (2, .int x2), (3, .int x3)] [] i64 a64 q64 r64 (by rfl) ?_
                      have lp72 : ∀ (nz : Nat) (i72 : Nat → Int32) (a72 : Nat → List Int32) (q72 : Nat → List Int64) (r72 : Nat → Nat) (l7_72 : Int32) (l4_72 : Int32), kG yw201_116_L91 i64 a64 q64 r64 i72 a72 q72 r72 → (0 : Int) ≤ l7_72.toInt → a72 139 = a 118 → ((100 - l7_72.toInt)).toNat < nz → ko 11 (mi_h201, mi_c201) P (91, [(7, .int l7_72), (6, .int l6_64), (5, .int l5_64), (4, .int l4_72), (0, .ref 116), (1, .int x1), (2, .int x2), (3, .int x3)], [], (0, 0), ks i72 a72 q72 r72) := by
                        intro nz
                        induction nz with
                        | zero =>
                          intro _ _ _ _ _ _ _ _ _ hm
                          exact absurd hm (Nat.not_lt_zero _)
                        | succ nz ih72 =>
                          intro i72 a72 q72 r72 l7_72 l4_72 hL72 p72_0 O72_0 hm72
                          refine ft_go mi_k201 6 100 [(7, .int l7_72), (6, .int l6_64), (5, .int l5_64), (4, .int l4_72), (0, .ref 116), (1, .int x1), (2, .int x2), (3, .int x3)] [.int ((x2 / 100) - (x2 / 100) / 100 * 100), .int l7_72] i72 a72 q72 r72 (by rfl) ?_
                          refine ft_if mi_k201 (decide (((x2 / 100) - (x2 / 100) / 100 * 100) ≤ l7_72)) 155 103 [(7, .int l7_72), (6, .int l6_64), (5, .int l5_64), (4, .int l4_72), (0, .ref 116), (1, .int x1), (2, .int x2), (3, .int x3)] [] (by rfl) (fun c => ?_) (fun c => ?_)
                          ·
                            have c73 : ((x2 / 100) - (x2 / 100) / 100 * 100).toInt ≤ l7_72.toInt := kd_le c; clear c
                            have hG74 := kG_call hL64 hL72 (by decide +kernel)
                            refine ft_go mi_k201 2 157 [(7, .int l7_72), (6, .int l6_64), (5, .int l5_64), (4, .int l4_72), (0, .ref 116), (1, .int x1), (2, .int x2), (3, .int x3)] [.int (-1), .int x3] i72 a72 q72 r72 (by rfl) ?_
                            refine ft_if mi_k201 (x3 == (-1)) 171 160 [(7, .int l7_72), (6, .int l6_64), (5, .int l5_64), (4, .int l4_72), (0, .ref 116), (1, .int x1), (2, .int x2), (3, .int x3)] [] (by rfl) (fun c => ?_) (fun c => ?_)
                            ·
                              have c75 : x3.toInt = ((-1) : Int32).toInt := kd_eq c; clear c
                              exact (of98 c75 z60.1 kofm1).elim
                            ·
                              have c76 : x3.toInt ≠ ((-1) : Int32).toInt := kd_eqF c; clear c
                              refine ft_go mi_k201 4 167 [(7, .int l7_72), (6, .int l6_64), (5, .int l5_64), (4, .int l4_72), (0, .ref 116), (1, .int x1), (2, .int x2), (3, .int x3)] [.int x3, .ref 118, .int l5_64] i72 a72 q72 r72 (by rfl) ?_
                              refine ko_iald3 mi_k201.1 (n := 31) (c := 31) (ax := (0, 0, 0, 0, 0)) (mi_k201.2 _ _ (by rfl)) (by rfl) (ksG118 _ _ _ _) (hG74.I.2.1 118) rfl (of3 z60.1) (of66 fi_7424.2 z60.2) ?_
                              have r77 : ((x3.toInt = 18 → (0 : Int) ≤ ((a72 118).getD x3.toNatClampNeg 0).toInt ∧ ((a72 118).getD x3.toNatClampNeg 0).toInt ≤ 5)) ∧ ((19 ≤ x3.toInt → x3.toInt ≤ 24 → (0 : Int) ≤ ((a72 118).getD x3.toNatClampNeg 0).toInt ∧ ((a72 118).getD x3.toNatClampNeg 0).toInt ≤ 7)) := kE_ncond (p := 118) hG74.I (by decide) (j := x3) (of3 z60.1)
                              have b78 : ((-2147483648 : Int) ≤ l5_64.toInt) ∧ (l5_64.toInt ≤ 2147483647) := kd_bd l5_64
                              have b79 : ((-2147483648 : Int) ≤ ((a72 118).getD x3.toNatClampNeg 0).toInt) ∧ (((a72 118).getD x3.toNatClampNeg 0).toInt ≤ 2147483647) := kd_bd ((a72 118).getD x3.toNatClampNeg 0)
                              refine ft_go mi_k201 6 177 [(5, .int (l5_64 + ((a72 118).getD x3.toNatClampNeg 0))), (7, .int l7_72), (6, .int l6_64), (4, .int l4_72), (0, .ref 116), (1, .int x1), (2, .int x2), (3, .int x3)] [.int 0, .ref 139, .ref 116] i72 a72 q72 r72 (by rfl) ?_
                              refine ko_callN mi_k201.1 (pc := 177) (ls := [(5, .int (l5_64 + ((a72 118).getD x3.toNatClampNeg 0))), (7, .int l7_72), (6, .int l6_64), (4, .int l4_72), (0, .ref 116), (1, .int x1), (2, .int x2), (3, .int x3)]) (st := [.int 0, .ref 139, .ref 116]) (h := ks i72 a72 q72 r72) (i := (.invokevirtual 273, 3, 169, 0, 9, 0, 423)) (mi_k201.2 _ _ (by rfl)) (ft_invS mi_pq169 (by rfl)) (cy := mi_c169) mi_pq169 rfl (ke169_116_139 hG74.I hG74.R 0 (of20 kof0)) (by decide) ?_
                              intro ig80 ag80 qg80 rg80 kg80 hg80
                              have hGg80 := kG_call hG74 kg80 (by decide +kernel)
                              obtain ⟨hg80, og80⟩ := hg80
                              have q81 : ag80 118 = a72 139 := og80
                              have s82 : (l6_64 + 1).toInt = l6_64.toInt + (1 : Int32).toInt := kd_add (of9 p64_0 kof1) (of211 c69 z5.2 kof30 kof1)
                              refine ft_go mi_k201 2 71 [(6, .int (l6_64 + 1)), (5, .int (l5_64 + ((a72 118).getD x3.toNatClampNeg 0))), (7, .int l7_72), (4, .int l4_72), (0, .ref 116), (1, .int x1), (2, .int x2), (3, .int x3)] [] ig80 ag80 qg80 rg80 (by rfl) ?_
                              refine ko_perm [(6, .int (l6_64 + 1)), (5, .int (l5_64 + ((a72 118).getD x3.toNatClampNeg 0))), (4, .int l4_72), (0, .ref 116), (1, .int x1), (2, .int x2), (3, .int x3)] (List.forall_mem_cons.mpr ⟨(List.Mem.head _), (List.forall_mem_cons.mpr ⟨(List.Mem.tail _ (List.Mem.head _)), (List.forall_mem_cons.mpr ⟨(List.Mem.tail _ (List.Mem.tail _ (List.Mem.tail _ (List.Mem.head _)))), (List.forall_mem_cons.mpr ⟨(List.Mem.tail _ (List.Mem.tail _ (List.Mem.tail _ (List.Mem.tail _ (List.Mem.head _))))), (List.forall_mem_cons.mpr ⟨(List.Mem.tail _ (List.Mem.tail _ (List.Mem.tail _ (List.Mem.tail _ (List.Mem.tail _ (List.Mem.head _)))))), (List.forall_mem_cons.mpr ⟨(List.Mem.tail _ (List.Mem.tail _ (List.Mem.tail _ (List.Mem.tail _ (List.Mem.tail _ (List.Mem.tail _ (List.Mem.head _))))))), (List.forall_mem_cons.mpr ⟨(List.Mem.tail _ (List.Mem.tail _ (List.Mem.tail _ (List.Mem.tail _ (List.Mem.tail _ (List.Mem.tail _ (List.Mem.tail _ (List.Mem.head _)))))))), (fun _ h => absurd h List.not_mem_nil)⟩)⟩)⟩)⟩)⟩)⟩)⟩) ?_
                              exact ih64 _ _ _ _ _ _ _ hGg80 (of11 p64_0 s82 kof1) (by first | rfl | (simp only [q81, O72_0, sMn, sMx]; done) | (simp only [q81, O72_0, sMn, sMx]; rfl)) (by first | rfl | (simp only [kg80.fa 139 rfl, O72_0, sMn, sMx]; done) | (simp only [kg80.fa 139 rfl, O72_0, sMn, sMx]; rfl)) (kj_meas (of15 s82 kof1) (of212 c69 z5.2 kof30) hm64)
                          ·
                            have c83 : l7_72.toInt < ((x2 / 100) - (x2 / 100) / 100 * 100).toInt := kd_leF c; clear c
                            have b84 : ((-2147483648 : Int) ≤ l4_72.toInt) ∧ (l4_72.toInt ≤ 2147483647) := kd_bd l4_72
                            have b85 : ((-2147483648 : Int) ≤ (l4_72 * 1103515245).toInt) ∧ ((l4_72 * 1103515245).toInt ≤ 2147483647) := kd_bd (l4_72 * 1103515245)
                            have s86 : (0 : Int) ≤ ((((l4_72 * 1103515245) + 12345).toUInt32 >>> ((16 : Int32).toUInt32 &&& Int32.toUInt32 31)).toInt32).toInt := kd_ushr 16 (by decide) (by decide) (by decide)
                            have s87 : (((((l4_72 * 1103515245) + 12345).toUInt32 >>> ((16 : Int32).toUInt32 &&& Int32.toUInt32 31)).toInt32) - ((((l4_72 * 1103515245) + 12345).toUInt32 >>> ((16 : Int32).toUInt32 &&& Int32.toUInt32 31)).toInt32) / 12 * 12).toInt = (((((l4_72 * 1103515245) + 12345).toUInt32 >>> ((16 : Int32).toUInt32 &&& Int32.toUInt32 31)).toInt32).toInt % 12) := kd_rem 12 kof12 (by decide) (of3 s86)
                            refine ft_go mi_k201 14 127 [(4, .int ((l4_72 * 1103515245) + 12345)), (7, .int l7_72), (6, .int l6_64), (5, .int l5_64), (0, .ref 116), (1, .int x1), (2, .int x2), (3, .int x3)] [.int (x2 - x2 / 100 * 100), .int (((((l4_72 * 1103515245) + 12345).toUInt32 >>> ((16 : Int32).toUInt32 &&& Int32.toUInt32 31)).toInt32) - ((((l4_72 * 1103515245) + 12345).toUInt32 >>> ((16 : Int32).toUInt32 &&& Int32.toUInt32 31)).toInt32) / 12 * 12)] i72 a72 q72 r72 (by rfl) ?_
                            refine ft_if mi_k201 (decide ((x2 - x2 / 100 * 100) ≤ (((((l4_72 * 1103515245) + 12345).toUInt32 >>> ((16 : Int32).toUInt32 &&& Int32.toUInt32 31)).toInt32) - ((((l4_72 * 1103515245) + 12345).toUInt32 >>> ((16 : Int32).toUInt32 &&& Int32.toUInt32 31)).toInt32) / 12 * 12))) 134 130 [(4, .int ((l4_72 * 1103515245) + 12345)), (7, .int l7_72), (6, .int l6_64), (5, .int l5_64), (0, .ref 116), (1, .int x1), (2, .int x2), (3, .int x3)] [] (by rfl) (fun c => ?_) (fun c => ?_)
                            ·
                              have c88 : (x2 - x2 / 100 * 100).toInt ≤ (((((l4_72 * 1103515245) + 12345).toUInt32 >>> ((16 : Int32).toUInt32 &&& Int32.toUInt32 31)).toInt32) - ((((l4_72 * 1103515245) + 12345).toUInt32 >>> ((16 : Int32).toUInt32 &&& Int32.toUInt32 31)).toInt32) / 12 * 12).toInt := kd_le c; clear c
                              have s89 : (0 : Int) ≤ ((((l4_72 * 1103515245) + 12345).toUInt32 >>> ((8 : Int32).toUInt32 &&& Int32.toUInt32 31)).toInt32).toInt := kd_ushr 8 (by decide) (by decide) (by decide)
                              have fi72_7424 : ((0 : Int) ≤ (i72 7424).toInt) ∧ ((i72 7424).toInt ≤ 8) := hL72.I.1 7424
                              have efi72_7424 : (i72 7424).toInt = (i64 7424).toInt := hL72.ti 7424 rfl
                              refine ft_go mi_k201 6 144 [(4, .int ((l4_72 * 1103515245) + 12345)), (7, .int l7_72), (6, .int l6_64), (5, .int l5_64), (0, .ref 116), (1, .int x1), (2, .int x2), (3, .int x3)] [.int (i72 7424), .int ((((l4_72 * 1103515245) + 12345).toUInt32 >>> ((8 : Int32).toUInt32 &&& Int32.toUInt32 31)).toInt32), .ref 116] i72 a72 q72 r72 (by rfl) ?_
                              have s90 : ((0 : Int) ≤ (((((l4_72 * 1103515245) + 12345).toUInt32 >>> ((8 : Int32).toUInt32 &&& Int32.toUInt32 31)).toInt32) - ((((l4_72 * 1103515245) + 12345).toUInt32 >>> ((8 : Int32).toUInt32 &&& Int32.toUInt32 31)).toInt32) / (i72 7424) * (i72 7424)).toInt) ∧ ((((((l4_72 * 1103515245) + 12345).toUInt32 >>> ((8 : Int32).toUInt32 &&& Int32.toUInt32 31)).toInt32) - ((((l4_72 * 1103515245) + 12345).toUInt32 >>> ((8 : Int32).toUInt32 &&& Int32.toUInt32 31)).toInt32) / (i72 7424) * (i72 7424)).toInt < (i72 7424).toInt) := kd_remv (of214 c71 efi72_7424 kof0) (of3 s89)
                              refine ko_irem mi_k201.1 (ax := (0, 0, 0, 0, 0)) (mi_k201.2 _ _ (by rfl)) (of213 c71 efi72_7424 kof0) ?_
                              have hG91 := kG_call hL64 hL72 (by decide +kernel)
                              have hG92 := kG_call hGg61 hG91 (by decide +kernel)
                              refine ko_callI mi_k201.1 (pc := 145) (ls := [(4, .int ((l4_72 * 1103515245) + 12345)), (7, .int l7_72), (6, .int l6_64), (5, .int l5_64), (0, .ref 116), (1, .int x1), (2, .int x2), (3, .int x3)]) (st := [.int (((((l4_72 * 1103515245) + 12345).toUInt32 >>> ((8 : Int32).toUInt32 &&& Int32.toUInt32 31)).toInt32) - ((((l4_72 * 1103515245) + 12345).toUInt32 >>> ((8 : Int32).toUInt32 &&& Int32.toUInt32 31)).toInt32) / (i72 7424) * (i72 7424)), .ref 116]) (h := ks i72 a72 q72 r72) (i := (.invokevirtual 260, 3, 166, 0, 9, 0, 415)) (mi_k201.2 _ _ (by rfl)) (ft_invS mi_pq166 (by rfl)) (cy := mi_c166) mi_pq166 rfl (kc166_116 hL72.I hL72.R (((((l4_72 * 1103515245) + 12345).toUInt32 >>> ((8 : Int32).toUInt32 &&& Int32.toUInt32 31)).toInt32) - ((((l4_72 * 1103515245) + 12345).toUInt32 >>> ((8 : Int32).toUInt32 &&& Int32.toUInt32 31)).toInt32) / (i72 7424) * (i72 7424)) (of118 fi72_7424.2 s90.1 s90.2) (kCode_of (i1 := i72) hE_code (hG92.fi 7432 rfl) (hG92.fa 120 rfl) (hG92.fa 121 rfl) (hG92.fa 122 rfl) (hG92.fa 123 rfl))) (by decide) ?_
                              intro vg93 ig93 ag93 qg93 rg93 kg93 hg93
                              have hGg93 := kG_call hL72 kg93 (by decide +kernel)
                              rcases hg93 with ⟨eg93, hg93⟩ | ⟨eg93, hg93⟩
                              ·
                                subst eg93
                                have s94 : (l7_72 + 1).toInt = l7_72.toInt + (1 : Int32).toInt := kd_add (of9 p72_0 kof1) (of215 c83 s7 kof1)
                                refine ft_go mi_k201 3 91 [(7, .int (l7_72 + 1)), (4, .int ((l4_72 * 1103515245) + 12345)), (6, .int l6_64), (5, .int l5_64), (0, .ref 116), (1, .int x1), (2, .int x2), (3, .int x3)] [] ig93 ag93 qg93 rg93 (by rfl) ?_
                                refine ko_perm [(7, .int (l7_72 + 1)), (6, .int l6_64), (5, .int l5_64), (4, .int ((l4_72 * 1103515245) + 12345)), (0, .ref 116), (1, .int x1), (2, .int x2), (3, .int x3)] (List.forall_mem_cons.mpr ⟨(List.Mem.head _), (List.forall_mem_cons.mpr ⟨(List.Mem.tail _ (List.Mem.tail _ (List.Mem.head _))), (List.forall_mem_cons.mpr ⟨(List.Mem.tail _ (List.Mem.tail _ (List.Mem.tail _ (List.Mem.head _)))), (List.forall_mem_cons.mpr ⟨(List.Mem.tail _ (List.Mem.head _)), (List.forall_mem_cons.mpr ⟨(List.Mem.tail _ (List.Mem.tail _ (List.Mem.tail _ (List.Mem.tail _ (List.Mem.head _))))), (List.forall_mem_cons.mpr ⟨(List.Mem.tail _ (List.Mem.tail _ (List.Mem.tail _ (List.Mem.tail _ (List.Mem.tail _ (List.Mem.head _)))))), (List.forall_mem_cons.mpr ⟨(List.Mem.tail _ (List.Mem.tail _ (List.Mem.tail _ (List.Mem.tail _ (List.Mem.tail _ (List.Mem.tail _ (List.Mem.head _))))))), (List.forall_mem_cons.mpr ⟨(List.Mem.tail _ (List.Mem.tail _ (List.Mem.tail _ (List.Mem.tail _ (List.Mem.tail _ (List.Mem.tail _ (List.Mem.tail _ (List.Mem.head _)))))))), (fun _ h => absurd h List.not_mem_nil)⟩)⟩)⟩)⟩)⟩)⟩)⟩)⟩) ?_
                                exact ih72 _ _ _ _ _ _ hGg93 (of11 p72_0 s94 kof1) (by first | rfl | (simp only [kg93.fa 139 rfl, O72_0, sMn, sMx]; done) | (simp only [kg93.fa 139 rfl, O72_0, sMn, sMx]; rfl)) (kj_meas (of216 s94 kof1) (of217 c83 s7) hm72)
                              ·
                                subst eg93
                                have s95 : (l7_72 + 1).toInt = l7_72.toInt + (1 : Int32).toInt := kd_add (of9 p72_0 kof1) (of215 c83 s7 kof1)
                                refine ft_go mi_k201 3 91 [(7, .int (l7_72 + 1)), (4, .int ((l4_72 * 1103515245) + 12345)), (6, .int l6_64), (5, .int l5_64), (0, .ref 116), (1, .int x1), (2, .int x2), (3, .int x3)] [] ig93 ag93 qg93 rg93 (by rfl) ?_
                                refine ko_perm [(7, .int (l7_72 + 1)), (6, .int l6_64), (5, .int l5_64), (4, .int ((l4_72 * 1103515245) + 12345)), (0, .ref 116), (1, .int x1), (2, .int x2), (3, .int x3)] (List.forall_mem_cons.mpr ⟨(List.Mem.head _), (List.forall_mem_cons.mpr ⟨(List.Mem.tail _ (List.Mem.tail _ (List.Mem.head _))), (List.forall_mem_cons.mpr ⟨(List.Mem.tail _ (List.Mem.tail _ (List.Mem.tail _ (List.Mem.head _)))), (List.forall_mem_cons.mpr ⟨(List.Mem.tail _ (List.Mem.head _)), (List.forall_mem_cons.mpr ⟨(List.Mem.tail _ (List.Mem.tail _ (List.Mem.tail _ (List.Mem.tail _ (List.Mem.head _))))), (List.forall_mem_cons.mpr ⟨(List.Mem.tail _ (List.Mem.tail _ (List.Mem.tail _ (List.Mem.tail _ (List.Mem.tail _ (List.Mem.head _)))))), (List.forall_mem_cons.mpr ⟨(List.Mem.tail _ (List.Mem.tail _ (List.Mem.tail _ (List.Mem.tail _ (List.Mem.tail _ (List.Mem.tail _ (List.Mem.head _))))))), (List.forall_mem_cons.mpr ⟨(List.Mem.tail _ (List.Mem.tail _ (List.Mem.tail _ (List.Mem.tail _ (List.Mem.tail _ (List.Mem.tail _ (List.Mem.tail _ (List.Mem.head _)))))))), (fun _ h => absurd h List.not_mem_nil)⟩)⟩)⟩)⟩)⟩)⟩)⟩)⟩) ?_
                                exact ih72 _ _ _ _ _ _ hGg93 (of11 p72_0 s95 kof1) (by first | rfl | (simp only [kg93.fa 139 rfl, O72_0, sMn, sMx]; done) | (simp only [kg93.fa 139 rfl, O72_0, sMn, sMx]; rfl)) (kj_meas (of216 s95 kof1) (of217 c83 s7) hm72)
                            ·
                              have c96 : (((((l4_72 * 1103515245) + 12345).toUInt32 >>> ((16 : Int32).toUInt32 &&& Int32.toUInt32 31)).toInt32) - ((((l4_72 * 1103515245) + 12345).toUInt32 >>> ((16 : Int32).toUInt32 &&& Int32.toUInt32 31)).toInt32) / 12 * 12).toInt < (x2 - x2 / 100 * 100).toInt := kd_leF c; clear c
                              refine ft_go mi_k201 1 131 [(4, .int ((l4_72 * 1103515245) + 12345)), (7, .int l7_72), (6, .int l6_64), (5, .int l5_64), (0, .ref 116), (1, .int x1), (2, .int x2), (3, .int x3)] [.ref 116] i72 a72 q72 r72 (by rfl) ?_
                              refine ko_callN mi_k201.1 (pc := 131) (ls := [(4, .int ((l4_72 * 1103515245) + 12345)), (7, .int l7_72), (6, .int l6_64), (5, .int l5_64), (0, .ref 116), (1, .int x1), (2, .int x2), (3, .int x3)]) (st := [.ref 116]) (h := ks i72 a72 q72 r72) (i := (.invokevirtual 282, 3, 167, 0, 9, 0, 426)) (mi_k201.2 _ _ (by rfl)) (ft_invS mi_pq167 (by rfl)) (cy := mi_c167) mi_pq167 rfl (kc167_116 hL72.I hL72.R ) (by decide) ?_
                              intro ig97 ag97 qg97 rg97 kg97 hg97
                              have hGg97 := kG_call hL72 kg97 (by decide +kernel)
                              have s98 : (0 : Int) ≤ ((((l4_72 * 1103515245) + 12345).toUInt32 >>> ((8 : Int32).toUInt32 &&& Int32.toUInt32 31)).toInt32).toInt := kd_ushr 8 (by decide) (by decide) (by decide)
                              have fig97_7424 : ((0 : Int) ≤ (ig97 7424).toInt) ∧ ((ig97 7424).toInt ≤ 8) := hGg97.I.1 7424
                              have efi72_7424 : (i72 7424).toInt = (i64 7424).toInt := hL72.ti 7424 rfl
                              have efig97_7424 : (ig97 7424).toInt = (i72 7424).toInt := kg97.ti 7424 rfl
                              refine ft_go mi_k201 6 144 [(4, .int ((l4_72 * 1103515245) + 12345)), (7, .int l7_72), (6, .int l6_64), (5, .int l5_64), (0, .ref 116), (1, .int x1), (2, .int x2), (3, .int x3)] [.int (ig97 7424), .int ((((l4_72 * 1103515245) + 12345).toUInt32 >>> ((8 : Int32).toUInt32 &&& Int32.toUInt32 31)).toInt32), .ref 116] ig97 ag97 qg97 rg97 (by rfl) ?_
                              have s99 : ((0 : Int) ≤ (((((l4_72 * 1103515245) + 12345).toUInt32 >>> ((8 : Int32).toUInt32 &&& Int32.toUInt32 31)).toInt32) - ((((l4_72 * 1103515245) + 12345).toUInt32 >>> ((8 : Int32).toUInt32 &&& Int32.toUInt32 31)).toInt32) / (ig97 7424) * (ig97 7424)).toInt) ∧ ((((((l4_72 * 1103515245) + 12345).toUInt32 >>> ((8 : Int32).toUInt32 &&& Int32.toUInt32 31)).toInt32) - ((((l4_72 * 1103515245) + 12345).toUInt32 >>> ((8 : Int32).toUInt32 &&& Int32.toUInt32 31)).toInt32) / (ig97 7424) * (ig97 7424)).toInt < (ig97 7424).toInt) := kd_remv (of219 c71 efi72_7424 efig97_7424 kof0) (of3 s98)
                              refine ko_irem mi_k201.1 (ax := (0, 0, 0, 0, 0)) (mi_k201.2 _ _ (by rfl)) (of218 c71 efi72_7424 efig97_7424 kof0) ?_
                              have hG100 := kG_call hL64 hGg97 (by decide +kernel)
                              have hG101 := kG_call hGg61 hG100 (by decide +kernel)
                              refine ko_callI mi_k201.1 (pc := 145) (ls := [(4, .int ((l4_72 * 1103515245) + 12345)), (7, .int l7_72), (6, .int l6_64), (5, .int l5_64), (0, .ref 116), (1, .int x1), (2, .int x2), (3, .int x3)]) (st := [.int (((((l4_72 * 1103515245) + 12345).toUInt32 >>> ((8 : Int32).toUInt32 &&& Int32.toUInt32 31)).toInt32) - ((((l4_72 * 1103515245) + 12345).toUInt32 >>> ((8 : Int32).toUInt32 &&& Int32.toUInt32 31)).toInt32) / (ig97 7424) * (ig97 7424)), .ref 116]) (h := ks ig97 ag97 qg97 rg97) (i := (.invokevirtual 260, 3, 166, 0, 9, 0, 415)) (mi_k201.2 _ _ (by rfl)) (ft_invS mi_pq166 (by rfl)) (cy := mi_c166) mi_pq166 rfl (kc166_116 hGg97.I hGg97.R (((((l4_72 * 1103515245) + 12345).toUInt32 >>> ((8 : Int32).toUInt32 &&& Int32.toUInt32 31)).toInt32) - ((((l4_72 * 1103515245) + 12345).toUInt32 >>> ((8 : Int32).toUInt32 &&& Int32.toUInt32 31)).toInt32) / (ig97 7424) * (ig97 7424)) (of118 fig97_7424.2 s99.1 s99.2) (kCode_of (i1 := ig97) hE_code (hG101.fi 7432 rfl) (hG101.fa 120 rfl) (hG101.fa 121 rfl) (hG101.fa 122 rfl) (hG101.fa 123 rfl))) (by decide) ?_
                              intro vg102 ig102 ag102 qg102 rg102 kg102 hg102
                              have hGg102 := kG_call hGg97 kg102 (by decide +kernel)
                              rcases hg102 with ⟨eg102, hg102⟩ | ⟨eg102, hg102⟩
                              ·
                                subst eg102
                                have s103 : (l7_72 + 1).toInt = l7_72.toInt + (1 : Int32).toInt := kd_add (of9 p72_0 kof1) (of215 c83 s7 kof1)
                                refine ft_go mi_k201 3 91 [(7, .int (l7_72 + 1)), (4, .int ((l4_72 * 1103515245) + 12345)), (6, .int l6_64), (5, .int l5_64), (0, .ref 116), (1, .int x1), (2, .int x2), (3, .int x3)] [] ig102 ag102 qg102 rg102 (by rfl) ?_
                                refine ko_perm [(7, .int (l7_72 + 1)), (6, .int l6_64), (5, .int l5_64), (4, .int ((l4_72 * 1103515245) + 12345)), (0, .ref 116), (1, .int x1), (2, .int x2), (3, .int x3)] (List.forall_mem_cons.mpr ⟨(List.Mem.head _), (List.forall_mem_cons.mpr ⟨(List.Mem.tail _ (List.Mem.tail _ (List.Mem.head _))), (List.forall_mem_cons.mpr ⟨(List.Mem.tail _ (List.Mem.tail _ (List.Mem.tail _ (List.Mem.head _)))), (List.forall_mem_cons.mpr ⟨(List.Mem.tail _ (List.Mem.head _)), (List.forall_mem_cons.mpr ⟨(List.Mem.tail _ (List.Mem.tail _ (List.Mem.tail _ (List.Mem.tail _ (List.Mem.head _))))), (List.forall_mem_cons.mpr ⟨(List.Mem.tail _ (List.Mem.tail _ (List.Mem.tail _ (List.Mem.tail _ (List.Mem.tail _ (List.Mem.head _)))))), (List.forall_mem_cons.mpr ⟨(List.Mem.tail _ (List.Mem.tail _ (List.Mem.tail _ (List.Mem.tail _ (List.Mem.tail _ (List.Mem.tail _ (List.Mem.head _))))))), (List.forall_mem_cons.mpr ⟨(List.Mem.tail _ (List.Mem.tail _ (List.Mem.tail _ (List.Mem.tail _ (List.Mem.tail _ (List.Mem.tail _ (List.Mem.tail _ (List.Mem.head _)))))))), (fun _ h => absurd h List.not_mem_nil)⟩)⟩)⟩)⟩)⟩)⟩)⟩)⟩) ?_
                                exact ih72 _ _ _ _ _ _ hGg102 (of11 p72_0 s103 kof1) (by first | rfl | (simp only [kg102.fa 139 rfl, kg97.fa 139 rfl, O72_0, sMn, sMx]; done) | (simp only [kg102.fa 139 rfl, kg97.fa 139 rfl, O72_0, sMn, sMx]; rfl)) (kj_meas (of216 s103 kof1) (of217 c83 s7) hm72)
                              ·
                                subst eg102
                                have s104 : (l7_72 + 1).toInt = l7_72.toInt + (1 : Int32).toInt := kd_add (of9 p72_0 kof1) (of215 c83 s7 kof1)
                                refine ft_go mi_k201 3 91 [(7, .int (l7_72 + 1)), (4, .int ((l4_72 * 1103515245) + 12345)), (6, .int l6_64), (5, .int l5_64), (0, .ref 116), (1, .int x1), (2, .int x2), (3, .int x3)] [] ig102 ag102 qg102 rg102 (by rfl) ?_
                                refine ko_perm [(7, .int (l7_72 + 1)), (6, .int l6_64), (5, .int l5_64), (4, .int ((l4_72 * 1103515245) + 12345)), (0, .ref 116), (1, .int x1), (2, .int x2), (3, .int x3)] (List.forall_mem_cons.mpr ⟨(List.Mem.head _), (List.forall_mem_cons.mpr ⟨(List.Mem.tail _ (List.Mem.tail _ (List.Mem.head _))), (List.forall_mem_cons.mpr ⟨(List.Mem.tail _ (List.Mem.tail _ (List.Mem.tail _ (List.Mem.head _)))), (List.forall_mem_cons.mpr ⟨(List.Mem.tail _ (List.Mem.head _)), (List.forall_mem_cons.mpr ⟨(List.Mem.tail _ (List.Mem.tail _ (List.Mem.tail _ (List.Mem.tail _ (List.Mem.head _))))), (List.forall_mem_cons.mpr ⟨(List.Mem.tail _ (List.Mem.tail _ (List.Mem.tail _ (List.Mem.tail _ (List.Mem.tail _ (List.Mem.head _)))))), (List.forall_mem_cons.mpr ⟨(List.Mem.tail _ (List.Mem.tail _ (List.Mem.tail _ (List.Mem.tail _ (List.Mem.tail _ (List.Mem.tail _ (List.Mem.head _))))))), (List.forall_mem_cons.mpr ⟨(List.Mem.tail _ (List.Mem.tail _ (List.Mem.tail _ (List.Mem.tail _ (List.Mem.tail _ (List.Mem.tail _ (List.Mem.tail _ (List.Mem.head _)))))))), (fun _ h => absurd h List.not_mem_nil)⟩)⟩)⟩)⟩)⟩)⟩)⟩)⟩) ?_
                                exact ih72 _ _ _ _ _ _ hGg102 (of11 p72_0 s104 kof1) (by first | rfl | (simp only [kg102.fa 139 rfl, kg97.fa 139 rfl, O72_0, sMn, sMx]; done) | (simp only [kg102.fa 139 rfl, kg97.fa 139 rfl, O72_0, sMn, sMx]; rfl)) (kj_meas (of216 s104 kof1) (of217 c83 s7) hm72)
                      exact lp72 _ _ _ _ _ _ _ (kG_self _ hL64.I hL64.R) (of17 kof0) (by first | rfl | (simp only [O64_1, sMn, sMx]; done) | (simp only [O64_1, sMn, sMx]; rfl)) (Nat.lt_succ_self _)
              exact lp64 _ _ _ _ _ _ _ _ (kG_self _ hGg61.I hGg61.R) (of17 kof0) (by first | rfl | (simp only [q63, sMn, sMx]; done) | (simp only [q63, sMn, sMx]; rfl)) (by first | rfl | (simp only [q62, sMn, sMx]; done) | (simp only [q62, sMn, sMx]; rfl)) (Nat.lt_succ_self _)
            ·
              subst eg59
              refine ft_go mi_k201 2 57 [(0, .ref 116), (1, .int x1), (2, .int x2), (3, .int x3)] [.int (-1)] i a q r (by rfl) ?_
              exact ft_ret mi_k201 (by rfl) (hP (-1) _ _ _ _ hG ⟨trivial, (show a 118 = a 118 from rfl)⟩)
      ·
        subst eg8
        refine ft_go mi_k201 2 57 [(0, .ref 116), (1, .int x1), (2, .int x2), (3, .int x3)] [.int (-1)] i a q r (by rfl) ?_
        exact ft_ret mi_k201 (by rfl) (hP (-1) _ _ _ _ hG ⟨trivial, (show a 118 = a 118 from rfl)⟩)
    ·
      subst eg4
      refine ft_go mi_k201 2 57 [(0, .ref 116), (1, .int x1), (2, .int x2), (3, .int x3)] [.int (-1)] i a q r (by rfl) ?_
      exact ft_ret mi_k201 (by rfl) (hP (-1) _ _ _ _ hG ⟨trivial, (show a 118 = a 118 from rfl)⟩)
def yw194_116 : kW := ([7426, 7464, 7465, 7466, 7467], [118, 128, 129, 139, 141, 143, 144, 145], [], [])
def yw194_116_L10 : kW := ([7426, 7464, 7465, 7466, 7467], [118, 128, 129, 139, 141, 143, 144, 145], [], [])
set_option maxRecDepth 100000 in
theorem ke194_116 {i : Nat → Int32} {a : Nat → List Int32} {q : Nat → List Int64} {r : Nat → Nat} (hI : kI i a q) (hr : kr r) (x1 : Int32) (hp0 : ((0 : Int) ≤ x1.toInt) ∧ (x1.toInt ≤ 5)) (hE_code : kCode i a) : km 15 194 [.ref 116, .int x1] (ks i a q r) (kVI yw194_116 i a q r (fun v i1 a1 q1 r1 => ((i1 7426).toInt = (i 7426).toInt) ∧ a1 118 = a 118)) := by
  have hG := kG_self yw194_116 hI hr
  refine km_ofI (q := (mi_h194, mi_c194)) rfl (by decide) (Nat.le_of_ble_eq_true rfl) ?_
  intro P hP
  have fi_7426 : ((1 : Int) ≤ (i 7426).toInt) ∧ ((i 7426).toInt ≤ 5) := hG.I.1 7426
  refine ft_go mi_k194 7 10 [(4, .int 1), (3, .int 0), (2, .int (i 7426)), (0, .ref 116), (1, .int x1)] [] i a q r (by rfl) ?_
  have lp1 : ∀ (nz : Nat) (i1 : Nat → Int32) (a1 : Nat → List Int32) (q1 : Nat → List Int64) (r1 : Nat → Nat) (l4_1 : Int32) (l3_1 : Int32), kG yw194_116_L10 i a q r i1 a1 q1 r1 → (1 : Int) ≤ l4_1.toInt → a1 118 = a 118 → ((6 - l4_1.toInt)).toNat < nz → ko 15 (mi_h194, mi_c194) P (10, [(4, .int l4_1), (3, .int l3_1), (2, .int (i 7426)), (0, .ref 116), (1, .int x1)], [], (0, 0), ks i1 a1 q1 r1) := by
    intro nz
    induction nz with
    | zero =>
      intro _ _ _ _ _ _ _ _ _ hm
      exact absurd hm (Nat.not_lt_zero _)
    | succ nz ih1 =>
      intro i1 a1 q1 r1 l4_1 l3_1 hL1 p1_0 O1_0 hm1
      refine ft_go mi_k194 2 14 [(4, .int l4_1), (3, .int l3_1), (2, .int (i 7426)), (0, .ref 116), (1, .int x1)] [.int 6, .int l4_1] i1 a1 q1 r1 (by rfl) ?_
      refine ft_if mi_k194 (decide (6 ≤ l4_1)) 46 17 [(4, .int l4_1), (3, .int l3_1), (2, .int (i 7426)), (0, .ref 116), (1, .int x1)] [] (by rfl) (fun c => ?_) (fun c => ?_)
      ·
        have c2 : (6 : Int32).toInt ≤ l4_1.toInt := kd_le c; clear c
        have hG3 := kG_call hG hL1 (by decide +kernel)
        have hJ4 := kG_i hG3 7426 rfl (v := (i 7426)) ⟨(of221 fi_7426.1), (of222 fi_7426.2)⟩
        refine ft_go mi_k194 4 52 [(4, .int l4_1), (3, .int l3_1), (2, .int (i 7426)), (0, .ref 116), (1, .int x1)] [.int l3_1] (ku i1 7426 (i 7426)) a1 q1 r1 (by rfl) ?_
        exact ft_ret mi_k194 (by rfl) (hP l3_1 _ _ _ _ hJ4 ⟨of13, (show a1 118 = a 118 from (by first | rfl | (simp only [O1_0, sMn, sMx]; done) | (simp only [O1_0, sMn, sMx]; rfl)))⟩)
      ·
        have c5 : l4_1.toInt < (6 : Int32).toInt := kd_leF c; clear c
        have hJ6 := kG_i hL1 7426 rfl (v := l4_1) ⟨(of221 p1_0), (of223 c5 kof6)⟩
        refine ft_go mi_k194 5 25 [(4, .int l4_1), (3, .int l3_1), (2, .int (i 7426)), (0, .ref 116), (1, .int x1)] [.int x1, .ref 116] (ku i1 7426 l4_1) a1 q1 r1 (by rfl) ?_
        have hG7 := kG_call hG hJ6 (by decide +kernel)
        refine ko_callI mi_k194.1 (pc := 25) (ls := [(4, .int l4_1), (3, .int l3_1), (2, .int (i 7426)), (0, .ref 116), (1, .int x1)]) (st := [.int x1, .ref 116]) (h := ks (ku i1 7426 l4_1) a1 q1 r1) (i := (.invokevirtual 320, 3, 192, 0, 9, 0, 444)) (mi_k194.2 _ _ (by rfl)) (ft_invS mi_pq192 (by rfl)) (cy := mi_c192) mi_pq192 rfl (ke192_116 hJ6.I hJ6.R x1 (of34 hp0.1 hp0.2) (kCode_of (i1 := ku i1 7426 l4_1) hE_code (hG7.fi 7432 rfl) (hG7.fa 120 rfl) (hG7.fa 121 rfl) (hG7.fa 122 rfl) (hG7.fa 123 rfl))) (by decide) ?_
        intro vg8 ig8 ag8 qg8 rg8 kg8 hg8
        have hGg8 := kG_call hJ6 kg8 (by decide +kernel)
        obtain ⟨hg8, og8⟩ := hg8
        have q9 : ag8 118 = a1 118 := og8
        refine ft_go mi_k194 1 30 [(4, .int l4_1), (3, .int l3_1), (2, .int (i 7426)), (0, .ref 116), (1, .int x1)] [.int (-2), .int vg8] ig8 ag8 qg8 rg8 (by rfl) ?_
        refine ft_if mi_k194 (vg8 != (-2)) 40 33 [(4, .int l4_1), (3, .int l3_1), (2, .int (i 7426)), (0, .ref 116), (1, .int x1)] [] (by rfl) (fun c => ?_) (fun c => ?_)
        ·
          have c10 : vg8.toInt ≠ ((-2) : Int32).toInt := kd_ne c; clear c
          have s11 : (l4_1 + 1).toInt = l4_1.toInt + (1 : Int32).toInt := kd_add (of189 p1_0 kof1) (of224 c5 kof6 kof1)
          refine ft_go mi_k194 2 10 [(4, .int (l4_1 + 1)), (3, .int l3_1), (2, .int (i 7426)), (0, .ref 116), (1, .int x1)] [] ig8 ag8 qg8 rg8 (by rfl) ?_
          exact ih1 _ _ _ _ _ _ hGg8 (of191 p1_0 s11 kof1) (by first | rfl | (simp only [q9, O1_0, sMn, sMx]; done) | (simp only [q9, O1_0, sMn, sMx]; rfl)) (kj_meas (of225 s11 kof1) (of226 c5 kof6) hm1)
        ·
          have c12 : vg8.toInt = ((-2) : Int32).toInt := kd_neF c; clear c
          have s13 : ((1 : Int) ≤ (1 <<< (l4_1 &&& 31)).toInt) ∧ ((1 <<< (l4_1 &&& 31)).toInt ≤ 256) := kd_shl1 (of187 p1_0) (of227 c5 kof6)
          have s14 : (1 <<< (l4_1 &&& 31)).toInt ≤ 32 := kd_shl32 (of187 p1_0) (of223 c5 kof6)
          have s15 : (l4_1 + 1).toInt = l4_1.toInt + (1 : Int32).toInt := kd_add (of189 p1_0 kof1) (of224 c5 kof6 kof1)
          refine ft_go mi_k194 8 10 [(4, .int (l4_1 + 1)), (3, .int (l3_1 ||| (1 <<< (l4_1 &&& 31)))), (2, .int (i 7426)), (0, .ref 116), (1, .int x1)] [] ig8 ag8 qg8 rg8 (by rfl) ?_
          exact ih1 _ _ _ _ _ _ hGg8 (of191 p1_0 s15 kof1) (by first | rfl | (simp only [q9, O1_0, sMn, sMx]; done) | (simp only [q9, O1_0, sMn, sMx]; rfl)) (kj_meas (of225 s15 kof1) (of226 c5 kof6) hm1)
  exact lp1 _ _ _ _ _ _ _ (kG_self _ hG.I hG.R) (of193 kof1) rfl (Nat.lt_succ_self _)

