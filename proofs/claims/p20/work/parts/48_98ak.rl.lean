theorem ktot0 : (0 : Int32).toInt = 0 := by decide
theorem ktot1 : (1 : Int32).toInt = 1 := by decide
theorem ktot2 : (2 : Int32).toInt = 2 := by decide
theorem ktot3 : (3 : Int32).toInt = 3 := by decide
theorem ktot60 : (60 : Int32).toInt = 60 := by decide
theorem ktot18 : (18 : Int32).toInt = 18 := by decide
theorem kotm1 : ((-1) : Int32).toInt = (-1) := by decide
theorem ktot20 : (20 : Int32).toInt = 20 := by decide
theorem kotm12 : ((-12) : Int32).toInt = (-12) := by decide
theorem kotm11 : ((-11) : Int32).toInt = (-11) := by decide
theorem ktot64 : (64 : Int32).toInt = 64 := by decide
theorem tot5 {a0 : Int} (h0 : (0 : Int) ≤ a0) : (0 : Int) ≤ a0 := oz3 h0
theorem tot6 {a0 : Int} (h0 : a0 ≤ 5) : a0 < 6 := oz19 h0
theorem tot7 {a0 : Int} (h0 : a0 = 0) : a0 ≤ 0 := by omega
theorem tot8 {a0 a1 : Int} (h0 : a0 = a1) (h1 : a1 = 0) : a0 = 0 := og41 h0 h1
theorem tot9 {a0 : Int} (h0 : a0 = (-12)) : a0 ≤ 0 := by omega
theorem tot10 {a0 a1 : Int} (h0 : a0 ≠ a1) (h1 : (-1 : Int) ≤ a0) (h2 : a1 = (-1)) : a0 ≠ -1 := by omega
theorem tot11 {a0 a1 a2 : Int} (h0 : a0 ≠ a1) (h1 : a0 ≠ a2) (h2 : (-1 : Int) ≤ a0) (h3 : a1 = (-1)) (h4 : a2 = 0) : a0 ≠ 0 := by omega
theorem tot12 {a0 : Int} (h0 : a0 = (-11)) : a0 ≤ 0 := by omega
theorem tot13 {a0 a1 : Int} (h0 : a0 = a1) (h1 : (-1 : Int) ≤ a0) (h2 : a1 = (-1)) : a0 = -1 := by omega
theorem tot14 {a0 : Int} (h0 : (0 : Int) ≤ a0) (h1 : a0 ≤ 5) : ((0 : Int) ≤ a0) ∧ (a0 ≤ 5) := oz35 h0 h1
theorem tot15 {a0 : Int} (h0 : a0 = 0) : (0 : Int) ≤ a0 := oz46 h0
theorem tot16 {a0 : Int} (h0 : a0 = 0) : a0 ≤ 21 := oz208 h0
theorem tot21 {a0 : Int} (h0 : (0 : Int) ≤ a0) : (-2147483648 : Int) ≤ 60 * a0 := oz28 h0
theorem tot22 {a0 : Int} (h0 : a0 ≤ 5) : 60 * a0 ≤ 2147483647 := oz29 h0
theorem tot27 {a0 : Int}  : a0 = a0 := oz34
theorem tot28 {a0 : Int} (h0 : (0 : Int) ≤ a0) (h1 : a0 ≤ 21) : ((0 : Int) ≤ a0) ∧ (a0 ≤ 59) := oz211 h0 h1
theorem tot34 {a0 a1 a2 : Int} (h0 : a0 = a1) (h1 : (0 : Int) ≤ a0) (h2 : a2 = a1) : (0 : Int) ≤ a2 := oz213 h0 h1 h2
theorem tot35 {a0 a1 a2 a3 : Int} (h0 : a0 ≤ 8) (h1 : a1 = a2) (h2 : a1 < a0) (h3 : a3 = a2) : a3 ≤ 7 := oz214 h0 h1 h2 h3
theorem tot36 {a0 a1 : Int} (h0 : (0 : Int) ≤ a0) (h1 : a1 = 1) : (-2147483648 : Int) ≤ a0 + a1 := oz12 h0 h1
theorem tot37 {a0 a1 : Int} (h0 : a0 ≤ 21) (h1 : a1 = 1) : a0 + a1 ≤ 2147483647 := oz215 h0 h1
theorem tot38 {a0 a1 a2 : Int} (h0 : (0 : Int) ≤ a0) (h1 : a1 = a0 + a2) (h2 : a2 = 1) : (0 : Int) ≤ a1 := oz14 h0 h1 h2
theorem tot41 {a0 a1 a2 a3 a4 : Int} (h0 : a0 < a1) (h1 : a2 = a0 + a3) (h2 : a1 = a4) (h3 : a3 = 1) : a2 ≤ a4 := by omega
theorem tot42 {a0 a1 a2 : Int} (h0 : (0 : Int) ≤ a0) (h1 : (0 : Int) ≤ a1) (h2 : a2 = 60 * a1) : (-2147483648 : Int) ≤ a2 + a0 := by omega
theorem tot44 {a0 a1 a2 a3 : Int} (h0 : a0 = 60 * a1) (h1 : a2 = a0 + a3) : a2 = 60 * a1 + a3 := by omega
theorem tot45 {a0 a1 : Int} (h0 : a0 = a1) : a0 = a1 := oz719 h0
theorem tot47 {a0 a1 a2 : Int} (h0 : a0 = a1 + a2) (h1 : a2 = 1) : a0 = a1 + 1 := oz169 h0 h1
theorem tot48 {a0 a1 a2 a3 a4 : Int} (h0 : a0 = a1) (h1 : a2 = a3) (h2 : a2 < a0) (h3 : a4 = a3) : a4 < a1 := by omega
theorem tot49 {a0 a1 a2 : Int} (h0 : a0 = a1 + a2) (h1 : a2 = 1) : (20 - a0) < (20 - a1) := oz218 h0 h1
theorem tot51 {a0 a1 a2 : Int} (h0 : a0 < a1) (h1 : a1 = a2) : a0 ≤ a2 := toy54 h0 h1
theorem tot52 {a0 a1 a2 a3 : Int} (h0 : a0 = a1) (h1 : a2 = a3) (h2 : ¬ (((0 : Int) ≤ a2) ∧ (a2 < a0))) : ¬ ((0 : Int) ≤ a3 ∧ a3 < a1) := by omega
theorem tot53 {a0 : Int} (h0 : a0 = 0) : a0 ≤ 20 := oz220 h0
theorem tot54 {a0 a1 : Int} (h0 : (0 : Int) ≤ a0) (h1 : a1 = 0) : a1 ≤ a0 := ob67 h0 h1
theorem tot55 {a0 : Int} (h0 : a0 ≤ 20) : a0 ≤ 20 := oz221 h0
theorem tot56 {a0 a1 : Int} (h0 : a0 ≤ a1) (h1 : a0 = 20) : (0 : Int) ≤ a1 := toy74 h0 h1
theorem tot57 {a0 a1 : Int} (h0 : a0 ≤ a1) : a0 ≤ a1 := oz173 h0
theorem tot58 {a0 a1 : Int} (h0 : a0 ≤ a1) (h1 : a1 ≤ 20) (h2 : a0 = 20) : a1 = 20 := toy75 h0 h1 h2
theorem tot59 {a0 a1 a2 : Int} (h0 : a0 ≤ a1) (h1 : a1 ≤ a2) (h2 : a0 = a2) : a1 = a2 := by omega
theorem tot60 {a0 : Int} (h0 : a0 ≤ 20) : a0 < 21 := oz222 h0
theorem tot61 {a0 a1 a2 : Int} (h0 : a0 ≤ 20) (h1 : a1 = a0 + a2) (h2 : a2 = 1) : a1 ≤ 21 := oz223 h0 h1 h2
theorem tot62 {a0 a1 a2 a3 : Int} (h0 : a0 < a1) (h1 : a2 = a0 + a3) (h2 : a1 = 20) (h3 : a3 = 1) : a2 ≤ 20 := oz224 h0 h1 h2 h3
theorem tot63 {a0 a1 a2 a3 : Int} (h0 : a0 < a1) (h1 : a2 ≤ 5) (h2 : a3 = 60 * a2) (h3 : a1 = 20) : a3 + a0 ≤ 2147483647 := by omega
theorem tot64 {a0 : Int} (h0 : a0 ≤ 20) : a0 < ((21 : Nat) : Int) := by omega
theorem tot65 {a0 a1 : Int} (h0 : a0 < a1) (h1 : a1 = 20) : (1 : Int) ≤ (20 - a0) := oz225 h0 h1
theorem tot78 {a0 : Int} (h0 : a0 = 0) : a0 = 0 := oz236 h0
theorem tot79 {a0 a1 : Int} (h0 : a0 ≤ a1) (h1 : a0 = 64) : ((64 : Nat) : Int) ≤ a1 := by omega
theorem tot80 {a0 a1 : Int} (h0 : a0 < a1) (h1 : a1 = 64) : a0 < 64 := oz237 h0 h1
theorem tot81 {a0 a1 a2 : Int} (h0 : a0 < a1) (h1 : a1 = 64) (h2 : a2 = 1) : a0 + a2 ≤ 2147483647 := oz238 h0 h1 h2
theorem tot82 {a0 a1 : Int} (h0 : a0 < a1) (h1 : a1 = 64) : a0 < ((64 : Nat) : Int) := by omega
theorem tot83 {a0 a1 a2 : Int} (h0 : a0 = a1 + a2) (h1 : a2 = 1) : (64 - a0) < (64 - a1) := oz239 h0 h1
theorem tot84 {a0 a1 : Int} (h0 : a0 < a1) (h1 : a1 = 64) : (1 : Int) ≤ (64 - a0) := oz240 h0 h1
theorem tot85 {a0 a1 a2 : Int} (h0 : a0 ≤ a1) (h1 : a0 = a2) (h2 : a1 ≤ a2) : a1 = a2 := ox0 h0 h1 h2
theorem tot86 {a0 a1 a2 : Int} (h0 : a0 < a1) (h1 : a1 = a2) (h2 : a2 ≤ 21) : a0 < 21 := by omega
theorem tot87 {a0 : Int} (h0 : (0 : Int) ≤ a0) (h1 : a0 ≤ 7) : ((0 : Int) ≤ a0) ∧ (a0 ≤ 7) := oz181 h0 h1
theorem tot88 {a0 a1 a2 a3 : Int} (h0 : a0 < a1) (h1 : a1 = a2) (h2 : a2 ≤ 21) (h3 : a3 = 1) : a0 + a3 ≤ 2147483647 := by omega
theorem tot89 {a0 a1 a2 a3 a4 : Int} (h0 : a0 < a1) (h1 : a1 = a2) (h2 : a3 = a0 + a4) (h3 : a4 = 1) : a3 ≤ a2 := ox9 h0 h1 h2 h3
theorem tot90 {a0 a1 a2 : Int} (h0 : a0 = a1) (h1 : a2 = a0) : a2 = a1 := oz762 h0 h1
theorem tot91 {a0 a1 a2 : Int} (h0 : a0 < a1) (h1 : a1 = a2) (h2 : a2 ≤ 21) : a0 < ((21 : Nat) : Int) := by omega
theorem tot92 {a0 a1 a2 a3 a4 : Int} (h0 : a0 = a1) (h1 : a2 = a3 + a4) (h2 : a4 = 1) : (a0 - a2) < (a1 - a3) := oz308 h0 h1 h2
theorem tot93 {a0 a1 : Int} (h0 : a0 < a1) : (1 : Int) ≤ (a1 - a0) := oz45 h0
theorem tot94 {a0 a1 a2 a3 a4 : Int} (h0 : a0 ≠ a1) (h1 : a0 ≠ a2) (h2 : a0 ≠ a3) (h3 : a0 ≠ a4) (h4 : a1 ≤ a0) (h5 : a0 ≤ a4) (h6 : a1 = 0) (h7 : a2 = 1) (h8 : a3 = 2) (h9 : a4 = 3) : False := oz382 h0 h1 h2 h3 h4 h5 h6 h7 h8 h9
theorem tot95 {a0 : Int} (h0 : a0 = 18) : (0 : Int) ≤ a0 := oz195 h0
theorem tot96 {a0 : Int} (h0 : a0 = 18) : a0 < 31 := oz196 h0
theorem tot99 {a0 a1 a2 a3 a4 a5 a6 : Int} (h0 : a0 = a1) (h1 : a2 = a3) (h2 : (0 : Int) ≤ a4) (h3 : a4 ≤ 5) (h4 : a0 ≤ a5) (h5 : a1 = 2) (h6 : a3 = 0) (h7 : a5 = 3) : (((0 : Int) ≤ a0) ∧ (a0 ≤ 3) ∧ (((a0 = 3) → (((0 : Int) ≤ a2) ∧ (a2 < a6)))) ∧ (((a0 ≠ 3) → (a2 = 0)))) ∧ ((0 : Int) ≤ a4) ∧ (a4 ≤ 5) := by omega
theorem tot100 {a0 a1 : Int} (h0 : a0 ≤ a1) (h1 : a0 = 0) : ¬ (a1 < 0) := oy47 h0 h1
theorem tot101 {a0 a1 : Int} (h0 : a0 = a1) (h1 : a1 = 2) : ¬ (a0 = 0) := by omega
theorem tot102 {a0 a1 : Int} (h0 : a0 = a1) (h1 : a1 = 2) : ¬ (a0 = 1) := by omega
theorem tot104 {a0 a1 : Int} (h0 : a0 = a1) (h1 : a1 = 2) : ¬ (a0 = 3) := by omega
theorem tot105 {a0 a1 a2 a3 a4 a5 a6 : Int} (h0 : a0 = a1) (h1 : a2 = a3) (h2 : (0 : Int) ≤ a4) (h3 : a4 ≤ 5) (h4 : a0 ≤ a5) (h5 : a1 = 1) (h6 : a3 = 0) (h7 : a5 = 3) : (((0 : Int) ≤ a0) ∧ (a0 ≤ 3) ∧ (((a0 = 3) → (((0 : Int) ≤ a2) ∧ (a2 < a6)))) ∧ (((a0 ≠ 3) → (a2 = 0)))) ∧ ((0 : Int) ≤ a4) ∧ (a4 ≤ 5) := by omega
theorem tot106 {a0 a1 : Int} (h0 : a0 = a1) (h1 : a1 = 1) : ¬ (a0 = 0) := oz1174 h0 h1
theorem tot108 {a0 a1 : Int} (h0 : a0 = a1) (h1 : a1 = 1) : ¬ (a0 = 2) := toy127 h0 h1
theorem tot109 {a0 a1 : Int} (h0 : a0 = a1) (h1 : a1 = 1) : ¬ (a0 = 3) := by omega
theorem tot110 {a0 a1 a2 a3 a4 a5 : Int} (h0 : a0 = a1) (h1 : a2 = a1) (h2 : (0 : Int) ≤ a3) (h3 : a3 ≤ 5) (h4 : a1 ≤ a0) (h5 : a0 ≤ a4) (h6 : a1 = 0) (h7 : a4 = 3) : (((0 : Int) ≤ a0) ∧ (a0 ≤ 3) ∧ (((a0 = 3) → (((0 : Int) ≤ a2) ∧ (a2 < a5)))) ∧ (((a0 ≠ 3) → (a2 = 0)))) ∧ ((0 : Int) ≤ a3) ∧ (a3 ≤ 5) := by omega
theorem tot112 {a0 a1 : Int} (h0 : a0 = a1) (h1 : a1 = 0) : ¬ (a0 = 1) := toy129 h0 h1
theorem tot113 {a0 a1 : Int} (h0 : a0 = a1) (h1 : a1 = 0) : ¬ (a0 = 2) := toy130 h0 h1
theorem tot114 {a0 a1 : Int} (h0 : a0 = a1) (h1 : a1 = 0) : ¬ (a0 = 3) := by omega
theorem tot115 {a0 a1 a2 a3 a4 a5 : Int} (h0 : a0 ≠ a1) (h1 : a2 = a3) (h2 : (0 : Int) ≤ a4) (h3 : a4 ≤ 5) (h4 : a3 ≤ a0) (h5 : a0 ≤ a1) (h6 : a1 = 3) (h7 : a3 = 0) : (((0 : Int) ≤ a0) ∧ (a0 ≤ 3) ∧ (((a0 = 3) → (((0 : Int) ≤ a2) ∧ (a2 < a5)))) ∧ (((a0 ≠ 3) → (a2 = 0)))) ∧ ((0 : Int) ≤ a4) ∧ (a4 ≤ 5) := by omega
theorem tot116 {a0 a1 : Int} (h0 : a0 < a1) (h1 : a1 = 0) : a0 < 0 := oz1670 h0 h1
theorem tot117 {a0 a1 a2 a3 a4 a5 : Int} (h0 : a0 ≠ a1) (h1 : a2 ≠ a3) (h2 : a2 ≤ a3) (h3 : a1 = 0) (h4 : a3 = 3) : ¬ ((((0 : Int) ≤ a2) ∧ (a2 ≤ 3) ∧ (((a2 = 3) → (((0 : Int) ≤ a0) ∧ (a0 < a4)))) ∧ (((a2 ≠ 3) → (a0 = 0)))) ∧ ((0 : Int) ≤ a5) ∧ (a5 ≤ 5)) := by omega
theorem tot118 {a0 a1 : Int} (h0 : a0 ≤ 8) (h1 : a1 < a0) : a1 < 31 := oz385 h0 h1
theorem tot119 {a0 a1 a2 a3 a4 : Int} (h0 : a0 = a1) (h1 : (0 : Int) ≤ a2) (h2 : a2 ≤ 5) (h3 : (0 : Int) ≤ a3) (h4 : a3 < a4) (h5 : a0 ≤ a1) (h6 : a1 = 3) : (((0 : Int) ≤ a0) ∧ (a0 ≤ 3) ∧ (((a0 = 3) → (((0 : Int) ≤ a3) ∧ (a3 < a4)))) ∧ (((a0 ≠ 3) → (a3 = 0)))) ∧ ((0 : Int) ≤ a2) ∧ (a2 ≤ 5) := by omega
theorem tot120 {a0 a1 : Int} (h0 : a0 = a1) (h1 : a1 = 3) : ¬ (a0 = 0) := oz1053 h0 h1
theorem tot121 {a0 a1 : Int} (h0 : a0 = a1) (h1 : a1 = 3) : ¬ (a0 = 1) := oz1054 h0 h1
theorem tot122 {a0 a1 : Int} (h0 : a0 = a1) (h1 : a1 = 3) : ¬ (a0 = 2) := oz1055 h0 h1
theorem tot124 {a0 a1 a2 : Int} (h0 : a0 = a1) (h1 : a0 = a2) (h2 : a1 = 3) (h3 : a2 = 2) : False := oz386 h0 h1 h2 h3
theorem tot125 {a0 a1 a2 : Int} (h0 : a0 = a1) (h1 : a0 = a2) (h2 : a1 = 3) (h3 : a2 = 1) : False := oz387 h0 h1 h2 h3
theorem tot126 {a0 a1 a2 : Int} (h0 : a0 = a1) (h1 : a0 = a2) (h2 : a1 = 3) (h3 : a2 = 0) : False := oz388 h0 h1 h2 h3
theorem tot127 {a0 a1 a2 a3 a4 : Int} (h0 : a0 = a1) (h1 : a0 ≤ a1) (h2 : ¬ (((0 : Int) ≤ a2) ∧ (a2 < a3))) (h3 : a1 = 3) : ¬ ((((0 : Int) ≤ a0) ∧ (a0 ≤ 3) ∧ (((a0 = 3) → (((0 : Int) ≤ a2) ∧ (a2 < a3)))) ∧ (((a0 ≠ 3) → (a2 = 0)))) ∧ ((0 : Int) ≤ a4) ∧ (a4 ≤ 5)) := by omega
theorem tot128 {a0 a1 a2 a3 a4 a5 : Int} (h0 : ¬ ((a0 ≤ a1) ∧ (a1 ≤ a2))) (h1 : a0 = 0) (h2 : a2 = 3) : ¬ ((((0 : Int) ≤ a1) ∧ (a1 ≤ 3) ∧ (((a1 = 3) → (((0 : Int) ≤ a3) ∧ (a3 < a4)))) ∧ (((a1 ≠ 3) → (a3 = 0)))) ∧ ((0 : Int) ≤ a5) ∧ (a5 ≤ 5)) := by omega
theorem tot129 {a0 a1 a2 a3 : Int} (h0 : ¬ (((0 : Int) ≤ a0) ∧ (a0 ≤ 5))) : ¬ ((((0 : Int) ≤ a1) ∧ (a1 ≤ 3) ∧ (((a1 = 3) → (((0 : Int) ≤ a2) ∧ (a2 < a3)))) ∧ (((a1 ≠ 3) → (a2 = 0)))) ∧ ((0 : Int) ≤ a0) ∧ (a0 ≤ 5)) := by omega
theorem tot130 {a0 a1 a2 a3 : Int} (h0 : a0 < a1) (h1 : a1 = 0) : ¬ ((((0 : Int) ≤ a0) ∧ ((0 : Int) ≤ a2) ∧ (a2 ≤ 2)) ∧ ((0 : Int) ≤ a3) ∧ (a3 ≤ 5)) := by omega
theorem tot131 {a0 a1 : Int} (h0 : a0 ≤ a1) (h1 : a0 = 0) : (0 : Int) ≤ a1 := oz389 h0 h1
theorem tot132 {a0 a1 : Int} (h0 : a0 < a1) (h1 : a1 ≤ 21) : a0 < 21 := oz241 h0 h1
theorem tot133 {a0 a1 a2 a3 a4 : Int} (h0 : a0 ≤ a1) (h1 : (0 : Int) ≤ a2) (h2 : a2 ≤ 5) (h3 : a0 ≤ a3) (h4 : a3 ≤ a4) (h5 : a0 = 0) (h6 : a4 = 2) : (((0 : Int) ≤ a1) ∧ ((0 : Int) ≤ a3) ∧ (a3 ≤ 2)) ∧ ((0 : Int) ≤ a2) ∧ (a2 ≤ 5) := by omega
theorem tot134 {a0 a1 : Int} (h0 : a0 < a1) : a0 < a1 := oz270 h0
theorem tot135 {a0 a1 : Int} (h0 : a0 < a1) : ¬ (a1 ≤ a0) := ou140 h0
theorem tot136 {a0 a1 : Int} (h0 : a0 ≠ a1) (h1 : a1 ≤ a0) (h2 : a1 = 0) : ¬ (a0 = 0) := toy121 h0 h1 h2
theorem tot137 {a0 a1 a2 : Int} (h0 : a0 ≠ a1) (h1 : a0 ≠ a2) (h2 : a1 ≤ a0) (h3 : a1 = 0) (h4 : a2 = 1) : ¬ (a0 = 1) := toy122 h0 h1 h2 h3 h4
theorem tot139 {a0 a1 a2 a3 a4 a5 : Int} (h0 : a0 = a1) (h1 : a2 ≤ a3) (h2 : (0 : Int) ≤ a4) (h3 : a4 ≤ 5) (h4 : a0 ≤ a5) (h5 : a1 = 1) (h6 : a2 = 0) (h7 : a5 = 2) : (((0 : Int) ≤ a3) ∧ ((0 : Int) ≤ a0) ∧ (a0 ≤ 2)) ∧ ((0 : Int) ≤ a4) ∧ (a4 ≤ 5) := by omega
theorem tot140 {a0 a1 : Int} (h0 : a0 ≤ a1) : ¬ (a1 < a0) := toy131 h0
theorem tot141 {a0 a1 a2 a3 a4 : Int} (h0 : ¬ ((a0 ≤ a1) ∧ (a1 ≤ a2))) (h1 : a0 = 0) (h2 : a2 = 2) : ¬ ((((0 : Int) ≤ a3) ∧ ((0 : Int) ≤ a1) ∧ (a1 ≤ 2)) ∧ ((0 : Int) ≤ a4) ∧ (a4 ≤ 5)) := by omega
theorem tot142 {a0 a1 a2 : Int} (h0 : ¬ (((0 : Int) ≤ a0) ∧ (a0 ≤ 5))) : ¬ ((((0 : Int) ≤ a1) ∧ ((0 : Int) ≤ a2) ∧ (a2 ≤ 2)) ∧ ((0 : Int) ≤ a0) ∧ (a0 ≤ 5)) := by omega
set_option maxRecDepth 100000 in
theorem kg173_116 {i : Nat → Int32} {a : Nat → List Int32} {q : Nat → List Int64} {r : Nat → Nat} (hI : kI i a q) (hr : kr r) (x1 : Int32) (hp0 : ((0 : Int) ≤ x1.toInt) ∧ (x1.toInt ≤ 5)) : km 1 173 [.ref 116, .int x1] (ks i a q r) (kPI (ks i a q r) (fun v => (v.toInt ≤ 0) ∧ rNb a x1 v)) := by
  have hG := kG_self kW0 hI hr
  refine km_ofPI (q := (mi_h173, mi_c173)) rfl (by decide) (Nat.le_of_ble_eq_true rfl) ?_
  intro P hP
  refine ft_go mi_k173 3 5 [(0, .ref 116), (1, .int x1)] [.int x1, .ref 136] i a q r (by rfl) ?_
  refine ko_iald3 mi_k173.1 (n := 6) (c := 6) (ax := (0, 0, 0, 0, 0)) (mi_k173.2 _ _ (by rfl)) (by rfl) (ksG136 _ _ _ _) (hG.I.2.1 136) rfl (tot5 hp0.1) (tot6 hp0.2) ?_
  have r1 : ((-1 : Int) ≤ ((a 136).getD x1.toNatClampNeg 0).toInt) ∧ (((a 136).getD x1.toNatClampNeg 0).toInt ≤ 59) := hG.I.2.2.1 136 (x1.toNatClampNeg)
  refine ft_go mi_k173 1 7 [(0, .ref 116), (1, .int x1)] [.int (-1), .int ((a 136).getD x1.toNatClampNeg 0)] i a q r (by rfl) ?_
  refine ft_if mi_k173 (((a 136).getD x1.toNatClampNeg 0) != (-1)) 15 10 [(0, .ref 116), (1, .int x1)] [] (by rfl) (fun c => ?_) (fun c => ?_)
  ·
    have c2 : ((a 136).getD x1.toNatClampNeg 0).toInt ≠ ((-1) : Int32).toInt := kd_ne c; clear c
    refine ft_go mi_k173 3 20 [(0, .ref 116), (1, .int x1)] [.int x1, .ref 136] i a q r (by rfl) ?_
    refine ko_iald3 mi_k173.1 (n := 6) (c := 6) (ax := (0, 0, 0, 0, 0)) (mi_k173.2 _ _ (by rfl)) (by rfl) (ksG136 _ _ _ _) (hG.I.2.1 136) rfl (tot5 hp0.1) (tot6 hp0.2) ?_
    refine ft_if mi_k173 (((a 136).getD x1.toNatClampNeg 0) == 0) 29 24 [(0, .ref 116), (1, .int x1)] [] (by rfl) (fun c => ?_) (fun c => ?_)
    ·
      have c3 : ((a 136).getD x1.toNatClampNeg 0).toInt = (0 : Int32).toInt := kd_eq c; clear c
      refine ft_go mi_k173 1 30 [(0, .ref 116), (1, .int x1)] [.int 0] i a q r (by rfl) ?_
      exact ft_ret mi_k173 (by rfl) (hP 0 ⟨(tot7 ktot0), (Or.inr ⟨rfl, (tot8 c3 ktot0)⟩)⟩)
    ·
      have c4 : ((a 136).getD x1.toNatClampNeg 0).toInt ≠ (0 : Int32).toInt := kd_eqF c; clear c
      refine ft_go mi_k173 2 30 [(0, .ref 116), (1, .int x1)] [.int (-12)] i a q r (by rfl) ?_
      exact ft_ret mi_k173 (by rfl) (hP (-12) ⟨(tot9 kotm12), (Or.inl ⟨by decide, Or.inr ⟨(tot10 c2 r1.1 kotm1), (tot11 c2 c4 r1.1 kotm1 ktot0), rfl⟩⟩)⟩)
  ·
    have c5 : ((a 136).getD x1.toNatClampNeg 0).toInt = ((-1) : Int32).toInt := kd_neF c; clear c
    refine ft_go mi_k173 2 30 [(0, .ref 116), (1, .int x1)] [.int (-11)] i a q r (by rfl) ?_
    exact ft_ret mi_k173 (by rfl) (hP (-11) ⟨(tot12 kotm11), (Or.inl ⟨by decide, Or.inl ⟨(tot13 c5 r1.1 kotm1), rfl⟩⟩)⟩)
def ygw174_116 : kW := ([7469], [142], [], [])
def ygw174_116_L5 : kW := ([7469], [142], [], [])
set_option maxRecDepth 100000 in
theorem kg174_116 {i : Nat → Int32} {a : Nat → List Int32} {q : Nat → List Int64} {r : Nat → Nat} (hI : kI i a q) (hr : kr r) (x1 : Int32) (hp0 : ((0 : Int) ≤ x1.toInt) ∧ (x1.toInt ≤ 5)) : km 5 174 [.ref 116, .int x1] (ks i a q r) (kVN ygw174_116 i a q r (fun i1 a1 q1 r1 => ((i1 7469).toInt ≤ 20) ∧ kRd (i 7424) ((a 137).getD x1.toNatClampNeg 0).toInt (vQ (q 138) (60 * x1.toInt).toNat) (i1 7469).toInt (a1 142))) := by
  have hG := kG_self ygw174_116 hI hr
  refine km_ofN (q := (mi_h174, mi_c174)) rfl (by decide) (Nat.le_of_ble_eq_true rfl) ?_
  intro P hP
  have hJ1 := kG_i hG 7469 rfl (v := 0) ⟨(tot15 ktot0), (tot16 ktot0)⟩
  refine ft_go mi_k174 3 5 [(0, .ref 116), (1, .int x1)] [] (ku i 7469 0) a q r (by rfl) ?_
  have lp2 : ∀ (nz : Nat) (i2 : Nat → Int32) (a2 : Nat → List Int32) (q2 : Nat → List Int64) (r2 : Nat → Nat), kG ygw174_116_L5 (ku i 7469 0) a q r i2 a2 q2 r2 → (0 : Int) ≤ (i2 7469).toInt → (i2 7469).toInt ≤ 20 → (i2 7469).toInt ≤ ((a 137).getD x1.toNatClampNeg 0).toInt → kRp (i 7424) (vQ (q 138) (60 * x1.toInt).toNat) (i2 7469).toInt (a2 142) → ((20 - (i2 7469).toInt)).toNat < nz → ko 5 (mi_h174, mi_c174) P (5, [(0, .ref 116), (1, .int x1)], [], (0, 0), ks i2 a2 q2 r2) := by
    intro nz
    induction nz with
    | zero =>
      intro _ _ _ _ _ _ _ _ _ hm
      exact absurd hm (Nat.not_lt_zero _)
    | succ nz ih2 =>
      intro i2 a2 q2 r2 hL2 p2_0 p2_1 p2_2 O2_0 hm2
      have fi2_7469 : ((0 : Int) ≤ (i2 7469).toInt) ∧ ((i2 7469).toInt ≤ 21) := hL2.I.1 7469
      have r4 : ((0 : Int) ≤ ((a 137).getD x1.toNatClampNeg 0).toInt) ∧ (((a 137).getD x1.toNatClampNeg 0).toInt ≤ 60) := hG.I.2.2.1 137 (x1.toNatClampNeg)
      refine ft_go mi_k174 3 11 [(0, .ref 116), (1, .int x1)] [.int 20, .int (i2 7469)] i2 a2 q2 r2 (by rfl) ?_
      refine ft_if mi_k174 (decide (20 ≤ (i2 7469))) 74 14 [(0, .ref 116), (1, .int x1)] [] (by rfl) (fun c => ?_) (fun c => ?_)
      ·
        have c5 : (20 : Int32).toInt ≤ (i2 7469).toInt := kd_le c; clear c
        have hG6 := kG_call hJ1 hL2 (by decide +kernel)
        exact ft_ret mi_k174 (by rfl) (hP  _ _ _ _ hG6 ⟨(tot55 p2_1), (kRd_mk (k := (i2 7469)) O2_0 rfl (tot56 c5 ktot20) (tot55 p2_1) (tot57 p2_2) (Or.inl (tot58 c5 p2_1 ktot20)))⟩)
      ·
        have c7 : (i2 7469).toInt < (20 : Int32).toInt := kd_leF c; clear c
        refine ft_go mi_k174 5 23 [(0, .ref 116), (1, .int x1)] [.int x1, .ref 137, .int (i2 7469)] i2 a2 q2 r2 (by rfl) ?_
        refine ko_iald3 mi_k174.1 (n := 6) (c := 6) (ax := (0, 0, 0, 0, 0)) (mi_k174.2 _ _ (by rfl)) (by rfl) (ksG137 _ _ _ _) (hL2.I.2.1 137) rfl (tot5 hp0.1) (tot6 hp0.2) ?_
        have r8 : ((0 : Int) ≤ ((a2 137).getD x1.toNatClampNeg 0).toInt) ∧ (((a2 137).getD x1.toNatClampNeg 0).toInt ≤ 60) := hL2.I.2.2.1 137 (x1.toNatClampNeg)
        have u9 : ((a2 137).getD x1.toNatClampNeg 0).toInt = ((a 137).getD x1.toNatClampNeg 0).toInt := congrArg (fun z : List Int32 => (z.getD x1.toNatClampNeg 0).toInt) (hL2.fa 137 rfl)
        refine ft_if mi_k174 (decide (((a2 137).getD x1.toNatClampNeg 0) ≤ (i2 7469))) 74 27 [(0, .ref 116), (1, .int x1)] [] (by rfl) (fun c => ?_) (fun c => ?_)
        ·
          have c10 : ((a2 137).getD x1.toNatClampNeg 0).toInt ≤ (i2 7469).toInt := kd_le c; clear c
          have hG11 := kG_call hJ1 hL2 (by decide +kernel)
          exact ft_ret mi_k174 (by rfl) (hP  _ _ _ _ hG11 ⟨(tot55 p2_1), (kRd_mk (k := (i2 7469)) O2_0 rfl (tot5 fi2_7469.1) (tot55 p2_1) (tot57 p2_2) (Or.inr (Or.inl (tot59 c10 p2_2 u9))))⟩)
        ·
          have c12 : (i2 7469).toInt < ((a2 137).getD x1.toNatClampNeg 0).toInt := kd_leF c; clear c
          refine ft_go mi_k174 5 34 [(0, .ref 116), (1, .int x1)] [.int (i2 7469), .int x1, .ref 116, .ref 116] i2 a2 q2 r2 (by rfl) ?_
          refine ko_callPI mi_k174.1 (pc := 34) (ls := [(0, .ref 116), (1, .int x1)]) (st := [.int (i2 7469), .int x1, .ref 116, .ref 116]) (h := ks i2 a2 q2 r2) (i := (.invokevirtual 133, 3, 137, 0, 9, 0, 384)) (mi_k174.2 _ _ (by rfl)) (ft_invS mi_pq137 (by rfl)) (cy := mi_c137) mi_pq137 rfl (kc137_116 hL2.I hL2.R x1 (i2 7469) (tot14 hp0.1 hp0.2) (tot28 fi2_7469.1 fi2_7469.2)) (by decide) ?_
          intro vg13 hg13
          have z14 : vg13.toInt = (((q2 138).getD ((60 * x1) + (i2 7469)).toNatClampNeg 0).toInt32).toInt := hg13
          refine ko_callPI mi_k174.1 (pc := 37) (ls := [(0, .ref 116), (1, .int x1)]) (st := [.int vg13, .ref 116]) (h := ks i2 a2 q2 r2) (i := (.invokevirtual 137, 3, 132, 0, 9, 0, 387)) (mi_k174.2 _ _ (by rfl)) (ft_invS mi_pq132 (by rfl)) (cy := mi_c132) mi_pq132 rfl (kc132_116 hL2.I hL2.R vg13) (by decide) ?_
          intro vg15 hg15
          rcases hg15 with ⟨eg15, hg15⟩ | ⟨eg15, hg15⟩
          ·
            subst eg15
            have fi2_7424 : ((0 : Int) ≤ (i2 7424).toInt) ∧ ((i2 7424).toInt ≤ 8) := hL2.I.1 7424
            have efi2_7424 : (i2 7424).toInt = (i 7424).toInt := hL2.ti 7424 rfl
            have z16 : ((0 : Int) ≤ vg13.toInt) ∧ (vg13.toInt < (i2 7424).toInt) := hg15
            refine ft_go mi_k174 9 57 [(0, .ref 116), (1, .int x1)] [.int (i2 7469), .int x1, .ref 116, .int (i2 7469), .ref 142] i2 a2 q2 r2 (by rfl) ?_
            refine ko_callPI mi_k174.1 (pc := 57) (ls := [(0, .ref 116), (1, .int x1)]) (st := [.int (i2 7469), .int x1, .ref 116, .int (i2 7469), .ref 142]) (h := ks i2 a2 q2 r2) (i := (.invokevirtual 133, 3, 137, 0, 9, 0, 384)) (mi_k174.2 _ _ (by rfl)) (ft_invS mi_pq137 (by rfl)) (cy := mi_c137) mi_pq137 rfl (kc137_116 hL2.I hL2.R x1 (i2 7469) (tot14 hp0.1 hp0.2) (tot28 fi2_7469.1 fi2_7469.2)) (by decide) ?_
            intro vg17 hg17
            have z18 : vg17.toInt = (((q2 138).getD ((60 * x1) + (i2 7469)).toNatClampNeg 0).toInt32).toInt := hg17
            refine ko_iast3 mi_k174.1 (n := 21) (c := 21) (ax := (0, 0, 0, 0, 0)) (mi_k174.2 _ _ (by rfl)) (by rfl) (ksG142 _ _ _ _) (ksA142 _ _ _ _) (hL2.I.2.1 142) rfl (tot5 fi2_7469.1) (tot60 p2_1) ?_
            intro a19 ea19 fa19
            have hJ19 := kG_a3 hL2 142 rfl ea19 fa19 ⟨(tot34 z14 z16.1 z18), (tot35 fi2_7424.2 z14 z16.2 z18)⟩
            have s20 : ((i2 7469) + 1).toInt = (i2 7469).toInt + (1 : Int32).toInt := kd_add (tot36 fi2_7469.1 ktot1) (tot37 fi2_7469.2 ktot1)
            have hJ21 := kG_i hJ19 7469 rfl (v := ((i2 7469) + 1)) ⟨(tot38 fi2_7469.1 s20 ktot1), (tot61 p2_1 s20 ktot1)⟩
            refine ft_go mi_k174 7 5 [(0, .ref 116), (1, .int x1)] [] (ku i2 7469 ((i2 7469) + 1)) a19 q2 r2 (by rfl) ?_
            have s22 : (60 * x1).toInt = 60 * x1.toInt := kd_cmul 60 ktot60 (tot21 hp0.1) (tot22 hp0.2)
            have s23 : ((60 * x1) + (i2 7469)).toInt = (60 * x1).toInt + (i2 7469).toInt := kd_add (tot42 fi2_7469.1 hp0.1 s22) (tot63 c7 hp0.2 s22 ktot20)
            exact ih2 _ _ _ _ hJ21 (tot38 fi2_7469.1 s20 ktot1) (tot62 c7 s20 ktot20 ktot1) (tot41 c12 s20 u9 ktot1) (kRp_step (y := ((60 * x1) + (i2 7469))) (m := 21) O2_0 (hL2.I.2.1 142) (tot5 fi2_7469.1) (tot64 p2_1) (tot47 s20 ktot1) ea19 (kj_b60y (kj_b60 (tot5 hp0.1)) (tot44 s22 s23)) ((kj_v (tot45 z18)).trans (congrArg (fun z : List Int64 => (z.getD ((60 * x1) + (i2 7469)).toNatClampNeg 0).toInt32) (hL2.fq 138 rfl : q2 138 = q 138))) (tot34 z14 z16.1 z18) (tot48 efi2_7424 z14 z16.2 z18)) (kj_meas (tot49 s20 ktot1) (tot65 c7 ktot20) hm2)
          ·
            subst eg15
            have efi2_7424 : (i2 7424).toInt = (i 7424).toInt := hL2.ti 7424 rfl
            have z24 : ¬ (((0 : Int) ≤ vg13.toInt) ∧ (vg13.toInt < (i2 7424).toInt)) := hg15
            refine ft_go mi_k174 1 74 [(0, .ref 116), (1, .int x1)] [] i2 a2 q2 r2 (by rfl) ?_
            have hG25 := kG_call hJ1 hL2 (by decide +kernel)
            have s26 : (60 * x1).toInt = 60 * x1.toInt := kd_cmul 60 ktot60 (tot21 hp0.1) (tot22 hp0.2)
            have s27 : ((60 * x1) + (i2 7469)).toInt = (60 * x1).toInt + (i2 7469).toInt := kd_add (tot42 fi2_7469.1 hp0.1 s26) (tot63 c7 hp0.2 s26 ktot20)
            exact ft_ret mi_k174 (by rfl) (hP  _ _ _ _ hG25 ⟨(tot55 p2_1), (kRd_mk (k := (i2 7469)) O2_0 rfl (tot5 fi2_7469.1) (tot55 p2_1) (tot51 c12 u9) (Or.inr (Or.inr (kRd_bad (y := ((60 * x1) + (i2 7469))) (kj_b60y (kj_b60 (tot5 hp0.1)) (tot44 s26 s27)) (tot5 fi2_7469.1) (congrArg (fun z : List Int64 => (z.getD ((60 * x1) + (i2 7469)).toNatClampNeg 0).toInt32) (hL2.fq 138 rfl : q2 138 = q 138)) (tot52 efi2_7424 z14 z24)))))⟩)
  have r28 : ((0 : Int) ≤ ((a 137).getD x1.toNatClampNeg 0).toInt) ∧ (((a 137).getD x1.toNatClampNeg 0).toInt ≤ 60) := hG.I.2.2.1 137 (x1.toNatClampNeg)
  exact lp2 _ _ _ _ _ (kG_self _ hJ1.I hJ1.R) (tot15 ktot0) (tot53 ktot0) (tot54 r28.1 ktot0) (kRp_0 (Int.le_of_eq ktot0)) (Nat.lt_succ_self _)
def ygw171_116 : kW := ([7467], [139, 141], [], [])
def ygw171_116_L16 : kW := ([], [141], [], [])
set_option maxRecDepth 100000 in
theorem kg171_116 {i : Nat → Int32} {a : Nat → List Int32} {q : Nat → List Int64} {r : Nat → Nat} (hI : kI i a q) (hr : kr r)  : km 3 171 [.ref 116] (ks i a q r) (kVN ygw171_116 i a q r (fun i1 a1 q1 r1 => (True) ∧ (a1 139 = a 118 ∧ a1 118 = a 118 ∧ i1 7467 = 0 ∧ a1 141 = List.replicate 64 0))) := by
  have hG := kG_self ygw171_116 hI hr
  refine km_ofN (q := (mi_h171, mi_c171)) rfl (by decide) (Nat.le_of_ble_eq_true rfl) ?_
  intro P hP
  refine ft_go mi_k171 4 6 [(0, .ref 116)] [.int 0, .ref 139, .ref 116] i a q r (by rfl) ?_
  refine ko_callN mi_k171.1 (pc := 6) (ls := [(0, .ref 116)]) (st := [.int 0, .ref 139, .ref 116]) (h := ks i a q r) (i := (.invokevirtual 263, 3, 168, 0, 9, 0, 413)) (mi_k171.2 _ _ (by rfl)) (ft_invS mi_pq168 (by rfl)) (cy := mi_c168) mi_pq168 rfl (ke168_116_139 hG.I hG.R 0 (tot78 ktot0)) (by decide) ?_
  intro ig1 ag1 qg1 rg1 kg1 hg1
  have hGg1 := kG_call hG kg1 (by decide +kernel)
  obtain ⟨hg1, og1⟩ := hg1
  have q2 : ag1 139 = a 118 := og1
  have hJ3 := kG_i hGg1 7467 rfl (v := 0) (kd_bd _)
  refine ft_go mi_k171 5 16 [(1, .int 0), (0, .ref 116)] [] (ku ig1 7467 0) ag1 qg1 rg1 (by rfl) ?_
  have lp4 : ∀ (nz : Nat) (i4 : Nat → Int32) (a4 : Nat → List Int32) (q4 : Nat → List Int64) (r4 : Nat → Nat) (l1_4 : Int32), kG ygw171_116_L16 (ku ig1 7467 0) ag1 qg1 rg1 i4 a4 q4 r4 → (0 : Int) ≤ l1_4.toInt → kZr (a4 141) l1_4.toInt → ((64 - l1_4.toInt)).toNat < nz → ko 3 (mi_h171, mi_c171) P (16, [(1, .int l1_4), (0, .ref 116)], [], (0, 0), ks i4 a4 q4 r4) := by
    intro nz
    induction nz with
    | zero =>
      intro _ _ _ _ _ _ _ _ hm
      exact absurd hm (Nat.not_lt_zero _)
    | succ nz ih4 =>
      intro i4 a4 q4 r4 l1_4 hL4 p4_0 O4_0 hm4
      refine ft_go mi_k171 2 19 [(1, .int l1_4), (0, .ref 116)] [.int 64, .int l1_4] i4 a4 q4 r4 (by rfl) ?_
      refine ft_if mi_k171 (decide (64 ≤ l1_4)) 35 22 [(1, .int l1_4), (0, .ref 116)] [] (by rfl) (fun c => ?_) (fun c => ?_)
      ·
        have c5 : (64 : Int32).toInt ≤ l1_4.toInt := kd_le c; clear c
        have hG6 := kG_call hJ3 hL4 (by decide +kernel)
        have qz7 : a4 141 = List.replicate 64 0 := kZr_end O4_0 (hG6.I.2.1 141) (tot79 c5 ktot64)
        exact ft_ret mi_k171 (by rfl) (hP  _ _ _ _ hG6 ⟨trivial, ⟨(show a4 139 = a 118 from (by first | rfl | (simp only [hL4.fa 139 rfl, q2, sMn, sMx]; done) | (simp only [hL4.fa 139 rfl, q2, sMn, sMx]; rfl))), (show a4 118 = a 118 from (by first | rfl | (simp only [hL4.fa 118 rfl, kg1.fa 118 rfl, sMn, sMx]; done) | (simp only [hL4.fa 118 rfl, kg1.fa 118 rfl, sMn, sMx]; rfl))), (show i4 7467 = 0 from (by first | rfl | (simp only [(show i4 7467 = (0 : Int32) from hL4.fi 7467 rfl), sMn, sMx]; done) | (simp only [(show i4 7467 = (0 : Int32) from hL4.fi 7467 rfl), sMn, sMx]; rfl))), (show a4 141 = List.replicate 64 0 from (by first | rfl | (simp only [qz7, sMn, sMx]; done) | (simp only [qz7, sMn, sMx]; rfl)))⟩⟩)
      ·
        have c8 : l1_4.toInt < (64 : Int32).toInt := kd_leF c; clear c
        refine ft_go mi_k171 4 28 [(1, .int l1_4), (0, .ref 116)] [.int 0, .int l1_4, .ref 141] i4 a4 q4 r4 (by rfl) ?_
        refine ko_iast3 mi_k171.1 (n := 64) (c := 64) (ax := (0, 0, 0, 0, 0)) (mi_k171.2 _ _ (by rfl)) (by rfl) (ksG141 _ _ _ _) (ksA141 _ _ _ _) (hL4.I.2.1 141) rfl (tot5 p4_0) (tot80 c8 ktot64) ?_
        intro a9 ea9 fa9
        have hJ9 := kG_a3 hL4 141 rfl ea9 fa9 (kd_bd _)
        have s10 : (l1_4 + 1).toInt = l1_4.toInt + (1 : Int32).toInt := kd_add (tot36 p4_0 ktot1) (tot81 c8 ktot64 ktot1)
        refine ft_go mi_k171 2 16 [(1, .int (l1_4 + 1)), (0, .ref 116)] [] i4 a9 q4 r4 (by rfl) ?_
        exact ih4 _ _ _ _ _ hJ9 (tot38 p4_0 s10 ktot1) (kZr_step O4_0 (hL4.I.2.1 141) (tot5 p4_0) (tot82 c8 ktot64) (tot47 s10 ktot1) ea9) (kj_meas (tot83 s10 ktot1) (tot84 c8 ktot64) hm4)
  exact lp4 _ _ _ _ _ _ (kG_self _ hJ3.I hJ3.R) (tot15 ktot0) (kZr_zero ktot0) (Nat.lt_succ_self _)
def ygw170_116 : kW := ([7464, 7465, 7466, 7467], [118, 128, 129, 141, 143, 144, 145], [], [])
def ygw170_116_L2 : kW := ([7464, 7465, 7466, 7467], [118, 128, 129, 141, 143, 144, 145], [], [])
set_option maxRecDepth 100000 in
theorem kg170_116 {i : Nat → Int32} {a : Nat → List Int32} {q : Nat → List Int64} {r : Nat → Nat} (hI : kI i a q) (hr : kr r) (hE_code : kCode i a) : km 11 170 [.ref 116] (ks i a q r) (kVN ygw170_116 i a q r (fun i1 a1 q1 r1 => (True) ∧ (gT i1 a1 = gAt (gKn i a) (a 142) (gT i a) (i 7469).toInt.toNat ∧ gOp (gKn i a) (a 142) (gT i a) (i 7469).toInt (a1 143) (a1 144) (a1 145)))) := by
  have hG := kG_self ygw170_116 hI hr
  refine km_ofN (q := (mi_h170, mi_c170)) rfl (by decide) (Nat.le_of_ble_eq_true rfl) ?_
  intro P hP
  refine ft_go mi_k170 2 2 [(1, .int 0), (0, .ref 116)] [] i a q r (by rfl) ?_
  have lp1 : ∀ (nz : Nat) (i1 : Nat → Int32) (a1 : Nat → List Int32) (q1 : Nat → List Int64) (r1 : Nat → Nat) (l1_1 : Int32), kG ygw170_116_L2 i a q r i1 a1 q1 r1 → (0 : Int) ≤ l1_1.toInt → l1_1.toInt ≤ (i 7469).toInt → (i1 7469).toInt = (i 7469).toInt → gT i1 a1 = gAt (gKn i a) (a 142) (gT i a) l1_1.toInt.toNat → gOp (gKn i a) (a 142) (gT i a) l1_1.toInt (a1 143) (a1 144) (a1 145) → (((i1 7469).toInt - l1_1.toInt)).toNat < nz → ko 11 (mi_h170, mi_c170) P (2, [(1, .int l1_1), (0, .ref 116)], [], (0, 0), ks i1 a1 q1 r1) := by
    intro nz
    induction nz with
    | zero =>
      intro _ _ _ _ _ _ _ _ _ _ _ hm
      exact absurd hm (Nat.not_lt_zero _)
    | succ nz ih1 =>
      intro i1 a1 q1 r1 l1_1 hL1 p1_0 p1_1 p1_2 O1_0 O1_1 hm1
      have fi_7469 : ((0 : Int) ≤ (i 7469).toInt) ∧ ((i 7469).toInt ≤ 21) := hG.I.1 7469
      have efi1_7469 : (i1 7469).toInt = (i 7469).toInt := hL1.ti 7469 rfl
      refine ft_go mi_k170 3 7 [(1, .int l1_1), (0, .ref 116)] [.int (i1 7469), .int l1_1] i1 a1 q1 r1 (by rfl) ?_
      refine ft_if mi_k170 (decide ((i1 7469) ≤ l1_1)) 57 10 [(1, .int l1_1), (0, .ref 116)] [] (by rfl) (fun c => ?_) (fun c => ?_)
      ·
        have c2 : (i1 7469).toInt ≤ l1_1.toInt := kd_le c; clear c
        have hG3 := kG_call hG hL1 (by decide +kernel)
        exact ft_ret mi_k170 (by rfl) (hP  _ _ _ _ hG3 ⟨trivial, ⟨gT_c O1_0 (gAt_len (tot85 c2 efi1_7469 p1_1)), gOp_len O1_1 (tot85 c2 efi1_7469 p1_1)⟩⟩)
      ·
        have c4 : l1_1.toInt < (i1 7469).toInt := kd_leF c; clear c
        refine ft_go mi_k170 4 16 [(1, .int l1_1), (0, .ref 116)] [.int l1_1, .ref 142, .ref 116] i1 a1 q1 r1 (by rfl) ?_
        refine ko_iald3 mi_k170.1 (n := 21) (c := 21) (ax := (0, 0, 0, 0, 0)) (mi_k170.2 _ _ (by rfl)) (by rfl) (ksG142 _ _ _ _) (hL1.I.2.1 142) rfl (tot5 p1_0) (tot86 c4 efi1_7469 fi_7469.2) ?_
        have r5 : ((0 : Int) ≤ ((a1 142).getD l1_1.toNatClampNeg 0).toInt) ∧ (((a1 142).getD l1_1.toNatClampNeg 0).toInt ≤ 7) := hL1.I.2.2.1 142 (l1_1.toNatClampNeg)
        have hG6 := kG_call hG hL1 (by decide +kernel)
        refine ko_callI mi_k170.1 (pc := 17) (ls := [(1, .int l1_1), (0, .ref 116)]) (st := [.int ((a1 142).getD l1_1.toNatClampNeg 0), .ref 116]) (h := ks i1 a1 q1 r1) (i := (.invokevirtual 260, 3, 166, 0, 9, 0, 415)) (mi_k170.2 _ _ (by rfl)) (ft_invS mi_pq166 (by rfl)) (cy := mi_c166) mi_pq166 rfl (kg166_116 hL1.I hL1.R ((a1 142).getD l1_1.toNatClampNeg 0) (tot87 r5.1 r5.2) (kCode_of (i1 := i1) hE_code (hG6.fi 7432 rfl) (hG6.fa 120 rfl) (hG6.fa 121 rfl) (hG6.fa 122 rfl) (hG6.fa 123 rfl))) (by decide) ?_
        intro vg7 ig7 ag7 qg7 rg7 kg7 hg7
        have hGg7 := kG_call hL1 kg7 (by decide +kernel)
        obtain ⟨hg7, og7⟩ := hg7
        have oG8 := og7
        have hG9 := kG_call hG hL1 (by decide +kernel)
        rw [(gKn_fr hG9 (by decide +kernel) : gKn i1 a1 = gKn i a), (O1_0 : gT i1 a1 = gAt (gKn i a) (a 142) (gT i a) l1_1.toInt.toNat)] at oG8
        have tG10 : gT ig7 ag7 = gIn (gKn i a) ((a1 142).getD l1_1.toNatClampNeg 0) (gAt (gKn i a) (a 142) (gT i a) l1_1.toInt.toNat) := oG8
        refine ft_go mi_k170 6 30 [(1, .int l1_1), (0, .ref 116)] [.int (ig7 7464), .int l1_1, .ref 143] ig7 ag7 qg7 rg7 (by rfl) ?_
        refine ko_iast3 mi_k170.1 (n := 21) (c := 21) (ax := (0, 0, 0, 0, 0)) (mi_k170.2 _ _ (by rfl)) (by rfl) (ksG143 _ _ _ _) (ksA143 _ _ _ _) (hGg7.I.2.1 143) rfl (tot5 p1_0) (tot86 c4 efi1_7469 fi_7469.2) ?_
        intro a11 ea11 fa11
        have hJ11 := kG_a3 hGg7 143 rfl ea11 fa11 (kd_bd _)
        refine ft_go mi_k170 5 40 [(1, .int l1_1), (0, .ref 116)] [.int (ig7 7465), .int l1_1, .ref 144] ig7 a11 qg7 rg7 (by rfl) ?_
        refine ko_iast3 mi_k170.1 (n := 21) (c := 21) (ax := (0, 0, 0, 0, 0)) (mi_k170.2 _ _ (by rfl)) (by rfl) (ksG144 _ _ _ _) (ksA144 _ _ _ _) (hJ11.I.2.1 144) rfl (tot5 p1_0) (tot86 c4 efi1_7469 fi_7469.2) ?_
        intro a12 ea12 fa12
        have hJ12 := kG_a3 hJ11 144 rfl ea12 fa12 (kd_bd _)
        refine ft_go mi_k170 5 50 [(1, .int l1_1), (0, .ref 116)] [.int (ig7 7466), .int l1_1, .ref 145] ig7 a12 qg7 rg7 (by rfl) ?_
        refine ko_iast3 mi_k170.1 (n := 21) (c := 21) (ax := (0, 0, 0, 0, 0)) (mi_k170.2 _ _ (by rfl)) (by rfl) (ksG145 _ _ _ _) (ksA145 _ _ _ _) (hJ12.I.2.1 145) rfl (tot5 p1_0) (tot86 c4 efi1_7469 fi_7469.2) ?_
        intro a13 ea13 fa13
        have hJ13 := kG_a3 hJ12 145 rfl ea13 fa13 (kd_bd _)
        have s14 : (l1_1 + 1).toInt = l1_1.toInt + (1 : Int32).toInt := kd_add (tot36 p1_0 ktot1) (tot88 c4 efi1_7469 fi_7469.2 ktot1)
        refine ft_go mi_k170 2 2 [(1, .int (l1_1 + 1)), (0, .ref 116)] [] ig7 a13 qg7 rg7 (by rfl) ?_
        have efig7_7469 : (ig7 7469).toInt = (i1 7469).toInt := kg7.ti 7469 rfl
        exact ih1 _ _ _ _ _ hJ13 (tot38 p1_0 s14 ktot1) (tot89 c4 efi1_7469 s14 ktot1) (tot90 efi1_7469 efig7_7469) (gT_c (gT_st fa13 (by decide) (by decide) (gT_st fa12 (by decide) (by decide) (gT_st fa11 (by decide) (by decide) tG10))) (gAt_next (i1 := i) rfl (congrArg (fun z : List Int32 => z.getD l1_1.toNatClampNeg 0) ((hL1.fa 142 rfl) : a1 142 = a 142)) (tot5 p1_0) (tot47 s14 ktot1) rfl).symm) (gOp_step (n := 21) O1_1 (hL1.I.2.1 143) (hL1.I.2.1 144) (hL1.I.2.1 145) (tot5 p1_0) (tot91 c4 efi1_7469 fi_7469.2) (tot47 s14 ktot1) (gAt_next (i1 := i) rfl (congrArg (fun z : List Int32 => z.getD l1_1.toNatClampNeg 0) ((hL1.fa 142 rfl) : a1 142 = a 142)) (tot5 p1_0) (tot47 s14 ktot1) rfl) (show a13 143 = (a1 143).set l1_1.toNatClampNeg (ig7 7464) from (by first | rfl | (simp only [fa13 143 (by decide), fa12 143 (by decide), ea11, kg7.fa 143 rfl, sMn, sMx]; done) | (simp only [fa13 143 (by decide), fa12 143 (by decide), ea11, kg7.fa 143 rfl, sMn, sMx]; rfl))) (show a13 144 = (a1 144).set l1_1.toNatClampNeg (ig7 7465) from (by first | rfl | (simp only [fa13 144 (by decide), ea12, fa11 144 (by decide), kg7.fa 144 rfl, sMn, sMx]; done) | (simp only [fa13 144 (by decide), ea12, fa11 144 (by decide), kg7.fa 144 rfl, sMn, sMx]; rfl))) (show a13 145 = (a1 145).set l1_1.toNatClampNeg (ig7 7466) from (by first | rfl | (simp only [ea13, fa12 145 (by decide), fa11 145 (by decide), kg7.fa 145 rfl, sMn, sMx]; done) | (simp only [ea13, fa12 145 (by decide), fa11 145 (by decide), kg7.fa 145 rfl, sMn, sMx]; rfl))) (gT_out tG10).1 (gT_out tG10).2.1 (gT_out tG10).2.2) (kj_meas (tot92 efig7_7469 s14 ktot1) (tot93 c4) hm1)
  have fi_7469 : ((0 : Int) ≤ (i 7469).toInt) ∧ ((i 7469).toInt ≤ 21) := hG.I.1 7469
  exact lp1 _ _ _ _ _ _ (kG_self _ hG.I hG.R) (tot15 ktot0) (tot54 fi_7469.1 ktot0) tot27 (gT_c rfl (gAt_k0 ktot0)) (gOp_0 ktot0) (Nat.lt_succ_self _)
def yzw175_116 : kW := ([7464, 7465, 7466, 7467, 7469], [118, 128, 129, 139, 141, 142, 143, 144, 145], [], [])
set_option maxRecDepth 100000 in
theorem kz175_116 {i : Nat → Int32} {a : Nat → List Int32} {q : Nat → List Int64} {r : Nat → Nat} (hI : kI i a q) (hr : kr r) (x1 : Int32) (x2 : Int32) (x3 : Int32) (hE_code : kCode i a) : km 13 175 [.ref 116, .int x1, .int x2, .int x3] (ks i a q r) (kVI yzw175_116 i a q r (fun v i1 a1 q1 r1 => (True) ∧ (a1 118 = a 118 ∧ rTop (((0 : Int) ≤ x3.toInt) ∧ (x3.toInt ≤ 3) ∧ (((x3.toInt = 3) → (((0 : Int) ≤ x2.toInt) ∧ (x2.toInt < (i 7424).toInt)))) ∧ (((x3.toInt ≠ 3) → (x2.toInt = 0)))) i a q x1 v (fun n L => fMk (gKn i a) (gR i a) x2 x3 v n L)))) := by
  have hG := kG_self yzw175_116 hI hr
  refine km_ofI (q := (mi_h175, mi_c175)) rfl (by decide) (Nat.le_of_ble_eq_true rfl) ?_
  intro P hP
  refine ft_go mi_k175 1 1 [(0, .ref 116), (1, .int x1), (2, .int x2), (3, .int x3)] [.int x1] i a q r (by rfl) ?_
  refine ko_callPI mi_k175.1 (pc := 1) (ls := [(0, .ref 116), (1, .int x1), (2, .int x2), (3, .int x3)]) (st := [.int x1]) (h := ks i a q r) (i := (.invokestatic 127, 3, 133, 0, 9, 0, 382)) (mi_k175.2 _ _ (by rfl)) (ft_invS mi_pq133 (by rfl)) (cy := mi_c133) mi_pq133 rfl (kc133 hG.I hG.R x1) (by decide) ?_
  intro vg1 hg1
  rcases hg1 with ⟨eg1, hg1⟩ | ⟨eg1, hg1⟩
  ·
    subst eg1
    have z2 : ((0 : Int) ≤ x1.toInt) ∧ (x1.toInt ≤ 5) := hg1
    refine ft_go mi_k175 4 10 [(0, .ref 116), (1, .int x1), (2, .int x2), (3, .int x3)] [.int 3, .int 0, .int x3] i a q r (by rfl) ?_
    refine ko_callPI mi_k175.1 (pc := 10) (ls := [(0, .ref 116), (1, .int x1), (2, .int x2), (3, .int x3)]) (st := [.int 3, .int 0, .int x3]) (h := ks i a q r) (i := (.invokestatic 119, 3, 131, 0, 9, 0, 379)) (mi_k175.2 _ _ (by rfl)) (ft_invS mi_pq131 (by rfl)) (cy := mi_c131) mi_pq131 rfl (kc131 hG.I hG.R x3 0 3) (by decide) ?_
    intro vg3 hg3
    rcases hg3 with ⟨eg3, hg3⟩ | ⟨eg3, hg3⟩
    ·
      subst eg3
      have z4 : ((0 : Int32).toInt ≤ x3.toInt) ∧ (x3.toInt ≤ (3 : Int32).toInt) := hg3
      refine ft_go mi_k175 3 18 [(0, .ref 116), (1, .int x1), (2, .int x2), (3, .int x3)] [.int 3, .int x3] i a q r (by rfl) ?_
      refine ft_if mi_k175 (x3 != 3) 32 21 [(0, .ref 116), (1, .int x1), (2, .int x2), (3, .int x3)] [] (by rfl) (fun c => ?_) (fun c => ?_)
      ·
        have c5 : x3.toInt ≠ (3 : Int32).toInt := kd_ne c; clear c
        refine ft_go mi_k175 1 33 [(0, .ref 116), (1, .int x1), (2, .int x2), (3, .int x3)] [.int x2] i a q r (by rfl) ?_
        refine ft_if mi_k175 (x2 == 0) 38 36 [(0, .ref 116), (1, .int x1), (2, .int x2), (3, .int x3)] [] (by rfl) (fun c => ?_) (fun c => ?_)
        ·
          have c6 : x2.toInt = (0 : Int32).toInt := kd_eq c; clear c
          refine ft_go mi_k175 2 40 [(0, .ref 116), (1, .int x1), (2, .int x2), (3, .int x3)] [.int x1, .ref 116] i a q r (by rfl) ?_
          refine ko_callPI mi_k175.1 (pc := 40) (ls := [(0, .ref 116), (1, .int x1), (2, .int x2), (3, .int x3)]) (st := [.int x1, .ref 116]) (h := ks i a q r) (i := (.invokevirtual 276, 3, 173, 0, 9, 0, 410)) (mi_k175.2 _ _ (by rfl)) (ft_invS mi_pq173 (by rfl)) (cy := mi_c173) mi_pq173 rfl (kg173_116 hG.I hG.R x1 (tot14 z2.1 z2.2)) (by decide) ?_
          intro vg7 hg7
          obtain ⟨hg7, og7⟩ := hg7
          refine ft_go mi_k175 2 47 [(4, .int vg7), (0, .ref 116), (1, .int x1), (2, .int x2), (3, .int x3)] [.int vg7] i a q r (by rfl) ?_
          refine ft_if mi_k175 (decide (0 ≤ vg7)) 53 50 [(4, .int vg7), (0, .ref 116), (1, .int x1), (2, .int x2), (3, .int x3)] [] (by rfl) (fun c => ?_) (fun c => ?_)
          ·
            have c9 : (0 : Int32).toInt ≤ vg7.toInt := kd_le c; clear c
            refine ft_go mi_k175 2 55 [(4, .int vg7), (0, .ref 116), (1, .int x1), (2, .int x2), (3, .int x3)] [.int x1, .ref 116] i a q r (by rfl) ?_
            refine ko_callN mi_k175.1 (pc := 55) (ls := [(4, .int vg7), (0, .ref 116), (1, .int x1), (2, .int x2), (3, .int x3)]) (st := [.int x1, .ref 116]) (h := ks i a q r) (i := (.invokevirtual 279, 3, 174, 0, 9, 0, 411)) (mi_k175.2 _ _ (by rfl)) (ft_invS mi_pq174 (by rfl)) (cy := mi_c174) mi_pq174 rfl (kg174_116 hG.I hG.R x1 (tot14 z2.1 z2.2)) (by decide) ?_
            intro ig10 ag10 qg10 rg10 kg10 hg10
            have hGg10 := kG_call hG kg10 (by decide +kernel)
            obtain ⟨hg10, og10⟩ := hg10
            refine ft_go mi_k175 1 59 [(4, .int vg7), (0, .ref 116), (1, .int x1), (2, .int x2), (3, .int x3)] [.ref 116] ig10 ag10 qg10 rg10 (by rfl) ?_
            refine ko_callN mi_k175.1 (pc := 59) (ls := [(4, .int vg7), (0, .ref 116), (1, .int x1), (2, .int x2), (3, .int x3)]) (st := [.ref 116]) (h := ks ig10 ag10 qg10 rg10) (i := (.invokevirtual 267, 3, 171, 0, 9, 0, 412)) (mi_k175.2 _ _ (by rfl)) (ft_invS mi_pq171 (by rfl)) (cy := mi_c171) mi_pq171 rfl (kg171_116 hGg10.I hGg10.R ) (by decide) ?_
            intro ig12 ag12 qg12 rg12 kg12 hg12
            have hGg12 := kG_call hGg10 kg12 (by decide +kernel)
            obtain ⟨hg12, og12⟩ := hg12
            have tG13 : gT ig12 ag12 = gR i a := (gT_R (og12.2.1.trans (kg10.fa 118 rfl)) ((kg12.fi 7464 rfl).trans (kg10.fi 7464 rfl)) ((kg12.fi 7465 rfl).trans (kg10.fi 7465 rfl)) ((kg12.fi 7466 rfl).trans (kg10.fi 7466 rfl)) og12.2.2.1 og12.2.2.2)
            have q14 : ag12 139 = ag10 118 := og12.1
            have q15 : ag12 118 = ag10 118 := og12.2.1
            have q16 : ig12 7467 = 0 := og12.2.2.1
            have q17 : ag12 141 = List.replicate 64 0 := og12.2.2.2
            refine ft_go mi_k175 1 63 [(4, .int vg7), (0, .ref 116), (1, .int x1), (2, .int x2), (3, .int x3)] [.ref 116] ig12 ag12 qg12 rg12 (by rfl) ?_
            refine ko_callN mi_k175.1 (pc := 63) (ls := [(4, .int vg7), (0, .ref 116), (1, .int x1), (2, .int x2), (3, .int x3)]) (st := [.ref 116]) (h := ks ig12 ag12 qg12 rg12) (i := (.invokevirtual 270, 3, 170, 0, 9, 0, 414)) (mi_k175.2 _ _ (by rfl)) (ft_invS mi_pq170 (by rfl)) (cy := mi_c170) mi_pq170 rfl (kg170_116 hGg12.I hGg12.R (kCode_of (i1 := ig12) hE_code (hGg12.fi 7432 rfl) (hGg12.fa 120 rfl) (hGg12.fa 121 rfl) (hGg12.fa 122 rfl) (hGg12.fa 123 rfl))) (by decide) ?_
            intro ig18 ag18 qg18 rg18 kg18 hg18
            have hGg18 := kG_call hGg12 kg18 (by decide +kernel)
            obtain ⟨hg18, og18⟩ := hg18
            have oG19 := og18
            rw [(gKn_fr hGg12 (by decide +kernel) : gKn ig12 ag12 = gKn i a), (tG13 : gT ig12 ag12 = gR i a)] at oG19
            rw [((kg12.fa 142 rfl) : ag12 142 = ag10 142), ((kg12.fi 7469 rfl) : ig12 7469 = ig10 7469)] at oG19
            have tG20 : gT ig18 ag18 = gAt (gKn i a) (ag10 142) (gR i a) (ig10 7469).toInt.toNat := oG19.1
            refine ft_go mi_k175 1 67 [(4, .int vg7), (0, .ref 116), (1, .int x1), (2, .int x2), (3, .int x3)] [.int x3] ig18 ag18 qg18 rg18 (by rfl) ?_
            refine ft_if mi_k175 (x3 != 0) 77 70 [(4, .int vg7), (0, .ref 116), (1, .int x1), (2, .int x2), (3, .int x3)] [] (by rfl) (fun c => ?_) (fun c => ?_)
            ·
              have c21 : x3.toInt ≠ (0 : Int32).toInt := kd_ne c; clear c
              refine ft_go mi_k175 2 79 [(4, .int vg7), (0, .ref 116), (1, .int x1), (2, .int x2), (3, .int x3)] [.int 1, .int x3] ig18 ag18 qg18 rg18 (by rfl) ?_
              refine ft_if mi_k175 (x3 != 1) 89 82 [(4, .int vg7), (0, .ref 116), (1, .int x1), (2, .int x2), (3, .int x3)] [] (by rfl) (fun c => ?_) (fun c => ?_)
              ·
                have c22 : x3.toInt ≠ (1 : Int32).toInt := kd_ne c; clear c
                refine ft_go mi_k175 2 91 [(4, .int vg7), (0, .ref 116), (1, .int x1), (2, .int x2), (3, .int x3)] [.int 2, .int x3] ig18 ag18 qg18 rg18 (by rfl) ?_
                refine ft_if mi_k175 (x3 != 2) 104 94 [(4, .int vg7), (0, .ref 116), (1, .int x1), (2, .int x2), (3, .int x3)] [] (by rfl) (fun c => ?_) (fun c => ?_)
                ·
                  have c23 : x3.toInt ≠ (2 : Int32).toInt := kd_ne c; clear c
                  exact (tot94 c21 c22 c23 c5 z4.1 z4.2 ktot0 ktot1 ktot2 ktot3).elim
                ·
                  have c24 : x3.toInt = (2 : Int32).toInt := kd_neF c; clear c
                  refine ft_go mi_k175 3 100 [(4, .int vg7), (0, .ref 116), (1, .int x1), (2, .int x2), (3, .int x3)] [.int 18, .ref 118] ig18 ag18 qg18 rg18 (by rfl) ?_
                  refine ko_iald3 mi_k175.1 (n := 31) (c := 31) (ax := (0, 0, 0, 0, 0)) (mi_k175.2 _ _ (by rfl)) (by rfl) (ksG118 _ _ _ _) (hGg18.I.2.1 118) rfl (tot95 ktot18) (tot96 ktot18) ?_
                  have r25 : ((0 : Int) ≤ ((ag18 118).getD (18 : Int32).toNatClampNeg 0).toInt) ∧ (((ag18 118).getD (18 : Int32).toNatClampNeg 0).toInt ≤ 5) := kE_n18 (p := 118) hGg18.I (by decide)
                  refine ft_go mi_k175 6 118 [(5, .int ((ag18 118).getD (18 : Int32).toNatClampNeg 0)), (4, .int vg7), (0, .ref 116), (1, .int x1), (2, .int x2), (3, .int x3)] [.int 0, .ref 139, .ref 116] ig18 ag18 qg18 rg18 (by rfl) ?_
                  refine ko_callN mi_k175.1 (pc := 118) (ls := [(5, .int ((ag18 118).getD (18 : Int32).toNatClampNeg 0)), (4, .int vg7), (0, .ref 116), (1, .int x1), (2, .int x2), (3, .int x3)]) (st := [.int 0, .ref 139, .ref 116]) (h := ks ig18 ag18 qg18 rg18) (i := (.invokevirtual 273, 3, 169, 0, 9, 0, 423)) (mi_k175.2 _ _ (by rfl)) (ft_invS mi_pq169 (by rfl)) (cy := mi_c169) mi_pq169 rfl (ke169_116_139 hGg18.I hGg18.R 0 (tot78 ktot0)) (by decide) ?_
                  intro ig26 ag26 qg26 rg26 kg26 hg26
                  have hGg26 := kG_call hGg18 kg26 (by decide +kernel)
                  obtain ⟨hg26, og26⟩ := hg26
                  have q27 : ag26 118 = ag18 139 := og26
                  refine ft_go mi_k175 1 123 [(5, .int ((ag18 118).getD (18 : Int32).toNatClampNeg 0)), (4, .int vg7), (0, .ref 116), (1, .int x1), (2, .int x2), (3, .int x3)] [.int ((ag18 118).getD (18 : Int32).toNatClampNeg 0)] ig26 ag26 qg26 rg26 (by rfl) ?_
                  exact ft_ret mi_k175 (by rfl) (hP ((ag18 118).getD (18 : Int32).toNatClampNeg 0) _ _ _ _ hGg26 ⟨trivial, ⟨(show ag26 118 = a 118 from (by first | rfl | (simp only [q27, kg18.fa 139 rfl, q14, kg10.fa 118 rfl, sMn, sMx]; done) | (simp only [q27, kg18.fa 139 rfl, q14, kg10.fa 118 rfl, sMn, sMx]; rfl))), (rTop_go (rok (tot99 c24 c6 z2.1 z2.2 z4.2 ktot2 ktot0 ktot3)) og7 (tot100 c9 ktot0) og10 ⟨fun h => absurd h (tot101 c24 ktot2), fun h => absurd h (tot102 c24 ktot2), fun _ => gT_18 tG20, fun h => absurd h (tot104 c24 ktot2)⟩)⟩⟩)
              ·
                have c28 : x3.toInt = (1 : Int32).toInt := kd_neF c; clear c
                refine ft_go mi_k175 8 118 [(5, .int (ig18 7467)), (4, .int vg7), (0, .ref 116), (1, .int x1), (2, .int x2), (3, .int x3)] [.int 0, .ref 139, .ref 116] ig18 ag18 qg18 rg18 (by rfl) ?_
                refine ko_callN mi_k175.1 (pc := 118) (ls := [(5, .int (ig18 7467)), (4, .int vg7), (0, .ref 116), (1, .int x1), (2, .int x2), (3, .int x3)]) (st := [.int 0, .ref 139, .ref 116]) (h := ks ig18 ag18 qg18 rg18) (i := (.invokevirtual 273, 3, 169, 0, 9, 0, 423)) (mi_k175.2 _ _ (by rfl)) (ft_invS mi_pq169 (by rfl)) (cy := mi_c169) mi_pq169 rfl (ke169_116_139 hGg18.I hGg18.R 0 (tot78 ktot0)) (by decide) ?_
                intro ig29 ag29 qg29 rg29 kg29 hg29
                have hGg29 := kG_call hGg18 kg29 (by decide +kernel)
                obtain ⟨hg29, og29⟩ := hg29
                have q30 : ag29 118 = ag18 139 := og29
                refine ft_go mi_k175 1 123 [(5, .int (ig18 7467)), (4, .int vg7), (0, .ref 116), (1, .int x1), (2, .int x2), (3, .int x3)] [.int (ig18 7467)] ig29 ag29 qg29 rg29 (by rfl) ?_
                exact ft_ret mi_k175 (by rfl) (hP (ig18 7467) _ _ _ _ hGg29 ⟨trivial, ⟨(show ag29 118 = a 118 from (by first | rfl | (simp only [q30, kg18.fa 139 rfl, q14, kg10.fa 118 rfl, sMn, sMx]; done) | (simp only [q30, kg18.fa 139 rfl, q14, kg10.fa 118 rfl, sMn, sMx]; rfl))), (rTop_go (rok (tot105 c28 c6 z2.1 z2.2 z4.2 ktot1 ktot0 ktot3)) og7 (tot100 c9 ktot0) og10 ⟨fun h => absurd h (tot106 c28 ktot1), fun _ => gT_la tG20, fun h => absurd h (tot108 c28 ktot1), fun h => absurd h (tot109 c28 ktot1)⟩)⟩⟩)
            ·
              have c31 : x3.toInt = (0 : Int32).toInt := kd_neF c; clear c
              have efig12_7469 : (ig12 7469).toInt = (ig10 7469).toInt := kg12.ti 7469 rfl
              have efig18_7469 : (ig18 7469).toInt = (ig12 7469).toInt := kg18.ti 7469 rfl
              refine ft_go mi_k175 8 118 [(5, .int (ig18 7469)), (4, .int vg7), (0, .ref 116), (1, .int x1), (2, .int x2), (3, .int x3)] [.int 0, .ref 139, .ref 116] ig18 ag18 qg18 rg18 (by rfl) ?_
              refine ko_callN mi_k175.1 (pc := 118) (ls := [(5, .int (ig18 7469)), (4, .int vg7), (0, .ref 116), (1, .int x1), (2, .int x2), (3, .int x3)]) (st := [.int 0, .ref 139, .ref 116]) (h := ks ig18 ag18 qg18 rg18) (i := (.invokevirtual 273, 3, 169, 0, 9, 0, 423)) (mi_k175.2 _ _ (by rfl)) (ft_invS mi_pq169 (by rfl)) (cy := mi_c169) mi_pq169 rfl (ke169_116_139 hGg18.I hGg18.R 0 (tot78 ktot0)) (by decide) ?_
              intro ig32 ag32 qg32 rg32 kg32 hg32
              have hGg32 := kG_call hGg18 kg32 (by decide +kernel)
              obtain ⟨hg32, og32⟩ := hg32
              have q33 : ag32 118 = ag18 139 := og32
              refine ft_go mi_k175 1 123 [(5, .int (ig18 7469)), (4, .int vg7), (0, .ref 116), (1, .int x1), (2, .int x2), (3, .int x3)] [.int (ig18 7469)] ig32 ag32 qg32 rg32 (by rfl) ?_
              exact ft_ret mi_k175 (by rfl) (hP (ig18 7469) _ _ _ _ hGg32 ⟨trivial, ⟨(show ag32 118 = a 118 from (by first | rfl | (simp only [q33, kg18.fa 139 rfl, q14, kg10.fa 118 rfl, sMn, sMx]; done) | (simp only [q33, kg18.fa 139 rfl, q14, kg10.fa 118 rfl, sMn, sMx]; rfl))), (rTop_go (rok (tot110 c31 c6 z2.1 z2.2 z4.1 z4.2 ktot0 ktot3)) og7 (tot100 c9 ktot0) og10 ⟨fun _ => (tot90 efig12_7469 efig18_7469), fun h => absurd h (tot112 c31 ktot0), fun h => absurd h (tot113 c31 ktot0), fun h => absurd h (tot114 c31 ktot0)⟩)⟩⟩)
          ·
            have c34 : vg7.toInt < (0 : Int32).toInt := kd_leF c; clear c
            refine ft_go mi_k175 1 52 [(4, .int vg7), (0, .ref 116), (1, .int x1), (2, .int x2), (3, .int x3)] [.int vg7] i a q r (by rfl) ?_
            exact ft_ret mi_k175 (by rfl) (hP vg7 _ _ _ _ hG ⟨trivial, ⟨(show a 118 = a 118 from rfl), (rTop_bar (rok (tot115 c5 c6 z2.1 z2.2 z4.1 z4.2 ktot3 ktot0)) og7 (tot116 c34 ktot0))⟩⟩)
        ·
          have c35 : x2.toInt ≠ (0 : Int32).toInt := kd_eqF c; clear c
          refine ft_go mi_k175 1 37 [(0, .ref 116), (1, .int x1), (2, .int x2), (3, .int x3)] [.int (-1)] i a q r (by rfl) ?_
          exact ft_ret mi_k175 (by rfl) (hP (-1) _ _ _ _ hG ⟨trivial, ⟨(show a 118 = a 118 from rfl), (Or.inl ⟨(tot117 c35 c5 z4.2 ktot0 ktot3), rfl⟩)⟩⟩)
      ·
        have c36 : x3.toInt = (3 : Int32).toInt := kd_neF c; clear c
        refine ft_go mi_k175 2 23 [(0, .ref 116), (1, .int x1), (2, .int x2), (3, .int x3)] [.int x2, .ref 116] i a q r (by rfl) ?_
        refine ko_callPI mi_k175.1 (pc := 23) (ls := [(0, .ref 116), (1, .int x1), (2, .int x2), (3, .int x3)]) (st := [.int x2, .ref 116]) (h := ks i a q r) (i := (.invokevirtual 137, 3, 132, 0, 9, 0, 387)) (mi_k175.2 _ _ (by rfl)) (ft_invS mi_pq132 (by rfl)) (cy := mi_c132) mi_pq132 rfl (kc132_116 hG.I hG.R x2) (by decide) ?_
        intro vg37 hg37
        rcases hg37 with ⟨eg37, hg37⟩ | ⟨eg37, hg37⟩
        ·
          subst eg37
          have fi_7424 : ((0 : Int) ≤ (i 7424).toInt) ∧ ((i 7424).toInt ≤ 8) := hG.I.1 7424
          have z38 : ((0 : Int) ≤ x2.toInt) ∧ (x2.toInt < (i 7424).toInt) := hg37
          refine ft_go mi_k175 4 40 [(0, .ref 116), (1, .int x1), (2, .int x2), (3, .int x3)] [.int x1, .ref 116] i a q r (by rfl) ?_
          refine ko_callPI mi_k175.1 (pc := 40) (ls := [(0, .ref 116), (1, .int x1), (2, .int x2), (3, .int x3)]) (st := [.int x1, .ref 116]) (h := ks i a q r) (i := (.invokevirtual 276, 3, 173, 0, 9, 0, 410)) (mi_k175.2 _ _ (by rfl)) (ft_invS mi_pq173 (by rfl)) (cy := mi_c173) mi_pq173 rfl (kg173_116 hG.I hG.R x1 (tot14 z2.1 z2.2)) (by decide) ?_
          intro vg39 hg39
          obtain ⟨hg39, og39⟩ := hg39
          refine ft_go mi_k175 2 47 [(4, .int vg39), (0, .ref 116), (1, .int x1), (2, .int x2), (3, .int x3)] [.int vg39] i a q r (by rfl) ?_
          refine ft_if mi_k175 (decide (0 ≤ vg39)) 53 50 [(4, .int vg39), (0, .ref 116), (1, .int x1), (2, .int x2), (3, .int x3)] [] (by rfl) (fun c => ?_) (fun c => ?_)
          ·
            have c41 : (0 : Int32).toInt ≤ vg39.toInt := kd_le c; clear c
            refine ft_go mi_k175 2 55 [(4, .int vg39), (0, .ref 116), (1, .int x1), (2, .int x2), (3, .int x3)] [.int x1, .ref 116] i a q r (by rfl) ?_
            refine ko_callN mi_k175.1 (pc := 55) (ls := [(4, .int vg39), (0, .ref 116), (1, .int x1), (2, .int x2), (3, .int x3)]) (st := [.int x1, .ref 116]) (h := ks i a q r) (i := (.invokevirtual 279, 3, 174, 0, 9, 0, 411)) (mi_k175.2 _ _ (by rfl)) (ft_invS mi_pq174 (by rfl)) (cy := mi_c174) mi_pq174 rfl (kg174_116 hG.I hG.R x1 (tot14 z2.1 z2.2)) (by decide) ?_
            intro ig42 ag42 qg42 rg42 kg42 hg42
            have hGg42 := kG_call hG kg42 (by decide +kernel)
            obtain ⟨hg42, og42⟩ := hg42
            refine ft_go mi_k175 1 59 [(4, .int vg39), (0, .ref 116), (1, .int x1), (2, .int x2), (3, .int x3)] [.ref 116] ig42 ag42 qg42 rg42 (by rfl) ?_
            refine ko_callN mi_k175.1 (pc := 59) (ls := [(4, .int vg39), (0, .ref 116), (1, .int x1), (2, .int x2), (3, .int x3)]) (st := [.ref 116]) (h := ks ig42 ag42 qg42 rg42) (i := (.invokevirtual 267, 3, 171, 0, 9, 0, 412)) (mi_k175.2 _ _ (by rfl)) (ft_invS mi_pq171 (by rfl)) (cy := mi_c171) mi_pq171 rfl (kg171_116 hGg42.I hGg42.R ) (by decide) ?_
            intro ig44 ag44 qg44 rg44 kg44 hg44
            have hGg44 := kG_call hGg42 kg44 (by decide +kernel)
            obtain ⟨hg44, og44⟩ := hg44
            have tG45 : gT ig44 ag44 = gR i a := (gT_R (og44.2.1.trans (kg42.fa 118 rfl)) ((kg44.fi 7464 rfl).trans (kg42.fi 7464 rfl)) ((kg44.fi 7465 rfl).trans (kg42.fi 7465 rfl)) ((kg44.fi 7466 rfl).trans (kg42.fi 7466 rfl)) og44.2.2.1 og44.2.2.2)
            have q46 : ag44 139 = ag42 118 := og44.1
            have q47 : ag44 118 = ag42 118 := og44.2.1
            have q48 : ig44 7467 = 0 := og44.2.2.1
            have q49 : ag44 141 = List.replicate 64 0 := og44.2.2.2
            refine ft_go mi_k175 1 63 [(4, .int vg39), (0, .ref 116), (1, .int x1), (2, .int x2), (3, .int x3)] [.ref 116] ig44 ag44 qg44 rg44 (by rfl) ?_
            refine ko_callN mi_k175.1 (pc := 63) (ls := [(4, .int vg39), (0, .ref 116), (1, .int x1), (2, .int x2), (3, .int x3)]) (st := [.ref 116]) (h := ks ig44 ag44 qg44 rg44) (i := (.invokevirtual 270, 3, 170, 0, 9, 0, 414)) (mi_k175.2 _ _ (by rfl)) (ft_invS mi_pq170 (by rfl)) (cy := mi_c170) mi_pq170 rfl (kg170_116 hGg44.I hGg44.R (kCode_of (i1 := ig44) hE_code (hGg44.fi 7432 rfl) (hGg44.fa 120 rfl) (hGg44.fa 121 rfl) (hGg44.fa 122 rfl) (hGg44.fa 123 rfl))) (by decide) ?_
            intro ig50 ag50 qg50 rg50 kg50 hg50
            have hGg50 := kG_call hGg44 kg50 (by decide +kernel)
            obtain ⟨hg50, og50⟩ := hg50
            have oG51 := og50
            rw [(gKn_fr hGg44 (by decide +kernel) : gKn ig44 ag44 = gKn i a), (tG45 : gT ig44 ag44 = gR i a)] at oG51
            rw [((kg44.fa 142 rfl) : ag44 142 = ag42 142), ((kg44.fi 7469 rfl) : ig44 7469 = ig42 7469)] at oG51
            have tG52 : gT ig50 ag50 = gAt (gKn i a) (ag42 142) (gR i a) (ig42 7469).toInt.toNat := oG51.1
            refine ft_go mi_k175 1 67 [(4, .int vg39), (0, .ref 116), (1, .int x1), (2, .int x2), (3, .int x3)] [.int x3] ig50 ag50 qg50 rg50 (by rfl) ?_
            refine ft_if mi_k175 (x3 != 0) 77 70 [(4, .int vg39), (0, .ref 116), (1, .int x1), (2, .int x2), (3, .int x3)] [] (by rfl) (fun c => ?_) (fun c => ?_)
            ·
              have c53 : x3.toInt ≠ (0 : Int32).toInt := kd_ne c; clear c
              refine ft_go mi_k175 2 79 [(4, .int vg39), (0, .ref 116), (1, .int x1), (2, .int x2), (3, .int x3)] [.int 1, .int x3] ig50 ag50 qg50 rg50 (by rfl) ?_
              refine ft_if mi_k175 (x3 != 1) 89 82 [(4, .int vg39), (0, .ref 116), (1, .int x1), (2, .int x2), (3, .int x3)] [] (by rfl) (fun c => ?_) (fun c => ?_)
              ·
                have c54 : x3.toInt ≠ (1 : Int32).toInt := kd_ne c; clear c
                refine ft_go mi_k175 2 91 [(4, .int vg39), (0, .ref 116), (1, .int x1), (2, .int x2), (3, .int x3)] [.int 2, .int x3] ig50 ag50 qg50 rg50 (by rfl) ?_
                refine ft_if mi_k175 (x3 != 2) 104 94 [(4, .int vg39), (0, .ref 116), (1, .int x1), (2, .int x2), (3, .int x3)] [] (by rfl) (fun c => ?_) (fun c => ?_)
                ·
                  have c55 : x3.toInt ≠ (2 : Int32).toInt := kd_ne c; clear c
                  refine ft_go mi_k175 3 109 [(4, .int vg39), (0, .ref 116), (1, .int x1), (2, .int x2), (3, .int x3)] [.int x2, .ref 118] ig50 ag50 qg50 rg50 (by rfl) ?_
                  refine ko_iald3 mi_k175.1 (n := 31) (c := 31) (ax := (0, 0, 0, 0, 0)) (mi_k175.2 _ _ (by rfl)) (by rfl) (ksG118 _ _ _ _) (hGg50.I.2.1 118) rfl (tot5 z38.1) (tot118 fi_7424.2 z38.2) ?_
                  have r56 : ((x2.toInt = 18 → (0 : Int) ≤ ((ag50 118).getD x2.toNatClampNeg 0).toInt ∧ ((ag50 118).getD x2.toNatClampNeg 0).toInt ≤ 5)) ∧ ((19 ≤ x2.toInt → x2.toInt ≤ 24 → (0 : Int) ≤ ((ag50 118).getD x2.toNatClampNeg 0).toInt ∧ ((ag50 118).getD x2.toNatClampNeg 0).toInt ≤ 7)) := kE_ncond (p := 118) hGg50.I (by decide) (j := x2) (tot5 z38.1)
                  refine ft_go mi_k175 5 118 [(5, .int ((ag50 118).getD x2.toNatClampNeg 0)), (4, .int vg39), (0, .ref 116), (1, .int x1), (2, .int x2), (3, .int x3)] [.int 0, .ref 139, .ref 116] ig50 ag50 qg50 rg50 (by rfl) ?_
                  refine ko_callN mi_k175.1 (pc := 118) (ls := [(5, .int ((ag50 118).getD x2.toNatClampNeg 0)), (4, .int vg39), (0, .ref 116), (1, .int x1), (2, .int x2), (3, .int x3)]) (st := [.int 0, .ref 139, .ref 116]) (h := ks ig50 ag50 qg50 rg50) (i := (.invokevirtual 273, 3, 169, 0, 9, 0, 423)) (mi_k175.2 _ _ (by rfl)) (ft_invS mi_pq169 (by rfl)) (cy := mi_c169) mi_pq169 rfl (ke169_116_139 hGg50.I hGg50.R 0 (tot78 ktot0)) (by decide) ?_
                  intro ig57 ag57 qg57 rg57 kg57 hg57
                  have hGg57 := kG_call hGg50 kg57 (by decide +kernel)
                  obtain ⟨hg57, og57⟩ := hg57
                  have q58 : ag57 118 = ag50 139 := og57
                  refine ft_go mi_k175 1 123 [(5, .int ((ag50 118).getD x2.toNatClampNeg 0)), (4, .int vg39), (0, .ref 116), (1, .int x1), (2, .int x2), (3, .int x3)] [.int ((ag50 118).getD x2.toNatClampNeg 0)] ig57 ag57 qg57 rg57 (by rfl) ?_
                  exact ft_ret mi_k175 (by rfl) (hP ((ag50 118).getD x2.toNatClampNeg 0) _ _ _ _ hGg57 ⟨trivial, ⟨(show ag57 118 = a 118 from (by first | rfl | (simp only [q58, kg50.fa 139 rfl, q46, kg42.fa 118 rfl, sMn, sMx]; done) | (simp only [q58, kg50.fa 139 rfl, q46, kg42.fa 118 rfl, sMn, sMx]; rfl))), (rTop_go (rok (tot119 c36 z2.1 z2.2 z38.1 z38.2 z4.2 ktot3)) og39 (tot100 c41 ktot0) og42 ⟨fun h => absurd h (tot120 c36 ktot3), fun h => absurd h (tot121 c36 ktot3), fun h => absurd h (tot122 c36 ktot3), fun _ => gT_pu tG52⟩)⟩⟩)
                ·
                  have c59 : x3.toInt = (2 : Int32).toInt := kd_neF c; clear c
                  exact (tot124 c36 c59 ktot3 ktot2).elim
              ·
                have c60 : x3.toInt = (1 : Int32).toInt := kd_neF c; clear c
                exact (tot125 c36 c60 ktot3 ktot1).elim
            ·
              have c61 : x3.toInt = (0 : Int32).toInt := kd_neF c; clear c
              exact (tot126 c36 c61 ktot3 ktot0).elim
          ·
            have c62 : vg39.toInt < (0 : Int32).toInt := kd_leF c; clear c
            refine ft_go mi_k175 1 52 [(4, .int vg39), (0, .ref 116), (1, .int x1), (2, .int x2), (3, .int x3)] [.int vg39] i a q r (by rfl) ?_
            exact ft_ret mi_k175 (by rfl) (hP vg39 _ _ _ _ hG ⟨trivial, ⟨(show a 118 = a 118 from rfl), (rTop_bar (rok (tot119 c36 z2.1 z2.2 z38.1 z38.2 z4.2 ktot3)) og39 (tot116 c62 ktot0))⟩⟩)
        ·
          subst eg37
          have z63 : ¬ (((0 : Int) ≤ x2.toInt) ∧ (x2.toInt < (i 7424).toInt)) := hg37
          refine ft_go mi_k175 2 37 [(0, .ref 116), (1, .int x1), (2, .int x2), (3, .int x3)] [.int (-1)] i a q r (by rfl) ?_
          exact ft_ret mi_k175 (by rfl) (hP (-1) _ _ _ _ hG ⟨trivial, ⟨(show a 118 = a 118 from rfl), (Or.inl ⟨(tot127 c36 z4.2 z63 ktot3), rfl⟩)⟩⟩)
    ·
      subst eg3
      have z64 : ¬ (((0 : Int32).toInt ≤ x3.toInt) ∧ (x3.toInt ≤ (3 : Int32).toInt)) := hg3
      refine ft_go mi_k175 2 37 [(0, .ref 116), (1, .int x1), (2, .int x2), (3, .int x3)] [.int (-1)] i a q r (by rfl) ?_
      exact ft_ret mi_k175 (by rfl) (hP (-1) _ _ _ _ hG ⟨trivial, ⟨(show a 118 = a 118 from rfl), (Or.inl ⟨(tot128 z64 ktot0 ktot3), rfl⟩)⟩⟩)
  ·
    subst eg1
    have z65 : ¬ (((0 : Int) ≤ x1.toInt) ∧ (x1.toInt ≤ 5)) := hg1
    refine ft_go mi_k175 2 37 [(0, .ref 116), (1, .int x1), (2, .int x2), (3, .int x3)] [.int (-1)] i a q r (by rfl) ?_
    exact ft_ret mi_k175 (by rfl) (hP (-1) _ _ _ _ hG ⟨trivial, ⟨(show a 118 = a 118 from rfl), (Or.inl ⟨(tot129 z65), rfl⟩)⟩⟩)
def yzw176_116 : kW := ([7464, 7465, 7466, 7467, 7469], [118, 128, 129, 139, 141, 142, 143, 144, 145], [], [])
set_option maxRecDepth 100000 in
theorem kz176_116 {i : Nat → Int32} {a : Nat → List Int32} {q : Nat → List Int64} {r : Nat → Nat} (hI : kI i a q) (hr : kr r) (x1 : Int32) (x2 : Int32) (x3 : Int32) (hE_code : kCode i a) : km 13 176 [.ref 116, .int x1, .int x2, .int x3] (ks i a q r) (kVI yzw176_116 i a q r (fun v i1 a1 q1 r1 => (True) ∧ (a1 118 = a 118 ∧ rTop (((0 : Int) ≤ x2.toInt) ∧ ((0 : Int) ≤ x3.toInt) ∧ (x3.toInt ≤ 2)) i a q x1 v (fun n L => fCo (gKn i a) (gR i a) x2 x3 v n L)))) := by
  have hG := kG_self yzw176_116 hI hr
  refine km_ofI (q := (mi_h176, mi_c176)) rfl (by decide) (Nat.le_of_ble_eq_true rfl) ?_
  intro P hP
  refine ft_go mi_k176 1 1 [(0, .ref 116), (1, .int x1), (2, .int x2), (3, .int x3)] [.int x1] i a q r (by rfl) ?_
  refine ko_callPI mi_k176.1 (pc := 1) (ls := [(0, .ref 116), (1, .int x1), (2, .int x2), (3, .int x3)]) (st := [.int x1]) (h := ks i a q r) (i := (.invokestatic 127, 3, 133, 0, 9, 0, 382)) (mi_k176.2 _ _ (by rfl)) (ft_invS mi_pq133 (by rfl)) (cy := mi_c133) mi_pq133 rfl (kc133 hG.I hG.R x1) (by decide) ?_
  intro vg1 hg1
  rcases hg1 with ⟨eg1, hg1⟩ | ⟨eg1, hg1⟩
  ·
    subst eg1
    have z2 : ((0 : Int) ≤ x1.toInt) ∧ (x1.toInt ≤ 5) := hg1
    refine ft_go mi_k176 2 8 [(0, .ref 116), (1, .int x1), (2, .int x2), (3, .int x3)] [.int x2] i a q r (by rfl) ?_
    refine ft_if mi_k176 (decide (x2 < 0)) 20 11 [(0, .ref 116), (1, .int x1), (2, .int x2), (3, .int x3)] [] (by rfl) (fun c => ?_) (fun c => ?_)
    ·
      have c3 : x2.toInt < (0 : Int32).toInt := kd_lt c; clear c
      refine ft_go mi_k176 1 21 [(0, .ref 116), (1, .int x1), (2, .int x2), (3, .int x3)] [.int (-1)] i a q r (by rfl) ?_
      exact ft_ret mi_k176 (by rfl) (hP (-1) _ _ _ _ hG ⟨trivial, ⟨(show a 118 = a 118 from rfl), (Or.inl ⟨(tot130 c3 ktot0), rfl⟩)⟩⟩)
    ·
      have c4 : (0 : Int32).toInt ≤ x2.toInt := kd_ltF c; clear c
      refine ft_go mi_k176 3 14 [(0, .ref 116), (1, .int x1), (2, .int x2), (3, .int x3)] [.int 2, .int 0, .int x3] i a q r (by rfl) ?_
      refine ko_callPI mi_k176.1 (pc := 14) (ls := [(0, .ref 116), (1, .int x1), (2, .int x2), (3, .int x3)]) (st := [.int 2, .int 0, .int x3]) (h := ks i a q r) (i := (.invokestatic 119, 3, 131, 0, 9, 0, 379)) (mi_k176.2 _ _ (by rfl)) (ft_invS mi_pq131 (by rfl)) (cy := mi_c131) mi_pq131 rfl (kc131 hG.I hG.R x3 0 2) (by decide) ?_
      intro vg5 hg5
      rcases hg5 with ⟨eg5, hg5⟩ | ⟨eg5, hg5⟩
      ·
        subst eg5
        have z6 : ((0 : Int32).toInt ≤ x3.toInt) ∧ (x3.toInt ≤ (2 : Int32).toInt) := hg5
        refine ft_go mi_k176 3 24 [(0, .ref 116), (1, .int x1), (2, .int x2), (3, .int x3)] [.int x1, .ref 116] i a q r (by rfl) ?_
        refine ko_callPI mi_k176.1 (pc := 24) (ls := [(0, .ref 116), (1, .int x1), (2, .int x2), (3, .int x3)]) (st := [.int x1, .ref 116]) (h := ks i a q r) (i := (.invokevirtual 276, 3, 173, 0, 9, 0, 410)) (mi_k176.2 _ _ (by rfl)) (ft_invS mi_pq173 (by rfl)) (cy := mi_c173) mi_pq173 rfl (kg173_116 hG.I hG.R x1 (tot14 z2.1 z2.2)) (by decide) ?_
        intro vg7 hg7
        obtain ⟨hg7, og7⟩ := hg7
        refine ft_go mi_k176 2 31 [(4, .int vg7), (0, .ref 116), (1, .int x1), (2, .int x2), (3, .int x3)] [.int vg7] i a q r (by rfl) ?_
        refine ft_if mi_k176 (decide (0 ≤ vg7)) 37 34 [(4, .int vg7), (0, .ref 116), (1, .int x1), (2, .int x2), (3, .int x3)] [] (by rfl) (fun c => ?_) (fun c => ?_)
        ·
          have c9 : (0 : Int32).toInt ≤ vg7.toInt := kd_le c; clear c
          refine ft_go mi_k176 2 39 [(4, .int vg7), (0, .ref 116), (1, .int x1), (2, .int x2), (3, .int x3)] [.int x1, .ref 116] i a q r (by rfl) ?_
          refine ko_callN mi_k176.1 (pc := 39) (ls := [(4, .int vg7), (0, .ref 116), (1, .int x1), (2, .int x2), (3, .int x3)]) (st := [.int x1, .ref 116]) (h := ks i a q r) (i := (.invokevirtual 279, 3, 174, 0, 9, 0, 411)) (mi_k176.2 _ _ (by rfl)) (ft_invS mi_pq174 (by rfl)) (cy := mi_c174) mi_pq174 rfl (kg174_116 hG.I hG.R x1 (tot14 z2.1 z2.2)) (by decide) ?_
          intro ig10 ag10 qg10 rg10 kg10 hg10
          have hGg10 := kG_call hG kg10 (by decide +kernel)
          obtain ⟨hg10, og10⟩ := hg10
          have fig10_7469 : ((0 : Int) ≤ (ig10 7469).toInt) ∧ ((ig10 7469).toInt ≤ 21) := hGg10.I.1 7469
          refine ft_go mi_k176 3 47 [(4, .int vg7), (0, .ref 116), (1, .int x1), (2, .int x2), (3, .int x3)] [.int (ig10 7469), .int x2] ig10 ag10 qg10 rg10 (by rfl) ?_
          refine ft_if mi_k176 (decide (x2 < (ig10 7469))) 53 50 [(4, .int vg7), (0, .ref 116), (1, .int x1), (2, .int x2), (3, .int x3)] [] (by rfl) (fun c => ?_) (fun c => ?_)
          ·
            have c12 : x2.toInt < (ig10 7469).toInt := kd_lt c; clear c
            refine ft_go mi_k176 1 54 [(4, .int vg7), (0, .ref 116), (1, .int x1), (2, .int x2), (3, .int x3)] [.ref 116] ig10 ag10 qg10 rg10 (by rfl) ?_
            refine ko_callN mi_k176.1 (pc := 54) (ls := [(4, .int vg7), (0, .ref 116), (1, .int x1), (2, .int x2), (3, .int x3)]) (st := [.ref 116]) (h := ks ig10 ag10 qg10 rg10) (i := (.invokevirtual 267, 3, 171, 0, 9, 0, 412)) (mi_k176.2 _ _ (by rfl)) (ft_invS mi_pq171 (by rfl)) (cy := mi_c171) mi_pq171 rfl (kg171_116 hGg10.I hGg10.R ) (by decide) ?_
            intro ig13 ag13 qg13 rg13 kg13 hg13
            have hGg13 := kG_call hGg10 kg13 (by decide +kernel)
            obtain ⟨hg13, og13⟩ := hg13
            have tG14 : gT ig13 ag13 = gR i a := (gT_R (og13.2.1.trans (kg10.fa 118 rfl)) ((kg13.fi 7464 rfl).trans (kg10.fi 7464 rfl)) ((kg13.fi 7465 rfl).trans (kg10.fi 7465 rfl)) ((kg13.fi 7466 rfl).trans (kg10.fi 7466 rfl)) og13.2.2.1 og13.2.2.2)
            have q15 : ag13 139 = ag10 118 := og13.1
            have q16 : ag13 118 = ag10 118 := og13.2.1
            have q17 : ig13 7467 = 0 := og13.2.2.1
            have q18 : ag13 141 = List.replicate 64 0 := og13.2.2.2
            refine ft_go mi_k176 1 58 [(4, .int vg7), (0, .ref 116), (1, .int x1), (2, .int x2), (3, .int x3)] [.ref 116] ig13 ag13 qg13 rg13 (by rfl) ?_
            refine ko_callN mi_k176.1 (pc := 58) (ls := [(4, .int vg7), (0, .ref 116), (1, .int x1), (2, .int x2), (3, .int x3)]) (st := [.ref 116]) (h := ks ig13 ag13 qg13 rg13) (i := (.invokevirtual 270, 3, 170, 0, 9, 0, 414)) (mi_k176.2 _ _ (by rfl)) (ft_invS mi_pq170 (by rfl)) (cy := mi_c170) mi_pq170 rfl (kg170_116 hGg13.I hGg13.R (kCode_of (i1 := ig13) hE_code (hGg13.fi 7432 rfl) (hGg13.fa 120 rfl) (hGg13.fa 121 rfl) (hGg13.fa 122 rfl) (hGg13.fa 123 rfl))) (by decide) ?_
            intro ig19 ag19 qg19 rg19 kg19 hg19
            have hGg19 := kG_call hGg13 kg19 (by decide +kernel)
            obtain ⟨hg19, og19⟩ := hg19
            have oG20 := og19
            rw [(gKn_fr hGg13 (by decide +kernel) : gKn ig13 ag13 = gKn i a), (tG14 : gT ig13 ag13 = gR i a)] at oG20
            rw [((kg13.fa 142 rfl) : ag13 142 = ag10 142), ((kg13.fi 7469 rfl) : ig13 7469 = ig10 7469)] at oG20
            have tG21 : gT ig19 ag19 = gAt (gKn i a) (ag10 142) (gR i a) (ig10 7469).toInt.toNat := oG20.1
            refine ft_go mi_k176 4 67 [(4, .int vg7), (0, .ref 116), (1, .int x1), (2, .int x2), (3, .int x3)] [.int 0, .ref 139, .ref 116] ig19 ag19 qg19 rg19 (by rfl) ?_
            refine ko_callN mi_k176.1 (pc := 67) (ls := [(4, .int vg7), (0, .ref 116), (1, .int x1), (2, .int x2), (3, .int x3)]) (st := [.int 0, .ref 139, .ref 116]) (h := ks ig19 ag19 qg19 rg19) (i := (.invokevirtual 273, 3, 169, 0, 9, 0, 423)) (mi_k176.2 _ _ (by rfl)) (ft_invS mi_pq169 (by rfl)) (cy := mi_c169) mi_pq169 rfl (ke169_116_139 hGg19.I hGg19.R 0 (tot78 ktot0)) (by decide) ?_
            intro ig22 ag22 qg22 rg22 kg22 hg22
            have hGg22 := kG_call hGg19 kg22 (by decide +kernel)
            obtain ⟨hg22, og22⟩ := hg22
            have q23 : ag22 118 = ag19 139 := og22
            refine ft_go mi_k176 1 71 [(4, .int vg7), (0, .ref 116), (1, .int x1), (2, .int x2), (3, .int x3)] [.int x3] ig22 ag22 qg22 rg22 (by rfl) ?_
            refine ft_if mi_k176 (x3 != 0) 83 74 [(4, .int vg7), (0, .ref 116), (1, .int x1), (2, .int x2), (3, .int x3)] [] (by rfl) (fun c => ?_) (fun c => ?_)
            ·
              have c24 : x3.toInt ≠ (0 : Int32).toInt := kd_ne c; clear c
              refine ft_go mi_k176 2 85 [(4, .int vg7), (0, .ref 116), (1, .int x1), (2, .int x2), (3, .int x3)] [.int 1, .int x3] ig22 ag22 qg22 rg22 (by rfl) ?_
              refine ft_if mi_k176 (x3 != 1) 97 88 [(4, .int vg7), (0, .ref 116), (1, .int x1), (2, .int x2), (3, .int x3)] [] (by rfl) (fun c => ?_) (fun c => ?_)
              ·
                have c25 : x3.toInt ≠ (1 : Int32).toInt := kd_ne c; clear c
                refine ft_go mi_k176 3 102 [(4, .int vg7), (0, .ref 116), (1, .int x1), (2, .int x2), (3, .int x3)] [.int x2, .ref 145] ig22 ag22 qg22 rg22 (by rfl) ?_
                refine ko_iald3 mi_k176.1 (n := 21) (c := 21) (ax := (0, 0, 0, 0, 0)) (mi_k176.2 _ _ (by rfl)) (by rfl) (ksG145 _ _ _ _) (hGg22.I.2.1 145) rfl (tot131 c4 ktot0) (tot132 c12 fig10_7469.2) ?_
                exact ft_ret mi_k176 (by rfl) (hP ((ag22 145).getD x2.toNatClampNeg 0) _ _ _ _ hGg22 ⟨trivial, ⟨(show ag22 118 = a 118 from (by first | rfl | (simp only [q23, kg19.fa 139 rfl, q15, kg10.fa 118 rfl, sMn, sMx]; done) | (simp only [q23, kg19.fa 139 rfl, q15, kg10.fa 118 rfl, sMn, sMx]; rfl))), (rTop_go (rok (tot133 c4 z2.1 z2.2 z6.1 z6.2 ktot0 ktot2)) og7 (tot100 c9 ktot0) og10 ⟨fun h => absurd h (tot135 c12), fun _ => ⟨fun h => absurd h (tot136 c24 z6.1 ktot0), fun h => absurd h (tot137 c24 c25 z6.1 ktot0 ktot1), fun _ => ((congrArg (fun z : List Int32 => z.getD x2.toNatClampNeg 0) ((kg22.fa 145 rfl) : ag22 145 = ag19 145)).trans (gOp_at oG20.2 (tot131 c4 ktot0) (tot134 c12)).2.2)⟩⟩)⟩⟩)
              ·
                have c26 : x3.toInt = (1 : Int32).toInt := kd_neF c; clear c
                refine ft_go mi_k176 3 93 [(4, .int vg7), (0, .ref 116), (1, .int x1), (2, .int x2), (3, .int x3)] [.int x2, .ref 144] ig22 ag22 qg22 rg22 (by rfl) ?_
                refine ko_iald3 mi_k176.1 (n := 21) (c := 21) (ax := (0, 0, 0, 0, 0)) (mi_k176.2 _ _ (by rfl)) (by rfl) (ksG144 _ _ _ _) (hGg22.I.2.1 144) rfl (tot131 c4 ktot0) (tot132 c12 fig10_7469.2) ?_
                refine ft_go mi_k176 1 103 [(4, .int vg7), (0, .ref 116), (1, .int x1), (2, .int x2), (3, .int x3)] [.int ((ag22 144).getD x2.toNatClampNeg 0)] ig22 ag22 qg22 rg22 (by rfl) ?_
                exact ft_ret mi_k176 (by rfl) (hP ((ag22 144).getD x2.toNatClampNeg 0) _ _ _ _ hGg22 ⟨trivial, ⟨(show ag22 118 = a 118 from (by first | rfl | (simp only [q23, kg19.fa 139 rfl, q15, kg10.fa 118 rfl, sMn, sMx]; done) | (simp only [q23, kg19.fa 139 rfl, q15, kg10.fa 118 rfl, sMn, sMx]; rfl))), (rTop_go (rok (tot139 c26 c4 z2.1 z2.2 z6.2 ktot1 ktot0 ktot2)) og7 (tot100 c9 ktot0) og10 ⟨fun h => absurd h (tot135 c12), fun _ => ⟨fun h => absurd h (tot106 c26 ktot1), fun _ => ((congrArg (fun z : List Int32 => z.getD x2.toNatClampNeg 0) ((kg22.fa 144 rfl) : ag22 144 = ag19 144)).trans (gOp_at oG20.2 (tot131 c4 ktot0) (tot134 c12)).2.1), fun h => absurd h (tot108 c26 ktot1)⟩⟩)⟩⟩)
            ·
              have c27 : x3.toInt = (0 : Int32).toInt := kd_neF c; clear c
              refine ft_go mi_k176 3 79 [(4, .int vg7), (0, .ref 116), (1, .int x1), (2, .int x2), (3, .int x3)] [.int x2, .ref 143] ig22 ag22 qg22 rg22 (by rfl) ?_
              refine ko_iald3 mi_k176.1 (n := 21) (c := 21) (ax := (0, 0, 0, 0, 0)) (mi_k176.2 _ _ (by rfl)) (by rfl) (ksG143 _ _ _ _) (hGg22.I.2.1 143) rfl (tot131 c4 ktot0) (tot132 c12 fig10_7469.2) ?_
              refine ft_go mi_k176 1 103 [(4, .int vg7), (0, .ref 116), (1, .int x1), (2, .int x2), (3, .int x3)] [.int ((ag22 143).getD x2.toNatClampNeg 0)] ig22 ag22 qg22 rg22 (by rfl) ?_
              exact ft_ret mi_k176 (by rfl) (hP ((ag22 143).getD x2.toNatClampNeg 0) _ _ _ _ hGg22 ⟨trivial, ⟨(show ag22 118 = a 118 from (by first | rfl | (simp only [q23, kg19.fa 139 rfl, q15, kg10.fa 118 rfl, sMn, sMx]; done) | (simp only [q23, kg19.fa 139 rfl, q15, kg10.fa 118 rfl, sMn, sMx]; rfl))), (rTop_go (rok (tot133 c4 z2.1 z2.2 z6.1 z6.2 ktot0 ktot2)) og7 (tot100 c9 ktot0) og10 ⟨fun h => absurd h (tot135 c12), fun _ => ⟨fun _ => ((congrArg (fun z : List Int32 => z.getD x2.toNatClampNeg 0) ((kg22.fa 143 rfl) : ag22 143 = ag19 143)).trans (gOp_at oG20.2 (tot131 c4 ktot0) (tot134 c12)).1), fun h => absurd h (tot112 c27 ktot0), fun h => absurd h (tot113 c27 ktot0)⟩⟩)⟩⟩)
          ·
            have c28 : (ig10 7469).toInt ≤ x2.toInt := kd_ltF c; clear c
            refine ft_go mi_k176 1 52 [(4, .int vg7), (0, .ref 116), (1, .int x1), (2, .int x2), (3, .int x3)] [.int (-2)] ig10 ag10 qg10 rg10 (by rfl) ?_
            exact ft_ret mi_k176 (by rfl) (hP (-2) _ _ _ _ hGg10 ⟨trivial, ⟨(show ag10 118 = a 118 from (by first | rfl | (simp only [kg10.fa 118 rfl, sMn, sMx]; done) | (simp only [kg10.fa 118 rfl, sMn, sMx]; rfl))), (rTop_go (rok (tot133 c4 z2.1 z2.2 z6.1 z6.2 ktot0 ktot2)) og7 (tot100 c9 ktot0) og10 ⟨fun _ => rfl, fun h => absurd h (tot140 c28)⟩)⟩⟩)
        ·
          have c29 : vg7.toInt < (0 : Int32).toInt := kd_leF c; clear c
          refine ft_go mi_k176 1 36 [(4, .int vg7), (0, .ref 116), (1, .int x1), (2, .int x2), (3, .int x3)] [.int vg7] i a q r (by rfl) ?_
          exact ft_ret mi_k176 (by rfl) (hP vg7 _ _ _ _ hG ⟨trivial, ⟨(show a 118 = a 118 from rfl), (rTop_bar (rok (tot133 c4 z2.1 z2.2 z6.1 z6.2 ktot0 ktot2)) og7 (tot116 c29 ktot0))⟩⟩)
      ·
        subst eg5
        have z30 : ¬ (((0 : Int32).toInt ≤ x3.toInt) ∧ (x3.toInt ≤ (2 : Int32).toInt)) := hg5
        refine ft_go mi_k176 2 21 [(0, .ref 116), (1, .int x1), (2, .int x2), (3, .int x3)] [.int (-1)] i a q r (by rfl) ?_
        exact ft_ret mi_k176 (by rfl) (hP (-1) _ _ _ _ hG ⟨trivial, ⟨(show a 118 = a 118 from rfl), (Or.inl ⟨(tot141 z30 ktot0 ktot2), rfl⟩)⟩⟩)
  ·
    subst eg1
    have z31 : ¬ (((0 : Int) ≤ x1.toInt) ∧ (x1.toInt ≤ 5)) := hg1
    refine ft_go mi_k176 2 21 [(0, .ref 116), (1, .int x1), (2, .int x2), (3, .int x3)] [.int (-1)] i a q r (by rfl) ?_
    exact ft_ret mi_k176 (by rfl) (hP (-1) _ _ _ _ hG ⟨trivial, ⟨(show a 118 = a 118 from rfl), (Or.inl ⟨(tot142 z31), rfl⟩)⟩⟩)
