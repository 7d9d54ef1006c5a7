theorem koqm1 : ((-1) : Int32).toInt = (-1) := by decide
theorem koq0 : (0 : Int32).toInt = 0 := by decide
theorem koq48 : (48 : Int32).toInt = 48 := by decide
theorem koq57 : (57 : Int32).toInt = 57 := by decide
theorem koq1 : (1 : Int32).toInt = 1 := by decide
theorem koq5 : (5 : Int32).toInt = 5 := by decide
theorem koq2 : (2 : Int32).toInt = 2 := by decide
theorem koq3 : (3 : Int32).toInt = 3 := by decide
theorem koq4 : (4 : Int32).toInt = 4 := by decide
theorem koq6 : (6 : Int32).toInt = 6 := by decide
theorem koq33 : (33 : Int32).toInt = 33 := by decide
theorem koq45 : (45 : Int32).toInt = 45 := by decide
theorem koq40 : (40 : Int32).toInt = 40 := by decide
theorem koq41 : (41 : Int32).toInt = 41 := by decide
theorem koq10 : (10 : Int32).toInt = 10 := by decide
theorem koq18 : (18 : Int32).toInt = 18 := by decide
theorem koq42 : (42 : Int32).toInt = 42 := by decide
theorem koq47 : (47 : Int32).toInt = 47 := by decide
theorem koq37 : (37 : Int32).toInt = 37 := by decide
theorem koq15 : (15 : Int32).toInt = 15 := by decide
theorem koq14 : (14 : Int32).toInt = 14 := by decide
theorem koq13 : (13 : Int32).toInt = 13 := by decide
theorem koq43 : (43 : Int32).toInt = 43 := by decide
theorem koq12 : (12 : Int32).toInt = 12 := by decide
theorem koq11 : (11 : Int32).toInt = 11 := by decide
theorem koq60 : (60 : Int32).toInt = 60 := by decide
theorem koq61 : (61 : Int32).toInt = 61 := by decide
theorem koq62 : (62 : Int32).toInt = 62 := by decide
theorem koq9 : (9 : Int32).toInt = 9 := by decide
theorem koq8 : (8 : Int32).toInt = 8 := by decide
theorem koq38 : (38 : Int32).toInt = 38 := by decide
theorem koq124 : (124 : Int32).toInt = 124 := by decide
theorem koq63 : (63 : Int32).toInt = 63 := by decide
theorem koqm100 : ((-100) : Int32).toInt = (-100) := by decide
theorem koq59 : (59 : Int32).toInt = 59 := by decide
theorem oq0 {a0 a1 a2 : Int} (h0 : a0 = (-1)) : (((-1) : Int) ≤ a0) ∧ (a0 ≤ 255) ∧ ((a0 = (-1)) ∨ (a1 < a2)) := by omega
theorem oq1 {a0 a1 a2 : Int} (h0 : a0 ≤ a1) (h1 : a0 = a2) : ¬ (a1 < a2) := by omega
theorem oq2 {a0 : Int} (h0 : (0 : Int) ≤ a0) : (0 : Int) ≤ a0 := oz3 h0
theorem oq3 {a0 a1 : Int} (h0 : a0 < a1) (h1 : a1 ≤ 120) : a0 < 120 := oz702 h0 h1
theorem oq4 {a0 a1 a2 : Int} (h0 : a0 < a1) (h1 : (0 : Int) ≤ a2) (h2 : a2 ≤ 255) : (((-1) : Int) ≤ a2) ∧ (a2 ≤ 255) ∧ ((a2 = (-1)) ∨ (a0 < a1)) := by omega
theorem oq5 {a0 a1 a2 : Int} (h0 : a0 < a1) (h1 : a1 = a2) : a0 < a2 := od20 h0 h1
theorem oq6 {a0 a1 a2 a3 a4 a5 : Int} (h0 : a0 < a1) (h1 : a0 = a2) (h2 : a1 = 48) (h3 : a3 = 0) : (((a3 = 1) ∧ ((48 : Int) ≤ a2) ∧ (a2 ≤ 57) ∧ (a4 < a5)) ∨ (a3 = 0)) ∧ (((a3 = 0) → (¬ (((48 : Int) ≤ a2) ∧ (a2 ≤ 57))))) := by omega
theorem oq7 {a0 a1 a2 a3 a4 a5 : Int} (h0 : a0 < a1) (h1 : a1 = a2) (h2 : a0 = 57) (h3 : a3 = 0) : (((a3 = 1) ∧ ((48 : Int) ≤ a2) ∧ (a2 ≤ 57) ∧ (a4 < a5)) ∨ (a3 = 0)) ∧ (((a3 = 0) → (¬ (((48 : Int) ≤ a2) ∧ (a2 ≤ 57))))) := by omega
theorem oq8 {a0 a1 a2 a3 a4 a5 a6 a7 : Int} (h0 : a0 ≤ a1) (h1 : a2 ≤ a3) (h2 : a0 = a4) (h3 : a3 = a4) (h4 : (a3 = (-1)) ∨ (a5 < a6)) (h5 : a1 = 57) (h6 : a2 = 48) (h7 : a7 = 1) : (((a7 = 1) ∧ ((48 : Int) ≤ a4) ∧ (a4 ≤ 57) ∧ (a5 < a6)) ∨ (a7 = 0)) ∧ (((a7 = 0) → (¬ (((48 : Int) ≤ a4) ∧ (a4 ≤ 57))))) := by omega
theorem oq9 {a0 a1 : Int} (h0 : a0 = 100) (h1 : a1 = 5) : (((-1) : Int) ≤ a1) ∧ (a1 ≤ 5) ∧ ((a1 = (-1)) ∨ ((100 : Int) ≤ a0)) := oz730 h0 h1
theorem oq10 {a0 a1 : Int} (h0 : a0 = 100) (h1 : a1 = 5) : (a0 = 119 ∧ a1 = 0) ∨ (a0 = 112 ∧ a1 = 1) ∨ (a0 = 104 ∧ a1 = 2) ∨ (a0 = 110 ∧ a1 = 3) ∨ (a0 = 111 ∧ a1 = 4) ∨ (a0 = 100 ∧ a1 = 5) ∨ (a0 ≠ 119 ∧ a0 ≠ 112 ∧ a0 ≠ 104 ∧ a0 ≠ 110 ∧ a0 ≠ 111 ∧ a0 ≠ 100 ∧ a1 = -1) := by omega
theorem oq11 {a0 a1 : Int} (h0 : a0 = (-1)) : (((-1) : Int) ≤ a0) ∧ (a0 ≤ 5) ∧ ((a0 = (-1)) ∨ ((100 : Int) ≤ a1)) := oz731 h0
theorem oq12 {a0 : Int} (h0 : a0 = 101) : a0 ≠ 119 := by omega
theorem oq13 {a0 : Int} (h0 : a0 = 101) : a0 ≠ 112 := by omega
theorem oq14 {a0 : Int} (h0 : a0 = 101) : a0 ≠ 104 := by omega
theorem oq15 {a0 : Int} (h0 : a0 = 101) : a0 ≠ 110 := by omega
theorem oq16 {a0 : Int} (h0 : a0 = 101) : a0 ≠ 111 := by omega
theorem oq17 {a0 : Int} (h0 : a0 = 101) : a0 ≠ 100 := by omega
theorem oq18 {a0 : Int} (h0 : a0 = 102) : a0 ≠ 119 := by omega
theorem oq19 {a0 : Int} (h0 : a0 = 102) : a0 ≠ 112 := by omega
theorem oq20 {a0 : Int} (h0 : a0 = 102) : a0 ≠ 104 := by omega
theorem oq21 {a0 : Int} (h0 : a0 = 102) : a0 ≠ 110 := by omega
theorem oq22 {a0 : Int} (h0 : a0 = 102) : a0 ≠ 111 := by omega
theorem oq23 {a0 : Int} (h0 : a0 = 102) : a0 ≠ 100 := by omega
theorem oq24 {a0 : Int} (h0 : a0 = 103) : a0 ≠ 119 := by omega
theorem oq25 {a0 : Int} (h0 : a0 = 103) : a0 ≠ 112 := by omega
theorem oq26 {a0 : Int} (h0 : a0 = 103) : a0 ≠ 104 := by omega
theorem oq27 {a0 : Int} (h0 : a0 = 103) : a0 ≠ 110 := by omega
theorem oq28 {a0 : Int} (h0 : a0 = 103) : a0 ≠ 111 := by omega
theorem oq29 {a0 : Int} (h0 : a0 = 103) : a0 ≠ 100 := by omega
theorem oq30 {a0 a1 : Int} (h0 : a0 = 104) (h1 : a1 = 2) : (((-1) : Int) ≤ a1) ∧ (a1 ≤ 5) ∧ ((a1 = (-1)) ∨ ((100 : Int) ≤ a0)) := oz732 h0 h1
theorem oq31 {a0 a1 : Int} (h0 : a0 = 104) (h1 : a1 = 2) : (a0 = 119 ∧ a1 = 0) ∨ (a0 = 112 ∧ a1 = 1) ∨ (a0 = 104 ∧ a1 = 2) ∨ (a0 = 110 ∧ a1 = 3) ∨ (a0 = 111 ∧ a1 = 4) ∨ (a0 = 100 ∧ a1 = 5) ∨ (a0 ≠ 119 ∧ a0 ≠ 112 ∧ a0 ≠ 104 ∧ a0 ≠ 110 ∧ a0 ≠ 111 ∧ a0 ≠ 100 ∧ a1 = -1) := by omega
theorem oq32 {a0 : Int} (h0 : a0 = 105) : a0 ≠ 119 := by omega
theorem oq33 {a0 : Int} (h0 : a0 = 105) : a0 ≠ 112 := by omega
theorem oq34 {a0 : Int} (h0 : a0 = 105) : a0 ≠ 104 := by omega
theorem oq35 {a0 : Int} (h0 : a0 = 105) : a0 ≠ 110 := by omega
theorem oq36 {a0 : Int} (h0 : a0 = 105) : a0 ≠ 111 := by omega
theorem oq37 {a0 : Int} (h0 : a0 = 105) : a0 ≠ 100 := by omega
theorem oq38 {a0 : Int} (h0 : a0 = 106) : a0 ≠ 119 := by omega
theorem oq39 {a0 : Int} (h0 : a0 = 106) : a0 ≠ 112 := by omega
theorem oq40 {a0 : Int} (h0 : a0 = 106) : a0 ≠ 104 := by omega
theorem oq41 {a0 : Int} (h0 : a0 = 106) : a0 ≠ 110 := by omega
theorem oq42 {a0 : Int} (h0 : a0 = 106) : a0 ≠ 111 := by omega
theorem oq43 {a0 : Int} (h0 : a0 = 106) : a0 ≠ 100 := by omega
theorem oq44 {a0 : Int} (h0 : a0 = 107) : a0 ≠ 119 := by omega
theorem oq45 {a0 : Int} (h0 : a0 = 107) : a0 ≠ 112 := by omega
theorem oq46 {a0 : Int} (h0 : a0 = 107) : a0 ≠ 104 := by omega
theorem oq47 {a0 : Int} (h0 : a0 = 107) : a0 ≠ 110 := by omega
theorem oq48 {a0 : Int} (h0 : a0 = 107) : a0 ≠ 111 := by omega
theorem oq49 {a0 : Int} (h0 : a0 = 107) : a0 ≠ 100 := by omega
theorem oq50 {a0 : Int} (h0 : a0 = 108) : a0 ≠ 119 := by omega
theorem oq51 {a0 : Int} (h0 : a0 = 108) : a0 ≠ 112 := by omega
theorem oq52 {a0 : Int} (h0 : a0 = 108) : a0 ≠ 104 := by omega
theorem oq53 {a0 : Int} (h0 : a0 = 108) : a0 ≠ 110 := by omega
theorem oq54 {a0 : Int} (h0 : a0 = 108) : a0 ≠ 111 := by omega
theorem oq55 {a0 : Int} (h0 : a0 = 108) : a0 ≠ 100 := by omega
theorem oq56 {a0 : Int} (h0 : a0 = 109) : a0 ≠ 119 := by omega
theorem oq57 {a0 : Int} (h0 : a0 = 109) : a0 ≠ 112 := by omega
theorem oq58 {a0 : Int} (h0 : a0 = 109) : a0 ≠ 104 := by omega
theorem oq59 {a0 : Int} (h0 : a0 = 109) : a0 ≠ 110 := by omega
theorem oq60 {a0 : Int} (h0 : a0 = 109) : a0 ≠ 111 := by omega
theorem oq61 {a0 : Int} (h0 : a0 = 109) : a0 ≠ 100 := by omega
theorem oq62 {a0 a1 : Int} (h0 : a0 = 110) (h1 : a1 = 3) : (((-1) : Int) ≤ a1) ∧ (a1 ≤ 5) ∧ ((a1 = (-1)) ∨ ((100 : Int) ≤ a0)) := oz733 h0 h1
theorem oq63 {a0 a1 : Int} (h0 : a0 = 110) (h1 : a1 = 3) : (a0 = 119 ∧ a1 = 0) ∨ (a0 = 112 ∧ a1 = 1) ∨ (a0 = 104 ∧ a1 = 2) ∨ (a0 = 110 ∧ a1 = 3) ∨ (a0 = 111 ∧ a1 = 4) ∨ (a0 = 100 ∧ a1 = 5) ∨ (a0 ≠ 119 ∧ a0 ≠ 112 ∧ a0 ≠ 104 ∧ a0 ≠ 110 ∧ a0 ≠ 111 ∧ a0 ≠ 100 ∧ a1 = -1) := by omega
theorem oq64 {a0 a1 : Int} (h0 : a0 = 111) (h1 : a1 = 4) : (((-1) : Int) ≤ a1) ∧ (a1 ≤ 5) ∧ ((a1 = (-1)) ∨ ((100 : Int) ≤ a0)) := oz734 h0 h1
theorem oq65 {a0 a1 : Int} (h0 : a0 = 111) (h1 : a1 = 4) : (a0 = 119 ∧ a1 = 0) ∨ (a0 = 112 ∧ a1 = 1) ∨ (a0 = 104 ∧ a1 = 2) ∨ (a0 = 110 ∧ a1 = 3) ∨ (a0 = 111 ∧ a1 = 4) ∨ (a0 = 100 ∧ a1 = 5) ∨ (a0 ≠ 119 ∧ a0 ≠ 112 ∧ a0 ≠ 104 ∧ a0 ≠ 110 ∧ a0 ≠ 111 ∧ a0 ≠ 100 ∧ a1 = -1) := by omega
theorem oq66 {a0 a1 : Int} (h0 : a0 = 112) (h1 : a1 = 1) : (((-1) : Int) ≤ a1) ∧ (a1 ≤ 5) ∧ ((a1 = (-1)) ∨ ((100 : Int) ≤ a0)) := oz735 h0 h1
theorem oq67 {a0 a1 : Int} (h0 : a0 = 112) (h1 : a1 = 1) : (a0 = 119 ∧ a1 = 0) ∨ (a0 = 112 ∧ a1 = 1) ∨ (a0 = 104 ∧ a1 = 2) ∨ (a0 = 110 ∧ a1 = 3) ∨ (a0 = 111 ∧ a1 = 4) ∨ (a0 = 100 ∧ a1 = 5) ∨ (a0 ≠ 119 ∧ a0 ≠ 112 ∧ a0 ≠ 104 ∧ a0 ≠ 110 ∧ a0 ≠ 111 ∧ a0 ≠ 100 ∧ a1 = -1) := by omega
theorem oq68 {a0 : Int} (h0 : a0 = 113) : a0 ≠ 119 := by omega
theorem oq69 {a0 : Int} (h0 : a0 = 113) : a0 ≠ 112 := by omega
theorem oq70 {a0 : Int} (h0 : a0 = 113) : a0 ≠ 104 := by omega
theorem oq71 {a0 : Int} (h0 : a0 = 113) : a0 ≠ 110 := by omega
theorem oq72 {a0 : Int} (h0 : a0 = 113) : a0 ≠ 111 := by omega
theorem oq73 {a0 : Int} (h0 : a0 = 113) : a0 ≠ 100 := by omega
theorem oq74 {a0 : Int} (h0 : a0 = 114) : a0 ≠ 119 := by omega
theorem oq75 {a0 : Int} (h0 : a0 = 114) : a0 ≠ 112 := by omega
theorem oq76 {a0 : Int} (h0 : a0 = 114) : a0 ≠ 104 := by omega
theorem oq77 {a0 : Int} (h0 : a0 = 114) : a0 ≠ 110 := by omega
theorem oq78 {a0 : Int} (h0 : a0 = 114) : a0 ≠ 111 := by omega
theorem oq79 {a0 : Int} (h0 : a0 = 114) : a0 ≠ 100 := by omega
theorem oq80 {a0 : Int} (h0 : a0 = 115) : a0 ≠ 119 := by omega
theorem oq81 {a0 : Int} (h0 : a0 = 115) : a0 ≠ 112 := by omega
theorem oq82 {a0 : Int} (h0 : a0 = 115) : a0 ≠ 104 := by omega
theorem oq83 {a0 : Int} (h0 : a0 = 115) : a0 ≠ 110 := by omega
theorem oq84 {a0 : Int} (h0 : a0 = 115) : a0 ≠ 111 := by omega
theorem oq85 {a0 : Int} (h0 : a0 = 115) : a0 ≠ 100 := by omega
theorem oq86 {a0 : Int} (h0 : a0 = 116) : a0 ≠ 119 := by omega
theorem oq87 {a0 : Int} (h0 : a0 = 116) : a0 ≠ 112 := by omega
theorem oq88 {a0 : Int} (h0 : a0 = 116) : a0 ≠ 104 := by omega
theorem oq89 {a0 : Int} (h0 : a0 = 116) : a0 ≠ 110 := by omega
theorem oq90 {a0 : Int} (h0 : a0 = 116) : a0 ≠ 111 := by omega
theorem oq91 {a0 : Int} (h0 : a0 = 116) : a0 ≠ 100 := by omega
theorem oq92 {a0 : Int} (h0 : a0 = 117) : a0 ≠ 119 := by omega
theorem oq93 {a0 : Int} (h0 : a0 = 117) : a0 ≠ 112 := by omega
theorem oq94 {a0 : Int} (h0 : a0 = 117) : a0 ≠ 104 := by omega
theorem oq95 {a0 : Int} (h0 : a0 = 117) : a0 ≠ 110 := by omega
theorem oq96 {a0 : Int} (h0 : a0 = 117) : a0 ≠ 111 := by omega
theorem oq97 {a0 : Int} (h0 : a0 = 117) : a0 ≠ 100 := by omega
theorem oq98 {a0 : Int} (h0 : a0 = 118) : a0 ≠ 119 := by omega
theorem oq99 {a0 : Int} (h0 : a0 = 118) : a0 ≠ 112 := by omega
theorem oq100 {a0 : Int} (h0 : a0 = 118) : a0 ≠ 104 := by omega
theorem oq101 {a0 : Int} (h0 : a0 = 118) : a0 ≠ 110 := by omega
theorem oq102 {a0 : Int} (h0 : a0 = 118) : a0 ≠ 111 := by omega
theorem oq103 {a0 : Int} (h0 : a0 = 118) : a0 ≠ 100 := by omega
theorem oq104 {a0 a1 : Int} (h0 : a0 = 119) (h1 : a1 = 0) : (((-1) : Int) ≤ a1) ∧ (a1 ≤ 5) ∧ ((a1 = (-1)) ∨ ((100 : Int) ≤ a0)) := oz736 h0 h1
theorem oq105 {a0 a1 : Int} (h0 : a0 = 119) (h1 : a1 = 0) : (a0 = 119 ∧ a1 = 0) ∨ (a0 = 112 ∧ a1 = 1) ∨ (a0 = 104 ∧ a1 = 2) ∨ (a0 = 110 ∧ a1 = 3) ∨ (a0 = 111 ∧ a1 = 4) ∨ (a0 = 100 ∧ a1 = 5) ∨ (a0 ≠ 119 ∧ a0 ≠ 112 ∧ a0 ≠ 104 ∧ a0 ≠ 110 ∧ a0 ≠ 111 ∧ a0 ≠ 100 ∧ a1 = -1) := by omega
theorem oq106 {a0 : Int} (h0 : ¬ (a0 = 100)) (h1 : ¬ (a0 = 101)) (h2 : ¬ (a0 = 102)) (h3 : ¬ (a0 = 103)) (h4 : ¬ (a0 = 104)) (h5 : ¬ (a0 = 105)) (h6 : ¬ (a0 = 106)) (h7 : ¬ (a0 = 107)) (h8 : ¬ (a0 = 108)) (h9 : ¬ (a0 = 109)) (h10 : ¬ (a0 = 110)) (h11 : ¬ (a0 = 111)) (h12 : ¬ (a0 = 112)) (h13 : ¬ (a0 = 113)) (h14 : ¬ (a0 = 114)) (h15 : ¬ (a0 = 115)) (h16 : ¬ (a0 = 116)) (h17 : ¬ (a0 = 117)) (h18 : ¬ (a0 = 118)) (h19 : ¬ (a0 = 119)) : a0 < 100 ∨ 119 < a0 := oz737 h0 h1 h2 h3 h4 h5 h6 h7 h8 h9 h10 h11 h12 h13 h14 h15 h16 h17 h18 h19
theorem oq107 {a0 : Int} (h0 : ¬ (a0 = 100)) (h1 : ¬ (a0 = 109)) (h2 : ¬ (a0 = 110)) (h3 : ¬ (a0 = 111)) (h4 : ¬ (a0 = 112)) (h5 : ¬ (a0 = 113)) (h6 : ¬ (a0 = 114)) (h7 : ¬ (a0 = 115)) (h8 : ¬ (a0 = 116)) (h9 : ¬ (a0 = 117)) (h10 : ¬ (a0 = 118)) (h11 : ¬ (a0 = 101)) (h12 : ¬ (a0 = 119)) (h13 : ¬ (a0 = 102)) (h14 : ¬ (a0 = 103)) (h15 : ¬ (a0 = 104)) (h16 : ¬ (a0 = 105)) (h17 : ¬ (a0 = 106)) (h18 : ¬ (a0 = 107)) (h19 : ¬ (a0 = 108)) : a0 ≠ 119 := by omega
theorem oq108 {a0 : Int} (h0 : ¬ (a0 = 100)) (h1 : ¬ (a0 = 109)) (h2 : ¬ (a0 = 110)) (h3 : ¬ (a0 = 111)) (h4 : ¬ (a0 = 112)) (h5 : ¬ (a0 = 101)) (h6 : ¬ (a0 = 102)) (h7 : ¬ (a0 = 103)) (h8 : ¬ (a0 = 104)) (h9 : ¬ (a0 = 105)) (h10 : ¬ (a0 = 106)) (h11 : ¬ (a0 = 107)) (h12 : ¬ (a0 = 108)) : a0 ≠ 112 := by omega
theorem oq109 {a0 : Int} (h0 : ¬ (a0 = 100)) (h1 : ¬ (a0 = 101)) (h2 : ¬ (a0 = 102)) (h3 : ¬ (a0 = 103)) (h4 : ¬ (a0 = 104)) : a0 ≠ 104 := by omega
theorem oq110 {a0 : Int} (h0 : ¬ (a0 = 100)) (h1 : ¬ (a0 = 109)) (h2 : ¬ (a0 = 110)) (h3 : ¬ (a0 = 101)) (h4 : ¬ (a0 = 102)) (h5 : ¬ (a0 = 103)) (h6 : ¬ (a0 = 104)) (h7 : ¬ (a0 = 105)) (h8 : ¬ (a0 = 106)) (h9 : ¬ (a0 = 107)) (h10 : ¬ (a0 = 108)) : a0 ≠ 110 := by omega
theorem oq111 {a0 : Int} (h0 : ¬ (a0 = 100)) (h1 : ¬ (a0 = 109)) (h2 : ¬ (a0 = 110)) (h3 : ¬ (a0 = 111)) (h4 : ¬ (a0 = 101)) (h5 : ¬ (a0 = 102)) (h6 : ¬ (a0 = 103)) (h7 : ¬ (a0 = 104)) (h8 : ¬ (a0 = 105)) (h9 : ¬ (a0 = 106)) (h10 : ¬ (a0 = 107)) (h11 : ¬ (a0 = 108)) : a0 ≠ 111 := by omega
theorem oq112 {a0 : Int} (h0 : ¬ (a0 = 100)) : a0 ≠ 100 := by omega
theorem oq113 {a0 a1 : Int} (h0 : (-2147483648 : Int) ≤ a0) (h1 : a1 = 1) : (-2147483648 : Int) ≤ a0 + a1 := oz738 h0 h1
theorem oq114 {a0 a1 a2 : Int} (h0 : (0 : Int) ≤ a0) (h1 : (a1 + a0) = 6) (h2 : a2 = 1) : a1 + a2 ≤ 2147483647 := oz739 h0 h1 h2
theorem oq115 {a0 a1 : Int} (h0 : (0 : Int) ≤ a0) (h1 : a1 = 1) : (-2147483648 : Int) ≤ a0 + a1 := oz12 h0 h1
theorem oq116 {a0 a1 : Int} (h0 : a0 ≤ 120) (h1 : a1 = 1) : a0 + a1 ≤ 2147483647 := oz192 h0 h1
theorem oq117 {a0 a1 a2 : Int} (h0 : (0 : Int) ≤ a0) (h1 : a1 = a0 + a2) (h2 : a2 = 1) : (0 : Int) ≤ a1 := oz14 h0 h1 h2
theorem oq118 {a0 a1 a2 a3 a4 a5 : Int} (h0 : a0 = a1) (h1 : a2 ≤ 120) (h2 : (0 : Int) ≤ a1) (h3 : a3 = a4 + a5) (h4 : (a0 = (-1)) ∨ (a4 < a2)) (h5 : a5 = 1) : a3 ≤ 120 := oz927 h0 h1 h2 h3 h4 h5
theorem oq119 {a0 a1 a2 a3 a4 a5 a6 : Int} (h0 : a0 = a1) (h1 : (0 : Int) ≤ a1) (h2 : a0 = a2) (h3 : a3 = a4 + a5) (h4 : (a0 = (-1)) ∨ (a4 < a6)) (h5 : a5 = 1) : (((a5 = 1) ∧ (a3 = (a4 + 1)) ∧ (a4 < a6) ∧ (a2 = a1)) ∨ ((a5 = 0) ∧ (a3 = a4))) ∧ (((a5 = 0) → (a2 ≠ a1))) := by omega
theorem oq120 {a0 a1 a2 : Int} (h0 : a0 = a1) (h1 : a0 = a2) : a2 = a1 := ou85 h0 h1
theorem oq121 {a0 a1 a2 a3 a4 a5 : Int} (h0 : a0 ≠ a1) (h1 : a0 = a2) (h2 : a3 = 0) : (((a3 = 1) ∧ (a4 = (a4 + 1)) ∧ (a4 < a5) ∧ (a2 = a1)) ∨ ((a3 = 0) ∧ (a4 = a4))) ∧ (((a3 = 0) → (a2 ≠ a1))) := by omega
theorem oq122 {a0 a1 a2 : Int} (h0 : a0 ≠ a1) (h1 : a0 = a2) : ¬ (a2 = a1) := ou86 h0 h1
theorem oq123 {a0 : Int} (h0 : a0 = 33) : (0 : Int) ≤ a0 := oz742 h0
theorem oq124 {a0 : Int} (h0 : a0 = 45) : (0 : Int) ≤ a0 := oz759 h0
theorem oq125 {a0 : Int} (h0 : a0 = 40) : (0 : Int) ≤ a0 := oz770 h0
theorem oq126 {a0 a1 a2 a3 a4 a5 : Int} (h0 : (-2147483648 : Int) ≤ a0) (h1 : a1 = a2) (h2 : a3 = a1) (h3 : a4 = a3) (h4 : a2 = a0 + a5) (h5 : a5 = 1) : (-2147483648 : Int) ≤ a4 - a5 := oz782 h0 h1 h2 h3 h4 h5
theorem oq127 {a0 a1 a2 a3 a4 a5 a6 : Int} (h0 : a0 = a1) (h1 : a2 = a0) (h2 : a3 = a2) (h3 : (0 : Int) ≤ a4) (h4 : (a5 + a4) = 6) (h5 : a1 = a5 + a6) (h6 : a6 = 1) : a3 - a6 ≤ 2147483647 := oz783 h0 h1 h2 h3 h4 h5 h6
theorem oq128 {a0 a1 a2 a3 a4 a5 a6 a7 a8 a9 a10 a11 a12 a13 a14 a15 a16 a17 a18 a19 a20 a21 a22 a23 a24 a25 a26 a27 a28 : Int} (h0 : a0 = a1) (h1 : a2 = a1) (h2 : a3 = a1) (h3 : a4 = a5) (h4 : a6 = a7) (h5 : a8 = a9) (h6 : a10 = a4) (h7 : a11 = a6) (h8 : a12 = a8) (h9 : a13 = a10) (h10 : a14 = a11) (h11 : a15 = a12) (h12 : a16 ≤ a5) (h13 : a7 = a17 + a18) (h14 : a19 = a14 - a18) (h15 : ((a0 = 1) ∧ (a20 = (a16 + 1)) ∧ (a16 < a5) ∧ (a21 = a22)) ∨ ((a0 = 0) ∧ (a20 = a16))) (h16 : ((a2 = 1) ∧ (a23 = (a20 + 1)) ∧ (a20 < a4) ∧ (a24 = a25)) ∨ ((a2 = 0) ∧ (a23 = a20))) (h17 : ((a3 = 1) ∧ (a26 = (a23 + 1)) ∧ (a23 < a10) ∧ (a27 = a28)) ∨ ((a3 = 0) ∧ (a26 = a23))) (h18 : a1 = 0) (h19 : a18 = 1) (h20 : a22 = 33) (h21 : a25 = 45) (h22 : a28 = 40) : (a19 = a17) ∧ (a16 ≤ a26) ∧ (a26 ≤ a13) ∧ ((a15 - a26) ≤ (a9 - a16)) ∧ (a9 ≤ a15) ∧ ((0 : Int) ≤ a1) ∧ (a1 ≤ 1) ∧ (((a1 = 1) → ((a16 + 1) ≤ a26))) := ⟨by omega, by omega, by omega, by omega, by omega, by omega, by omega, by omega⟩
theorem oq129 {a0 a1 a2 : Int} (h0 : a0 = a1) (h1 : ((a0 = 0) → (¬ (((48 : Int) ≤ a2) ∧ (a2 ≤ 57))))) (h2 : a1 = 0) : ¬ (48 ≤ a2 ∧ a2 ≤ 57) := by omega
theorem oq130 {a0 a1 : Int} (h0 : a0 < a1) (h1 : a1 = 0) : a0 < 0 := oz1670 h0 h1
theorem oq131 {a0 a1 a2 : Int} (h0 : a0 ≠ a1) (h1 : (0 : Int) ≤ a2) (h2 : (a0 + a2) = 6) (h3 : a1 = 6) : (1 : Int) ≤ a2 := oz743 h0 h1 h2 h3
theorem oq132 {a0 a1 a2 a3 : Int} (h0 : a0 = a1) (h1 : ((a0 = 0) → (a2 ≠ a3))) (h2 : a1 = 0) (h3 : a3 = 33) : ¬ (a2 = 33) := by omega
theorem oq133 {a0 a1 a2 a3 a4 a5 a6 a7 a8 a9 : Int} (h0 : a0 = a1) (h1 : a2 = a1) (h2 : (a3 = a4 → a5 = a6)) (h3 : ((a0 = 1) ∧ (a3 = (a4 + 1)) ∧ (a4 < a7) ∧ (a6 = a8)) ∨ ((a0 = 0) ∧ (a3 = a4))) (h4 : ((a2 = 0) → (a5 ≠ a9))) (h5 : a1 = 0) (h6 : a8 = 33) (h7 : a9 = 45) : ¬ (a6 = 45) := by omega
theorem oq134 {a0 a1 a2 a3 a4 a5 a6 a7 a8 a9 a10 a11 a12 a13 a14 : Int} (h0 : a0 = a1) (h1 : a2 = a1) (h2 : a3 = a1) (h3 : (a4 = a5 → a6 = a7)) (h4 : (a8 = a4 → a9 = a6)) (h5 : ((a0 = 1) ∧ (a4 = (a5 + 1)) ∧ (a5 < a10) ∧ (a7 = a11)) ∨ ((a0 = 0) ∧ (a4 = a5))) (h6 : ((a2 = 1) ∧ (a8 = (a4 + 1)) ∧ (a4 < a12) ∧ (a6 = a13)) ∨ ((a2 = 0) ∧ (a8 = a4))) (h7 : ((a3 = 0) → (a9 ≠ a14))) (h8 : a1 = 0) (h9 : a11 = 33) (h10 : a13 = 45) (h11 : a14 = 40) : ¬ (a7 = 40) := by omega
theorem oq135 {a0 a1 a2 a3 a4 a5 a6 a7 a8 a9 a10 a11 a12 a13 a14 a15 a16 : Int} (h0 : a0 = a1) (h1 : a2 = a1) (h2 : a3 = a1) (h3 : ((a0 = 1) ∧ (a4 = (a5 + 1)) ∧ (a5 < a6) ∧ (a7 = a8)) ∨ ((a0 = 0) ∧ (a4 = a5))) (h4 : ((a2 = 1) ∧ (a9 = (a4 + 1)) ∧ (a4 < a10) ∧ (a11 = a12)) ∨ ((a2 = 0) ∧ (a9 = a4))) (h5 : ((a3 = 1) ∧ (a13 = (a9 + 1)) ∧ (a9 < a14) ∧ (a15 = a16)) ∨ ((a3 = 0) ∧ (a13 = a9))) (h6 : a1 = 0) (h7 : a8 = 33) (h8 : a12 = 45) (h9 : a16 = 40) : a13 = a5 := by omega
theorem oq136 {a0 a1 a2 a3 a4 a5 a6 a7 : Int} (h0 : a0 = a1) (h1 : a2 = a0) (h2 : a3 = a2) (h3 : a4 = a5 + 1) (h4 : (a6 + a4) = 6) (h5 : a1 = a6 + a7) (h6 : a7 = 1) : (a3 + a5) = 6 := oz771 h0 h1 h2 h3 h4 h5 h6
theorem oq137 {a0 a1 a2 a3 a4 a5 a6 a7 a8 a9 a10 a11 a12 a13 a14 a15 a16 a17 a18 a19 a20 : Int} (h0 : a0 = a1) (h1 : a2 = a1) (h2 : a3 = a4) (h3 : a5 = a3) (h4 : a6 = a5) (h5 : a4 ≤ a7) (h6 : ((a0 = 1) ∧ (a8 = (a7 + 1)) ∧ (a7 < a9) ∧ (a10 = a11)) ∨ ((a0 = 0) ∧ (a8 = a7))) (h7 : ((a2 = 1) ∧ (a12 = (a8 + 1)) ∧ (a8 < a13) ∧ (a14 = a15)) ∨ ((a2 = 0) ∧ (a12 = a8))) (h8 : ((a16 = 1) ∧ (a17 = (a12 + 1)) ∧ (a12 < a18) ∧ (a19 = a20)) ∨ ((a16 = 0) ∧ (a17 = a12))) (h9 : a1 = 0) (h10 : a11 = 33) (h11 : a15 = 45) (h12 : a20 = 40) : a6 ≤ a17 := by omega
theorem oq138 {a0 a1 a2 a3 a4 a5 a6 a7 : Int} (h0 : a0 ≠ a1) (h1 : a2 = a3) (h2 : ((a0 = 1) ∧ (a4 = (a5 + 1)) ∧ (a5 < a3) ∧ (a6 = a7)) ∨ ((a0 = 0) ∧ (a4 = a5))) (h3 : a1 = 0) (h4 : a7 = 40) : a4 ≤ a2 := by omega
theorem oq139 {a0 a1 a2 a3 a4 a5 a6 : Int} (h0 : (-2147483648 : Int) ≤ a0) (h1 : a1 = a2) (h2 : a3 = a1) (h3 : a4 = a3) (h4 : a2 = a0 + a5) (h5 : a6 = a4) (h6 : a5 = 1) : (-2147483648 : Int) ≤ a6 - a5 := oz779 h0 h1 h2 h3 h4 h5 h6
theorem oq140 {a0 a1 a2 a3 a4 a5 a6 a7 : Int} (h0 : a0 = a1) (h1 : a2 = a0) (h2 : a3 = a2) (h3 : (0 : Int) ≤ a4) (h4 : (a5 + a4) = 6) (h5 : a1 = a5 + a6) (h6 : a7 = a3) (h7 : a6 = 1) : a7 - a6 ≤ 2147483647 := oz780 h0 h1 h2 h3 h4 h5 h6 h7
theorem oq142 {a0 a1 a2 a3 a4 a5 a6 a7 a8 a9 a10 a11 a12 a13 a14 a15 a16 a17 : Int} (h0 : a0 = a1) (h1 : a2 = a1) (h2 : a3 ≠ a1) (h3 : a4 = a1) (h4 : (a5 = a6 → a7 = a8)) (h5 : (a9 = a5 → a10 = a7)) (h6 : ((a0 = 1) ∧ (a5 = (a6 + 1)) ∧ (a6 < a11) ∧ (a8 = a12)) ∨ ((a0 = 0) ∧ (a5 = a6))) (h7 : ((a2 = 1) ∧ (a9 = (a5 + 1)) ∧ (a5 < a13) ∧ (a7 = a14)) ∨ ((a2 = 0) ∧ (a9 = a5))) (h8 : ((a3 = 1) ∧ (a15 = (a9 + 1)) ∧ (a9 < a16) ∧ (a10 = a17)) ∨ ((a3 = 0) ∧ (a15 = a9))) (h9 : ((a4 = 0) → (¬ (((48 : Int) ≤ a8) ∧ (a8 ≤ 57))))) (h10 : a1 = 0) (h11 : a12 = 33) (h12 : a14 = 45) (h13 : a17 = 40) : ¬ (48 ≤ a8 ∧ a8 ≤ 57) := by omega
theorem oq143 {a0 a1 : Int} (h0 : a0 = a1) (h1 : (0 : Int) ≤ a0) (h2 : a1 = 0) : a0 = 0 := od48 h0 h1 h2
theorem oq144 {a0 a1 a2 a3 a4 a5 a6 a7 a8 a9 a10 a11 a12 a13 a14 a15 a16 : Int} (h0 : a0 = a1) (h1 : a2 = a1) (h2 : a3 ≠ a1) (h3 : (a4 = a5 → a6 = a7)) (h4 : (a8 = a4 → a9 = a6)) (h5 : ((a0 = 1) ∧ (a4 = (a5 + 1)) ∧ (a5 < a10) ∧ (a7 = a11)) ∨ ((a0 = 0) ∧ (a4 = a5))) (h6 : ((a2 = 1) ∧ (a8 = (a4 + 1)) ∧ (a4 < a12) ∧ (a6 = a13)) ∨ ((a2 = 0) ∧ (a8 = a4))) (h7 : ((a3 = 1) ∧ (a14 = (a8 + 1)) ∧ (a8 < a15) ∧ (a9 = a16)) ∨ ((a3 = 0) ∧ (a14 = a8))) (h8 : a1 = 0) (h9 : a11 = 33) (h10 : a13 = 45) (h11 : a16 = 40) : a7 = 40 := by omega
theorem oq145 {a0 a1 : Int} (h0 : a0 = a1) (h1 : a1 = 0) : a0 = 0 := og41 h0 h1
theorem oq146 {a0 a1 a2 a3 a4 a5 a6 : Int} (h0 : a0 ≠ a1) (h1 : ((a0 = 1) ∧ (a2 = (a3 + 1)) ∧ (a3 < a4) ∧ (a5 = a6)) ∨ ((a0 = 0) ∧ (a2 = a3))) (h2 : a1 = 0) (h3 : a6 = 40) : ¬ (a0 = 0) := by omega
theorem oq147 {a0 : Int} (h0 : a0 = 41) : (0 : Int) ≤ a0 := oz774 h0
theorem oq148 {a0 a1 a2 a3 a4 a5 a6 a7 : Int} (h0 : (-2147483648 : Int) ≤ a0) (h1 : a1 = a2) (h2 : a3 = a1) (h3 : a4 = a3) (h4 : a5 = a6) (h5 : a2 = a0 + a7) (h6 : a6 = a4) (h7 : a7 = 1) : (-2147483648 : Int) ≤ a5 - a7 := oz775 h0 h1 h2 h3 h4 h5 h6 h7
theorem oq149 {a0 a1 a2 a3 a4 a5 a6 a7 a8 : Int} (h0 : a0 = a1) (h1 : a2 = a0) (h2 : a3 = a2) (h3 : a4 = a5) (h4 : (0 : Int) ≤ a6) (h5 : (a7 + a6) = 6) (h6 : a1 = a7 + a8) (h7 : a5 = a3) (h8 : a8 = 1) : a4 - a8 ≤ 2147483647 := oz776 h0 h1 h2 h3 h4 h5 h6 h7 h8
theorem oq151 {a0 a1 : Int} (h0 : a0 ≠ a1) (h1 : (0 : Int) ≤ a0) (h2 : a1 = 0) : ¬ (a0 = 0) := od60 h0 h1 h2
theorem oq152 {a0 a1 : Int} (h0 : a0 = a1) (h1 : a1 = 0) : a1 = a0 := by omega
theorem oq154 {a0 a1 a2 a3 a4 a5 a6 a7 : Int} (h0 : a0 ≠ a1) (h1 : ((a0 = 1) ∧ (a2 = (a3 + 1)) ∧ (a3 < a4) ∧ (a5 = a6)) ∨ ((a0 = 0) ∧ (a2 = a3))) (h2 : a1 = 0) (h3 : a6 = 41) (h4 : a7 = 1) : a7 = a0 := by omega
theorem oq155 {a0 a1 a2 a3 a4 a5 a6 : Int} (h0 : a0 = a1) (h1 : a2 = a0) (h2 : a3 = a4 + 1) (h3 : (a5 + a3) = 6) (h4 : a1 = a5 + a6) (h5 : a6 = 1) : (a2 + a4) = 6 := oz760 h0 h1 h2 h3 h4 h5
theorem oq156 {a0 a1 a2 a3 a4 a5 a6 a7 a8 a9 a10 a11 a12 a13 a14 : Int} (h0 : a0 = a1) (h1 : a2 = a3) (h2 : a4 = a2) (h3 : a3 ≤ a5) (h4 : ((a0 = 1) ∧ (a6 = (a5 + 1)) ∧ (a5 < a7) ∧ (a8 = a9)) ∨ ((a0 = 0) ∧ (a6 = a5))) (h5 : ((a10 = 1) ∧ (a11 = (a6 + 1)) ∧ (a6 < a12) ∧ (a13 = a14)) ∨ ((a10 = 0) ∧ (a11 = a6))) (h6 : a1 = 0) (h7 : a9 = 33) (h8 : a14 = 45) : a4 ≤ a11 := by omega
theorem oq157 {a0 a1 a2 a3 a4 a5 a6 a7 : Int} (h0 : a0 ≠ a1) (h1 : a2 = a3) (h2 : ((a0 = 1) ∧ (a4 = (a5 + 1)) ∧ (a5 < a3) ∧ (a6 = a7)) ∨ ((a0 = 0) ∧ (a4 = a5))) (h3 : a1 = 0) (h4 : a7 = 45) : a4 ≤ a2 := by omega
theorem oq158 {a0 a1 a2 a3 a4 a5 : Int} (h0 : (-2147483648 : Int) ≤ a0) (h1 : a1 = a2) (h2 : a3 = a1) (h3 : a2 = a0 + a4) (h4 : a5 = a3) (h5 : a4 = 1) : (-2147483648 : Int) ≤ a5 - a4 := oz767 h0 h1 h2 h3 h4 h5
theorem oq159 {a0 a1 a2 a3 a4 a5 a6 : Int} (h0 : a0 = a1) (h1 : a2 = a0) (h2 : (0 : Int) ≤ a3) (h3 : (a4 + a3) = 6) (h4 : a1 = a4 + a5) (h5 : a6 = a2) (h6 : a5 = 1) : a6 - a5 ≤ 2147483647 := oz768 h0 h1 h2 h3 h4 h5 h6
theorem oq161 {a0 a1 a2 a3 a4 a5 a6 a7 a8 a9 a10 a11 a12 : Int} (h0 : a0 = a1) (h1 : a2 = a1) (h2 : a3 ≠ a1) (h3 : (a4 = a5 → a6 = a7)) (h4 : ((a0 = 1) ∧ (a4 = (a5 + 1)) ∧ (a5 < a8) ∧ (a7 = a9)) ∨ ((a0 = 0) ∧ (a4 = a5))) (h5 : ((a3 = 1) ∧ (a10 = (a4 + 1)) ∧ (a4 < a11) ∧ (a6 = a12)) ∨ ((a3 = 0) ∧ (a10 = a4))) (h6 : ((a2 = 0) → (¬ (((48 : Int) ≤ a7) ∧ (a7 ≤ 57))))) (h7 : a1 = 0) (h8 : a9 = 33) (h9 : a12 = 45) : ¬ (48 ≤ a7 ∧ a7 ≤ 57) := by omega
theorem oq162 {a0 a1 a2 a3 a4 a5 a6 a7 a8 a9 a10 a11 : Int} (h0 : a0 = a1) (h1 : a2 ≠ a1) (h2 : (a3 = a4 → a5 = a6)) (h3 : ((a0 = 1) ∧ (a3 = (a4 + 1)) ∧ (a4 < a7) ∧ (a6 = a8)) ∨ ((a0 = 0) ∧ (a3 = a4))) (h4 : ((a2 = 1) ∧ (a9 = (a3 + 1)) ∧ (a3 < a10) ∧ (a5 = a11)) ∨ ((a2 = 0) ∧ (a9 = a3))) (h5 : a1 = 0) (h6 : a8 = 33) (h7 : a11 = 45) : a6 = 45 := by omega
theorem oq163 {a0 a1 a2 a3 a4 a5 a6 : Int} (h0 : a0 ≠ a1) (h1 : ((a0 = 1) ∧ (a2 = (a3 + 1)) ∧ (a3 < a4) ∧ (a5 = a6)) ∨ ((a0 = 0) ∧ (a2 = a3))) (h2 : a1 = 0) (h3 : a6 = 45) : ¬ (a0 = 0) := by omega
theorem oq164 {a0 a1 : Int} (h0 : a0 ≤ 200) (h1 : a1 = 1) : a0 + a1 ≤ 2147483647 := oz271 h0 h1
theorem oq165 {a0 a1 a2 : Int} (h0 : a0 ≤ 199) (h1 : a1 = a0 + a2) (h2 : a2 = 1) : a1 ≤ 200 := oz746 h0 h1 h2
theorem oq166 {a0 : Int} (h0 : a0 ≤ 199) : a0 < 200 := oz747 h0
theorem oq167 {a0 a1 a2 : Int} (h0 : a0 = a1 + a2) (h1 : a2 = 1) : (a2 = 1) ∧ (a0 = (a1 + 1)) := by omega
theorem oq169 {a0 a1 : Int} (h0 : a0 = a1) (h1 : a0 = 1) (h2 : a1 = 0) : False := by omega
theorem oq170 {a0 a1 a2 a3 a4 a5 a6 : Int} (h0 : (-2147483648 : Int) ≤ a0) (h1 : a1 = a2) (h2 : a3 = a1) (h3 : a4 = a5) (h4 : a2 = a0 + a6) (h5 : a5 = a3) (h6 : a6 = 1) : (-2147483648 : Int) ≤ a4 - a6 := oz764 h0 h1 h2 h3 h4 h5 h6
theorem oq171 {a0 a1 a2 a3 a4 a5 a6 a7 : Int} (h0 : a0 = a1) (h1 : a2 = a0) (h2 : a3 = a4) (h3 : (0 : Int) ≤ a5) (h4 : (a6 + a5) = 6) (h5 : a1 = a6 + a7) (h6 : a4 = a2) (h7 : a7 = 1) : a3 - a7 ≤ 2147483647 := oz765 h0 h1 h2 h3 h4 h5 h6 h7
theorem oq173 {a0 a1 a2 a3 a4 a5 : Int} (h0 : a0 = a1) (h1 : a2 = a3 + 1) (h2 : (a4 + a2) = 6) (h3 : a1 = a4 + a5) (h4 : a5 = 1) : (a0 + a3) = 6 := oz744 h0 h1 h2 h3 h4
theorem oq174 {a0 a1 a2 a3 a4 a5 a6 a7 : Int} (h0 : a0 = a1) (h1 : a1 ≤ a2) (h2 : ((a3 = 1) ∧ (a4 = (a2 + 1)) ∧ (a2 < a5) ∧ (a6 = a7)) ∨ ((a3 = 0) ∧ (a4 = a2))) (h3 : a7 = 33) : a0 ≤ a4 := by omega
theorem oq175 {a0 a1 a2 a3 a4 a5 a6 : Int} (h0 : a0 = a1) (h1 : a2 ≤ a1) (h2 : ((a3 = 1) ∧ (a4 = (a2 + 1)) ∧ (a2 < a1) ∧ (a5 = a6)) ∨ ((a3 = 0) ∧ (a4 = a2))) (h3 : a6 = 33) : a4 ≤ a0 := by omega
theorem oq176 {a0 a1 a2 a3 a4 : Int} (h0 : (-2147483648 : Int) ≤ a0) (h1 : a1 = a2) (h2 : a2 = a0 + a3) (h3 : a4 = a1) (h4 : a3 = 1) : (-2147483648 : Int) ≤ a4 - a3 := oz756 h0 h1 h2 h3 h4
theorem oq177 {a0 a1 a2 a3 a4 a5 : Int} (h0 : a0 = a1) (h1 : (0 : Int) ≤ a2) (h2 : (a3 + a2) = 6) (h3 : a1 = a3 + a4) (h4 : a5 = a0) (h5 : a4 = 1) : a5 - a4 ≤ 2147483647 := oz757 h0 h1 h2 h3 h4 h5
theorem oq178 {a0 a1 a2 a3 a4 a5 a6 a7 a8 a9 a10 a11 a12 a13 a14 a15 a16 a17 : Int} (h0 : a0 = a1) (h1 : a2 = a3) (h2 : a4 = a5 - a6) (h3 : a1 = a7 + a6) (h4 : a5 = a0) (h5 : a8 ≤ a9) (h6 : a9 ≤ a10) (h7 : (a11 - a9) ≤ (a2 - a8)) (h8 : a2 ≤ a11) (h9 : ((a12 = 1) ∧ (a8 = (a13 + 1)) ∧ (a13 < a14) ∧ (a15 = a16)) ∨ ((a12 = 0) ∧ (a8 = a13))) (h10 : a6 = 1) (h11 : a16 = 33) (h12 : a17 = 0) : (a4 = a7) ∧ (a13 ≤ a9) ∧ (a9 ≤ a10) ∧ ((a11 - a9) ≤ (a3 - a13)) ∧ (a3 ≤ a11) ∧ ((0 : Int) ≤ a17) ∧ (a17 ≤ 1) ∧ (((a17 = 1) → ((a13 + 1) ≤ a9))) := ⟨by omega, by omega, h6, by omega, by omega, by omega, by omega, by omega⟩
theorem oq179 {a0 a1 a2 a3 a4 a5 a6 a7 : Int} (h0 : a0 = a1) (h1 : a2 ≠ a1) (h2 : ((a2 = 1) ∧ (a3 = (a4 + 1)) ∧ (a4 < a5) ∧ (a6 = a7)) ∨ ((a2 = 0) ∧ (a3 = a4))) (h3 : ((a0 = 0) → (¬ (((48 : Int) ≤ a6) ∧ (a6 ≤ 57))))) (h4 : a1 = 0) (h5 : a7 = 33) : ¬ (48 ≤ a6 ∧ a6 ≤ 57) := by omega
theorem oq180 {a0 a1 a2 a3 a4 a5 a6 : Int} (h0 : a0 ≠ a1) (h1 : ((a0 = 1) ∧ (a2 = (a3 + 1)) ∧ (a3 < a4) ∧ (a5 = a6)) ∨ ((a0 = 0) ∧ (a2 = a3))) (h2 : a1 = 0) (h3 : a6 = 33) : a5 = 33 := by omega
theorem oq181 {a0 a1 a2 a3 a4 a5 a6 : Int} (h0 : a0 ≠ a1) (h1 : ((a0 = 1) ∧ (a2 = (a3 + 1)) ∧ (a3 < a4) ∧ (a5 = a6)) ∨ ((a0 = 0) ∧ (a2 = a3))) (h2 : a1 = 0) (h3 : a6 = 33) : ¬ (a0 = 0) := by omega
theorem oq182 {a0 a1 a2 a3 a4 a5 a6 a7 a8 a9 : Int} (h0 : a0 = a1) (h1 : a2 ≤ 120) (h2 : (0 : Int) ≤ a3) (h3 : a1 ≤ a4) (h4 : (a3 - a2) ≤ (a0 - a5)) (h5 : ((a6 = 1) ∧ (a5 = (a4 + 1)) ∧ (a4 < a7) ∧ (a8 = a9)) ∨ ((a6 = 0) ∧ (a5 = a4))) (h6 : a9 = 33) : ((0 : Int) ≤ a3) ∧ (a3 ≤ 199) := by omega
theorem oq183 {a0 a1 a2 a3 a4 a5 : Int} (h0 : (-2147483648 : Int) ≤ a0) (h1 : a1 = a2) (h2 : a3 = a4) (h3 : a4 = a0 + a5) (h4 : a2 = a3) (h5 : a5 = 1) : (-2147483648 : Int) ≤ a1 - a5 := by omega
theorem oq184 {a0 a1 a2 a3 a4 a5 a6 : Int} (h0 : a0 = a1) (h1 : a2 = a3) (h2 : (0 : Int) ≤ a4) (h3 : (a5 + a4) = 6) (h4 : a3 = a5 + a6) (h5 : a1 = a2) (h6 : a6 = 1) : a0 - a6 ≤ 2147483647 := by omega
theorem oq185 {a0 a1 a2 a3 a4 a5 a6 a7 a8 a9 a10 a11 a12 a13 a14 a15 a16 a17 a18 a19 a20 a21 : Int} (h0 : a0 ≠ a1) (h1 : a2 = a3) (h2 : a4 = a5) (h3 : a6 = a7) (h4 : a8 = a9) (h5 : a10 = a11) (h6 : a12 = a6 - a13) (h7 : a9 = a14 + a13) (h8 : a7 = a8) (h9 : a15 ≤ a5) (h10 : a5 ≤ a3) (h11 : (a16 - a5) ≤ (a10 - a15)) (h12 : a10 ≤ a16) (h13 : a17 = (a16 + 1)) (h14 : ((a0 = 1) ∧ (a15 = (a18 + 1)) ∧ (a18 < a19) ∧ (a20 = a21)) ∨ ((a0 = 0) ∧ (a15 = a18))) (h15 : a1 = 0) (h16 : a13 = 1) (h17 : a21 = 33) : (a12 = a14) ∧ (a18 ≤ a4) ∧ (a4 ≤ a2) ∧ ((a17 - a4) ≤ (a11 - a18)) ∧ (a11 ≤ a17) ∧ ((0 : Int) ≤ a13) ∧ (a13 ≤ 1) ∧ (((a13 = 1) → ((a18 + 1) ≤ a4))) := ⟨by omega, by omega, by omega, by omega, by omega, by omega, by omega, by omega⟩
theorem oq186 {a0 a1 a2 a3 a4 : Int} (h0 : a0 ≤ a1) (h1 : a2 = 0) : (a3 = a3) ∧ (a0 ≤ a0) ∧ (a0 ≤ a1) ∧ ((a4 - a0) ≤ (a4 - a0)) ∧ (a4 ≤ a4) ∧ ((0 : Int) ≤ a2) ∧ (a2 ≤ 1) ∧ (((a2 = 1) → ((a0 + 1) ≤ a0))) := by omega
theorem oq187 {a0 a1 a2 : Int} (h0 : a0 = a1) (h1 : (a0 + a2) = 6) (h2 : a1 = 6) : a2 ≤ 0 := by omega
theorem oq188 {a0 a1 a2 a3 a4 a5 a6 : Int} (h0 : a0 ≤ a1) (h1 : a2 ≤ 120) (h2 : a3 = a4 + a5) (h3 : (a1 = (-1)) ∨ ((100 : Int) ≤ a6)) (h4 : (a6 = (-1)) ∨ (a4 < a2)) (h5 : a0 = 0) (h6 : a5 = 1) : a3 ≤ 120 := by omega
theorem oq189 {a0 a1 : Int} (h0 : a0 ≤ 120) (h1 : (0 : Int) ≤ a1) (h2 : a1 ≤ a0) : ((0 : Int) ≤ a1) ∧ (a1 ≤ 199) := oz787 h0 h1 h2
theorem oq190 {a0 a1 a2 a3 a4 a5 a6 a7 a8 a9 a10 a11 a12 a13 : Int} (h0 : a0 ≤ a1) (h1 : a2 = a3) (h2 : a4 = a5) (h3 : a6 = a7) (h4 : a5 = a8 + a9) (h5 : (a1 = (-1)) ∨ ((100 : Int) ≤ a10)) (h6 : a11 = 1) (h7 : a12 = (a13 + 1)) (h8 : (a10 = (-1)) ∨ (a8 < a3)) (h9 : a0 = 0) (h10 : a9 = 1) : (a6 = a7) ∧ (a8 ≤ a4) ∧ (a4 ≤ a2) ∧ ((a12 - a4) ≤ (a13 - a8)) ∧ (a13 ≤ a12) ∧ ((0 : Int) ≤ a11) ∧ (a11 ≤ 1) ∧ (((a11 = 1) → ((a8 + 1) ≤ a4))) := ⟨h3, by omega, by omega, by omega, by omega, by omega, by omega, by omega⟩
theorem oq191 {a0 a1 a2 a3 : Int} (h0 : a0 ≤ a1) (h1 : a2 = a3) (h2 : (a1 = (-1)) ∨ ((100 : Int) ≤ a2)) (h3 : a0 = 0) : ¬ (48 ≤ a3 ∧ a3 ≤ 57) := by omega
theorem oq192 {a0 a1 : Int} (h0 : a0 ≤ a1) (h1 : a0 = 0) : (0 : Int) ≤ a1 := oz389 h0 h1
theorem oq193 {a0 : Int} (h0 : a0 = 1) : a0 = 1 := oz1381 h0
theorem oq198 {a0 a1 a2 a3 a4 : Int} (h0 : a0 ≠ a1) (h1 : a2 ≤ 120) (h2 : ((a0 = 1) ∧ ((48 : Int) ≤ a3) ∧ (a3 ≤ 57) ∧ (a4 < a2)) ∨ (a0 = 0)) (h3 : a1 = 0) : a4 < 120 := by omega
theorem oq204 {a0 a1 a2 a3 a4 a5 a6 : Int} (h0 : a0 ≠ a1) (h1 : a2 ≤ 120) (h2 : a3 = a4 + a5) (h3 : ((a0 = 1) ∧ ((48 : Int) ≤ a6) ∧ (a6 ≤ 57) ∧ (a4 < a2)) ∨ (a0 = 0)) (h4 : a1 = 0) (h5 : a5 = 1) : a3 ≤ 120 := by omega
theorem oq205 {a0 a1 a2 : Int} (h0 : ((a0 = 0) ∧ (a1 = 0)) ∨ ((a0 = 1) ∧ ((0 : Int) ≤ a1) ∧ (a1 ≤ 9)) ∨ ((a0 = 2) ∧ ((0 : Int) ≤ a1) ∧ (a1 ≤ 99)) ∨ ((a0 = 3) ∧ ((0 : Int) ≤ a1) ∧ (a1 ≤ 999)) ∨ ((a0 = 4) ∧ ((0 : Int) ≤ a1) ∧ (a1 ≤ 9999))) (h1 : a2 = 1) : (-2147483648 : Int) ≤ a0 + a2 := oz716 h0 h1
theorem oq206 {a0 a1 a2 : Int} (h0 : a0 < a1) (h1 : a1 = 4) (h2 : a2 = 1) : a0 + a2 ≤ 2147483647 := oz717 h0 h1 h2
theorem oq208 {a0 a1 : Int} (h0 : a0 = a1) : a0 = a1 := oz719 h0
theorem oq209 {a0 a1 a2 a3 a4 a5 : Int} (h0 : (a0 + a1) ≤ a2) (h1 : a3 = a2 + a4) (h2 : a5 = a1 + a4) (h3 : a4 = 1) : (a0 + a5) ≤ a3 := oz720 h0 h1 h2 h3
theorem oq210 {a0 a1 a2 a3 a4 a5 a6 : Int} (h0 : a0 ≠ a1) (h1 : a2 = a3 + a4) (h2 : ((a0 = 1) ∧ ((48 : Int) ≤ a5) ∧ (a5 ≤ 57) ∧ (a3 < a6)) ∨ (a0 = 0)) (h3 : a1 = 0) (h4 : a4 = 1) : a2 ≤ a6 := by omega
theorem oq211 {a0 a1 a2 a3 a4 a5 : Int} (h0 : ((a0 = 0) ∧ (a1 = 0)) ∨ ((a0 = 1) ∧ ((0 : Int) ≤ a1) ∧ (a1 ≤ 9)) ∨ ((a0 = 2) ∧ ((0 : Int) ≤ a1) ∧ (a1 ≤ 99)) ∨ ((a0 = 3) ∧ ((0 : Int) ≤ a1) ∧ (a1 ≤ 999)) ∨ ((a0 = 4) ∧ ((0 : Int) ≤ a1) ∧ (a1 ≤ 9999))) (h1 : a2 = a0 + a3) (h2 : a3 = 1) : ((1 : Int) ≤ a2) ∨ (a4 = a5) := oz722 h0 h1 h2
theorem oq212 {a0 a1 : Int} (h0 : a0 < a1) (h1 : a1 = 4) : a0 < 4 := op29 h0 h1
theorem oq213 {a0 a1 : Int} (h0 : ((a0 = 0) ∧ (a1 = 0)) ∨ ((a0 = 1) ∧ ((0 : Int) ≤ a1) ∧ (a1 ≤ 9)) ∨ ((a0 = 2) ∧ ((0 : Int) ≤ a1) ∧ (a1 ≤ 99)) ∨ ((a0 = 3) ∧ ((0 : Int) ≤ a1) ∧ (a1 ≤ 999)) ∨ ((a0 = 4) ∧ ((0 : Int) ≤ a1) ∧ (a1 ≤ 9999))) : (0 : Int) ≤ a0 := by omega
theorem oq214 {a0 a1 a2 : Int} (h0 : a0 = a1 + a2) (h1 : a2 = 1) : a0 = a1 + 1 := oz169 h0 h1
theorem oq215 {a0 a1 a2 a3 a4 : Int} (h0 : a0 ≠ a1) (h1 : ((a0 = 1) ∧ ((48 : Int) ≤ a2) ∧ (a2 ≤ 57) ∧ (a3 < a4)) ∨ (a0 = 0)) (h2 : a1 = 0) : 48 ≤ a2 := by omega
theorem oq216 {a0 a1 a2 a3 a4 : Int} (h0 : a0 ≠ a1) (h1 : ((a0 = 1) ∧ ((48 : Int) ≤ a2) ∧ (a2 ≤ 57) ∧ (a3 < a4)) ∨ (a0 = 0)) (h2 : a1 = 0) : a2 ≤ 57 := by omega
theorem oq217 {a0 a1 a2 : Int} (h0 : a0 = a1 + a2) (h1 : a2 = 1) : (4 - a0) < (4 - a1) := oz723 h0 h1
theorem oq218 {a0 a1 : Int} (h0 : a0 < a1) (h1 : a1 = 4) : (1 : Int) ≤ (4 - a0) := oz724 h0 h1
theorem oq219 {a0 : Int} (h0 : a0 = 0) : ((a0 = 0) ∧ (a0 = 0)) ∨ ((a0 = 1) ∧ ((0 : Int) ≤ a0) ∧ (a0 ≤ 9)) ∨ ((a0 = 2) ∧ ((0 : Int) ≤ a0) ∧ (a0 ≤ 99)) ∨ ((a0 = 3) ∧ ((0 : Int) ≤ a0) ∧ (a0 ≤ 999)) ∨ ((a0 = 4) ∧ ((0 : Int) ≤ a0) ∧ (a0 ≤ 9999)) := oz726 h0
theorem oq220 {a0 : Int}  : a0 = a0 := oz34
theorem oq221 {a0 a1 : Int} (h0 : a0 = 0) : (a1 + a0) ≤ a1 := oz727 h0
theorem oq222 {a0 a1 : Int} (h0 : a0 ≤ a1) : a0 ≤ a1 := oz173 h0
theorem oq223 {a0 a1 : Int} (h0 : a0 = 0) : ((1 : Int) ≤ a0) ∨ (a1 = a1) := oz729 h0
theorem oq224 {a0 a1 a2 a3 a4 a5 a6 a7 a8 a9 a10 a11 a12 a13 a14 a15 a16 a17 a18 a19 a20 a21 a22 a23 a24 a25 a26 a27 a28 a29 a30 a31 : Int} (h0 : a0 = a1) (h1 : a2 = a1) (h2 : a3 = a4) (h3 : a5 = a6) (h4 : a7 = a3) (h5 : a8 = a5) (h6 : a9 = a7) (h7 : a10 = a8) (h8 : a4 = a11 + a12) (h9 : a13 = a14 - a12) (h10 : ((a0 = 1) ∧ (a15 = (a16 + 1)) ∧ (a16 < a17) ∧ (a18 = a19)) ∨ ((a0 = 0) ∧ (a15 = a16))) (h11 : ((a2 = 1) ∧ (a20 = (a15 + 1)) ∧ (a15 < a21) ∧ (a22 = a23)) ∨ ((a2 = 0) ∧ (a20 = a15))) (h12 : ((a24 = 1) ∧ (a25 = (a20 + 1)) ∧ (a20 < a26) ∧ (a27 = a28)) ∨ ((a24 = 0) ∧ (a25 = a20))) (h13 : a14 = a9) (h14 : a25 ≤ a29) (h15 : a29 ≤ a30) (h16 : (a31 - a29) ≤ (a10 - a25)) (h17 : a10 ≤ a31) (h18 : a1 = 0) (h19 : a12 = 1) (h20 : a19 = 33) (h21 : a23 = 45) (h22 : a28 = 40) : (a13 = a11) ∧ (a16 ≤ a29) ∧ (a29 ≤ a30) ∧ ((a31 - a29) ≤ (a6 - a16)) ∧ (a6 ≤ a31) ∧ ((0 : Int) ≤ a1) ∧ (a1 ≤ 1) ∧ (((a1 = 1) → ((a16 + 1) ≤ a29))) := ⟨by omega, by omega, h15, by omega, by omega, by omega, by omega, by omega⟩
theorem oq225 {a0 a1 a2 a3 a4 a5 a6 a7 a8 a9 a10 a11 a12 a13 a14 a15 a16 a17 a18 a19 a20 a21 a22 a23 a24 a25 a26 a27 a28 a29 a30 a31 a32 a33 a34 a35 a36 a37 a38 : Int} (h0 : a0 = a1) (h1 : a2 = a1) (h2 : a3 = a1) (h3 : a4 = a5) (h4 : a6 = a7) (h5 : a8 = a4) (h6 : a9 = a6) (h7 : a10 = a8) (h8 : a11 = a9) (h9 : a12 = a13) (h10 : a14 = a15) (h11 : a16 = a17) (h12 : a5 = a18 + a19) (h13 : a20 = a14 - a19) (h14 : ((a0 = 1) ∧ (a21 = (a22 + 1)) ∧ (a22 < a23) ∧ (a24 = a25)) ∨ ((a0 = 0) ∧ (a21 = a22))) (h15 : ((a2 = 1) ∧ (a26 = (a21 + 1)) ∧ (a21 < a27) ∧ (a28 = a29)) ∨ ((a2 = 0) ∧ (a26 = a21))) (h16 : ((a30 = 1) ∧ (a31 = (a26 + 1)) ∧ (a26 < a32) ∧ (a33 = a34)) ∨ ((a30 = 0) ∧ (a31 = a26))) (h17 : a15 = a10) (h18 : a31 ≤ a35) (h19 : a35 ≤ a13) (h20 : (a17 - a35) ≤ (a11 - a31)) (h21 : a11 ≤ a17) (h22 : ((a3 = 1) ∧ (a36 = (a35 + 1)) ∧ (a35 < a13) ∧ (a37 = a38)) ∨ ((a3 = 0) ∧ (a36 = a35))) (h23 : a1 = 0) (h24 : a19 = 1) (h25 : a25 = 33) (h26 : a29 = 45) (h27 : a34 = 40) (h28 : a38 = 41) : (a20 = a18) ∧ (a22 ≤ a36) ∧ (a36 ≤ a12) ∧ ((a16 - a36) ≤ (a7 - a22)) ∧ (a7 ≤ a16) ∧ ((0 : Int) ≤ a1) ∧ (a1 ≤ 1) ∧ (((a1 = 1) → ((a22 + 1) ≤ a36))) := ⟨by omega, by omega, by omega, by omega, by omega, by omega, by omega, by omega⟩
theorem oq226 {a0 a1 a2 a3 a4 a5 a6 a7 a8 a9 a10 a11 a12 a13 a14 a15 a16 a17 a18 a19 a20 a21 a22 a23 a24 a25 a26 a27 a28 a29 a30 a31 a32 a33 a34 a35 a36 a37 a38 a39 a40 : Int} (h0 : a0 = a1) (h1 : a2 = a1) (h2 : a3 ≠ a1) (h3 : a4 = a1) (h4 : a5 ≠ a1) (h5 : a6 = a7) (h6 : a8 = a9) (h7 : a10 = a6) (h8 : a11 = a8) (h9 : a12 = a10) (h10 : a13 = a11) (h11 : a14 = a15) (h12 : a16 = a17) (h13 : a18 = a19) (h14 : (a20 = a21 → a22 = a23)) (h15 : (a24 = a20 → a25 = a22)) (h16 : a7 = a26 + a27) (h17 : a28 = a16 - a27) (h18 : ((a0 = 1) ∧ (a20 = (a21 + 1)) ∧ (a21 < a29) ∧ (a23 = a30)) ∨ ((a0 = 0) ∧ (a20 = a21))) (h19 : ((a2 = 1) ∧ (a24 = (a20 + 1)) ∧ (a20 < a31) ∧ (a22 = a32)) ∨ ((a2 = 0) ∧ (a24 = a20))) (h20 : ((a3 = 1) ∧ (a33 = (a24 + 1)) ∧ (a24 < a34) ∧ (a25 = a35)) ∨ ((a3 = 0) ∧ (a33 = a24))) (h21 : ((a4 = 0) → (¬ (((48 : Int) ≤ a23) ∧ (a23 ≤ 57))))) (h22 : a17 = a12) (h23 : a36 ≤ a15) (h24 : (a19 - a36) ≤ (a13 - a33)) (h25 : a13 ≤ a19) (h26 : (0 : Int) ≤ a5) (h27 : a5 ≤ 1) (h28 : ((a5 = 1) → ((a33 + 1) ≤ a36))) (h29 : ((a37 = 1) ∧ (a38 = (a36 + 1)) ∧ (a36 < a15) ∧ (a39 = a40)) ∨ ((a37 = 0) ∧ (a38 = a36))) (h30 : a1 = 0) (h31 : a27 = 1) (h32 : a30 = 33) (h33 : a32 = 45) (h34 : a35 = 40) (h35 : a40 = 41) : (a28 = a26) ∧ (a21 ≤ a38) ∧ (a38 ≤ a14) ∧ ((a18 - a38) ≤ (a9 - a21)) ∧ (a9 ≤ a18) ∧ ((0 : Int) ≤ a27) ∧ (a27 ≤ 1) ∧ (((a27 = 1) → ((a21 + 1) ≤ a38))) := ⟨by omega, by omega, by omega, by omega, by omega, by omega, by omega, by omega⟩
theorem oq227 {a0 a1 a2 a3 a4 a5 a6 a7 a8 a9 a10 a11 a12 a13 a14 a15 a16 a17 a18 a19 a20 a21 a22 a23 a24 : Int} (h0 : a0 = a1) (h1 : a2 = a3) (h2 : a4 = a5) (h3 : a6 = a2) (h4 : a7 = a4) (h5 : a3 = a8 + a9) (h6 : a10 = a11 - a9) (h7 : ((a0 = 1) ∧ (a12 = (a13 + 1)) ∧ (a13 < a14) ∧ (a15 = a16)) ∨ ((a0 = 0) ∧ (a12 = a13))) (h8 : ((a17 = 1) ∧ (a18 = (a12 + 1)) ∧ (a12 < a19) ∧ (a20 = a21)) ∨ ((a17 = 0) ∧ (a18 = a12))) (h9 : a11 = a6) (h10 : a18 ≤ a22) (h11 : a22 ≤ a23) (h12 : (a24 - a22) ≤ (a7 - a18)) (h13 : a7 ≤ a24) (h14 : a1 = 0) (h15 : a9 = 1) (h16 : a16 = 33) (h17 : a21 = 45) : (a10 = a8) ∧ (a13 ≤ a22) ∧ (a22 ≤ a23) ∧ ((a24 - a22) ≤ (a5 - a13)) ∧ (a5 ≤ a24) ∧ ((0 : Int) ≤ a1) ∧ (a1 ≤ 1) ∧ (((a1 = 1) → ((a13 + 1) ≤ a22))) := ⟨by omega, by omega, h11, by omega, by omega, by omega, by omega, by omega⟩
theorem oq228 {a0 a1 a2 a3 a4 a5 a6 a7 a8 a9 a10 a11 a12 a13 a14 a15 a16 : Int} (h0 : a0 = a1) (h1 : a2 = a3) (h2 : a4 = a2) (h3 : a5 ≤ 120) (h4 : (0 : Int) ≤ a6) (h5 : a3 ≤ a7) (h6 : ((a0 = 1) ∧ (a8 = (a7 + 1)) ∧ (a7 < a9) ∧ (a10 = a11)) ∨ ((a0 = 0) ∧ (a8 = a7))) (h7 : ((a12 = 1) ∧ (a13 = (a8 + 1)) ∧ (a8 < a14) ∧ (a15 = a16)) ∨ ((a12 = 0) ∧ (a13 = a8))) (h8 : (a6 - a5) ≤ (a4 - a13)) (h9 : a1 = 0) (h10 : a11 = 33) (h11 : a16 = 45) : ((0 : Int) ≤ a6) ∧ (a6 ≤ 199) := by omega
theorem oq229 {a0 a1 a2 a3 a4 a5 a6 a7 a8 a9 a10 a11 a12 a13 a14 a15 a16 a17 a18 a19 a20 a21 a22 a23 a24 a25 a26 a27 a28 : Int} (h0 : a0 = a1) (h1 : a2 ≠ a1) (h2 : a3 = a4) (h3 : a5 = a6) (h4 : a7 = a3) (h5 : a8 = a5) (h6 : a9 = a10) (h7 : a11 = a12) (h8 : a13 = a14) (h9 : a4 = a15 + a16) (h10 : a17 = a13 - a16) (h11 : ((a0 = 1) ∧ (a18 = (a19 + 1)) ∧ (a19 < a20) ∧ (a21 = a22)) ∨ ((a0 = 0) ∧ (a18 = a19))) (h12 : ((a2 = 1) ∧ (a23 = (a18 + 1)) ∧ (a18 < a24) ∧ (a25 = a26)) ∨ ((a2 = 0) ∧ (a23 = a18))) (h13 : a14 = a7) (h14 : a23 ≤ a12) (h15 : a12 ≤ a10) (h16 : (a27 - a12) ≤ (a8 - a23)) (h17 : a8 ≤ a27) (h18 : a28 = (a27 + 1)) (h19 : a1 = 0) (h20 : a16 = 1) (h21 : a22 = 33) (h22 : a26 = 45) : (a17 = a15) ∧ (a19 ≤ a11) ∧ (a11 ≤ a9) ∧ ((a28 - a11) ≤ (a6 - a19)) ∧ (a6 ≤ a28) ∧ ((0 : Int) ≤ a16) ∧ (a16 ≤ 1) ∧ (((a16 = 1) → ((a19 + 1) ≤ a11))) := ⟨by omega, by omega, by omega, by omega, by omega, by omega, by omega, by omega⟩
theorem oq230 {a0 a1 : Int} (h0 : a0 ≤ a1) (h1 : a0 = 4) : 4 ≤ a1 := op12 h0 h1
theorem oq231 {a0 a1 a2 a3 : Int} (h0 : a0 ≤ a1) (h1 : ((a1 = 0) ∧ (a2 = 0)) ∨ ((a1 = 1) ∧ ((0 : Int) ≤ a2) ∧ (a2 ≤ 9)) ∨ ((a1 = 2) ∧ ((0 : Int) ≤ a2) ∧ (a2 ≤ 99)) ∨ ((a1 = 3) ∧ ((0 : Int) ≤ a2) ∧ (a2 ≤ 999)) ∨ ((a1 = 4) ∧ ((0 : Int) ≤ a2) ∧ (a2 ≤ 9999))) (h2 : a0 = 4) (h3 : a3 = 18) : (-2147483648 : Int) ≤ a3 + a2 := oz790 h0 h1 h2 h3
theorem oq232 {a0 a1 a2 a3 : Int} (h0 : a0 ≤ a1) (h1 : ((a1 = 0) ∧ (a2 = 0)) ∨ ((a1 = 1) ∧ ((0 : Int) ≤ a2) ∧ (a2 ≤ 9)) ∨ ((a1 = 2) ∧ ((0 : Int) ≤ a2) ∧ (a2 ≤ 99)) ∨ ((a1 = 3) ∧ ((0 : Int) ≤ a2) ∧ (a2 ≤ 999)) ∨ ((a1 = 4) ∧ ((0 : Int) ≤ a2) ∧ (a2 ≤ 9999))) (h2 : a0 = 4) (h3 : a3 = 18) : a3 + a2 ≤ 2147483647 := oz791 h0 h1 h2 h3
theorem oq233 {a0 a1 a2 : Int} (h0 : a0 = a1) (h1 : (0 : Int) ≤ a0) (h2 : a2 ≤ 120) (h3 : a1 ≤ a2) : ((0 : Int) ≤ a0) ∧ (a0 ≤ 199) := oz792 h0 h1 h2 h3
theorem oq234 {a0 a1 a2 a3 a4 a5 a6 a7 a8 a9 a10 a11 a12 a13 : Int} (h0 : a0 ≤ a1) (h1 : a2 = a3) (h2 : a4 = a5) (h3 : a6 = a7) (h4 : a8 = a9) (h5 : a10 = a2) (h6 : (a11 + a1) ≤ a9) (h7 : a9 ≤ a7) (h8 : a12 = 1) (h9 : a13 = (a4 + 1)) (h10 : a0 = 4) : (a10 = a3) ∧ (a11 ≤ a8) ∧ (a8 ≤ a6) ∧ ((a13 - a8) ≤ (a5 - a11)) ∧ (a5 ≤ a13) ∧ ((0 : Int) ≤ a12) ∧ (a12 ≤ 1) ∧ (((a12 = 1) → ((a11 + 1) ≤ a8))) := ⟨by omega, by omega, by omega, by omega, by omega, by omega, by omega, by omega⟩
theorem oq235 {a0 a1 a2 a3 : Int} (h0 : a0 < a1) (h1 : ((a0 = 0) ∧ (a2 = 0)) ∨ ((a0 = 1) ∧ ((0 : Int) ≤ a2) ∧ (a2 ≤ 9)) ∨ ((a0 = 2) ∧ ((0 : Int) ≤ a2) ∧ (a2 ≤ 99)) ∨ ((a0 = 3) ∧ ((0 : Int) ≤ a2) ∧ (a2 ≤ 999)) ∨ ((a0 = 4) ∧ ((0 : Int) ≤ a2) ∧ (a2 ≤ 9999))) (h2 : a1 = 4) (h3 : a3 = 18) : (-2147483648 : Int) ≤ a3 + a2 := oz802 h0 h1 h2 h3
theorem oq236 {a0 a1 a2 a3 : Int} (h0 : a0 < a1) (h1 : ((a0 = 0) ∧ (a2 = 0)) ∨ ((a0 = 1) ∧ ((0 : Int) ≤ a2) ∧ (a2 ≤ 9)) ∨ ((a0 = 2) ∧ ((0 : Int) ≤ a2) ∧ (a2 ≤ 99)) ∨ ((a0 = 3) ∧ ((0 : Int) ≤ a2) ∧ (a2 ≤ 999)) ∨ ((a0 = 4) ∧ ((0 : Int) ≤ a2) ∧ (a2 ≤ 9999))) (h2 : a1 = 4) (h3 : a3 = 18) : a3 + a2 ≤ 2147483647 := oz803 h0 h1 h2 h3
theorem oq237 {a0 a1 a2 a3 a4 a5 a6 a7 a8 a9 a10 a11 a12 a13 a14 a15 a16 a17 a18 : Int} (h0 : a0 ≠ a1) (h1 : a2 = a1) (h2 : a3 = a4) (h3 : a5 = a6) (h4 : a7 = a8) (h5 : a9 = a10) (h6 : a11 = a3) (h7 : (a12 + a13) ≤ a10) (h8 : a10 ≤ a8) (h9 : ((1 : Int) ≤ a13) ∨ (a10 = a12)) (h10 : (a10 = a12 → a14 = a15)) (h11 : ((a2 = 0) → (¬ (((48 : Int) ≤ a14) ∧ (a14 ≤ 57))))) (h12 : a16 = 1) (h13 : a17 = (a5 + 1)) (h14 : ((a0 = 1) ∧ ((48 : Int) ≤ a15) ∧ (a15 ≤ 57) ∧ (a12 < a18)) ∨ (a0 = 0)) (h15 : a1 = 0) : (a11 = a4) ∧ (a12 ≤ a9) ∧ (a9 ≤ a7) ∧ ((a17 - a9) ≤ (a6 - a12)) ∧ (a6 ≤ a17) ∧ ((0 : Int) ≤ a16) ∧ (a16 ≤ 1) ∧ (((a16 = 1) → ((a12 + 1) ≤ a9))) := ⟨by omega, by omega, by omega, by omega, by omega, by omega, by omega, by omega⟩
theorem oq238 {a0 a1 a2 : Int} (h0 : a0 < a1) (h1 : ((a0 = 0) ∧ (a2 = 0)) ∨ ((a0 = 1) ∧ ((0 : Int) ≤ a2) ∧ (a2 ≤ 9)) ∨ ((a0 = 2) ∧ ((0 : Int) ≤ a2) ∧ (a2 ≤ 99)) ∨ ((a0 = 3) ∧ ((0 : Int) ≤ a2) ∧ (a2 ≤ 999)) ∨ ((a0 = 4) ∧ ((0 : Int) ≤ a2) ∧ (a2 ≤ 9999))) (h2 : a1 = 4) : (-2147483648 : Int) ≤ 10 * a2 := oz795 h0 h1 h2
theorem oq239 {a0 a1 a2 : Int} (h0 : a0 < a1) (h1 : ((a0 = 0) ∧ (a2 = 0)) ∨ ((a0 = 1) ∧ ((0 : Int) ≤ a2) ∧ (a2 ≤ 9)) ∨ ((a0 = 2) ∧ ((0 : Int) ≤ a2) ∧ (a2 ≤ 99)) ∨ ((a0 = 3) ∧ ((0 : Int) ≤ a2) ∧ (a2 ≤ 999)) ∨ ((a0 = 4) ∧ ((0 : Int) ≤ a2) ∧ (a2 ≤ 9999))) (h2 : a1 = 4) : 10 * a2 ≤ 2147483647 := oz796 h0 h1 h2
theorem oq240 {a0 a1 a2 a3 a4 a5 a6 : Int} (h0 : a0 ≠ a1) (h1 : a2 = a3) (h2 : a3 = a4) (h3 : ((a0 = 1) ∧ ((48 : Int) ≤ a5) ∧ (a5 ≤ 57) ∧ (a6 < a2)) ∨ (a0 = 0)) (h4 : a1 = 0) : a6 < a4 := by omega
theorem oq241 {a0 a1 a2 a3 a4 a5 a6 a7 a8 a9 a10 : Int} (h0 : a0 < a1) (h1 : a2 ≠ a3) (h2 : a4 = a5) (h3 : ((a0 = 0) ∧ (a6 = 0)) ∨ ((a0 = 1) ∧ ((0 : Int) ≤ a6) ∧ (a6 ≤ 9)) ∨ ((a0 = 2) ∧ ((0 : Int) ≤ a6) ∧ (a6 ≤ 99)) ∨ ((a0 = 3) ∧ ((0 : Int) ≤ a6) ∧ (a6 ≤ 999)) ∨ ((a0 = 4) ∧ ((0 : Int) ≤ a6) ∧ (a6 ≤ 9999))) (h4 : (a7 + a0) ≤ a8) (h5 : ((1 : Int) ≤ a0) ∨ (a8 = a7)) (h6 : a9 = 10 * a6) (h7 : ((a2 = 1) ∧ ((48 : Int) ≤ a5) ∧ (a5 ≤ 57) ∧ (a8 < a10)) ∨ (a2 = 0)) (h8 : a1 = 4) (h9 : a3 = 0) : (-2147483648 : Int) ≤ a9 + a4 := by omega
theorem oq242 {a0 a1 a2 a3 a4 a5 a6 a7 a8 a9 a10 : Int} (h0 : a0 < a1) (h1 : a2 ≠ a3) (h2 : a4 = a5) (h3 : ((a0 = 0) ∧ (a6 = 0)) ∨ ((a0 = 1) ∧ ((0 : Int) ≤ a6) ∧ (a6 ≤ 9)) ∨ ((a0 = 2) ∧ ((0 : Int) ≤ a6) ∧ (a6 ≤ 99)) ∨ ((a0 = 3) ∧ ((0 : Int) ≤ a6) ∧ (a6 ≤ 999)) ∨ ((a0 = 4) ∧ ((0 : Int) ≤ a6) ∧ (a6 ≤ 9999))) (h4 : (a7 + a0) ≤ a8) (h5 : ((1 : Int) ≤ a0) ∨ (a8 = a7)) (h6 : a9 = 10 * a6) (h7 : ((a2 = 1) ∧ ((48 : Int) ≤ a5) ∧ (a5 ≤ 57) ∧ (a8 < a10)) ∨ (a2 = 0)) (h8 : a1 = 4) (h9 : a3 = 0) : a9 + a4 ≤ 2147483647 := by omega
theorem oq243 {a0 a1 a2 a3 a4 a5 a6 a7 a8 a9 a10 a11 a12 : Int} (h0 : a0 < a1) (h1 : a2 ≠ a3) (h2 : a4 = a5) (h3 : ((a0 = 0) ∧ (a6 = 0)) ∨ ((a0 = 1) ∧ ((0 : Int) ≤ a6) ∧ (a6 ≤ 9)) ∨ ((a0 = 2) ∧ ((0 : Int) ≤ a6) ∧ (a6 ≤ 99)) ∨ ((a0 = 3) ∧ ((0 : Int) ≤ a6) ∧ (a6 ≤ 999)) ∨ ((a0 = 4) ∧ ((0 : Int) ≤ a6) ∧ (a6 ≤ 9999))) (h4 : (a7 + a0) ≤ a8) (h5 : ((1 : Int) ≤ a0) ∨ (a8 = a7)) (h6 : a9 = 10 * a6) (h7 : a10 = a9 + a4) (h8 : ((a2 = 1) ∧ ((48 : Int) ≤ a5) ∧ (a5 ≤ 57) ∧ (a8 < a11)) ∨ (a2 = 0)) (h9 : a1 = 4) (h10 : a3 = 0) (h11 : a12 = 48) : (-2147483648 : Int) ≤ a10 - a12 := by omega
theorem oq244 {a0 a1 a2 a3 a4 a5 a6 a7 a8 a9 a10 a11 a12 : Int} (h0 : a0 < a1) (h1 : a2 ≠ a3) (h2 : a4 = a5) (h3 : ((a0 = 0) ∧ (a6 = 0)) ∨ ((a0 = 1) ∧ ((0 : Int) ≤ a6) ∧ (a6 ≤ 9)) ∨ ((a0 = 2) ∧ ((0 : Int) ≤ a6) ∧ (a6 ≤ 99)) ∨ ((a0 = 3) ∧ ((0 : Int) ≤ a6) ∧ (a6 ≤ 999)) ∨ ((a0 = 4) ∧ ((0 : Int) ≤ a6) ∧ (a6 ≤ 9999))) (h4 : (a7 + a0) ≤ a8) (h5 : ((1 : Int) ≤ a0) ∨ (a8 = a7)) (h6 : a9 = 10 * a6) (h7 : a10 = a9 + a4) (h8 : ((a2 = 1) ∧ ((48 : Int) ≤ a5) ∧ (a5 ≤ 57) ∧ (a8 < a11)) ∨ (a2 = 0)) (h9 : a1 = 4) (h10 : a3 = 0) (h11 : a12 = 48) : a10 - a12 ≤ 2147483647 := by omega
theorem oq245 {a0 a1 a2 a3 a4 a5 a6 a7 a8 a9 a10 a11 a12 a13 a14 : Int} (h0 : a0 < a1) (h1 : a2 ≠ a3) (h2 : a4 = a5) (h3 : ((a0 = 0) ∧ (a6 = 0)) ∨ ((a0 = 1) ∧ ((0 : Int) ≤ a6) ∧ (a6 ≤ 9)) ∨ ((a0 = 2) ∧ ((0 : Int) ≤ a6) ∧ (a6 ≤ 99)) ∨ ((a0 = 3) ∧ ((0 : Int) ≤ a6) ∧ (a6 ≤ 999)) ∨ ((a0 = 4) ∧ ((0 : Int) ≤ a6) ∧ (a6 ≤ 9999))) (h4 : a7 = 10 * a6) (h5 : a8 = a7 + a4) (h6 : a9 = a8 - a10) (h7 : a11 = a0 + a12) (h8 : ((a2 = 1) ∧ ((48 : Int) ≤ a5) ∧ (a5 ≤ 57) ∧ (a13 < a14)) ∨ (a2 = 0)) (h9 : a1 = 4) (h10 : a3 = 0) (h11 : a10 = 48) (h12 : a12 = 1) : ((a11 = 0) ∧ (a9 = 0)) ∨ ((a11 = 1) ∧ ((0 : Int) ≤ a9) ∧ (a9 ≤ 9)) ∨ ((a11 = 2) ∧ ((0 : Int) ≤ a9) ∧ (a9 ≤ 99)) ∨ ((a11 = 3) ∧ ((0 : Int) ≤ a9) ∧ (a9 ≤ 999)) ∨ ((a11 = 4) ∧ ((0 : Int) ≤ a9) ∧ (a9 ≤ 9999)) := by omega
theorem oq246 {a0 a1 : Int} (h0 : (a0 + a1) = 6) : (a0 + a1) = 6 := oz808 h0
theorem oq248 {a0 a1 a2 : Int} (h0 : a0 ≠ a1) (h1 : a0 = a2) (h2 : a1 = 42) : a2 ≠ 42 := by omega
theorem oq249 {a0 a1 a2 : Int} (h0 : a0 ≠ a1) (h1 : a0 = a2) (h2 : a1 = 47) : a2 ≠ 47 := by omega
theorem oq250 {a0 a1 a2 : Int} (h0 : a0 ≠ a1) (h1 : a0 = a2) (h2 : a1 = 37) : a2 ≠ 37 := by omega
theorem oq251 {a0 : Int} (h0 : a0 = (-1)) : a0 = -1 := by omega
theorem oq252 {a0 : Int} (h0 : a0 = (-1)) : a0 < 0 := by omega
theorem oq253 {a0 a1 a2 a3 a4 a5 a6 a7 : Int} (h0 : a0 = a1) (h1 : a2 ≤ 120) (h2 : a0 = a3) (h3 : a4 = a3) (h4 : a5 = a6 + a7) (h5 : (a4 = (-1)) ∨ (a6 < a2)) (h6 : a1 = 37) (h7 : a7 = 1) : a5 ≤ 120 := by omega
theorem oq254 {a0 a1 a2 a3 : Int} (h0 : a0 = a1) (h1 : (a2 + a3) = 6) (h2 : a1 = a2) : (a0 + a3) = 6 := oz811 h0 h1 h2
theorem oq255 {a0 a1 a2 a3 a4 a5 : Int} (h0 : a0 ≤ a1) (h1 : (a2 - a3) ≤ (a0 - a1)) (h2 : a4 = a3 + a5) (h3 : a5 = 1) : a2 ≤ a4 := oz812 h0 h1 h2 h3
theorem oq256 {a0 a1 a2 a3 a4 a5 a6 a7 : Int} (h0 : a0 = a1) (h1 : a0 = a2) (h2 : a3 = a2) (h3 : a4 = a5 + a6) (h4 : (a3 = (-1)) ∨ (a5 < a7)) (h5 : a1 = 37) (h6 : a6 = 1) : a4 ≤ a7 := by omega
theorem oq257 {a0 a1 a2 a3 a4 a5 a6 a7 : Int} (h0 : a0 ≤ 120) (h1 : (0 : Int) ≤ a1) (h2 : a2 ≤ a3) (h3 : (a4 - a5) ≤ (a2 - a3)) (h4 : a6 = a5 + a7) (h5 : (a1 - a0) ≤ (a4 - a6)) (h6 : a7 = 1) : ((0 : Int) ≤ a1) ∧ (a1 ≤ 199) := oz814 h0 h1 h2 h3 h4 h5 h6
theorem oq259 {a0 a1 a2 a3 a4 a5 : Int} (h0 : a0 = a1) (h1 : (a2 + 1) ≤ a3) (h2 : a4 = a3 + a5) (h3 : a4 ≤ a1) (h4 : a5 = 1) : a2 ≤ a0 := by omega
theorem oq260 {a0 a1 a2 a3 : Int} (h0 : a0 = a1) (h1 : a2 = a3) (h2 : a3 ≤ a1) : a2 ≤ a0 := oz819 h0 h1 h2
theorem oq263 {a0 a1 a2 a3 a4 a5 : Int} (h0 : a0 = a1) (h1 : (a2 + 1) ≤ a3) (h2 : a4 = a3 + a5) (h3 : a4 ≤ a1) (h4 : a5 = 1) : (a2 + 1) ≤ a0 := by omega
theorem oq264 {a0 a1 a2 : Int} (h0 : a0 = a1) (h1 : a0 = a2) (h2 : a1 = 37) : a2 = 37 := by omega
theorem oq265 {a0 : Int} (h0 : a0 = 15) : a0 = 15 := by omega
theorem oq266 {a0 : Int} (h0 : a0 = 15) : (0 : Int) ≤ a0 := oz1427 h0
theorem oq267 {a0 a1 a2 a3 a4 a5 a6 a7 a8 : Int} (h0 : a0 = a1) (h1 : a2 = a0) (h2 : a1 = a3) (h3 : a3 = a4) (h4 : a5 = a6 + a7) (h5 : a5 ≤ a8) (h6 : a8 ≤ a2) (h7 : a7 = 1) : a6 < a4 := by omega
theorem oq268 {a0 a1 a2 a3 a4 : Int} (h0 : a0 = a1) (h1 : a2 = a3 + a4) (h2 : a2 ≤ a1) (h3 : a4 = 1) : a3 < a0 := by omega
theorem oq269 {a0 a1 a2 a3 a4 a5 a6 a7 : Int} (h0 : a0 = a1) (h1 : a2 = a0) (h2 : a3 = a4) (h3 : a5 = a6 + a7) (h4 : a5 ≤ a4) (h5 : a7 = 1) : (a2 - a3) < (a1 - a6) := by omega
theorem oq270 {a0 a1 a2 a3 a4 a5 : Int} (h0 : a0 = a1) (h1 : a2 = a3 + a4) (h2 : a2 ≤ a5) (h3 : a5 ≤ a0) (h4 : a4 = 1) : (1 : Int) ≤ (a1 - a3) := by omega
theorem oq272 {a0 a1 a2 a3 a4 a5 a6 a7 : Int} (h0 : a0 = a1) (h1 : a2 ≤ 120) (h2 : a0 = a3) (h3 : a4 = a3) (h4 : a5 = a6 + a7) (h5 : (a4 = (-1)) ∨ (a6 < a2)) (h6 : a1 = 47) (h7 : a7 = 1) : a5 ≤ 120 := by omega
theorem oq273 {a0 a1 a2 a3 a4 a5 a6 a7 : Int} (h0 : a0 = a1) (h1 : a0 = a2) (h2 : a3 = a2) (h3 : a4 = a5 + a6) (h4 : (a3 = (-1)) ∨ (a5 < a7)) (h5 : a1 = 47) (h6 : a6 = 1) : a4 ≤ a7 := by omega
theorem oq276 {a0 a1 a2 a3 a4 : Int} (h0 : a0 = a1) (h1 : a2 ≤ a1) (h2 : a0 ≤ a3) (h3 : a4 = (a3 + 1)) : a2 ≤ a4 := oz833 h0 h1 h2 h3
theorem oq277 {a0 a1 a2 : Int} (h0 : a0 = a1) (h1 : a0 = a2) (h2 : a1 = 47) : a2 = 47 := by omega
theorem oq278 {a0 : Int} (h0 : a0 = 14) : a0 = 14 := by omega
theorem oq279 {a0 : Int} (h0 : a0 = 14) : (0 : Int) ≤ a0 := oz1425 h0
theorem oq280 {a0 a1 a2 a3 a4 a5 a6 a7 a8 : Int} (h0 : a0 = a1) (h1 : a1 = a2) (h2 : a3 = a0) (h3 : a2 = a4) (h4 : a5 = a6 + a7) (h5 : a5 ≤ a8) (h6 : a8 ≤ a3) (h7 : a7 = 1) : a6 < a4 := by omega
theorem oq282 {a0 a1 a2 a3 a4 a5 : Int} (h0 : a0 = a1) (h1 : a2 ≤ 120) (h2 : a3 = a4 + a5) (h3 : (a0 = (-1)) ∨ (a4 < a2)) (h4 : a1 = 42) (h5 : a5 = 1) : a3 ≤ 120 := by omega
theorem oq283 {a0 a1 a2 a3 a4 a5 : Int} (h0 : a0 = a1) (h1 : a2 = a3 + a4) (h2 : (a0 = (-1)) ∨ (a3 < a5)) (h3 : a1 = 42) (h4 : a4 = 1) : a2 ≤ a5 := by omega
theorem oq284 {a0 a1 a2 : Int} (h0 : a0 = a1) (h1 : a0 = a2) (h2 : a1 = 42) : a2 = 42 := by omega
theorem oq285 {a0 : Int} (h0 : a0 = 13) : a0 = 13 := by omega
theorem oq286 {a0 : Int} (h0 : a0 = 13) : (0 : Int) ≤ a0 := oz1423 h0
theorem oq287 {a0 a1 a2 a3 : Int} (h0 : (a0 - a1) ≤ (a2 - a3)) : (a0 - a1) ≤ (a2 - a3) := oz840 h0
theorem oq288 {a0 a1 a2 a3 : Int} (h0 : a0 ≠ a1) (h1 : (0 : Int) ≤ a0) (h2 : a0 ≤ 1) (h3 : ((a0 = 1) → ((a2 + 1) ≤ a3))) (h4 : a1 = 0) : (a2 + 1) ≤ a3 := by omega
theorem oq289 {a0 a1 a2 a3 a4 a5 a6 a7 : Int} (h0 : a0 = a1) (h1 : a2 ≤ a3) (h2 : a3 ≤ a4) (h3 : (a5 - a3) ≤ (a6 - a2)) (h4 : a6 ≤ a5) (h5 : a7 = 0) : (a0 = a1) ∧ (a2 ≤ a3) ∧ (a3 ≤ a4) ∧ ((a5 - a3) ≤ (a6 - a2)) ∧ (a6 ≤ a5) ∧ ((0 : Int) ≤ a7) ∧ (a7 ≤ 1) ∧ (((a7 = 1) → ((a2 + 1) ≤ a3))) := by omega
theorem oq290 {a0 a1 a2 a3 a4 a5 a6 a7 : Int} (h0 : a0 = a1) (h1 : a2 ≤ a3) (h2 : (a4 - a2) ≤ (a5 - a6)) (h3 : a5 ≤ a4) (h4 : (a6 + 1) ≤ a2) (h5 : a7 = 1) : (a0 = a1) ∧ (a6 ≤ a2) ∧ (a2 ≤ a3) ∧ ((a4 - a2) ≤ (a5 - a6)) ∧ (a5 ≤ a4) ∧ ((0 : Int) ≤ a7) ∧ (a7 ≤ 1) ∧ (((a7 = 1) → ((a6 + 1) ≤ a2))) := ⟨h0, by omega, h1, h2, h3, by omega, by omega, by omega⟩
theorem oq291 {a0 a1 a2 : Int} (h0 : (a0 + a1) = 6) (h1 : a2 = a0) : (a2 + a1) = 6 := oz844 h0 h1
theorem oq292 {a0 a1 a2 a3 : Int} (h0 : a0 = a1) (h1 : a2 = a3) (h2 : a1 = a2) : a0 = a3 := oz845 h0 h1 h2
theorem oq293 {a0 a1 a2 a3 a4 a5 a6 a7 a8 a9 : Int} (h0 : a0 = a1) (h1 : (a2 - a3) ≤ (a4 - a5)) (h2 : a6 = a3 + a7) (h3 : (a8 - a1) ≤ (a2 - a6)) (h4 : a9 = (a8 + 1)) (h5 : a7 = 1) : (a9 - a0) ≤ (a4 - a5) := oz847 h0 h1 h2 h3 h4 h5
theorem oq294 {a0 a1 a2 a3 : Int} (h0 : a0 ≤ a1) (h1 : a1 ≤ a2) (h2 : a3 = (a2 + 1)) : a0 ≤ a3 := oz848 h0 h1 h2
theorem oq295 {a0 a1 a2 a3 a4 a5 a6 a7 a8 a9 a10 a11 a12 : Int} (h0 : a0 = a1) (h1 : (a2 - a3) ≤ (a4 - a5)) (h2 : a4 ≤ a2) (h3 : (a5 + 1) ≤ a3) (h4 : a6 = a3 + a7) (h5 : a8 = a0) (h6 : a6 ≤ a9) (h7 : a9 ≤ a10) (h8 : (a11 - a9) ≤ (a2 - a6)) (h9 : a2 ≤ a11) (h10 : a7 = 1) (h11 : a12 = 0) : (a8 = a1) ∧ (a5 ≤ a9) ∧ (a9 ≤ a10) ∧ ((a11 - a9) ≤ (a4 - a5)) ∧ (a4 ≤ a11) ∧ ((0 : Int) ≤ a12) ∧ (a12 ≤ 1) ∧ (((a12 = 1) → ((a5 + 1) ≤ a9))) := ⟨by omega, by omega, h7, by omega, by omega, by omega, by omega, by omega⟩
theorem oq296 {a0 a1 a2 : Int} (h0 : a0 ≠ a1) (h1 : a0 = a2) (h2 : a1 = 43) : a2 ≠ 43 := by omega
theorem oq297 {a0 a1 a2 : Int} (h0 : a0 ≠ a1) (h1 : a0 = a2) (h2 : a1 = 45) : a2 ≠ 45 := by omega
theorem oq298 {a0 a1 a2 a3 a4 a5 a6 a7 : Int} (h0 : a0 = a1) (h1 : a2 ≤ 120) (h2 : a0 = a3) (h3 : a4 = a3) (h4 : a5 = a6 + a7) (h5 : (a4 = (-1)) ∨ (a6 < a2)) (h6 : a1 = 45) (h7 : a7 = 1) : a5 ≤ 120 := by omega
theorem oq299 {a0 a1 a2 a3 a4 a5 a6 a7 : Int} (h0 : a0 = a1) (h1 : a0 = a2) (h2 : a3 = a2) (h3 : a4 = a5 + a6) (h4 : (a3 = (-1)) ∨ (a5 < a7)) (h5 : a1 = 45) (h6 : a6 = 1) : a4 ≤ a7 := by omega
theorem oq300 {a0 a1 a2 : Int} (h0 : a0 = a1) (h1 : a0 = a2) (h2 : a1 = 45) : a2 = 45 := by omega
theorem oq301 {a0 : Int} (h0 : a0 = 12) : a0 = 12 := by omega
theorem oq302 {a0 : Int} (h0 : a0 = 12) : (0 : Int) ≤ a0 := oz1418 h0
theorem oq303 {a0 a1 a2 a3 a4 a5 : Int} (h0 : a0 = a1) (h1 : a2 ≤ 120) (h2 : a3 = a4 + a5) (h3 : (a0 = (-1)) ∨ (a4 < a2)) (h4 : a1 = 43) (h5 : a5 = 1) : a3 ≤ 120 := by omega
theorem oq304 {a0 a1 a2 a3 a4 a5 : Int} (h0 : a0 = a1) (h1 : a2 = a3 + a4) (h2 : (a0 = (-1)) ∨ (a3 < a5)) (h3 : a1 = 43) (h4 : a4 = 1) : a2 ≤ a5 := by omega
theorem oq305 {a0 a1 a2 : Int} (h0 : a0 = a1) (h1 : a0 = a2) (h2 : a1 = 43) : a2 = 43 := by omega
theorem oq306 {a0 : Int} (h0 : a0 = 11) : a0 = 11 := by omega
theorem oq307 {a0 : Int} (h0 : a0 = 11) : (0 : Int) ≤ a0 := oz1416 h0
theorem oq308 {a0 a1 a2 a3 a4 a5 a6 a7 a8 a9 : Int} (h0 : a0 ≠ a1) (h1 : a2 = a3) (h2 : a4 ≤ a5) (h3 : a5 ≤ a6) (h4 : (a7 - a5) ≤ (a8 - a4)) (h5 : a8 ≤ a7) (h6 : (0 : Int) ≤ a0) (h7 : a0 ≤ 1) (h8 : ((a0 = 1) → ((a4 + 1) ≤ a5))) (h9 : a1 = 0) (h10 : a9 = 1) : (a2 = a3) ∧ (a4 ≤ a5) ∧ (a5 ≤ a6) ∧ ((a7 - a5) ≤ (a8 - a4)) ∧ (a8 ≤ a7) ∧ ((0 : Int) ≤ a9) ∧ (a9 ≤ 1) ∧ (((a9 = 1) → ((a4 + 1) ≤ a5))) := ⟨h1, h2, h3, h4, h5, by omega, by omega, by omega⟩
theorem oq309 {a0 a1 a2 : Int} (h0 : a0 ≠ a1) (h1 : a0 = a2) (h2 : a1 = 60) : a2 ≠ 60 := by omega
theorem oq310 {a0 a1 a2 a3 a4 : Int} (h0 : a0 ≠ a1) (h1 : a2 ≠ a3) (h2 : a0 = a4) (h3 : a2 = a4) (h4 : a1 = 61) (h5 : a3 = 60) : a4 ≠ 61 := by omega
theorem oq311 {a0 a1 a2 a3 a4 a5 a6 : Int} (h0 : a0 ≠ a1) (h1 : a2 ≠ a3) (h2 : a4 ≠ a5) (h3 : a0 = a6) (h4 : a2 = a6) (h5 : a4 = a6) (h6 : a1 = 61) (h7 : a3 = 62) (h8 : a5 = 60) : a6 ≠ 62 := by omega
theorem oq312 {a0 a1 a2 a3 a4 a5 a6 a7 : Int} (h0 : a0 = a1) (h1 : a2 ≤ 120) (h2 : a0 = a3) (h3 : a4 = a3) (h4 : a5 = a6 + a7) (h5 : (a4 = (-1)) ∨ (a6 < a2)) (h6 : a1 = 62) (h7 : a7 = 1) : a5 ≤ 120 := by omega
theorem oq313 {a0 a1 a2 a3 a4 a5 : Int} (h0 : a0 ≤ a1) (h1 : a2 = a3 + a4) (h2 : (a5 - a3) ≤ (a0 - a1)) (h3 : a4 = 1) : a5 ≤ a2 := oz862 h0 h1 h2 h3
theorem oq314 {a0 a1 a2 a3 a4 a5 a6 a7 : Int} (h0 : a0 = a1) (h1 : a0 = a2) (h2 : a3 = a2) (h3 : a4 = a5 + a6) (h4 : (a3 = (-1)) ∨ (a5 < a7)) (h5 : a1 = 62) (h6 : a6 = 1) : a4 ≤ a7 := by omega
theorem oq315 {a0 a1 a2 a3 a4 a5 a6 a7 a8 a9 a10 a11 a12 : Int} (h0 : a0 = a1 + a2) (h1 : a3 = a4) (h2 : a0 ≤ a5) (h3 : a5 ≤ a6) (h4 : (a7 - a5) ≤ (a8 - a0)) (h5 : a8 ≤ a7) (h6 : a4 = a9) (h7 : a10 ≤ a1) (h8 : (a8 - a1) ≤ (a11 - a10)) (h9 : a11 ≤ a8) (h10 : a2 = 1) (h11 : a12 = 0) : (a3 = a9) ∧ (a10 ≤ a5) ∧ (a5 ≤ a6) ∧ ((a7 - a5) ≤ (a11 - a10)) ∧ (a11 ≤ a7) ∧ ((0 : Int) ≤ a12) ∧ (a12 ≤ 1) ∧ (((a12 = 1) → ((a10 + 1) ≤ a5))) := ⟨by omega, by omega, h3, by omega, by omega, by omega, by omega, by omega⟩
theorem oq316 {a0 a1 a2 : Int} (h0 : a0 = a1) (h1 : a0 = a2) (h2 : a1 = 62) : a2 = 62 := by omega
theorem oq317 {a0 : Int} (h0 : a0 = 10) : a0 = 10 := by omega
theorem oq318 {a0 : Int} (h0 : a0 = 10) : (0 : Int) ≤ a0 := oz1414 h0
theorem oq319 {a0 a1 a2 a3 a4 a5 a6 a7 : Int} (h0 : a0 ≤ 120) (h1 : (0 : Int) ≤ a1) (h2 : a2 ≤ a3) (h3 : a4 = a5 + a6) (h4 : (a1 - a0) ≤ (a7 - a4)) (h5 : (a7 - a5) ≤ (a2 - a3)) (h6 : a6 = 1) : ((0 : Int) ≤ a1) ∧ (a1 ≤ 199) := oz864 h0 h1 h2 h3 h4 h5 h6
theorem oq320 {a0 a1 a2 a3 a4 a5 a6 a7 a8 a9 a10 a11 a12 a13 a14 a15 : Int} (h0 : a0 = a1) (h1 : a2 = a3) (h2 : a4 = a5) (h3 : a6 = a7 + a8) (h4 : a5 = a9) (h5 : a6 ≤ a3) (h6 : a3 ≤ a1) (h7 : (a10 - a3) ≤ (a11 - a6)) (h8 : a11 ≤ a10) (h9 : a12 = (a10 + 1)) (h10 : a9 = a13) (h11 : a14 ≤ a7) (h12 : (a11 - a7) ≤ (a15 - a14)) (h13 : a15 ≤ a11) (h14 : a8 = 1) : (a4 = a13) ∧ (a14 ≤ a2) ∧ (a2 ≤ a0) ∧ ((a12 - a2) ≤ (a15 - a14)) ∧ (a15 ≤ a12) ∧ ((0 : Int) ≤ a8) ∧ (a8 ≤ 1) ∧ (((a8 = 1) → ((a14 + 1) ≤ a2))) := ⟨by omega, by omega, by omega, by omega, by omega, by omega, by omega, by omega⟩
theorem oq321 {a0 a1 a2 a3 a4 a5 a6 a7 : Int} (h0 : a0 = a1) (h1 : a2 ≤ 120) (h2 : a0 = a3) (h3 : a4 = a3) (h4 : a5 = a6 + a7) (h5 : (a4 = (-1)) ∨ (a6 < a2)) (h6 : a1 = 61) (h7 : a7 = 1) : a5 ≤ 120 := by omega
theorem oq322 {a0 a1 a2 a3 a4 a5 a6 a7 : Int} (h0 : a0 = a1) (h1 : a0 = a2) (h2 : a3 = a2) (h3 : a4 = a5 + a6) (h4 : (a3 = (-1)) ∨ (a5 < a7)) (h5 : a1 = 61) (h6 : a6 = 1) : a4 ≤ a7 := by omega
theorem oq323 {a0 a1 a2 a3 a4 a5 a6 a7 a8 a9 a10 a11 a12 : Int} (h0 : a0 = a1 + a2) (h1 : a3 = a4) (h2 : a5 ≤ a1) (h3 : (a6 - a1) ≤ (a7 - a5)) (h4 : a7 ≤ a6) (h5 : a8 = a3) (h6 : a0 ≤ a9) (h7 : a9 ≤ a10) (h8 : (a11 - a9) ≤ (a6 - a0)) (h9 : a6 ≤ a11) (h10 : a2 = 1) (h11 : a12 = 0) : (a8 = a4) ∧ (a5 ≤ a9) ∧ (a9 ≤ a10) ∧ ((a11 - a9) ≤ (a7 - a5)) ∧ (a7 ≤ a11) ∧ ((0 : Int) ≤ a12) ∧ (a12 ≤ 1) ∧ (((a12 = 1) → ((a5 + 1) ≤ a9))) := ⟨by omega, by omega, h7, by omega, by omega, by omega, by omega, by omega⟩
theorem oq324 {a0 a1 a2 : Int} (h0 : a0 = a1) (h1 : a0 = a2) (h2 : a1 = 61) : a2 = 61 := by omega
theorem oq325 {a0 : Int} (h0 : a0 = 9) : a0 = 9 := by omega
theorem oq326 {a0 : Int} (h0 : a0 = 9) : (0 : Int) ≤ a0 := oz258 h0
theorem oq327 {a0 a1 a2 a3 a4 a5 a6 a7 : Int} (h0 : a0 ≤ 120) (h1 : (0 : Int) ≤ a1) (h2 : a2 ≤ a3) (h3 : a4 = a5 + a6) (h4 : (a7 - a5) ≤ (a2 - a3)) (h5 : (a1 - a0) ≤ (a7 - a4)) (h6 : a6 = 1) : ((0 : Int) ≤ a1) ∧ (a1 ≤ 199) := oz871 h0 h1 h2 h3 h4 h5 h6
theorem oq328 {a0 a1 a2 a3 a4 a5 a6 a7 a8 a9 a10 a11 a12 a13 a14 a15 : Int} (h0 : a0 = a1) (h1 : a2 = a3) (h2 : a4 = a5) (h3 : a6 = a7 + a8) (h4 : a9 = a10) (h5 : a11 ≤ a7) (h6 : (a12 - a7) ≤ (a13 - a11)) (h7 : a13 ≤ a12) (h8 : a5 = a9) (h9 : a6 ≤ a3) (h10 : a3 ≤ a1) (h11 : (a14 - a3) ≤ (a12 - a6)) (h12 : a12 ≤ a14) (h13 : a15 = (a14 + 1)) (h14 : a8 = 1) : (a4 = a10) ∧ (a11 ≤ a2) ∧ (a2 ≤ a0) ∧ ((a15 - a2) ≤ (a13 - a11)) ∧ (a13 ≤ a15) ∧ ((0 : Int) ≤ a8) ∧ (a8 ≤ 1) ∧ (((a8 = 1) → ((a11 + 1) ≤ a2))) := ⟨by omega, by omega, by omega, by omega, by omega, by omega, by omega, by omega⟩
theorem oq329 {a0 a1 a2 a3 a4 a5 : Int} (h0 : a0 = a1) (h1 : a2 ≤ 120) (h2 : a3 = a4 + a5) (h3 : (a0 = (-1)) ∨ (a4 < a2)) (h4 : a1 = 60) (h5 : a5 = 1) : a3 ≤ 120 := by omega
theorem oq330 {a0 a1 a2 a3 a4 a5 : Int} (h0 : a0 = a1) (h1 : a2 = a3 + a4) (h2 : (a0 = (-1)) ∨ (a3 < a5)) (h3 : a1 = 60) (h4 : a4 = 1) : a2 ≤ a5 := by omega
theorem oq331 {a0 a1 a2 : Int} (h0 : a0 = a1) (h1 : a0 = a2) (h2 : a1 = 60) : a2 = 60 := by omega
theorem oq332 {a0 : Int} (h0 : a0 = 8) : a0 = 8 := by omega
theorem oq333 {a0 : Int} (h0 : a0 = 8) : (0 : Int) ≤ a0 := oz85 h0
theorem oq334 {a0 : Int} (h0 : a0 = 38) : (0 : Int) ≤ a0 := oz879 h0
theorem oq337 {a0 a1 a2 a3 a4 a5 a6 a7 a8 a9 : Int} (h0 : a0 = a1) (h1 : a2 ≤ a3) (h2 : (a1 - a4) ≤ (a2 - a3)) (h3 : ((a5 = 1) ∧ (a6 = (a4 + 1)) ∧ (a4 < a7) ∧ (a8 = a9)) ∨ ((a5 = 0) ∧ (a6 = a4))) (h4 : a9 = 38) : a0 ≤ a6 := by omega
theorem oq338 {a0 a1 a2 a3 a4 a5 a6 : Int} (h0 : a0 = a1) (h1 : a2 ≤ a1) (h2 : ((a3 = 1) ∧ (a4 = (a2 + 1)) ∧ (a2 < a1) ∧ (a5 = a6)) ∨ ((a3 = 0) ∧ (a4 = a2))) (h3 : a6 = 38) : a4 ≤ a0 := by omega
theorem oq339 {a0 a1 a2 a3 a4 a5 a6 a7 a8 a9 a10 a11 : Int} (h0 : a0 = a1) (h1 : a2 ≤ 120) (h2 : (0 : Int) ≤ a3) (h3 : a4 ≤ a5) (h4 : (a1 - a6) ≤ (a4 - a5)) (h5 : (a3 - a2) ≤ (a0 - a7)) (h6 : ((a8 = 1) ∧ (a7 = (a6 + 1)) ∧ (a6 < a9) ∧ (a10 = a11)) ∨ ((a8 = 0) ∧ (a7 = a6))) (h7 : a11 = 38) : ((0 : Int) ≤ a3) ∧ (a3 ≤ 199) := by omega
theorem oq341 {a0 a1 a2 a3 a4 a5 a6 a7 a8 : Int} (h0 : a0 = a1) (h1 : (a2 + 1) ≤ a3) (h2 : a4 ≤ a1) (h3 : ((a5 = 1) ∧ (a4 = (a3 + 1)) ∧ (a3 < a6) ∧ (a7 = a8)) ∨ ((a5 = 0) ∧ (a4 = a3))) (h4 : a8 = 38) : a2 ≤ a0 := by omega
theorem oq344 {a0 a1 a2 a3 a4 a5 a6 a7 a8 : Int} (h0 : a0 = a1) (h1 : (a2 + 1) ≤ a3) (h2 : a4 ≤ a1) (h3 : ((a5 = 1) ∧ (a4 = (a3 + 1)) ∧ (a3 < a6) ∧ (a7 = a8)) ∨ ((a5 = 0) ∧ (a4 = a3))) (h4 : a8 = 38) : (a2 + 1) ≤ a0 := by omega
theorem oq345 {a0 a1 a2 a3 a4 a5 a6 : Int} (h0 : a0 ≠ a1) (h1 : ((a0 = 1) ∧ (a2 = (a3 + 1)) ∧ (a3 < a4) ∧ (a5 = a6)) ∨ ((a0 = 0) ∧ (a2 = a3))) (h2 : a1 = 0) (h3 : a6 = 38) : ¬ (a0 = 0) := by omega
theorem oq346 {a0 a1 a2 a3 a4 a5 a6 a7 a8 a9 a10 a11 a12 : Int} (h0 : a0 ≠ a1) (h1 : a2 = a3) (h2 : a4 = a5) (h3 : a3 = a6) (h4 : a5 = a2) (h5 : a6 = a7) (h6 : a8 ≤ a9) (h7 : a9 ≤ a4) (h8 : ((a0 = 1) ∧ (a8 = (a10 + 1)) ∧ (a10 < a2) ∧ (a11 = a12)) ∨ ((a0 = 0) ∧ (a8 = a10))) (h9 : a1 = 0) (h10 : a12 = 38) : a10 < a7 := by omega
theorem oq347 {a0 a1 a2 a3 a4 a5 a6 a7 a8 : Int} (h0 : a0 ≠ a1) (h1 : a2 = a3) (h2 : a4 ≤ a3) (h3 : ((a0 = 1) ∧ (a4 = (a5 + 1)) ∧ (a5 < a6) ∧ (a7 = a8)) ∨ ((a0 = 0) ∧ (a4 = a5))) (h4 : a1 = 0) (h5 : a8 = 38) : a5 < a2 := by omega
theorem oq348 {a0 a1 a2 a3 a4 a5 a6 a7 a8 a9 a10 a11 : Int} (h0 : a0 ≠ a1) (h1 : a2 = a3) (h2 : a4 = a2) (h3 : a5 = a6) (h4 : a3 = a7) (h5 : a8 ≤ a6) (h6 : ((a0 = 1) ∧ (a8 = (a9 + 1)) ∧ (a9 < a7) ∧ (a10 = a11)) ∨ ((a0 = 0) ∧ (a8 = a9))) (h7 : a1 = 0) (h8 : a11 = 38) : (a4 - a5) < (a7 - a9) := by omega
theorem oq349 {a0 a1 a2 a3 a4 a5 a6 a7 a8 a9 : Int} (h0 : a0 ≠ a1) (h1 : a2 = a3) (h2 : a3 = a4) (h3 : a5 ≤ a6) (h4 : a6 ≤ a2) (h5 : ((a0 = 1) ∧ (a5 = (a7 + 1)) ∧ (a7 < a4) ∧ (a8 = a9)) ∨ ((a0 = 0) ∧ (a5 = a7))) (h6 : a1 = 0) (h7 : a9 = 38) : (1 : Int) ≤ (a4 - a7) := by omega
theorem oq351 {a0 a1 a2 a3 a4 a5 a6 a7 a8 a9 a10 a11 a12 a13 a14 a15 : Int} (h0 : a0 = a1) (h1 : a2 = a3) (h2 : a4 = a5) (h3 : a6 = a7) (h4 : a5 = a8) (h5 : a9 ≤ a3) (h6 : (a7 - a9) ≤ (a10 - a11)) (h7 : a10 ≤ a7) (h8 : (a11 + 1) ≤ a9) (h9 : ((a0 = 1) ∧ (a12 = (a9 + 1)) ∧ (a9 < a3) ∧ (a13 = a14)) ∨ ((a0 = 0) ∧ (a12 = a9))) (h10 : a1 = 0) (h11 : a14 = 38) (h12 : a15 = 1) : (a4 = a8) ∧ (a11 ≤ a12) ∧ (a12 ≤ a2) ∧ ((a6 - a12) ≤ (a10 - a11)) ∧ (a10 ≤ a6) ∧ ((0 : Int) ≤ a15) ∧ (a15 ≤ 1) ∧ (((a15 = 1) → ((a11 + 1) ≤ a12))) := ⟨by omega, by omega, by omega, by omega, by omega, by omega, by omega, by omega⟩
theorem oq352 {a0 a1 a2 a3 a4 : Int} (h0 : a0 = a1) (h1 : a2 = a3) (h2 : a3 = a4) (h3 : a1 = a2) : a0 = a4 := oz894 h0 h1 h2 h3
theorem oq353 {a0 a1 a2 a3 a4 a5 a6 a7 a8 a9 a10 a11 a12 a13 a14 : Int} (h0 : a0 ≠ a1) (h1 : a2 = a3) (h2 : a4 = a5) (h3 : (a5 - a6) ≤ (a7 - a8)) (h4 : (a9 - a3) ≤ (a4 - a10)) (h5 : a11 = (a9 + 1)) (h6 : ((a0 = 1) ∧ (a10 = (a6 + 1)) ∧ (a6 < a12) ∧ (a13 = a14)) ∨ ((a0 = 0) ∧ (a10 = a6))) (h7 : a1 = 0) (h8 : a14 = 38) : (a11 - a2) ≤ (a7 - a8) := by omega
theorem oq354 {a0 a1 a2 a3 a4 a5 a6 a7 a8 a9 a10 a11 a12 a13 a14 a15 a16 a17 : Int} (h0 : a0 = a1) (h1 : a2 = a3) (h2 : a1 = a4) (h3 : (a3 - a5) ≤ (a6 - a7)) (h4 : a6 ≤ a3) (h5 : (a7 + 1) ≤ a5) (h6 : a8 = a0) (h7 : a9 ≤ a10) (h8 : a10 ≤ a11) (h9 : (a12 - a10) ≤ (a2 - a9)) (h10 : a2 ≤ a12) (h11 : ((a13 = 1) ∧ (a9 = (a5 + 1)) ∧ (a5 < a14) ∧ (a15 = a16)) ∨ ((a13 = 0) ∧ (a9 = a5))) (h12 : a16 = 38) (h13 : a17 = 0) : (a8 = a4) ∧ (a7 ≤ a10) ∧ (a10 ≤ a11) ∧ ((a12 - a10) ≤ (a6 - a7)) ∧ (a6 ≤ a12) ∧ ((0 : Int) ≤ a17) ∧ (a17 ≤ 1) ∧ (((a17 = 1) → ((a7 + 1) ≤ a10))) := ⟨by omega, by omega, h8, by omega, by omega, by omega, by omega, by omega⟩
theorem oq355 {a0 : Int} (h0 : a0 = 124) : (0 : Int) ≤ a0 := oz901 h0
theorem oq357 {a0 a1 a2 a3 a4 a5 a6 a7 a8 a9 : Int} (h0 : a0 = a1) (h1 : a2 ≤ a3) (h2 : (a1 - a4) ≤ (a2 - a3)) (h3 : ((a5 = 1) ∧ (a6 = (a4 + 1)) ∧ (a4 < a7) ∧ (a8 = a9)) ∨ ((a5 = 0) ∧ (a6 = a4))) (h4 : a9 = 124) : a0 ≤ a6 := by omega
theorem oq358 {a0 a1 a2 a3 a4 a5 a6 : Int} (h0 : a0 = a1) (h1 : a2 ≤ a1) (h2 : ((a3 = 1) ∧ (a4 = (a2 + 1)) ∧ (a2 < a1) ∧ (a5 = a6)) ∨ ((a3 = 0) ∧ (a4 = a2))) (h3 : a6 = 124) : a4 ≤ a0 := by omega
theorem oq359 {a0 a1 a2 a3 a4 a5 a6 a7 a8 a9 a10 a11 : Int} (h0 : a0 = a1) (h1 : a2 ≤ 120) (h2 : (0 : Int) ≤ a3) (h3 : a4 ≤ a5) (h4 : (a1 - a6) ≤ (a4 - a5)) (h5 : (a3 - a2) ≤ (a0 - a7)) (h6 : ((a8 = 1) ∧ (a7 = (a6 + 1)) ∧ (a6 < a9) ∧ (a10 = a11)) ∨ ((a8 = 0) ∧ (a7 = a6))) (h7 : a11 = 124) : ((0 : Int) ≤ a3) ∧ (a3 ≤ 199) := by omega
theorem oq360 {a0 a1 a2 a3 a4 a5 a6 a7 a8 : Int} (h0 : a0 = a1) (h1 : (a2 + 1) ≤ a3) (h2 : a4 ≤ a1) (h3 : ((a5 = 1) ∧ (a4 = (a3 + 1)) ∧ (a3 < a6) ∧ (a7 = a8)) ∨ ((a5 = 0) ∧ (a4 = a3))) (h4 : a8 = 124) : a2 ≤ a0 := by omega
theorem oq362 {a0 a1 a2 a3 a4 a5 a6 a7 a8 : Int} (h0 : a0 = a1) (h1 : (a2 + 1) ≤ a3) (h2 : a4 ≤ a1) (h3 : ((a5 = 1) ∧ (a4 = (a3 + 1)) ∧ (a3 < a6) ∧ (a7 = a8)) ∨ ((a5 = 0) ∧ (a4 = a3))) (h4 : a8 = 124) : (a2 + 1) ≤ a0 := by omega
theorem oq363 {a0 a1 a2 a3 a4 a5 a6 : Int} (h0 : a0 ≠ a1) (h1 : ((a0 = 1) ∧ (a2 = (a3 + 1)) ∧ (a3 < a4) ∧ (a5 = a6)) ∨ ((a0 = 0) ∧ (a2 = a3))) (h2 : a1 = 0) (h3 : a6 = 124) : ¬ (a0 = 0) := by omega
theorem oq364 {a0 a1 a2 a3 a4 a5 a6 a7 a8 a9 a10 a11 a12 : Int} (h0 : a0 ≠ a1) (h1 : a2 = a3) (h2 : a4 = a5) (h3 : a3 = a6) (h4 : a5 = a2) (h5 : a6 = a7) (h6 : a8 ≤ a9) (h7 : a9 ≤ a4) (h8 : ((a0 = 1) ∧ (a8 = (a10 + 1)) ∧ (a10 < a2) ∧ (a11 = a12)) ∨ ((a0 = 0) ∧ (a8 = a10))) (h9 : a1 = 0) (h10 : a12 = 124) : a10 < a7 := by omega
theorem oq365 {a0 a1 a2 a3 a4 a5 a6 a7 a8 : Int} (h0 : a0 ≠ a1) (h1 : a2 = a3) (h2 : a4 ≤ a3) (h3 : ((a0 = 1) ∧ (a4 = (a5 + 1)) ∧ (a5 < a6) ∧ (a7 = a8)) ∨ ((a0 = 0) ∧ (a4 = a5))) (h4 : a1 = 0) (h5 : a8 = 124) : a5 < a2 := by omega
theorem oq366 {a0 a1 a2 a3 a4 a5 a6 a7 a8 a9 a10 a11 : Int} (h0 : a0 ≠ a1) (h1 : a2 = a3) (h2 : a4 = a2) (h3 : a5 = a6) (h4 : a3 = a7) (h5 : a8 ≤ a6) (h6 : ((a0 = 1) ∧ (a8 = (a9 + 1)) ∧ (a9 < a7) ∧ (a10 = a11)) ∨ ((a0 = 0) ∧ (a8 = a9))) (h7 : a1 = 0) (h8 : a11 = 124) : (a4 - a5) < (a7 - a9) := by omega
theorem oq367 {a0 a1 a2 a3 a4 a5 a6 a7 a8 a9 : Int} (h0 : a0 ≠ a1) (h1 : a2 = a3) (h2 : a3 = a4) (h3 : a5 ≤ a6) (h4 : a6 ≤ a2) (h5 : ((a0 = 1) ∧ (a5 = (a7 + 1)) ∧ (a7 < a4) ∧ (a8 = a9)) ∨ ((a0 = 0) ∧ (a5 = a7))) (h6 : a1 = 0) (h7 : a9 = 124) : (1 : Int) ≤ (a4 - a7) := by omega
theorem oq369 {a0 a1 a2 a3 a4 a5 a6 a7 a8 a9 a10 a11 a12 a13 a14 a15 : Int} (h0 : a0 = a1) (h1 : a2 = a3) (h2 : a4 = a5) (h3 : a6 = a7) (h4 : a5 = a8) (h5 : a9 ≤ a3) (h6 : (a7 - a9) ≤ (a10 - a11)) (h7 : a10 ≤ a7) (h8 : (a11 + 1) ≤ a9) (h9 : ((a0 = 1) ∧ (a12 = (a9 + 1)) ∧ (a9 < a3) ∧ (a13 = a14)) ∨ ((a0 = 0) ∧ (a12 = a9))) (h10 : a1 = 0) (h11 : a14 = 124) (h12 : a15 = 1) : (a4 = a8) ∧ (a11 ≤ a12) ∧ (a12 ≤ a2) ∧ ((a6 - a12) ≤ (a10 - a11)) ∧ (a10 ≤ a6) ∧ ((0 : Int) ≤ a15) ∧ (a15 ≤ 1) ∧ (((a15 = 1) → ((a11 + 1) ≤ a12))) := ⟨by omega, by omega, by omega, by omega, by omega, by omega, by omega, by omega⟩
theorem oq370 {a0 a1 a2 a3 a4 a5 a6 a7 a8 a9 a10 a11 a12 a13 a14 : Int} (h0 : a0 ≠ a1) (h1 : a2 = a3) (h2 : a4 = a5) (h3 : (a5 - a6) ≤ (a7 - a8)) (h4 : (a9 - a3) ≤ (a4 - a10)) (h5 : a11 = (a9 + 1)) (h6 : ((a0 = 1) ∧ (a10 = (a6 + 1)) ∧ (a6 < a12) ∧ (a13 = a14)) ∨ ((a0 = 0) ∧ (a10 = a6))) (h7 : a1 = 0) (h8 : a14 = 124) : (a11 - a2) ≤ (a7 - a8) := by omega
theorem oq371 {a0 a1 a2 a3 a4 a5 a6 a7 a8 a9 a10 a11 a12 a13 a14 a15 a16 a17 : Int} (h0 : a0 = a1) (h1 : a2 = a3) (h2 : a1 = a4) (h3 : (a3 - a5) ≤ (a6 - a7)) (h4 : a6 ≤ a3) (h5 : (a7 + 1) ≤ a5) (h6 : a8 = a0) (h7 : a9 ≤ a10) (h8 : a10 ≤ a11) (h9 : (a12 - a10) ≤ (a2 - a9)) (h10 : a2 ≤ a12) (h11 : ((a13 = 1) ∧ (a9 = (a5 + 1)) ∧ (a5 < a14) ∧ (a15 = a16)) ∨ ((a13 = 0) ∧ (a9 = a5))) (h12 : a16 = 124) (h13 : a17 = 0) : (a8 = a4) ∧ (a7 ≤ a10) ∧ (a10 ≤ a11) ∧ ((a12 - a10) ≤ (a6 - a7)) ∧ (a6 ≤ a12) ∧ ((0 : Int) ≤ a17) ∧ (a17 ≤ 1) ∧ (((a17 = 1) → ((a7 + 1) ≤ a10))) := ⟨by omega, by omega, h8, by omega, by omega, by omega, by omega, by omega⟩
theorem oq372 {a0 a1 : Int} (h0 : a0 ≤ 120) (h1 : (2 * a1) ≤ a0) : a1 < 61 := oz1284 h0 h1
theorem oq373 {a0 a1 a2 : Int} (h0 : a0 = a1) (h1 : a2 ≤ 120) (h2 : (2 * a1) ≤ a2) : a0 < 61 := oz1285 h0 h1 h2
theorem oq374 {a0 : Int} (h0 : a0 = 63) : (0 : Int) ≤ a0 := oz1286 h0
theorem oq375 {a0 a1 : Int} (h0 : a0 ≤ 61) (h1 : a1 = 1) : a0 + a1 ≤ 2147483647 := oz1288 h0 h1
theorem oq376 {a0 a1 a2 a3 a4 a5 : Int} (h0 : a0 = a1) (h1 : a2 = a0) (h2 : a3 ≤ 120) (h3 : (2 * a1) ≤ a3) (h4 : a4 = a2 + a5) (h5 : a5 = 1) : a4 ≤ 61 := oz1294 h0 h1 h2 h3 h4 h5
theorem oq377 {a0 a1 a2 a3 : Int} (h0 : a0 = a1) (h1 : a2 = a0) (h2 : a3 ≤ 120) (h3 : (2 * a1) ≤ a3) : a2 < 61 := oz1287 h0 h1 h2 h3
theorem oq378 {a0 a1 a2 a3 a4 a5 a6 a7 a8 a9 a10 a11 a12 a13 a14 a15 a16 a17 a18 a19 a20 : Int} (h0 : a0 = a1) (h1 : a2 ≠ a1) (h2 : a3 = a4) (h3 : a5 = a6) (h4 : a7 = a8) (h5 : a9 = a10) (h6 : a11 = a3) (h7 : a12 = 0) (h8 : a13 ≤ a14) (h9 : (2 * a4) ≤ a14) (h10 : a15 = a11 + a16) (h11 : a8 = a12) (h12 : a14 ≤ a17) (h13 : a17 ≤ a6) (h14 : (a10 - a17) ≤ (a13 - a14)) (h15 : (0 : Int) ≤ a2) (h16 : a2 ≤ 1) (h17 : ((a2 = 1) → ((a14 + 1) ≤ a17))) (h18 : ((a0 = 1) ∧ (a18 = (a17 + 1)) ∧ (a17 < a6) ∧ (a19 = a20)) ∨ ((a0 = 0) ∧ (a18 = a17))) (h19 : a1 = 0) (h20 : a16 = 1) (h21 : a20 = 63) : (a18 ≤ a5) ∧ (a14 ≤ a18) ∧ ((0 : Int) ≤ a16) ∧ (a16 ≤ 1) ∧ (((a16 = 1) → ((a7 = 0) ∧ (a9 ≤ a18) ∧ (a18 ≤ a5) ∧ ((2 * a15) ≤ (a18 + 1)) ∧ (a15 = (a4 + 1))))) := ⟨by omega, by omega, by omega, by omega, by omega⟩
theorem oq379 {a0 a1 a2 a3 a4 a5 a6 a7 a8 a9 : Int} (h0 : a0 = a1) (h1 : a2 ≤ a3) (h2 : (a1 - a4) ≤ (a2 - a3)) (h3 : ((a5 = 1) ∧ (a6 = (a4 + 1)) ∧ (a4 < a7) ∧ (a8 = a9)) ∨ ((a5 = 0) ∧ (a6 = a4))) (h4 : a9 = 63) : a0 ≤ a6 := by omega
theorem oq380 {a0 a1 a2 a3 a4 a5 a6 : Int} (h0 : a0 = a1) (h1 : a2 ≤ a1) (h2 : ((a3 = 1) ∧ (a4 = (a2 + 1)) ∧ (a2 < a1) ∧ (a5 = a6)) ∨ ((a3 = 0) ∧ (a4 = a2))) (h3 : a6 = 63) : a4 ≤ a0 := by omega
theorem oq381 {a0 a1 a2 a3 a4 a5 a6 : Int} (h0 : a0 = a1) (h1 : a2 = a3) (h2 : a1 = a2) (h3 : a4 ≤ 120) (h4 : (2 * a3) ≤ a4) (h5 : a5 = a0 + a6) (h6 : a6 = 1) : a5 ≤ 61 := by omega
theorem oq382 {a0 a1 a2 a3 a4 : Int} (h0 : a0 = a1) (h1 : a2 = a3) (h2 : a1 = a2) (h3 : a4 ≤ 120) (h4 : (2 * a3) ≤ a4) : a0 < 61 := by omega
theorem oq383 {a0 a1 a2 a3 a4 a5 a6 a7 a8 a9 a10 a11 a12 a13 a14 a15 a16 a17 a18 a19 a20 a21 a22 a23 : Int} (h0 : a0 ≠ a1) (h1 : a2 = a3) (h2 : a4 = a5) (h3 : a6 = a7) (h4 : a8 = a9) (h5 : a3 = a4) (h6 : a10 = 0) (h7 : a11 ≤ a12) (h8 : (2 * a5) ≤ a12) (h9 : a13 = a2 + a14) (h10 : a15 = a6) (h11 : a16 ≤ a17) (h12 : a17 ≤ a18) (h13 : (a19 - a17) ≤ (a8 - a16)) (h14 : a7 = a10) (h15 : a12 ≤ a20) (h16 : (a9 - a20) ≤ (a11 - a12)) (h17 : ((a0 = 1) ∧ (a16 = (a20 + 1)) ∧ (a20 < a21) ∧ (a22 = a23)) ∨ ((a0 = 0) ∧ (a16 = a20))) (h18 : a1 = 0) (h19 : a14 = 1) (h20 : a23 = 63) : (a17 ≤ a18) ∧ (a12 ≤ a17) ∧ ((0 : Int) ≤ a14) ∧ (a14 ≤ 1) ∧ (((a14 = 1) → ((a15 = 0) ∧ (a19 ≤ a17) ∧ (a17 ≤ a18) ∧ ((2 * a13) ≤ (a17 + 1)) ∧ (a13 = (a5 + 1))))) := ⟨h12, by omega, by omega, by omega, by omega⟩
theorem oq384 {a0 a1 a2 a3 a4 a5 a6 : Int} (h0 : a0 ≠ a1) (h1 : ((a0 = 1) ∧ (a2 = (a3 + 1)) ∧ (a3 < a4) ∧ (a5 = a6)) ∨ ((a0 = 0) ∧ (a2 = a3))) (h2 : a1 = 0) (h3 : a6 = 63) : ¬ (a0 = 0) := by omega
theorem oq385 {a0 a1 a2 a3 a4 a5 a6 a7 a8 a9 a10 a11 a12 a13 : Int} (h0 : a0 ≤ a1) (h1 : a1 ≤ a2) (h2 : a3 ≤ a4) (h3 : ((a5 = 1) ∧ (a0 = (a4 + 1)) ∧ (a4 < a6) ∧ (a7 = a8)) ∨ ((a5 = 0) ∧ (a0 = a4))) (h4 : a8 = 63) (h5 : a9 = 0) : (a1 ≤ a2) ∧ (a3 ≤ a1) ∧ ((0 : Int) ≤ a9) ∧ (a9 ≤ 1) ∧ (((a9 = 1) → ((a10 = 0) ∧ (a11 ≤ a1) ∧ (a1 ≤ a2) ∧ ((2 * a12) ≤ (a1 + 1)) ∧ (a12 = (a13 + 1))))) := ⟨h1, by omega, by omega, by omega, by omega⟩
theorem oq386 {a0 a1 a2 a3 a4 a5 a6 a7 : Int} (h0 : a0 ≤ a1) (h1 : a1 ≤ a2) (h2 : a3 = 0) : (a1 ≤ a2) ∧ (a0 ≤ a1) ∧ ((0 : Int) ≤ a3) ∧ (a3 ≤ 1) ∧ (((a3 = 1) → ((a4 = 0) ∧ (a5 ≤ a1) ∧ (a1 ≤ a2) ∧ ((2 * a6) ≤ (a1 + 1)) ∧ (a6 = (a7 + 1))))) := by omega
theorem oq387 {a0 : Int} (h0 : a0 = 0) : (0 : Int) ≤ a0 := oz46 h0
theorem oq388 {a0 : Int} (h0 : a0 = 0) : a0 ≤ 120 := oz1297 h0
theorem oq389 {a0 : Int} (h0 : a0 = 0) : a0 ≤ 200 := oz1298 h0
theorem oq390 {a0 : Int} (h0 : a0 = 0) : a0 ≤ 61 := oz1299 h0
theorem oq391 {a0 a1 : Int} (h0 : (0 : Int) ≤ a0) (h1 : a1 = 0) : (a1 = 0) ∧ (a1 ≤ a1) ∧ (a1 ≤ a0) := oz1300 h0 h1
theorem oq392 {a0 : Int} (h0 : a0 = 0) : (2 * a0) ≤ a0 := oz1301 h0
theorem oq393 {a0 a1 : Int} (h0 : a0 ≤ 120) (h1 : a1 = (-100)) : (-2147483648 : Int) ≤ a1 - a0 := oz1302 h0 h1
theorem oq394 {a0 a1 : Int} (h0 : (0 : Int) ≤ a0) (h1 : a1 = (-100)) : a1 - a0 ≤ 2147483647 := oz1324 h0 h1
theorem oq395 {a0 : Int} (h0 : a0 = 0) : a0 = 0 := oz236 h0
theorem oq396 {a0 a1 a2 a3 : Int} (h0 : a0 = a1) (h1 : (0 : Int) ≤ a0) (h2 : a1 = 0) : ¬ (a0 ≠ 0 ∧ a2 = a3) := by omega
theorem oq397 {a0 a1 : Int} (h0 : a0 ≠ a1) (h1 : a0 = a1) (h2 : (0 : Int) ≤ a0) (h3 : a1 = 0) : False := oz1281 h0 h1 h2 h3
theorem oq398 {a0 : Int} (h0 : a0 = 59) : (0 : Int) ≤ a0 := oz1304 h0
theorem oq400 {a0 : Int} (h0 : a0 = 1) : (0 : Int) ≤ a0 := oz246 h0
theorem oq401 {a0 : Int} (h0 : a0 = 1) : a0 ≤ 1 := oz558 h0
theorem oq402 {a0 a1 a2 a3 a4 a5 a6 a7 : Int} (h0 : a0 ≠ a1) (h1 : a2 = a3) (h2 : a4 ≤ 120) (h3 : (0 : Int) ≤ a0) (h4 : a0 ≤ 1) (h5 : ((a0 = 1) → ((a5 = 0) ∧ (a6 ≤ a4) ∧ (a4 ≤ a7) ∧ ((2 * a3) ≤ (a4 + 1))))) (h6 : a1 = 0) : a2 ≤ 60 := oz1327 h0 h1 h2 h3 h4 h5 h6
theorem oq403 {a0 a1 a2 : Int} (h0 : a0 = a1) (h1 : a2 = a0) (h2 : (0 : Int) ≤ a2) (h3 : a1 = 0) : a2 = 0 := oe57 h0 h1 h2 h3
theorem oq404 {a0 a1 : Int} (h0 : a0 ≠ a1) (h1 : (0 : Int) ≤ a0) (h2 : a1 = 0) : a0 ≠ 0 := oz662 h0 h1 h2
theorem oq405 {a0 a1 a2 a3 a4 a5 : Int} (h0 : a0 = a1) (h1 : a2 = a3) (h2 : a1 = a2) (h3 : a3 = a4) (h4 : a4 = a5) : a0 = a5 := by omega
theorem oq406 {a0 a1 a2 : Int} (h0 : a0 ≤ a1) (h1 : a0 = a2) : a2 ≤ a1 := oz1318 h0 h1
theorem oq407 {a0 a1 a2 a3 : Int} (h0 : a0 ≤ a1) (h1 : a2 = a3) (h2 : a0 = a2) : a3 ≤ a1 := oz1319 h0 h1 h2
theorem oq408 {a0 a1 a2 : Int} (h0 : a0 = a1) (h1 : a2 = a0) : a2 = a1 := oz762 h0 h1
theorem oq409 {a0 a1 : Int} (h0 : a0 < a1) (h1 : a1 ≤ 200) : a0 < 200 := oz269 h0 h1
theorem oq410 {a0 a1 a2 : Int} (h0 : a0 < a1) (h1 : a1 ≤ 200) (h2 : a2 = 1) : a0 + a2 ≤ 2147483647 := oz277 h0 h1 h2
theorem oq411 {a0 a1 a2 a3 : Int} (h0 : a0 < a1) (h1 : (0 : Int) ≤ a0) (h2 : a2 = a0 + a3) (h3 : a3 = 1) : ((0 : Int) ≤ a2) ∧ (a2 ≤ a1) := oz1320 h0 h1 h2 h3
theorem oq412 {a0 a1 a2 a3 : Int} (h0 : a0 = a1 + a2) (h1 : a2 = 1) : (a3 - a0) < (a3 - a1) := oz44 h0 h1
theorem oq413 {a0 a1 : Int} (h0 : a0 < a1) : (1 : Int) ≤ (a1 - a0) := oz45 h0
theorem oq414 {a0 a1 : Int} (h0 : (0 : Int) ≤ a0) (h1 : a1 = 0) : ((0 : Int) ≤ a1) ∧ (a1 ≤ a0) := oz1321 h0 h1
theorem oq415 {a0 a1 : Int} (h0 : a0 < a1) (h1 : a1 ≤ 60) : a0 < 61 := oz1322 h0 h1
theorem oq416 {a0 a1 : Int} (h0 : a0 < a1) (h1 : a1 ≤ 60) : a0 < 60 := oz266 h0 h1
theorem oq417 {a0 a1 a2 : Int} (h0 : a0 < a1) (h1 : a1 ≤ 60) (h2 : a2 = 1) : a0 + a2 ≤ 2147483647 := oz307 h0 h1 h2
theorem oq418 {a0 a1 a2 a3 a4 a5 a6 a7 a8 a9 a10 a11 a12 a13 : Int} (h0 : a0 ≠ a1) (h1 : a2 = a3) (h2 : a4 = a5) (h3 : a6 = a7) (h4 : (0 : Int) ≤ a0) (h5 : a0 ≤ 1) (h6 : ((a0 = 1) → ((a5 = 0) ∧ (a7 ≤ a8) ∧ (a8 ≤ a3) ∧ ((2 * a9) ≤ (a8 + 1))))) (h7 : a8 ≤ a3) (h8 : ((a10 = 1) ∧ (a11 = (a8 + 1)) ∧ (a8 < a3) ∧ (a12 = a13)) ∨ ((a10 = 0) ∧ (a11 = a8))) (h9 : a1 = 0) (h10 : a13 = 59) : (a4 = 0) ∧ (a6 ≤ a11) ∧ (a11 ≤ a2) := by omega
theorem oq419 {a0 a1 a2 a3 a4 a5 a6 a7 a8 a9 a10 a11 : Int} (h0 : a0 ≠ a1) (h1 : a2 ≠ a1) (h2 : a3 = a4) (h3 : (0 : Int) ≤ a0) (h4 : a0 ≤ 1) (h5 : ((a0 = 1) → ((a5 = 0) ∧ (a6 ≤ a7) ∧ (a7 ≤ a8) ∧ ((2 * a4) ≤ (a7 + 1))))) (h6 : ((a2 = 1) ∧ (a9 = (a7 + 1)) ∧ (a7 < a8) ∧ (a10 = a11)) ∨ ((a2 = 0) ∧ (a9 = a7))) (h7 : a1 = 0) (h8 : a11 = 59) : (2 * a3) ≤ a9 := by omega
theorem oq420 {a0 : Int} (h0 : (0 : Int) ≤ a0) (h1 : a0 ≤ 1) : ((0 : Int) ≤ a0) ∧ (a0 ≤ 1) := by omega
theorem oq421 {a0 a1 a2 a3 a4 a5 a6 : Int} (h0 : a0 ≤ a1) (h1 : a2 ≤ 1) (h2 : ((a2 = 1) → ((a3 = 0) ∧ (a4 ≤ a0) ∧ (a0 ≤ a1) ∧ ((2 * a5) ≤ (a0 + 1)) ∧ (a5 = (a6 + 1))))) : ((a2 = 1) → ((a3 = 0) ∧ (a4 ≤ a0) ∧ (a0 ≤ a1) ∧ ((2 * a5) ≤ (a0 + 1)))) := by omega
theorem oq422 {a0 a1 a2 a3 a4 a5 a6 : Int} (h0 : a0 ≠ a1) (h1 : ((a0 = 1) ∧ (a2 = (a3 + 1)) ∧ (a3 < a4) ∧ (a5 = a6)) ∨ ((a0 = 0) ∧ (a2 = a3))) (h2 : a1 = 0) (h3 : a6 = 59) : ¬ (a0 = 0) := by omega
theorem oq423 {a0 a1 a2 a3 a4 a5 a6 a7 a8 a9 a10 a11 a12 : Int} (h0 : a0 ≠ a1) (h1 : a2 = a3) (h2 : a4 = a2) (h3 : a5 = a4) (h4 : a3 = a6) (h5 : a6 = a7) (h6 : ((a0 = 1) ∧ (a8 = (a9 + 1)) ∧ (a9 < a2) ∧ (a10 = a11)) ∨ ((a0 = 0) ∧ (a8 = a9))) (h7 : a12 ≤ a5) (h8 : a8 ≤ a12) (h9 : a1 = 0) (h10 : a11 = 59) : a9 < a7 := by omega
theorem oq424 {a0 a1 a2 a3 a4 a5 a6 a7 : Int} (h0 : a0 ≠ a1) (h1 : ((a0 = 1) ∧ (a2 = (a3 + 1)) ∧ (a3 < a4) ∧ (a5 = a6)) ∨ ((a0 = 0) ∧ (a2 = a3))) (h2 : a2 ≤ a7) (h3 : a1 = 0) (h4 : a6 = 59) : a3 < a7 := by omega
theorem oq425 {a0 a1 a2 a3 a4 a5 a6 a7 a8 a9 a10 a11 : Int} (h0 : a0 ≠ a1) (h1 : a2 ≠ a1) (h2 : a3 = a4) (h3 : a5 = a3) (h4 : (0 : Int) ≤ a0) (h5 : ((a2 = 1) ∧ (a6 = (a7 + 1)) ∧ (a7 < a4) ∧ (a8 = a9)) ∨ ((a2 = 0) ∧ (a6 = a7))) (h6 : a6 ≤ a10) (h7 : a11 ≤ 1) (h8 : a1 = 0) (h9 : a9 = 59) : (((200 * a11) + a5) - a10) < (((200 * a0) + a4) - a7) := by omega
theorem oq426 {a0 a1 a2 a3 : Int} (h0 : a0 ≠ a1) (h1 : (0 : Int) ≤ a2) (h2 : a3 ≤ 120) (h3 : (0 : Int) ≤ a0) (h4 : a1 = 0) : (1 : Int) ≤ (((200 * a0) + a2) - a3) := by omega
theorem oq427 {a0 a1 a2 a3 a4 a5 a6 : Int} (h0 : a0 ≤ a1) (h1 : a2 ≤ 1) (h2 : ((a2 = 1) → ((a3 = 0) ∧ (a4 ≤ a0) ∧ (a0 ≤ a1) ∧ ((2 * a5) ≤ (a0 + 1)) ∧ (a5 = (a6 + 1))))) (h3 : a6 = 0) : ((a2 = 1) → ((a3 = 0) ∧ (a4 ≤ a0) ∧ (a0 ≤ a1) ∧ ((2 * a5) ≤ (a0 + 1)))) := by omega
theorem oq428 {a0 a1 a2 a3 a4 a5 a6 a7 a8 a9 a10 a11 : Int} (h0 : a0 = a1) (h1 : a2 ≠ a3) (h2 : a4 = a5) (h3 : a3 = a4) (h4 : a5 = a6) (h5 : a6 = a7) (h6 : a8 ≤ a4) (h7 : ((a0 = 1) ∧ (a2 = (a8 + 1)) ∧ (a8 < a4) ∧ (a9 = a10)) ∨ ((a0 = 0) ∧ (a2 = a8))) (h8 : a1 = 0) (h9 : a10 = 59) : ¬ (a11 ≠ 0 ∧ a2 = a7) := by omega
set_option maxRecDepth 100000 in
theorem ke147_116 {i : Nat → Int32} {a : Nat → List Int32} {q : Nat → List Int64} {r : Nat → Nat} (hI : kI i a q) (hr : kr r) (t : List Int32) (nn : Int32) (hT : a 119 = t) (hN : i 7429 = nn) (hX : kBy t) : km 1 147 [.ref 116] (ks i a q r) (kPI (ks i a q r) (fun v => ((((-1) : Int) ≤ v.toInt) ∧ (v.toInt ≤ 255) ∧ ((v.toInt = (-1)) ∨ ((i 7437).toInt < (i 7429).toInt))) ∧ v = cHr t nn (i 7437) 0)) := by
  have hG := kG_self kW0 hI hr
  refine km_ofPI (q := (mi_h147, mi_c147)) rfl (by decide) (Nat.le_of_ble_eq_true rfl) ?_
  intro P hP
  have hn1 : (i 7429).toInt = nn.toInt := congrArg Int32.toInt hN
  have fi_7437 : ((0 : Int) ≤ (i 7437).toInt) ∧ ((i 7437).toInt ≤ 120) := hG.I.1 7437
  have fi_7429 : ((0 : Int) ≤ (i 7429).toInt) ∧ ((i 7429).toInt ≤ 120) := hG.I.1 7429
  refine ft_go mi_k147 4 8 [(0, .ref 116)] [.int (i 7429), .int (i 7437)] i a q r (by rfl) ?_
  refine ft_if mi_k147 (decide ((i 7429) ≤ (i 7437))) 23 11 [(0, .ref 116)] [] (by rfl) (fun c => ?_) (fun c => ?_)
  ·
    have c2 : (i 7429).toInt ≤ (i 7437).toInt := kd_le c; clear c
    refine ft_go mi_k147 1 24 [(0, .ref 116)] [.int (-1)] i a q r (by rfl) ?_
    exact ft_ret mi_k147 (by rfl) (hP (-1) ⟨(oq0 koqm1), (show ((-1) : Int32) = cHr t nn (i 7437) 0 from (cHr_out (fun z => absurd z.2 (oq1 c2 hn1))))⟩)
  ·
    have c3 : (i 7437).toInt < (i 7429).toInt := kd_leF c; clear c
    refine ft_go mi_k147 4 19 [(0, .ref 116)] [.int (i 7437), .ref 119] i a q r (by rfl) ?_
    refine ko_iald3 mi_k147.1 (n := 120) (c := 120) (ax := (0, 0, 0, 0, 0)) (mi_k147.2 _ _ (by rfl)) (by rfl) (ksG119 _ _ _ _) (hG.I.2.1 119) rfl (oq2 fi_7437.1) (oq3 c3 fi_7429.2) ?_
    have hx4 : ((0 : Int) ≤ ((a 119).getD (i 7437).toNatClampNeg 0).toInt) ∧ (((a 119).getD (i 7437).toNatClampNeg 0).toInt ≤ 255) := (hT ▸ hX ((i 7437).toNatClampNeg) : (0 : Int) ≤ ((a 119).getD ((i 7437).toNatClampNeg) 0).toInt ∧ ((a 119).getD ((i 7437).toNatClampNeg) 0).toInt ≤ 255)
    refine ft_go mi_k147 1 24 [(0, .ref 116)] [.int ((a 119).getD (i 7437).toNatClampNeg 0)] i a q r (by rfl) ?_
    exact ft_ret mi_k147 (by rfl) (hP ((a 119).getD (i 7437).toNatClampNeg 0) ⟨(oq4 c3 hx4.1 hx4.2), (show ((a 119).getD (i 7437).toNatClampNeg 0) = cHr t nn (i 7437) 0 from (by rw [hT]; exact cHr_in koq0 (oq5 c3 hn1)))⟩)
set_option maxRecDepth 100000 in
theorem ke150_116 {i : Nat → Int32} {a : Nat → List Int32} {q : Nat → List Int64} {r : Nat → Nat} (hI : kI i a q) (hr : kr r) (t : List Int32) (nn : Int32) (hT : a 119 = t) (hN : i 7429 = nn) (hX : kBy t) : km 3 150 [.ref 116] (ks i a q r) (kPI (ks i a q r) (fun v => (((v.toInt = 1) ∧ ((48 : Int) ≤ (cHr t nn (i 7437) 0).toInt) ∧ ((cHr t nn (i 7437) 0).toInt ≤ 57) ∧ ((i 7437).toInt < (i 7429).toInt)) ∨ (v.toInt = 0)) ∧ (((v.toInt = 0) → (¬ (((48 : Int) ≤ (cHr t nn (i 7437) 0).toInt) ∧ ((cHr t nn (i 7437) 0).toInt ≤ 57))))))) := by
  have hG := kG_self kW0 hI hr
  refine km_ofPI (q := (mi_h150, mi_c150)) rfl (by decide) (Nat.le_of_ble_eq_true rfl) ?_
  intro P hP
  have hn1 : (i 7429).toInt = nn.toInt := congrArg Int32.toInt hN
  refine ft_go mi_k150 1 1 [(0, .ref 116)] [.ref 116] i a q r (by rfl) ?_
  refine ko_callPI mi_k150.1 (pc := 1) (ls := [(0, .ref 116)]) (st := [.ref 116]) (h := ks i a q r) (i := (.invokevirtual 166, 3, 147, 0, 9, 0, 404)) (mi_k150.2 _ _ (by rfl)) (ft_invS mi_pq147 (by rfl)) (cy := mi_c147) mi_pq147 rfl (ke147_116 hG.I hG.R t nn hT hN hX) (by decide) ?_
  intro vg2 hg2
  obtain ⟨hg2, og2⟩ := hg2
  have z3 : (((-1) : Int) ≤ vg2.toInt) ∧ (vg2.toInt ≤ 255) ∧ ((vg2.toInt = (-1)) ∨ ((i 7437).toInt < (i 7429).toInt)) := hg2
  have q4 : vg2 = cHr t nn (i 7437) 0 := og2
  have hv5 : vg2.toInt = (cHr t nn (i 7437) 0).toInt := congrArg Int32.toInt og2
  refine ft_go mi_k150 1 6 [(0, .ref 116)] [.int 48, .int vg2] i a q r (by rfl) ?_
  refine ft_if mi_k150 (decide (vg2 < 48)) 22 9 [(0, .ref 116)] [] (by rfl) (fun c => ?_) (fun c => ?_)
  ·
    have c6 : vg2.toInt < (48 : Int32).toInt := kd_lt c; clear c
    refine ft_go mi_k150 1 23 [(0, .ref 116)] [.int 0] i a q r (by rfl) ?_
    exact ft_ret mi_k150 (by rfl) (hP 0 (oq6 c6 hv5 koq48 koq0))
  ·
    have c7 : (48 : Int32).toInt ≤ vg2.toInt := kd_ltF c; clear c
    refine ft_go mi_k150 1 10 [(0, .ref 116)] [.ref 116] i a q r (by rfl) ?_
    refine ko_callPI mi_k150.1 (pc := 10) (ls := [(0, .ref 116)]) (st := [.ref 116]) (h := ks i a q r) (i := (.invokevirtual 166, 3, 147, 0, 9, 0, 404)) (mi_k150.2 _ _ (by rfl)) (ft_invS mi_pq147 (by rfl)) (cy := mi_c147) mi_pq147 rfl (ke147_116 hG.I hG.R t nn hT hN hX) (by decide) ?_
    intro vg8 hg8
    obtain ⟨hg8, og8⟩ := hg8
    have q10 : vg8 = cHr t nn (i 7437) 0 := og8
    have hv11 : vg8.toInt = (cHr t nn (i 7437) 0).toInt := congrArg Int32.toInt og8
    refine ft_go mi_k150 1 15 [(0, .ref 116)] [.int 57, .int vg8] i a q r (by rfl) ?_
    refine ft_if mi_k150 (decide (57 < vg8)) 22 18 [(0, .ref 116)] [] (by rfl) (fun c => ?_) (fun c => ?_)
    ·
      have c12 : (57 : Int32).toInt < vg8.toInt := kd_lt c; clear c
      refine ft_go mi_k150 1 23 [(0, .ref 116)] [.int 0] i a q r (by rfl) ?_
      exact ft_ret mi_k150 (by rfl) (hP 0 (oq7 c12 hv11 koq57 koq0))
    ·
      have c13 : vg8.toInt ≤ (57 : Int32).toInt := kd_ltF c; clear c
      refine ft_go mi_k150 2 23 [(0, .ref 116)] [.int 1] i a q r (by rfl) ?_
      exact ft_ret mi_k150 (by rfl) (hP 1 (oq8 c13 c7 hv11 hv5 z3.2.2 koq57 koq48 koq1))
set_option maxRecDepth 100000 in
theorem ke151 {i : Nat → Int32} {a : Nat → List Int32} {q : Nat → List Int64} {r : Nat → Nat} (hI : kI i a q) (hr : kr r) (x1 : Int32) : km 1 151 [.int x1] (ks i a q r) (kPI (ks i a q r) (fun v => ((((-1) : Int) ≤ v.toInt) ∧ (v.toInt ≤ 5) ∧ ((v.toInt = (-1)) ∨ ((100 : Int) ≤ x1.toInt))) ∧ v = nmO x1)) := by
  have hG := kG_self kW0 hI hr
  refine km_ofPI (q := (mi_h151, mi_c151)) rfl (by decide) (Nat.le_of_ble_eq_true rfl) ?_
  intro P hP
  refine ft_go mi_k151 1 1 [(0, .int x1)] [.int x1] i a q r (by rfl) ?_
  by_cases w1 : x1.toInt = 100
  ·
    refine ft_swx mi_k151 (pc := 1) (v := 100) (t := 106) (kj_eq w1 (by decide) : x1 = 100) (by decide +kernel) ?_
    refine ft_go mi_k151 1 107 [(0, .int x1)] [.int 5] i a q r (by rfl) ?_
    exact ft_ret mi_k151 (by rfl) (hP 5 ⟨(oq9 w1 koq5), (show (5 : Int32) = nmO x1 from (nmO_of (oq10 w1 koq5)))⟩)
  by_cases w2 : x1.toInt = 101
  ·
    refine ft_swx mi_k151 (pc := 1) (v := 101) (t := 108) (kj_eq w2 (by decide) : x1 = 101) (by decide +kernel) ?_
    refine ft_go mi_k151 1 109 [(0, .int x1)] [.int (-1)] i a q r (by rfl) ?_
    exact ft_ret mi_k151 (by rfl) (hP (-1) ⟨(oq11 koqm1), (show ((-1) : Int32) = nmO x1 from (nmO_no (oq12 w2) (oq13 w2) (oq14 w2) (oq15 w2) (oq16 w2) (oq17 w2) rfl))⟩)
  by_cases w3 : x1.toInt = 102
  ·
    refine ft_swx mi_k151 (pc := 1) (v := 102) (t := 108) (kj_eq w3 (by decide) : x1 = 102) (by decide +kernel) ?_
    refine ft_go mi_k151 1 109 [(0, .int x1)] [.int (-1)] i a q r (by rfl) ?_
    exact ft_ret mi_k151 (by rfl) (hP (-1) ⟨(oq11 koqm1), (show ((-1) : Int32) = nmO x1 from (nmO_no (oq18 w3) (oq19 w3) (oq20 w3) (oq21 w3) (oq22 w3) (oq23 w3) rfl))⟩)
  by_cases w4 : x1.toInt = 103
  ·
    refine ft_swx mi_k151 (pc := 1) (v := 103) (t := 108) (kj_eq w4 (by decide) : x1 = 103) (by decide +kernel) ?_
    refine ft_go mi_k151 1 109 [(0, .int x1)] [.int (-1)] i a q r (by rfl) ?_
    exact ft_ret mi_k151 (by rfl) (hP (-1) ⟨(oq11 koqm1), (show ((-1) : Int32) = nmO x1 from (nmO_no (oq24 w4) (oq25 w4) (oq26 w4) (oq27 w4) (oq28 w4) (oq29 w4) rfl))⟩)
  by_cases w5 : x1.toInt = 104
  ·
    refine ft_swx mi_k151 (pc := 1) (v := 104) (t := 100) (kj_eq w5 (by decide) : x1 = 104) (by decide +kernel) ?_
    refine ft_go mi_k151 1 101 [(0, .int x1)] [.int 2] i a q r (by rfl) ?_
    exact ft_ret mi_k151 (by rfl) (hP 2 ⟨(oq30 w5 koq2), (show (2 : Int32) = nmO x1 from (nmO_of (oq31 w5 koq2)))⟩)
  by_cases w6 : x1.toInt = 105
  ·
    refine ft_swx mi_k151 (pc := 1) (v := 105) (t := 108) (kj_eq w6 (by decide) : x1 = 105) (by decide +kernel) ?_
    refine ft_go mi_k151 1 109 [(0, .int x1)] [.int (-1)] i a q r (by rfl) ?_
    exact ft_ret mi_k151 (by rfl) (hP (-1) ⟨(oq11 koqm1), (show ((-1) : Int32) = nmO x1 from (nmO_no (oq32 w6) (oq33 w6) (oq34 w6) (oq35 w6) (oq36 w6) (oq37 w6) rfl))⟩)
  by_cases w7 : x1.toInt = 106
  ·
    refine ft_swx mi_k151 (pc := 1) (v := 106) (t := 108) (kj_eq w7 (by decide) : x1 = 106) (by decide +kernel) ?_
    refine ft_go mi_k151 1 109 [(0, .int x1)] [.int (-1)] i a q r (by rfl) ?_
    exact ft_ret mi_k151 (by rfl) (hP (-1) ⟨(oq11 koqm1), (show ((-1) : Int32) = nmO x1 from (nmO_no (oq38 w7) (oq39 w7) (oq40 w7) (oq41 w7) (oq42 w7) (oq43 w7) rfl))⟩)
  by_cases w8 : x1.toInt = 107
  ·
    refine ft_swx mi_k151 (pc := 1) (v := 107) (t := 108) (kj_eq w8 (by decide) : x1 = 107) (by decide +kernel) ?_
    refine ft_go mi_k151 1 109 [(0, .int x1)] [.int (-1)] i a q r (by rfl) ?_
    exact ft_ret mi_k151 (by rfl) (hP (-1) ⟨(oq11 koqm1), (show ((-1) : Int32) = nmO x1 from (nmO_no (oq44 w8) (oq45 w8) (oq46 w8) (oq47 w8) (oq48 w8) (oq49 w8) rfl))⟩)
  by_cases w9 : x1.toInt = 108
  ·
    refine ft_swx mi_k151 (pc := 1) (v := 108) (t := 108) (kj_eq w9 (by decide) : x1 = 108) (by decide +kernel) ?_
    refine ft_go mi_k151 1 109 [(0, .int x1)] [.int (-1)] i a q r (by rfl) ?_
    exact ft_ret mi_k151 (by rfl) (hP (-1) ⟨(oq11 koqm1), (show ((-1) : Int32) = nmO x1 from (nmO_no (oq50 w9) (oq51 w9) (oq52 w9) (oq53 w9) (oq54 w9) (oq55 w9) rfl))⟩)
  by_cases w10 : x1.toInt = 109
  ·
    refine ft_swx mi_k151 (pc := 1) (v := 109) (t := 108) (kj_eq w10 (by decide) : x1 = 109) (by decide +kernel) ?_
    refine ft_go mi_k151 1 109 [(0, .int x1)] [.int (-1)] i a q r (by rfl) ?_
    exact ft_ret mi_k151 (by rfl) (hP (-1) ⟨(oq11 koqm1), (show ((-1) : Int32) = nmO x1 from (nmO_no (oq56 w10) (oq57 w10) (oq58 w10) (oq59 w10) (oq60 w10) (oq61 w10) rfl))⟩)
  by_cases w11 : x1.toInt = 110
  ·
    refine ft_swx mi_k151 (pc := 1) (v := 110) (t := 102) (kj_eq w11 (by decide) : x1 = 110) (by decide +kernel) ?_
    refine ft_go mi_k151 1 103 [(0, .int x1)] [.int 3] i a q r (by rfl) ?_
    exact ft_ret mi_k151 (by rfl) (hP 3 ⟨(oq62 w11 koq3), (show (3 : Int32) = nmO x1 from (nmO_of (oq63 w11 koq3)))⟩)
  by_cases w12 : x1.toInt = 111
  ·
    refine ft_swx mi_k151 (pc := 1) (v := 111) (t := 104) (kj_eq w12 (by decide) : x1 = 111) (by decide +kernel) ?_
    refine ft_go mi_k151 1 105 [(0, .int x1)] [.int 4] i a q r (by rfl) ?_
    exact ft_ret mi_k151 (by rfl) (hP 4 ⟨(oq64 w12 koq4), (show (4 : Int32) = nmO x1 from (nmO_of (oq65 w12 koq4)))⟩)
  by_cases w13 : x1.toInt = 112
  ·
    refine ft_swx mi_k151 (pc := 1) (v := 112) (t := 98) (kj_eq w13 (by decide) : x1 = 112) (by decide +kernel) ?_
    refine ft_go mi_k151 1 99 [(0, .int x1)] [.int 1] i a q r (by rfl) ?_
    exact ft_ret mi_k151 (by rfl) (hP 1 ⟨(oq66 w13 koq1), (show (1 : Int32) = nmO x1 from (nmO_of (oq67 w13 koq1)))⟩)
  by_cases w14 : x1.toInt = 113
  ·
    refine ft_swx mi_k151 (pc := 1) (v := 113) (t := 108) (kj_eq w14 (by decide) : x1 = 113) (by decide +kernel) ?_
    refine ft_go mi_k151 1 109 [(0, .int x1)] [.int (-1)] i a q r (by rfl) ?_
    exact ft_ret mi_k151 (by rfl) (hP (-1) ⟨(oq11 koqm1), (show ((-1) : Int32) = nmO x1 from (nmO_no (oq68 w14) (oq69 w14) (oq70 w14) (oq71 w14) (oq72 w14) (oq73 w14) rfl))⟩)
  by_cases w15 : x1.toInt = 114
  ·
    refine ft_swx mi_k151 (pc := 1) (v := 114) (t := 108) (kj_eq w15 (by decide) : x1 = 114) (by decide +kernel) ?_
    refine ft_go mi_k151 1 109 [(0, .int x1)] [.int (-1)] i a q r (by rfl) ?_
    exact ft_ret mi_k151 (by rfl) (hP (-1) ⟨(oq11 koqm1), (show ((-1) : Int32) = nmO x1 from (nmO_no (oq74 w15) (oq75 w15) (oq76 w15) (oq77 w15) (oq78 w15) (oq79 w15) rfl))⟩)
  by_cases w16 : x1.toInt = 115
  ·
    refine ft_swx mi_k151 (pc := 1) (v := 115) (t := 108) (kj_eq w16 (by decide) : x1 = 115) (by decide +kernel) ?_
    refine ft_go mi_k151 1 109 [(0, .int x1)] [.int (-1)] i a q r (by rfl) ?_
    exact ft_ret mi_k151 (by rfl) (hP (-1) ⟨(oq11 koqm1), (show ((-1) : Int32) = nmO x1 from (nmO_no (oq80 w16) (oq81 w16) (oq82 w16) (oq83 w16) (oq84 w16) (oq85 w16) rfl))⟩)
  by_cases w17 : x1.toInt = 116
  ·
    refine ft_swx mi_k151 (pc := 1) (v := 116) (t := 108) (kj_eq w17 (by decide) : x1 = 116) (by decide +kernel) ?_
    refine ft_go mi_k151 1 109 [(0, .int x1)] [.int (-1)] i a q r (by rfl) ?_
    exact ft_ret mi_k151 (by rfl) (hP (-1) ⟨(oq11 koqm1), (show ((-1) : Int32) = nmO x1 from (nmO_no (oq86 w17) (oq87 w17) (oq88 w17) (oq89 w17) (oq90 w17) (oq91 w17) rfl))⟩)
  by_cases w18 : x1.toInt = 117
  ·
    refine ft_swx mi_k151 (pc := 1) (v := 117) (t := 108) (kj_eq w18 (by decide) : x1 = 117) (by decide +kernel) ?_
    refine ft_go mi_k151 1 109 [(0, .int x1)] [.int (-1)] i a q r (by rfl) ?_
    exact ft_ret mi_k151 (by rfl) (hP (-1) ⟨(oq11 koqm1), (show ((-1) : Int32) = nmO x1 from (nmO_no (oq92 w18) (oq93 w18) (oq94 w18) (oq95 w18) (oq96 w18) (oq97 w18) rfl))⟩)
  by_cases w19 : x1.toInt = 118
  ·
    refine ft_swx mi_k151 (pc := 1) (v := 118) (t := 108) (kj_eq w19 (by decide) : x1 = 118) (by decide +kernel) ?_
    refine ft_go mi_k151 1 109 [(0, .int x1)] [.int (-1)] i a q r (by rfl) ?_
    exact ft_ret mi_k151 (by rfl) (hP (-1) ⟨(oq11 koqm1), (show ((-1) : Int32) = nmO x1 from (nmO_no (oq98 w19) (oq99 w19) (oq100 w19) (oq101 w19) (oq102 w19) (oq103 w19) rfl))⟩)
  by_cases w20 : x1.toInt = 119
  ·
    refine ft_swx mi_k151 (pc := 1) (v := 119) (t := 96) (kj_eq w20 (by decide) : x1 = 119) (by decide +kernel) ?_
    refine ft_go mi_k151 1 97 [(0, .int x1)] [.int 0] i a q r (by rfl) ?_
    exact ft_ret mi_k151 (by rfl) (hP 0 ⟨(oq104 w20 koq0), (show (0 : Int32) = nmO x1 from (nmO_of (oq105 w20 koq0)))⟩)
  refine ko_sw (ls := [(0, .int x1)]) (r := []) (h := ks i a q r) mi_in151 (v := x1) (i := (.tableswitch 107 100 119 #[105, 107, 107, 107, 99, 107, 107, 107, 107, 107, 101, 103, 97, 107, 107, 107, 107, 107, 107, 95], 95, 0, 0, 0, 0, 0)) (by rfl) rfl (oq106 w1 w2 w3 w4 w5 w6 w7 w8 w9 w10 w11 w12 w13 w14 w15 w16 w17 w18 w19 w20) 108 (by rfl) ?_
  refine ft_go mi_k151 1 109 [(0, .int x1)] [.int (-1)] i a q r (by rfl) ?_
  exact ft_ret mi_k151 (by rfl) (hP (-1) ⟨(oq11 koqm1), (show ((-1) : Int32) = nmO x1 from (nmO_no (oq107 w1 w10 w11 w12 w13 w14 w15 w16 w17 w18 w19 w2 w20 w3 w4 w5 w6 w7 w8 w9) (oq108 w1 w10 w11 w12 w13 w2 w3 w4 w5 w6 w7 w8 w9) (oq109 w1 w2 w3 w4 w5) (oq110 w1 w10 w11 w2 w3 w4 w5 w6 w7 w8 w9) (oq111 w1 w10 w11 w12 w2 w3 w4 w5 w6 w7 w8 w9) (oq112 w1) rfl))⟩)
def yw148_116 : kW := ([7437], [], [], [])
set_option maxRecDepth 100000 in
theorem ke148_116 {i : Nat → Int32} {a : Nat → List Int32} {q : Nat → List Int64} {r : Nat → Nat} (hI : kI i a q) (hr : kr r) (x1 : Int32) (hp0 : (0 : Int) ≤ x1.toInt) (t : List Int32) (nn : Int32) (hT : a 119 = t) (hN : i 7429 = nn) (hX : kBy t) : km 3 148 [.ref 116, .int x1] (ks i a q r) (kVI yw148_116 i a q r (fun v i1 a1 q1 r1 => ((((v.toInt = 1) ∧ ((i1 7437).toInt = ((i 7437).toInt + 1)) ∧ ((i 7437).toInt < (i 7429).toInt) ∧ ((cHr t nn (i 7437) 0).toInt = x1.toInt)) ∨ ((v.toInt = 0) ∧ ((i1 7437).toInt = (i 7437).toInt))) ∧ (((v.toInt = 0) → ((cHr t nn (i 7437) 0).toInt ≠ x1.toInt)))) ∧ (v, i1 7437) = cTkP t nn x1 (i 7437) 0)) := by
  have hG := kG_self yw148_116 hI hr
  refine km_ofI (q := (mi_h148, mi_c148)) rfl (by decide) (Nat.le_of_ble_eq_true rfl) ?_
  intro P hP
  have hn1 : (i 7429).toInt = nn.toInt := congrArg Int32.toInt hN
  refine ft_go mi_k148 1 1 [(0, .ref 116), (1, .int x1)] [.ref 116] i a q r (by rfl) ?_
  refine ko_callPI mi_k148.1 (pc := 1) (ls := [(0, .ref 116), (1, .int x1)]) (st := [.ref 116]) (h := ks i a q r) (i := (.invokevirtual 166, 3, 147, 0, 9, 0, 404)) (mi_k148.2 _ _ (by rfl)) (ft_invS mi_pq147 (by rfl)) (cy := mi_c147) mi_pq147 rfl (ke147_116 hG.I hG.R t nn hT hN hX) (by decide) ?_
  intro vg2 hg2
  obtain ⟨hg2, og2⟩ := hg2
  have fi_7437 : ((0 : Int) ≤ (i 7437).toInt) ∧ ((i 7437).toInt ≤ 120) := hG.I.1 7437
  have fi_7429 : ((0 : Int) ≤ (i 7429).toInt) ∧ ((i 7429).toInt ≤ 120) := hG.I.1 7429
  have z3 : (((-1) : Int) ≤ vg2.toInt) ∧ (vg2.toInt ≤ 255) ∧ ((vg2.toInt = (-1)) ∨ ((i 7437).toInt < (i 7429).toInt)) := hg2
  have q4 : vg2 = cHr t nn (i 7437) 0 := og2
  have hv5 : vg2.toInt = (cHr t nn (i 7437) 0).toInt := congrArg Int32.toInt og2
  refine ft_go mi_k148 1 5 [(0, .ref 116), (1, .int x1)] [.int x1, .int vg2] i a q r (by rfl) ?_
  refine ft_if mi_k148 (vg2 == x1) 10 8 [(0, .ref 116), (1, .int x1)] [] (by rfl) (fun c => ?_) (fun c => ?_)
  ·
    have c6 : vg2.toInt = x1.toInt := kd_eq c; clear c
    have s7 : ((i 7437) + 1).toInt = (i 7437).toInt + (1 : Int32).toInt := kd_add (oq115 fi_7437.1 koq1) (oq116 fi_7437.2 koq1)
    have hJ8 := kG_i hG 7437 rfl (v := ((i 7437) + 1)) ⟨(oq117 fi_7437.1 s7 koq1), (oq118 c6 fi_7429.2 hp0 s7 z3.2.2 koq1)⟩
    refine ft_go mi_k148 7 21 [(0, .ref 116), (1, .int x1)] [.int 1] (ku i 7437 ((i 7437) + 1)) a q r (by rfl) ?_
    exact ft_ret mi_k148 (by rfl) (hP 1 _ _ _ _ hJ8 ⟨(oq119 c6 hp0 hv5 s7 z3.2.2 koq1), (tkP_y (oq120 c6 hv5))⟩)
  ·
    have c9 : vg2.toInt ≠ x1.toInt := kd_eqF c; clear c
    refine ft_go mi_k148 1 9 [(0, .ref 116), (1, .int x1)] [.int 0] i a q r (by rfl) ?_
    exact ft_ret mi_k148 (by rfl) (hP 0 _ _ _ _ hG ⟨(oq121 c9 hv5 koq0), (tkP_n (oq122 c9 hv5))⟩)
def zw149_116 : kW := ([7439], [127], [], [])
set_option maxRecDepth 100000 in
theorem kf149_116 {i : Nat → Int32} {a : Nat → List Int32} {q : Nat → List Int64} {r : Nat → Nat} (hI : kI i a q) (hr : kr r) (x1 : Int32) (hp0 : ((0 : Int) ≤ (i 7439).toInt) ∧ ((i 7439).toInt ≤ 199)) : km 1 149 [.ref 116, .int x1] (ks i a q r) (kVI zw149_116 i a q r (fun v i1 a1 q1 r1 => ((v.toInt = 1) ∧ ((i1 7439).toInt = ((i 7439).toInt + 1))) ∧ (a1 127 = (a 127).set (i 7439).toNatClampNeg x1 ∧ i1 7439 = i 7439 + 1))) := by
  have hG := kG_self zw149_116 hI hr
  refine km_ofI (q := (mi_h149, mi_c149)) rfl (by decide) (Nat.le_of_ble_eq_true rfl) ?_
  intro P hP
  have fi_7439 : ((0 : Int) ≤ (i 7439).toInt) ∧ ((i 7439).toInt ≤ 200) := hG.I.1 7439
  have s1 : ((i 7439) + 1).toInt = (i 7439).toInt + (1 : Int32).toInt := kd_add (oq115 fi_7439.1 koq1) (oq164 fi_7439.2 koq1)
  have hJ2 := kG_i hG 7439 rfl (v := ((i 7439) + 1)) ⟨(oq117 fi_7439.1 s1 koq1), (oq165 hp0.2 s1 koq1)⟩
  refine ft_go mi_k149 10 16 [(0, .ref 116), (1, .int x1)] [.int x1, .int (i 7439), .ref 127] (ku i 7439 ((i 7439) + 1)) a q r (by rfl) ?_
  refine ko_iast3 mi_k149.1 (n := 200) (c := 200) (ax := (0, 0, 0, 0, 0)) (mi_k149.2 _ _ (by rfl)) (by rfl) (ksG127 _ _ _ _) (ksA127 _ _ _ _) (hJ2.I.2.1 127) rfl (oq2 fi_7439.1) (oq166 hp0.2) ?_
  intro a3 ea3 fa3
  have hJ3 := kG_a3 hJ2 127 rfl ea3 fa3 (kd_bd _)
  refine ft_go mi_k149 1 18 [(0, .ref 116), (1, .int x1)] [.int 1] (ku i 7439 ((i 7439) + 1)) a3 q r (by rfl) ?_
  exact ft_ret mi_k149 (by rfl) (hP 1 _ _ _ _ hJ3 ⟨(oq167 s1 koq1), ⟨(show a3 127 = (a 127).set (i 7439).toNatClampNeg x1 from (by first | rfl | (simp only [ea3, sMn, sMx]; done) | (simp only [ea3, sMn, sMx]; rfl))), (show ((i 7439) + 1) = i 7439 + 1 from (by first | rfl | (simp only [sMn, sMx]; done) | (simp only [sMn, sMx]; rfl)))⟩⟩)
def wQ : kW := ([7437, 7438, 7439], [127], [], [])
def yw152_116_L11 : kW := ([7437], [], [], [])
def kMQ_152 (n : Nat) : Prop := ∀ (i : Nat → Int32) (a : Nat → List Int32) (q : Nat → List Int64) (r : Nat → Nat), kI i a q → kr r → (((i 7438).toInt + (n : Int)) = 6) → ((i 7439).toInt ≤ (i 7437).toInt) → ((i 7437).toInt ≤ (i 7429).toInt) → ∀ (t : List Int32) (nn : Int32), a 119 = t → i 7429 = nn → kBy t → km (6 * n + 10) 152 [.ref 116] (ks i a q r) (kVI wQ i a q r (fun v i1 a1 q1 r1 => (((i1 7438).toInt = (i 7438).toInt) ∧ ((i 7437).toInt ≤ (i1 7437).toInt) ∧ ((i1 7437).toInt ≤ (i1 7429).toInt) ∧ (((i1 7439).toInt - (i1 7437).toInt) ≤ ((i 7439).toInt - (i 7437).toInt)) ∧ ((i 7439).toInt ≤ (i1 7439).toInt) ∧ ((0 : Int) ≤ v.toInt) ∧ (v.toInt ≤ 1) ∧ (((v.toInt = 1) → (((i 7437).toInt + 1) ≤ (i1 7437).toInt)))) ∧ (v, (i1 7437, i1 7439, a1 127)) = (rO t nn n) (i 7437, i 7439, a 127)))
def yw153_116_L9 : kW := ([7437, 7438, 7439], [127], [], [])
def kMQ_153 (n : Nat) : Prop := ∀ (i : Nat → Int32) (a : Nat → List Int32) (q : Nat → List Int64) (r : Nat → Nat), kI i a q → kr r → (((i 7438).toInt + (n : Int)) = 6) → ((i 7439).toInt ≤ (i 7437).toInt) → ((i 7437).toInt ≤ (i 7429).toInt) → ∀ (t : List Int32) (nn : Int32), a 119 = t → i 7429 = nn → kBy t → km (6 * n + 11) 153 [.ref 116] (ks i a q r) (kVI wQ i a q r (fun v i1 a1 q1 r1 => (((i1 7438).toInt = (i 7438).toInt) ∧ ((i 7437).toInt ≤ (i1 7437).toInt) ∧ ((i1 7437).toInt ≤ (i1 7429).toInt) ∧ (((i1 7439).toInt - (i1 7437).toInt) ≤ ((i 7439).toInt - (i 7437).toInt)) ∧ ((i 7439).toInt ≤ (i1 7439).toInt) ∧ ((0 : Int) ≤ v.toInt) ∧ (v.toInt ≤ 1) ∧ (((v.toInt = 1) → (((i 7437).toInt + 1) ≤ (i1 7437).toInt)))) ∧ (v, (i1 7437, i1 7439, a1 127)) = (rP3 t nn (rO t nn n)) (i 7437, i 7439, a 127)))
def yw154_116_L9 : kW := ([7437, 7438, 7439], [127], [], [])
def kMQ_154 (n : Nat) : Prop := ∀ (i : Nat → Int32) (a : Nat → List Int32) (q : Nat → List Int64) (r : Nat → Nat), kI i a q → kr r → (((i 7438).toInt + (n : Int)) = 6) → ((i 7439).toInt ≤ (i 7437).toInt) → ((i 7437).toInt ≤ (i 7429).toInt) → ∀ (t : List Int32) (nn : Int32), a 119 = t → i 7429 = nn → kBy t → km (6 * n + 12) 154 [.ref 116] (ks i a q r) (kVI wQ i a q r (fun v i1 a1 q1 r1 => (((i1 7438).toInt = (i 7438).toInt) ∧ ((i 7437).toInt ≤ (i1 7437).toInt) ∧ ((i1 7437).toInt ≤ (i1 7429).toInt) ∧ (((i1 7439).toInt - (i1 7437).toInt) ≤ ((i 7439).toInt - (i 7437).toInt)) ∧ ((i 7439).toInt ≤ (i1 7439).toInt) ∧ ((0 : Int) ≤ v.toInt) ∧ (v.toInt ≤ 1) ∧ (((v.toInt = 1) → (((i 7437).toInt + 1) ≤ (i1 7437).toInt)))) ∧ (v, (i1 7437, i1 7439, a1 127)) = (rP4 t nn (rO t nn n)) (i 7437, i 7439, a 127)))
def kMQ_155 (n : Nat) : Prop := ∀ (i : Nat → Int32) (a : Nat → List Int32) (q : Nat → List Int64) (r : Nat → Nat), kI i a q → kr r → (((i 7438).toInt + (n : Int)) = 6) → ((i 7439).toInt ≤ (i 7437).toInt) → ((i 7437).toInt ≤ (i 7429).toInt) → ∀ (t : List Int32) (nn : Int32), a 119 = t → i 7429 = nn → kBy t → km (6 * n + 13) 155 [.ref 116] (ks i a q r) (kVI wQ i a q r (fun v i1 a1 q1 r1 => (((i1 7438).toInt = (i 7438).toInt) ∧ ((i 7437).toInt ≤ (i1 7437).toInt) ∧ ((i1 7437).toInt ≤ (i1 7429).toInt) ∧ (((i1 7439).toInt - (i1 7437).toInt) ≤ ((i 7439).toInt - (i 7437).toInt)) ∧ ((i 7439).toInt ≤ (i1 7439).toInt) ∧ ((0 : Int) ≤ v.toInt) ∧ (v.toInt ≤ 1) ∧ (((v.toInt = 1) → (((i 7437).toInt + 1) ≤ (i1 7437).toInt)))) ∧ (v, (i1 7437, i1 7439, a1 127)) = (rP5 t nn (rO t nn n)) (i 7437, i 7439, a 127)))
def yw156_116_L9 : kW := ([7437, 7438, 7439], [127], [], [])
def kMQ_156 (n : Nat) : Prop := ∀ (i : Nat → Int32) (a : Nat → List Int32) (q : Nat → List Int64) (r : Nat → Nat), kI i a q → kr r → (((i 7438).toInt + (n : Int)) = 6) → ((i 7439).toInt ≤ (i 7437).toInt) → ((i 7437).toInt ≤ (i 7429).toInt) → ∀ (t : List Int32) (nn : Int32), a 119 = t → i 7429 = nn → kBy t → km (6 * n + 14) 156 [.ref 116] (ks i a q r) (kVI wQ i a q r (fun v i1 a1 q1 r1 => (((i1 7438).toInt = (i 7438).toInt) ∧ ((i 7437).toInt ≤ (i1 7437).toInt) ∧ ((i1 7437).toInt ≤ (i1 7429).toInt) ∧ (((i1 7439).toInt - (i1 7437).toInt) ≤ ((i 7439).toInt - (i 7437).toInt)) ∧ ((i 7439).toInt ≤ (i1 7439).toInt) ∧ ((0 : Int) ≤ v.toInt) ∧ (v.toInt ≤ 1) ∧ (((v.toInt = 1) → (((i 7437).toInt + 1) ≤ (i1 7437).toInt)))) ∧ (v, (i1 7437, i1 7439, a1 127)) = (rP6 t nn (rO t nn n)) (i 7437, i 7439, a 127)))
def yw157_116_L9 : kW := ([7437, 7438, 7439], [127], [], [])
def kMQ_157 (n : Nat) : Prop := ∀ (i : Nat → Int32) (a : Nat → List Int32) (q : Nat → List Int64) (r : Nat → Nat), kI i a q → kr r → (((i 7438).toInt + (n : Int)) = 6) → ((i 7439).toInt ≤ (i 7437).toInt) → ((i 7437).toInt ≤ (i 7429).toInt) → ∀ (t : List Int32) (nn : Int32), a 119 = t → i 7429 = nn → kBy t → km (6 * n + 15) 157 [.ref 116] (ks i a q r) (kVI wQ i a q r (fun v i1 a1 q1 r1 => (((i1 7438).toInt = (i 7438).toInt) ∧ ((i 7437).toInt ≤ (i1 7437).toInt) ∧ ((i1 7437).toInt ≤ (i1 7429).toInt) ∧ (((i1 7439).toInt - (i1 7437).toInt) ≤ ((i 7439).toInt - (i 7437).toInt)) ∧ ((i 7439).toInt ≤ (i1 7439).toInt) ∧ ((0 : Int) ≤ v.toInt) ∧ (v.toInt ≤ 1) ∧ (((v.toInt = 1) → (((i 7437).toInt + 1) ≤ (i1 7437).toInt)))) ∧ (v, (i1 7437, i1 7439, a1 127)) = (rE t nn n) (i 7437, i 7439, a 127)))
