theorem kn50 : (50 : Int32).toInt = 50 := by decide
theorem kn24 : (24 : Int32).toInt = 24 := by decide
theorem knm14 : ((-14) : Int32).toInt = (-14) := by decide
theorem knm13 : ((-13) : Int32).toInt = (-13) := by decide
theorem kn48 : (48 : Int32).toInt = 48 := by decide
theorem kn57 : (57 : Int32).toInt = 57 := by decide
theorem kn15 : (15 : Int32).toInt = 15 := by decide
theorem oz560 {a0 a1 : Int} (h0 : a0 < a1) (h1 : a1 = 5) : a0 < 5 := by omega
theorem oz561 {a0 a1 a2 : Int} (h0 : a0 < a1) (h1 : a1 = 5) (h2 : a2 = 1) : a0 + a2 ≤ 2147483647 := by omega
theorem oz562 {a0 a1 : Int} (h0 : a0 < a1) (h1 : a1 = 5) : (1 : Int) ≤ (5 - a0) := by omega
theorem oz563 {a0 a1 : Int} (h0 : a0 ≤ 8) (h1 : a1 = 10) : a1 + a0 ≤ 2147483647 := by omega
theorem oz564 {a0 a1 a2 a3 a4 : Int} (h0 : a0 < a1) (h1 : a2 ≤ 8) (h2 : a1 = a3 + a2) (h3 : a3 = 10) : a0 = 18 → (0 : Int) ≤ a4 ∧ a4 ≤ 5 := by omega
theorem oz565 {a0 a1 a2 a3 a4 : Int} (h0 : a0 < a1) (h1 : a2 ≤ 8) (h2 : a1 = a3 + a2) (h3 : a3 = 10) : 19 ≤ a0 → a0 ≤ 24 → (0 : Int) ≤ a4 ∧ a4 ≤ 7 := by omega
theorem oz566 {a0 a1 : Int} (h0 : a0 ≤ a1) (h1 : a0 = 18) : (0 : Int) ≤ a1 := by omega
theorem oz567 {a0 a1 a2 : Int} (h0 : a0 ≤ a1) (h1 : (a1 = 18 → (0 : Int) ≤ a2 ∧ a2 ≤ 5)) (h2 : a0 = 18) : a1 = 18 → (0 : Int) ≤ a2 ∧ a2 ≤ 5 := by omega
theorem oz568 {a0 a1 : Int} (h0 : (19 ≤ a0 → a0 ≤ 24 → (0 : Int) ≤ a1 ∧ a1 ≤ 7)) : 19 ≤ a0 → a0 ≤ 24 → (0 : Int) ≤ a1 ∧ a1 ≤ 7 := by omega
theorem oz569 {a0 a1 a2 : Int} (h0 : a0 ≤ a1) (h1 : a0 = 18) (h2 : a2 = 1) : (-2147483648 : Int) ≤ a1 + a2 := by omega
theorem oz570 {a0 a1 a2 a3 : Int} (h0 : a0 ≤ a1) (h1 : a2 = a1 + a3) (h2 : a0 = 18) (h3 : a3 = 1) : (0 : Int) ≤ a2 := by omega
theorem oz571 {a0 a1 a2 a3 a4 : Int} (h0 : a0 ≤ a1) (h1 : (0 : Int) ≤ a2) (h2 : a0 = a3 + a2) (h3 : a3 = 10) (h4 : a4 = 1) : (-2147483648 : Int) ≤ a1 + a4 := by omega
theorem oz572 {a0 a1 a2 a3 a4 a5 : Int} (h0 : a0 ≤ a1) (h1 : (0 : Int) ≤ a2) (h2 : a0 = a3 + a2) (h3 : a4 = a1 + a5) (h4 : a3 = 10) (h5 : a5 = 1) : (0 : Int) ≤ a4 := by omega
theorem oz573 {a0 a1 a2 : Int} (h0 : a0 < a1) (h1 : a1 = 8) : a0 = 18 → (0 : Int) ≤ a2 ∧ a2 ≤ 5 := by omega
theorem oz574 {a0 a1 a2 : Int} (h0 : a0 < a1) (h1 : a1 = 8) : 19 ≤ a0 → a0 ≤ 24 → (0 : Int) ≤ a2 ∧ a2 ≤ 7 := by omega
theorem oz575 {a0 a1 a2 a3 : Int} (h0 : a0 < a1) (h1 : a2 ≤ a0) (h2 : a2 = a3 + a1) (h3 : a3 = 10) : False := by omega
theorem oz576 {a0 a1 : Int} (h0 : a0 ≠ a1) (h1 : a0 ≤ 50) (h2 : a1 = 50) : a0 < 50 := by omega
theorem oz577 {a0 a1 : Int} (h0 : a0 ≤ a1) (h1 : a1 = 7) : a0 ≤ 7 := by omega
theorem oz578 {a0 a1 : Int} (h0 : a0 ≤ 50) (h1 : a1 = 1) : a0 + a1 ≤ 2147483647 := by omega
theorem oz579 {a0 a1 a2 a3 : Int} (h0 : a0 ≠ a1) (h1 : a0 ≤ 50) (h2 : a2 = a0 + a3) (h3 : a1 = 50) (h4 : a3 = 1) : a2 ≤ 50 := by omega
theorem oz580 {a0 a1 a2 a3 : Int} (h0 : (0 : Int) ≤ a0) (h1 : a1 = a2 ∨ a1 = a0) (h2 : a2 = 24) (h3 : a3 = 1) : (-2147483648 : Int) ≤ a1 - a3 := by omega
theorem oz581 {a0 a1 a2 : Int} (h0 : a0 ≤ a1) (h1 : a1 = 24) (h2 : a2 = 1) : a0 - a2 ≤ 2147483647 := by omega
theorem oz582 {a0 a1 a2 a3 a4 : Int} (h0 : a0 ≤ a1) (h1 : a2 = a0 - a3) (h2 : a4 ≤ a2) (h3 : a1 = 24) (h4 : a3 = 1) : a4 < 24 := by omega
theorem oz583 {a0 a1 : Int} (h0 : a0 ≤ 50) (h1 : a1 = 1) : a0 - a1 ≤ 2147483647 := by omega
theorem oz584 {a0 a1 a2 : Int} (h0 : a0 ≤ a1) (h1 : a0 = (-1)) (h2 : a2 = 10) : (-2147483648 : Int) ≤ a2 + a1 := by omega
theorem oz585 {a0 a1 a2 a3 a4 : Int} (h0 : a0 ≤ 50) (h1 : a1 = a0 - a2) (h2 : a3 ≤ a1) (h3 : a2 = 1) (h4 : a4 = 10) : a4 + a3 ≤ 2147483647 := by omega
theorem oz586 {a0 a1 a2 a3 : Int} (h0 : a0 = a1 + a2) (h1 : a3 ≤ a2) (h2 : a1 = 10) (h3 : a3 = (-1)) : (-1 : Int) ≤ a0 := by omega
theorem oz587 {a0 a1 a2 a3 a4 a5 : Int} (h0 : a0 ≤ 50) (h1 : a1 = a0 - a2) (h2 : a3 = a4 + a5) (h3 : a5 ≤ a1) (h4 : a2 = 1) (h5 : a4 = 10) : a3 ≤ 59 := by omega
theorem oz588 {a0 : Int} (h0 : a0 = 0) : a0 ≤ 60 := by omega
theorem oz589 {a0 : Int} (h0 : a0 = (-1)) : (-1 : Int) ≤ a0 := by omega
theorem oz590 {a0 : Int} (h0 : a0 = (-1)) : a0 ≤ 59 := by omega
theorem oz591 {a0 a1 : Int} (h0 : a0 ≤ a1) (h1 : a0 = 0) : (-1 : Int) ≤ a1 := by omega
theorem oz592 {a0 a1 : Int} (h0 : a0 ≤ a1) (h1 : a1 = 4) : a0 ≤ 59 := by omega
theorem oz593 {a0 a1 : Int} (h0 : a0 ≤ a1) (h1 : a1 = 60) : a0 ≤ 60 := by omega
theorem oz594 {a0 a1 a2 : Int} (h0 : (0 : Int) ≤ a0) (h1 : a1 = 60 * a2) (h2 : (0 : Int) ≤ a2) : (-2147483648 : Int) ≤ a1 + a0 := by omega
theorem oz595 {a0 a1 a2 a3 : Int} (h0 : a0 < a1) (h1 : a2 = 60 * a3) (h2 : a3 ≤ 5) (h3 : a1 = 60) : a2 + a0 ≤ 2147483647 := by omega
theorem oz596 {a0 a1 a2 a3 : Int} (h0 : (0 : Int) ≤ a0) (h1 : a1 = 60 * a2) (h2 : a3 = a1 + a0) (h3 : (0 : Int) ≤ a2) : (0 : Int) ≤ a3 := by omega
theorem oz597 {a0 a1 a2 a3 a4 : Int} (h0 : a0 < a1) (h1 : a2 = 60 * a3) (h2 : a4 = a2 + a0) (h3 : a3 ≤ 5) (h4 : a1 = 60) : a4 < 360 := by omega
theorem oz598 {a0 a1 a2 : Int} (h0 : a0 < a1) (h1 : a1 = 60) (h2 : a2 = 1) : a0 + a2 ≤ 2147483647 := by omega
theorem oz599 {a0 a1 : Int} (h0 : a0 < a1) (h1 : a1 = 60) : (1 : Int) ≤ (60 - a0) := by omega
theorem oz600 {a0 a1 a2 : Int} (h0 : a0 ≤ a1) (h1 : a1 ≤ a2) (h2 : a0 = 0) (h3 : a2 = 4) : ((0 : Int) ≤ a1) ∧ (a1 ≤ 4) := by omega
theorem oz601 {a0 a1 a2 : Int} (h0 : ¬ ((a0 ≤ a1) ∧ (a1 ≤ a2))) (h1 : a0 = 0) (h2 : a2 = 4) : ¬ (((0 : Int) ≤ a1) ∧ (a1 ≤ 4)) := by omega
theorem oz602 {a0 a1 : Int} (h0 : a0 ≤ 60) (h1 : a1 = 1) : a0 - a1 ≤ 2147483647 := by omega
theorem oz603 {a0 a1 a2 a3 : Int} (h0 : a0 = 60 * a1) (h1 : a2 ≤ a3) (h2 : (0 : Int) ≤ a1) (h3 : a2 = 0) : (-2147483648 : Int) ≤ a0 + a3 := by omega
theorem oz604 {a0 a1 a2 a3 a4 a5 : Int} (h0 : a0 ≤ 60) (h1 : a1 = 60 * a2) (h2 : a3 = a0 - a4) (h3 : a5 ≤ a3) (h4 : a2 ≤ 5) (h5 : a4 = 1) : a1 + a5 ≤ 2147483647 := by omega
theorem oz605 {a0 : Int} (h0 : ¬ (a0 = 0)) (h1 : ¬ (a0 = 1)) (h2 : ¬ (a0 = 2)) (h3 : ¬ (a0 = 3)) : a0 < 0 ∨ 3 < a0 := by omega
theorem oz606 {a0 a1 a2 a3 a4 : Int} (h0 : a0 = 60 * a1) (h1 : a2 = a0 + a3) (h2 : a4 ≤ a3) (h3 : (0 : Int) ≤ a1) (h4 : a4 = 0) : (0 : Int) ≤ a2 := by omega
theorem oz607 {a0 a1 a2 a3 a4 a5 a6 : Int} (h0 : a0 ≤ 60) (h1 : a1 = 60 * a2) (h2 : a3 = a1 + a4) (h3 : a5 = a0 - a6) (h4 : a4 ≤ a5) (h5 : a2 ≤ 5) (h6 : a6 = 1) : a3 < 360 := by omega
theorem oz608 {a0 a1 a2 a3 : Int} (h0 : a0 = 60 * a1) (h1 : (0 : Int) ≤ a1) (h2 : a2 ≤ a3) (h3 : a2 = 0) : (-2147483648 : Int) ≤ a0 + a3 := by omega
theorem oz609 {a0 a1 a2 a3 a4 a5 : Int} (h0 : a0 ≤ 60) (h1 : a1 = 60 * a2) (h2 : a3 = a0 - a4) (h3 : a2 ≤ 5) (h4 : a5 ≤ a3) (h5 : a4 = 1) : a1 + a5 ≤ 2147483647 := by omega
theorem oz610 {a0 a1 a2 a3 a4 : Int} (h0 : a0 = 60 * a1) (h1 : a2 = a0 + a3) (h2 : (0 : Int) ≤ a1) (h3 : a4 ≤ a3) (h4 : a4 = 0) : (0 : Int) ≤ a2 := by omega
theorem oz611 {a0 a1 a2 a3 a4 a5 a6 : Int} (h0 : a0 ≤ 60) (h1 : a1 = 60 * a2) (h2 : a3 = a1 + a4) (h3 : a5 = a0 - a6) (h4 : a2 ≤ 5) (h5 : a4 ≤ a5) (h6 : a6 = 1) : a3 < 360 := by omega
theorem oz612 {a0 a1 a2 a3 a4 : Int} (h0 : a0 ≤ a1) (h1 : a0 ≤ a2) (h2 : a3 = a2) (h3 : a4 = a1) (h4 : a0 = 0) : (-9223372036854775808 : Int) ≤ a3 + a4 := by omega
theorem oz613 {a0 a1 a2 a3 : Int} (h0 : a0 ≤ 2147483647) (h1 : a1 ≤ 2147483647) (h2 : a2 = a0) (h3 : a3 = a1) : a2 + a3 ≤ 9223372036854775807 := by omega
theorem oz614 {a0 a1 a2 a3 a4 : Int} (h0 : a0 ≤ a1) (h1 : a0 ≤ a2) (h2 : a3 = a1) (h3 : a4 = a2) (h4 : a0 = 0) : (-9223372036854775808 : Int) ≤ a4 + a3 := by omega
theorem oz615 {a0 a1 a2 a3 : Int} (h0 : a0 ≤ 2147483647) (h1 : a1 ≤ 2147483647) (h2 : a2 = a0) (h3 : a3 = a1) : a3 + a2 ≤ 9223372036854775807 := by omega
theorem oz616 {a0 a1 a2 a3 : Int} (h0 : a0 ≤ a1) (h1 : a2 = 60 * a3) (h2 : (0 : Int) ≤ a3) (h3 : a0 = 0) : (-2147483648 : Int) ≤ a2 + a1 := by omega
theorem oz617 {a0 a1 a2 a3 a4 a5 a6 a7 a8 a9 a10 : Int} (h0 : a0 ≤ a1) (h1 : a2 ≤ a0) (h2 : a3 ≤ 60) (h3 : a4 = a1) (h4 : a5 = a6) (h5 : a7 = a5 + a4) (h6 : a8 = a3) (h7 : (0 < a2 ↔ a8 < a7)) (h8 : a9 = 60 * a10) (h9 : a10 ≤ 5) (h10 : a0 = 0) : a9 + a6 ≤ 2147483647 := by omega
theorem oz618 {a0 a1 a2 a3 a4 a5 : Int} (h0 : a0 ≤ a1) (h1 : (0 : Int) ≤ a2) (h2 : a3 = 60 * a4) (h3 : a5 = a3 + a1) (h4 : (0 : Int) ≤ a4) (h5 : a0 = 0) : (-2147483648 : Int) ≤ a5 + a2 := by omega
theorem oz619 {a0 a1 a2 a3 a4 a5 a6 a7 a8 a9 a10 a11 a12 : Int} (h0 : a0 ≤ a1) (h1 : a2 < a3) (h2 : a4 ≤ 60) (h3 : a5 = a3) (h4 : a6 = a7) (h5 : a8 = a6 + a5) (h6 : a9 = a4) (h7 : (0 < a0 ↔ a9 < a8)) (h8 : a10 = 60 * a11) (h9 : a12 = a10 + a7) (h10 : a11 ≤ 5) (h11 : a1 = 0) : a12 + a2 ≤ 2147483647 := by omega
theorem oz620 {a0 a1 a2 a3 a4 a5 a6 a7 a8 a9 a10 : Int} (h0 : a0 ≤ a1) (h1 : a2 ≤ a0) (h2 : a3 ≤ 60) (h3 : a4 = a5) (h4 : a6 = a1) (h5 : a7 = a4 + a6) (h6 : a8 = a3) (h7 : (0 < a2 ↔ a8 < a7)) (h8 : a9 = 60 * a10) (h9 : a10 ≤ 5) (h10 : a0 = 0) : a9 + a5 ≤ 2147483647 := by omega
theorem oz621 {a0 a1 a2 a3 a4 a5 a6 a7 a8 a9 a10 a11 a12 : Int} (h0 : a0 ≤ a1) (h1 : a2 < a3) (h2 : a4 ≤ 60) (h3 : a5 = a6) (h4 : a7 = a3) (h5 : a8 = a5 + a7) (h6 : a9 = a4) (h7 : (0 < a0 ↔ a9 < a8)) (h8 : a10 = 60 * a11) (h9 : a12 = a10 + a6) (h10 : a11 ≤ 5) (h11 : a1 = 0) : a12 + a2 ≤ 2147483647 := by omega
theorem oz622 {a0 a1 a2 a3 a4 a5 a6 : Int} (h0 : a0 ≤ a1) (h1 : (0 : Int) ≤ a2) (h2 : a3 = 60 * a4) (h3 : a5 = a3 + a1) (h4 : a6 = a5 + a2) (h5 : (0 : Int) ≤ a4) (h6 : a0 = 0) : (0 : Int) ≤ a6 := by omega
theorem oz623 {a0 a1 a2 a3 a4 a5 a6 a7 a8 a9 a10 a11 a12 a13 : Int} (h0 : a0 ≤ a1) (h1 : a2 < a3) (h2 : a4 ≤ 60) (h3 : a5 = a6) (h4 : a7 = a3) (h5 : a8 = a5 + a7) (h6 : a9 = a4) (h7 : (0 < a0 ↔ a9 < a8)) (h8 : a10 = 60 * a11) (h9 : a12 = a10 + a6) (h10 : a13 = a12 + a2) (h11 : a11 ≤ 5) (h12 : a1 = 0) : a13 < 360 := by omega
theorem oz624 {a0 a1 a2 a3 a4 a5 a6 a7 a8 a9 a10 a11 a12 a13 : Int} (h0 : a0 ≤ a1) (h1 : a2 < a3) (h2 : a4 ≤ 60) (h3 : a5 = a3) (h4 : a6 = a7) (h5 : a8 = a6 + a5) (h6 : a9 = a4) (h7 : (0 < a0 ↔ a9 < a8)) (h8 : a10 = 60 * a11) (h9 : a12 = a10 + a7) (h10 : a13 = a12 + a2) (h11 : a11 ≤ 5) (h12 : a1 = 0) : a13 < 360 := by omega
theorem oz625 {a0 a1 a2 : Int} (h0 : a0 ≤ 2147483647) (h1 : a1 < a0) (h2 : a2 = 1) : a1 + a2 ≤ 2147483647 := by omega
theorem oz626 {a0 a1 a2 a3 a4 a5 a6 a7 a8 a9 a10 a11 a12 a13 : Int} (h0 : a0 ≤ a1) (h1 : a2 ≤ a3) (h2 : a4 < a5) (h3 : a6 ≤ 60) (h4 : a7 = a3) (h5 : a8 = a5) (h6 : a9 = a7 + a8) (h7 : a10 = a6) (h8 : (0 < a0 ↔ a10 < a9)) (h9 : a11 = 60 * a12) (h10 : a13 = a11 + a2) (h11 : a12 ≤ 5) (h12 : a1 = 0) : a13 + a4 ≤ 2147483647 := by omega
theorem oz627 {a0 a1 a2 a3 a4 a5 a6 a7 a8 a9 a10 a11 : Int} (h0 : a0 ≤ a1) (h1 : a2 < a3) (h2 : (0 : Int) ≤ a2) (h3 : a4 ≤ 60) (h4 : a5 = a6) (h5 : a7 = a3) (h6 : a8 = a5 + a7) (h7 : a9 = a4) (h8 : (0 < a0 ↔ a9 < a8)) (h9 : a10 = 60 * a11) (h10 : a11 ≤ 5) (h11 : a1 = 0) : a10 + a6 ≤ 2147483647 := by omega
theorem oz628 {a0 a1 a2 a3 a4 a5 a6 a7 a8 a9 a10 a11 a12 a13 a14 : Int} (h0 : a0 ≤ a1) (h1 : a2 ≤ a3) (h2 : a4 < a5) (h3 : a6 ≤ 60) (h4 : a7 = a3) (h5 : a8 = a5) (h6 : a9 = a7 + a8) (h7 : a10 = a6) (h8 : (0 < a0 ↔ a10 < a9)) (h9 : a11 = 60 * a12) (h10 : a13 = a11 + a2) (h11 : a14 = a13 + a4) (h12 : a12 ≤ 5) (h13 : a1 = 0) : a14 < 360 := by omega
theorem oz629 {a0 a1 a2 : Int} (h0 : a0 ≤ a1) (h1 : a0 = 0) (h2 : a2 = 1) : (-2147483648 : Int) ≤ a1 - a2 := by omega
theorem oz630 {a0 a1 : Int} (h0 : a0 ≤ 2147483647) (h1 : a1 = 1) : a0 - a1 ≤ 2147483647 := by omega
theorem oz631 {a0 a1 a2 a3 a4 a5 a6 a7 a8 a9 a10 a11 : Int} (h0 : a0 ≤ a1) (h1 : a1 ≤ a2) (h2 : a2 ≤ (a3 - 1)) (h3 : a4 ≤ 60) (h4 : a5 = a3) (h5 : a6 = a7) (h6 : a8 = a6 + a5) (h7 : a9 = a4) (h8 : (0 < a0 ↔ a9 < a8)) (h9 : a10 = 60 * a11) (h10 : a11 ≤ 5) (h11 : a1 = 0) : a10 + a7 ≤ 2147483647 := by omega
theorem oz632 {a0 a1 a2 a3 a4 a5 : Int} (h0 : a0 ≤ a1) (h1 : a0 ≤ a2) (h2 : a3 = 60 * a4) (h3 : a5 = a3 + a1) (h4 : (0 : Int) ≤ a4) (h5 : a0 = 0) : (-2147483648 : Int) ≤ a5 + a2 := by omega
theorem oz633 {a0 a1 a2 a3 a4 a5 a6 a7 a8 a9 a10 a11 a12 : Int} (h0 : a0 ≤ a1) (h1 : a2 ≤ (a3 - 1)) (h2 : a4 ≤ 60) (h3 : a5 = a3) (h4 : a6 = a7) (h5 : a8 = a6 + a5) (h6 : a9 = a4) (h7 : (0 < a0 ↔ a9 < a8)) (h8 : a10 = 60 * a11) (h9 : a12 = a10 + a7) (h10 : a11 ≤ 5) (h11 : a1 = 0) : a12 + a2 ≤ 2147483647 := by omega
theorem oz634 {a0 a1 a2 a3 a4 a5 a6 a7 a8 a9 a10 a11 : Int} (h0 : a0 ≤ a1) (h1 : ((-1) : Int) ≤ a2) (h2 : a2 ≤ (a3 - 1)) (h3 : a4 ≤ 60) (h4 : a5 = a6) (h5 : a7 = a3) (h6 : a8 = a5 + a7) (h7 : a9 = a4) (h8 : (0 < a0 ↔ a9 < a8)) (h9 : a10 = 60 * a11) (h10 : a11 ≤ 5) (h11 : a1 = 0) : a10 + a6 ≤ 2147483647 := by omega
theorem oz635 {a0 a1 a2 a3 a4 a5 a6 a7 a8 a9 a10 a11 a12 : Int} (h0 : a0 ≤ a1) (h1 : a2 ≤ (a3 - 1)) (h2 : a4 ≤ 60) (h3 : a5 = a6) (h4 : a7 = a3) (h5 : a8 = a5 + a7) (h6 : a9 = a4) (h7 : (0 < a0 ↔ a9 < a8)) (h8 : a10 = 60 * a11) (h9 : a12 = a10 + a6) (h10 : a11 ≤ 5) (h11 : a1 = 0) : a12 + a2 ≤ 2147483647 := by omega
theorem oz636 {a0 a1 a2 a3 a4 a5 a6 : Int} (h0 : a0 ≤ a1) (h1 : a0 ≤ a2) (h2 : a3 = 60 * a4) (h3 : a5 = a3 + a1) (h4 : a6 = a5 + a2) (h5 : (0 : Int) ≤ a4) (h6 : a0 = 0) : (0 : Int) ≤ a6 := by omega
theorem oz637 {a0 a1 a2 a3 a4 a5 a6 a7 a8 a9 a10 a11 a12 a13 : Int} (h0 : a0 ≤ a1) (h1 : a2 ≤ (a3 - 1)) (h2 : a4 ≤ 60) (h3 : a5 = a6) (h4 : a7 = a3) (h5 : a8 = a5 + a7) (h6 : a9 = a4) (h7 : (0 < a0 ↔ a9 < a8)) (h8 : a10 = 60 * a11) (h9 : a12 = a10 + a6) (h10 : a13 = a12 + a2) (h11 : a11 ≤ 5) (h12 : a1 = 0) : a13 < 360 := by omega
theorem oz638 {a0 a1 a2 a3 a4 a5 a6 a7 : Int} (h0 : a0 ≤ a1) (h1 : a1 < a2) (h2 : a0 ≤ a3) (h3 : a4 = 60 * a5) (h4 : a6 = a4 + a2) (h5 : a7 = a6 + a3) (h6 : (0 : Int) ≤ a5) (h7 : a0 = 0) : (0 : Int) ≤ a7 := by omega
theorem oz639 {a0 a1 a2 a3 a4 a5 a6 a7 a8 a9 a10 a11 a12 a13 a14 : Int} (h0 : a0 ≤ a1) (h1 : a2 = a3) (h2 : a4 ≤ (a5 - 1)) (h3 : a6 ≤ 60) (h4 : a7 = a5) (h5 : a8 = a9) (h6 : a10 = a8 + a7) (h7 : a11 = a6) (h8 : (0 < a0 ↔ a11 < a10)) (h9 : a12 = 60 * a3) (h10 : a13 = a12 + a9) (h11 : a14 = a13 + a4) (h12 : a2 ≤ 5) (h13 : a1 = 0) : a14 < 360 := by omega
theorem oz640 {a0 a1 a2 : Int} (h0 : a0 ≤ 2147483647) (h1 : a1 ≤ (a0 - 1)) (h2 : a2 = (-1)) : a1 + a2 ≤ 2147483647 := by omega
theorem oz641 {a0 a1 a2 a3 : Int} (h0 : a0 ≤ (a1 - 1)) (h1 : a2 = a0 + a3) (h2 : a3 = (-1)) : a2 ≤ (a1 - 1) := by omega
theorem oz642 {a0 a1 a2 a3 : Int} (h0 : a0 ≤ a1) (h1 : a2 = a1 - a3) (h2 : a0 = 0) (h3 : a3 = 1) : ((-1) : Int) ≤ a2 := by omega
theorem oz643 {a0 a1 a2 : Int} (h0 : a0 = a1 - a2) (h1 : a2 = 1) : a0 ≤ (a1 - 1) := by omega
theorem oz644 {a0 a1 : Int} (h0 : (-1 : Int) ≤ a0) (h1 : a1 = 10) : (-2147483648 : Int) ≤ a0 - a1 := by omega
theorem oz645 {a0 a1 : Int} (h0 : a0 ≤ 59) (h1 : a1 = 10) : a0 - a1 ≤ 2147483647 := by omega
theorem oz646 {a0 a1 a2 a3 : Int} (h0 : a0 ≠ a1) (h1 : (-1 : Int) ≤ a0) (h2 : a0 ≤ 4 ∨ 10 ≤ a0) (h3 : a2 = a0 - a3) (h4 : ¬ (((0 : Int) ≤ a0) ∧ (a0 ≤ 4))) (h5 : a1 = (-1)) (h6 : a3 = 10) : (0 : Int) ≤ a2 := by omega
theorem oz647 {a0 a1 a2 : Int} (h0 : a0 ≤ 59) (h1 : a1 = a0 - a2) (h2 : a2 = 10) : a1 < 50 := by omega
theorem oz648 {a0 a1 : Int} (h0 : a0 = a1) (h1 : a0 ≠ a1) : False := by omega
theorem oz649 {a0 a1 a2 : Int} (h0 : a0 ≠ a1) (h1 : a0 ≤ a2) (h2 : a0 = a1) (h3 : a2 ≤ a1) (h4 : a2 = 0) : False := by omega
theorem oz650 {a0 a1 : Int} (h0 : a0 = 3) (h1 : a1 = 2) : ((0 : Int) ≤ a1) ∧ (a1 ≤ 4) ∧ ((a1 < a0) ∨ (a0 ≤ 0)) := by omega
theorem oz651 {a0 a1 : Int} (h0 : a0 = 4) (h1 : a1 = 1) : ((0 : Int) ≤ a1) ∧ (a1 ≤ 4) ∧ ((a1 < a0) ∨ (a0 ≤ 0)) := by omega
theorem oz652 {a0 a1 : Int} (h0 : a0 = 5) (h1 : a1 = 3) : ((0 : Int) ≤ a1) ∧ (a1 ≤ 4) ∧ ((a1 < a0) ∨ (a0 ≤ 0)) := by omega
theorem oz653 {a0 a1 : Int} (h0 : a0 = 6) (h1 : a1 = 0) : ((0 : Int) ≤ a1) ∧ (a1 ≤ 4) ∧ ((a1 < a0) ∨ (a0 ≤ 0)) := by omega
theorem oz654 {a0 a1 : Int} (h0 : a0 = 7) (h1 : a1 = 4) : ((0 : Int) ≤ a1) ∧ (a1 ≤ 4) ∧ ((a1 < a0) ∨ (a0 ≤ 0)) := by omega
theorem oz655 {a0 : Int} (h0 : ¬ (a0 = 3)) (h1 : ¬ (a0 = 4)) (h2 : ¬ (a0 = 5)) (h3 : ¬ (a0 = 6)) (h4 : ¬ (a0 = 7)) : a0 < 3 ∨ 7 < a0 := by omega
theorem oz656 {a0 a1 : Int} (h0 : a0 = 0) : ((0 : Int) ≤ a0) ∧ (a0 ≤ 4) ∧ ((a0 < a1) ∨ (a1 ≤ 0)) := by omega
theorem oz657 {a0 : Int} (h0 : (0 : Int) ≤ a0) (h1 : a0 ≤ 4) : ((0 : Int) ≤ a0) ∧ (a0 ≤ 7) := by omega
theorem oz658 {a0 a1 a2 : Int} (h0 : a0 < a1) (h1 : (a2 < a1) ∨ (a1 ≤ 0)) (h2 : a0 = 0) : a2 < a1 := by omega
theorem oz659 {a0 a1 : Int} (h0 : a0 < a1) (h1 : a0 = 0) : (1 : Int) ≤ a1 := by omega
theorem oz660 {a0 : Int} (h0 : ¬ (a0 = 0)) (h1 : ¬ (a0 = 1)) (h2 : ¬ (a0 = 2)) (h3 : ¬ (a0 = 3)) (h4 : ¬ (a0 = 4)) (h5 : ¬ (a0 = 5)) : a0 < 0 ∨ 5 < a0 := by omega
theorem oz661 {a0 : Int} (h0 : a0 ≤ 255) : a0 ≤ 255 := by omega
theorem oz662 {a0 a1 : Int} (h0 : a0 ≠ a1) (h1 : (0 : Int) ≤ a0) (h2 : a1 = 0) : a0 ≠ 0 := by omega
theorem oz663 {a0 a1 : Int} (h0 : (a0 + a1) ≤ 5) (h1 : (1 : Int) ≤ a1) : a0 < 5 := by omega
theorem oz664 {a0 a1 a2 : Int} (h0 : (a0 + a1) ≤ 5) (h1 : (1 : Int) ≤ a1) (h2 : a2 = 1) : a0 + a2 ≤ 2147483647 := by omega
theorem oz665 {a0 a1 : Int} (h0 : a0 = a1) (h1 : (1 : Int) ≤ a0) : (1 : Int) ≤ a1 := by omega
theorem oz666 {a0 : Int} (h0 : (0 : Int) ≤ a0) (h1 : a0 ≤ 255) : ((0 : Int) ≤ a0) ∧ (a0 ≤ 255) := by omega
theorem oz667 {a0 a1 a2 a3 a4 : Int} (h0 : (a0 + a1) ≤ 5) (h1 : a2 = a1 - 1) (h2 : a3 = a0 + a4) (h3 : a4 = 1) : (a3 + a2) ≤ 5 := by omega
theorem oz668 {a0 a1 a2 a3 : Int} (h0 : a0 = a1 + 1) (h1 : a2 = a0) (h2 : a3 = a2 - 1) : a3 = a1 := by omega
theorem oz669 {a0 a1 a2 : Int} (h0 : (0 : Int) ≤ a0) (h1 : (a1 + a2) ≤ 5) (h2 : a2 = a0) : a1 ≤ 21 := by omega
theorem oz670 {a0 a1 a2 a3 : Int} (h0 : a0 < a1) (h1 : (0 : Int) ≤ a2) (h2 : (a1 + a3) ≤ 5) (h3 : a3 = a2) : a0 < 5 := by omega
theorem oz671 {a0 a1 a2 a3 a4 : Int} (h0 : a0 < a1) (h1 : (0 : Int) ≤ a2) (h2 : (a1 + a3) ≤ 5) (h3 : a3 = a2) (h4 : a4 = 1) : a0 + a4 ≤ 2147483647 := by omega
theorem oz672 {a0 a1 a2 a3 : Int} (h0 : a0 < a1) (h1 : (0 : Int) ≤ a2) (h2 : (a1 + a3) ≤ 5) (h3 : a3 = a2) : a0 < 21 := by omega
theorem oz673 {a0 : Int} (h0 : (0 : Int) ≤ a0) : (-2147483648 : Int) ≤ 31 * a0 := by omega
theorem oz674 {a0 a1 : Int} (h0 : a0 ≤ 5) (h1 : (a1 + 1) ≤ a0) : 31 * a1 ≤ 2147483647 := by omega
theorem oz675 {a0 a1 : Int} (h0 : (0 : Int) ≤ a0) (h1 : (0 : Int) ≤ a1) : (-2147483648 : Int) ≤ a0 + a1 := by omega
theorem oz676 {a0 a1 a2 : Int} (h0 : a0 < a1) (h1 : a2 ≤ 124) (h2 : a1 = 31) : a2 + a0 ≤ 2147483647 := by omega
theorem oz677 {a0 a1 a2 : Int} (h0 : (0 : Int) ≤ a0) (h1 : (0 : Int) ≤ a1) (h2 : a2 = a0 + a1) : (0 : Int) ≤ a2 := by omega
theorem oz678 {a0 a1 a2 a3 : Int} (h0 : a0 < a1) (h1 : a2 ≤ 124) (h2 : a3 = a2 + a0) (h3 : a1 = 31) : a3 < 155 := by omega
theorem oz679 {a0 a1 a2 : Int} (h0 : (0 : Int) ≤ a0) (h1 : a1 ≤ 5) (h2 : (a0 + 1) ≤ a1) (h3 : a2 = 31 * a0) : ((0 : Int) ≤ a2) ∧ (a2 ≤ 124) := by omega
theorem oz680 {a0 a1 a2 : Int} (h0 : a0 ≤ 5) (h1 : (a1 + 1) ≤ a0) (h2 : a2 = 1) : a1 + a2 ≤ 2147483647 := by omega
theorem oz681 {a0 a1 a2 : Int} (h0 : (a0 - a1) = a2) (h1 : (a1 + 1) ≤ a0) : (1 : Int) ≤ a2 := by omega
theorem oz682 {a0 a1 a2 a3 : Int} (h0 : (0 : Int) ≤ a0) (h1 : a1 ≤ 5) (h2 : (a0 + 1) ≤ a1) (h3 : a2 = a0 + a3) (h4 : a3 = 1) : ((0 : Int) ≤ a2) ∧ (a2 ≤ a1) ∧ (a1 ≤ 5) := by omega
theorem oz683 {a0 a1 a2 a3 a4 a5 : Int} (h0 : a0 = a1 + 1) (h1 : (a2 - a3) = a0) (h2 : a4 = a3 + a5) (h3 : a5 = 1) : (a2 - a4) = a1 := by omega
theorem oz684 {a0 a1 a2 : Int} (h0 : a0 ≤ a1) (h1 : a1 ≤ 5) (h2 : a2 = 1) : a0 + a2 ≤ 2147483647 := by omega
theorem oz685 {a0 a1 a2 : Int} (h0 : a0 ≠ a1) (h1 : (0 : Int) ≤ a2) (h2 : (a1 - a0) = a2) : (1 : Int) ≤ a2 := by omega
theorem oz686 {a0 a1 a2 a3 : Int} (h0 : a0 ≠ a1) (h1 : (0 : Int) ≤ a0) (h2 : a0 ≤ a1) (h3 : a1 ≤ 5) (h4 : a2 = a0 + a3) (h5 : a3 = 1) : ((0 : Int) ≤ a2) ∧ (a2 ≤ a1) ∧ (a1 ≤ 5) := by omega
theorem oz687 {a0 a1 : Int} (h0 : (0 : Int) ≤ a0) (h1 : a0 ≤ a1) (h2 : a1 ≤ 5) : ((0 : Int) ≤ a0) ∧ (a0 ≤ a1) ∧ (a1 ≤ 5) := by omega
theorem oz688 {a0 a1 a2 : Int} (h0 : (a0 - a1) = a2) : (a0 - a1) = a2 := by omega
theorem oz689 {a0 a1 : Int} (h0 : a0 ≠ a1) (h1 : a0 ≤ a1) : (a0 + 1) ≤ a1 := by omega
theorem oz690 {a0 a1 : Int} (h0 : a0 ≤ 256) (h1 : a1 = 1) : a0 - a1 ≤ 2147483647 := by omega
theorem oz691 {a0 a1 a2 a3 : Int} (h0 : a0 ≤ 256) (h1 : a1 = a0 - a2) (h2 : a3 ≤ a1) (h3 : a2 = 1) : a3 ≤ 255 := by omega
theorem oz692 {a0 a1 a2 a3 a4 : Int} (h0 : a0 ≤ 256) (h1 : a1 = a0 - a2) (h2 : a3 ≤ a4) (h3 : a4 ≤ a1) (h4 : a2 = 1) (h5 : a3 = 0) : ((0 : Int) ≤ a4) ∧ (a4 ≤ 255) := by omega
theorem oz693 {a0 a1 a2 a3 : Int} (h0 : a0 ≤ a1) (h1 : a0 = a2) (h2 : a1 = 5) (h3 : a3 = 0) : (a3 + a2) ≤ 5 := by omega
theorem oz694 {a0 a1 : Int} (h0 : a0 ≠ a1) (h1 : a1 ≤ a0) (h2 : a1 = (-1)) : (0 : Int) ≤ a0 := by omega
theorem oz695 {a0 a1 a2 a3 a4 : Int} (h0 : a0 ≤ a1) (h1 : a2 < a3) (h2 : a0 = a4) (h3 : a3 = a4) (h4 : a1 = 5) : a2 < 5 := by omega
theorem oz696 {a0 a1 a2 : Int} (h0 : a0 ≤ a1) (h1 : a1 ≤ a2) (h2 : a0 = 1) (h3 : a2 = 5) : ((0 : Int) ≤ a0) ∧ (a0 ≤ a1) ∧ (a1 ≤ 5) := by omega
theorem oz697 {a0 a1 a2 : Int} (h0 : a0 ≤ 8) (h1 : a1 = (a2 / 10)) (h2 : (0 : Int) ≤ a2) (h3 : (a2 / 10) < a0) (h4 : (a2 % 10) < a0) (h5 : (a2 / 10) ≠ (a2 % 10)) : ((0 : Int) ≤ a1) ∧ (a1 ≤ 7) := by omega
theorem oz698 {a0 a1 a2 : Int} (h0 : a0 ≤ 8) (h1 : a1 = (a2 % 10)) (h2 : (a2 % 10) < a0) : ((0 : Int) ≤ a1) ∧ (a1 ≤ 7) := by omega
theorem oz699 {a0 a1 a2 a3 : Int} (h0 : a0 ≤ a1) (h1 : a1 ≤ a2) (h2 : a0 = 1) (h3 : a2 = 5) (h4 : a3 = 0) : ((0 : Int) ≤ a3) ∧ (a3 ≤ a1) ∧ (a1 ≤ 5) := by omega
theorem oz700 {a0 a1 a2 : Int} (h0 : a0 ≤ a1) (h1 : a0 = 1) (h2 : a2 = 0) : (a2 + 1) ≤ a1 := by omega
theorem oz702 {a0 a1 : Int} (h0 : a0 < a1) (h1 : a1 ≤ 120) : a0 < 120 := by omega
theorem oz716 {a0 a1 a2 : Int} (h0 : ((a0 = 0) ∧ (a1 = 0)) ∨ ((a0 = 1) ∧ ((0 : Int) ≤ a1) ∧ (a1 ≤ 9)) ∨ ((a0 = 2) ∧ ((0 : Int) ≤ a1) ∧ (a1 ≤ 99)) ∨ ((a0 = 3) ∧ ((0 : Int) ≤ a1) ∧ (a1 ≤ 999)) ∨ ((a0 = 4) ∧ ((0 : Int) ≤ a1) ∧ (a1 ≤ 9999))) (h1 : a2 = 1) : (-2147483648 : Int) ≤ a0 + a2 := by omega
theorem oz717 {a0 a1 a2 : Int} (h0 : a0 < a1) (h1 : a1 = 4) (h2 : a2 = 1) : a0 + a2 ≤ 2147483647 := by omega
theorem oz719 {a0 a1 : Int} (h0 : a0 = a1) : a0 = a1 := by omega
theorem oz720 {a0 a1 a2 a3 a4 a5 : Int} (h0 : (a0 + a1) ≤ a2) (h1 : a3 = a2 + a4) (h2 : a5 = a1 + a4) (h3 : a4 = 1) : (a0 + a5) ≤ a3 := by omega
theorem oz722 {a0 a1 a2 a3 a4 a5 : Int} (h0 : ((a0 = 0) ∧ (a1 = 0)) ∨ ((a0 = 1) ∧ ((0 : Int) ≤ a1) ∧ (a1 ≤ 9)) ∨ ((a0 = 2) ∧ ((0 : Int) ≤ a1) ∧ (a1 ≤ 99)) ∨ ((a0 = 3) ∧ ((0 : Int) ≤ a1) ∧ (a1 ≤ 999)) ∨ ((a0 = 4) ∧ ((0 : Int) ≤ a1) ∧ (a1 ≤ 9999))) (h1 : a2 = a0 + a3) (h2 : a3 = 1) : ((1 : Int) ≤ a2) ∨ (a4 = a5) := by omega
theorem oz723 {a0 a1 a2 : Int} (h0 : a0 = a1 + a2) (h1 : a2 = 1) : (4 - a0) < (4 - a1) := by omega
theorem oz724 {a0 a1 : Int} (h0 : a0 < a1) (h1 : a1 = 4) : (1 : Int) ≤ (4 - a0) := by omega
theorem oz726 {a0 : Int} (h0 : a0 = 0) : ((a0 = 0) ∧ (a0 = 0)) ∨ ((a0 = 1) ∧ ((0 : Int) ≤ a0) ∧ (a0 ≤ 9)) ∨ ((a0 = 2) ∧ ((0 : Int) ≤ a0) ∧ (a0 ≤ 99)) ∨ ((a0 = 3) ∧ ((0 : Int) ≤ a0) ∧ (a0 ≤ 999)) ∨ ((a0 = 4) ∧ ((0 : Int) ≤ a0) ∧ (a0 ≤ 9999)) := by omega
theorem oz727 {a0 a1 : Int} (h0 : a0 = 0) : (a1 + a0) ≤ a1 := by omega
theorem oz729 {a0 a1 : Int} (h0 : a0 = 0) : ((1 : Int) ≤ a0) ∨ (a1 = a1) := by omega
theorem oz730 {a0 a1 : Int} (h0 : a0 = 100) (h1 : a1 = 5) : (((-1) : Int) ≤ a1) ∧ (a1 ≤ 5) ∧ ((a1 = (-1)) ∨ ((100 : Int) ≤ a0)) := by omega
theorem oz731 {a0 a1 : Int} (h0 : a0 = (-1)) : (((-1) : Int) ≤ a0) ∧ (a0 ≤ 5) ∧ ((a0 = (-1)) ∨ ((100 : Int) ≤ a1)) := by omega
theorem oz732 {a0 a1 : Int} (h0 : a0 = 104) (h1 : a1 = 2) : (((-1) : Int) ≤ a1) ∧ (a1 ≤ 5) ∧ ((a1 = (-1)) ∨ ((100 : Int) ≤ a0)) := by omega
theorem oz733 {a0 a1 : Int} (h0 : a0 = 110) (h1 : a1 = 3) : (((-1) : Int) ≤ a1) ∧ (a1 ≤ 5) ∧ ((a1 = (-1)) ∨ ((100 : Int) ≤ a0)) := by omega
theorem oz734 {a0 a1 : Int} (h0 : a0 = 111) (h1 : a1 = 4) : (((-1) : Int) ≤ a1) ∧ (a1 ≤ 5) ∧ ((a1 = (-1)) ∨ ((100 : Int) ≤ a0)) := by omega
theorem oz735 {a0 a1 : Int} (h0 : a0 = 112) (h1 : a1 = 1) : (((-1) : Int) ≤ a1) ∧ (a1 ≤ 5) ∧ ((a1 = (-1)) ∨ ((100 : Int) ≤ a0)) := by omega
theorem oz736 {a0 a1 : Int} (h0 : a0 = 119) (h1 : a1 = 0) : (((-1) : Int) ≤ a1) ∧ (a1 ≤ 5) ∧ ((a1 = (-1)) ∨ ((100 : Int) ≤ a0)) := by omega
theorem oz737 {a0 : Int} (h0 : ¬ (a0 = 100)) (h1 : ¬ (a0 = 101)) (h2 : ¬ (a0 = 102)) (h3 : ¬ (a0 = 103)) (h4 : ¬ (a0 = 104)) (h5 : ¬ (a0 = 105)) (h6 : ¬ (a0 = 106)) (h7 : ¬ (a0 = 107)) (h8 : ¬ (a0 = 108)) (h9 : ¬ (a0 = 109)) (h10 : ¬ (a0 = 110)) (h11 : ¬ (a0 = 111)) (h12 : ¬ (a0 = 112)) (h13 : ¬ (a0 = 113)) (h14 : ¬ (a0 = 114)) (h15 : ¬ (a0 = 115)) (h16 : ¬ (a0 = 116)) (h17 : ¬ (a0 = 117)) (h18 : ¬ (a0 = 118)) (h19 : ¬ (a0 = 119)) : a0 < 100 ∨ 119 < a0 := by omega
theorem oz738 {a0 a1 : Int} (h0 : (-2147483648 : Int) ≤ a0) (h1 : a1 = 1) : (-2147483648 : Int) ≤ a0 + a1 := by omega
theorem oz739 {a0 a1 a2 : Int} (h0 : (0 : Int) ≤ a0) (h1 : (a1 + a0) = 6) (h2 : a2 = 1) : a1 + a2 ≤ 2147483647 := by omega
theorem oz742 {a0 : Int} (h0 : a0 = 33) : (0 : Int) ≤ a0 := by omega
theorem oz743 {a0 a1 a2 : Int} (h0 : a0 ≠ a1) (h1 : (0 : Int) ≤ a2) (h2 : (a0 + a2) = 6) (h3 : a1 = 6) : (1 : Int) ≤ a2 := by omega
theorem oz744 {a0 a1 a2 a3 a4 a5 : Int} (h0 : a0 = a1) (h1 : a2 = a3 + 1) (h2 : (a4 + a2) = 6) (h3 : a1 = a4 + a5) (h4 : a5 = 1) : (a0 + a3) = 6 := by omega
theorem oz746 {a0 a1 a2 : Int} (h0 : a0 ≤ 199) (h1 : a1 = a0 + a2) (h2 : a2 = 1) : a1 ≤ 200 := by omega
theorem oz747 {a0 : Int} (h0 : a0 ≤ 199) : a0 < 200 := by omega
theorem oz748 {a0 a1 a2 : Int} (h0 : a0 = a1 + a2) (h1 : a2 = 1) : a0 = (a1 + 1) := by omega
theorem oz751 {a0 a1 : Int} (h0 : a0 = (a1 + 1)) : a0 = a1 + 1 := by omega
theorem oz756 {a0 a1 a2 a3 a4 : Int} (h0 : (-2147483648 : Int) ≤ a0) (h1 : a1 = a2) (h2 : a2 = a0 + a3) (h3 : a4 = a1) (h4 : a3 = 1) : (-2147483648 : Int) ≤ a4 - a3 := by omega
theorem oz757 {a0 a1 a2 a3 a4 a5 : Int} (h0 : a0 = a1) (h1 : (0 : Int) ≤ a2) (h2 : (a3 + a2) = 6) (h3 : a1 = a3 + a4) (h4 : a5 = a0) (h5 : a4 = 1) : a5 - a4 ≤ 2147483647 := by omega
theorem oz759 {a0 : Int} (h0 : a0 = 45) : (0 : Int) ≤ a0 := by omega
theorem oz760 {a0 a1 a2 a3 a4 a5 a6 : Int} (h0 : a0 = a1) (h1 : a2 = a0) (h2 : a3 = a4 + 1) (h3 : (a5 + a3) = 6) (h4 : a1 = a5 + a6) (h5 : a6 = 1) : (a2 + a4) = 6 := by omega
theorem oz762 {a0 a1 a2 : Int} (h0 : a0 = a1) (h1 : a2 = a0) : a2 = a1 := by omega
theorem oz764 {a0 a1 a2 a3 a4 a5 a6 : Int} (h0 : (-2147483648 : Int) ≤ a0) (h1 : a1 = a2) (h2 : a3 = a1) (h3 : a4 = a5) (h4 : a2 = a0 + a6) (h5 : a5 = a3) (h6 : a6 = 1) : (-2147483648 : Int) ≤ a4 - a6 := by omega
theorem oz765 {a0 a1 a2 a3 a4 a5 a6 a7 : Int} (h0 : a0 = a1) (h1 : a2 = a0) (h2 : a3 = a4) (h3 : (0 : Int) ≤ a5) (h4 : (a6 + a5) = 6) (h5 : a1 = a6 + a7) (h6 : a4 = a2) (h7 : a7 = 1) : a3 - a7 ≤ 2147483647 := by omega
theorem oz767 {a0 a1 a2 a3 a4 a5 : Int} (h0 : (-2147483648 : Int) ≤ a0) (h1 : a1 = a2) (h2 : a3 = a1) (h3 : a2 = a0 + a4) (h4 : a5 = a3) (h5 : a4 = 1) : (-2147483648 : Int) ≤ a5 - a4 := by omega
theorem oz768 {a0 a1 a2 a3 a4 a5 a6 : Int} (h0 : a0 = a1) (h1 : a2 = a0) (h2 : (0 : Int) ≤ a3) (h3 : (a4 + a3) = 6) (h4 : a1 = a4 + a5) (h5 : a6 = a2) (h6 : a5 = 1) : a6 - a5 ≤ 2147483647 := by omega
theorem oz770 {a0 : Int} (h0 : a0 = 40) : (0 : Int) ≤ a0 := by omega
theorem oz771 {a0 a1 a2 a3 a4 a5 a6 a7 : Int} (h0 : a0 = a1) (h1 : a2 = a0) (h2 : a3 = a2) (h3 : a4 = a5 + 1) (h4 : (a6 + a4) = 6) (h5 : a1 = a6 + a7) (h6 : a7 = 1) : (a3 + a5) = 6 := by omega
theorem oz774 {a0 : Int} (h0 : a0 = 41) : (0 : Int) ≤ a0 := by omega
theorem oz775 {a0 a1 a2 a3 a4 a5 a6 a7 : Int} (h0 : (-2147483648 : Int) ≤ a0) (h1 : a1 = a2) (h2 : a3 = a1) (h3 : a4 = a3) (h4 : a5 = a6) (h5 : a2 = a0 + a7) (h6 : a6 = a4) (h7 : a7 = 1) : (-2147483648 : Int) ≤ a5 - a7 := by omega
theorem oz776 {a0 a1 a2 a3 a4 a5 a6 a7 a8 : Int} (h0 : a0 = a1) (h1 : a2 = a0) (h2 : a3 = a2) (h3 : a4 = a5) (h4 : (0 : Int) ≤ a6) (h5 : (a7 + a6) = 6) (h6 : a1 = a7 + a8) (h7 : a5 = a3) (h8 : a8 = 1) : a4 - a8 ≤ 2147483647 := by omega
theorem oz779 {a0 a1 a2 a3 a4 a5 a6 : Int} (h0 : (-2147483648 : Int) ≤ a0) (h1 : a1 = a2) (h2 : a3 = a1) (h3 : a4 = a3) (h4 : a2 = a0 + a5) (h5 : a6 = a4) (h6 : a5 = 1) : (-2147483648 : Int) ≤ a6 - a5 := by omega
theorem oz780 {a0 a1 a2 a3 a4 a5 a6 a7 : Int} (h0 : a0 = a1) (h1 : a2 = a0) (h2 : a3 = a2) (h3 : (0 : Int) ≤ a4) (h4 : (a5 + a4) = 6) (h5 : a1 = a5 + a6) (h6 : a7 = a3) (h7 : a6 = 1) : a7 - a6 ≤ 2147483647 := by omega
theorem oz782 {a0 a1 a2 a3 a4 a5 : Int} (h0 : (-2147483648 : Int) ≤ a0) (h1 : a1 = a2) (h2 : a3 = a1) (h3 : a4 = a3) (h4 : a2 = a0 + a5) (h5 : a5 = 1) : (-2147483648 : Int) ≤ a4 - a5 := by omega
theorem oz783 {a0 a1 a2 a3 a4 a5 a6 : Int} (h0 : a0 = a1) (h1 : a2 = a0) (h2 : a3 = a2) (h3 : (0 : Int) ≤ a4) (h4 : (a5 + a4) = 6) (h5 : a1 = a5 + a6) (h6 : a6 = 1) : a3 - a6 ≤ 2147483647 := by omega
theorem oz787 {a0 a1 : Int} (h0 : a0 ≤ 120) (h1 : (0 : Int) ≤ a1) (h2 : a1 ≤ a0) : ((0 : Int) ≤ a1) ∧ (a1 ≤ 199) := by omega
theorem oz790 {a0 a1 a2 a3 : Int} (h0 : a0 ≤ a1) (h1 : ((a1 = 0) ∧ (a2 = 0)) ∨ ((a1 = 1) ∧ ((0 : Int) ≤ a2) ∧ (a2 ≤ 9)) ∨ ((a1 = 2) ∧ ((0 : Int) ≤ a2) ∧ (a2 ≤ 99)) ∨ ((a1 = 3) ∧ ((0 : Int) ≤ a2) ∧ (a2 ≤ 999)) ∨ ((a1 = 4) ∧ ((0 : Int) ≤ a2) ∧ (a2 ≤ 9999))) (h2 : a0 = 4) (h3 : a3 = 18) : (-2147483648 : Int) ≤ a3 + a2 := by omega
theorem oz791 {a0 a1 a2 a3 : Int} (h0 : a0 ≤ a1) (h1 : ((a1 = 0) ∧ (a2 = 0)) ∨ ((a1 = 1) ∧ ((0 : Int) ≤ a2) ∧ (a2 ≤ 9)) ∨ ((a1 = 2) ∧ ((0 : Int) ≤ a2) ∧ (a2 ≤ 99)) ∨ ((a1 = 3) ∧ ((0 : Int) ≤ a2) ∧ (a2 ≤ 999)) ∨ ((a1 = 4) ∧ ((0 : Int) ≤ a2) ∧ (a2 ≤ 9999))) (h2 : a0 = 4) (h3 : a3 = 18) : a3 + a2 ≤ 2147483647 := by omega
theorem oz792 {a0 a1 a2 : Int} (h0 : a0 = a1) (h1 : (0 : Int) ≤ a0) (h2 : a2 ≤ 120) (h3 : a1 ≤ a2) : ((0 : Int) ≤ a0) ∧ (a0 ≤ 199) := by omega
theorem oz795 {a0 a1 a2 : Int} (h0 : a0 < a1) (h1 : ((a0 = 0) ∧ (a2 = 0)) ∨ ((a0 = 1) ∧ ((0 : Int) ≤ a2) ∧ (a2 ≤ 9)) ∨ ((a0 = 2) ∧ ((0 : Int) ≤ a2) ∧ (a2 ≤ 99)) ∨ ((a0 = 3) ∧ ((0 : Int) ≤ a2) ∧ (a2 ≤ 999)) ∨ ((a0 = 4) ∧ ((0 : Int) ≤ a2) ∧ (a2 ≤ 9999))) (h2 : a1 = 4) : (-2147483648 : Int) ≤ 10 * a2 := by omega
theorem oz796 {a0 a1 a2 : Int} (h0 : a0 < a1) (h1 : ((a0 = 0) ∧ (a2 = 0)) ∨ ((a0 = 1) ∧ ((0 : Int) ≤ a2) ∧ (a2 ≤ 9)) ∨ ((a0 = 2) ∧ ((0 : Int) ≤ a2) ∧ (a2 ≤ 99)) ∨ ((a0 = 3) ∧ ((0 : Int) ≤ a2) ∧ (a2 ≤ 999)) ∨ ((a0 = 4) ∧ ((0 : Int) ≤ a2) ∧ (a2 ≤ 9999))) (h2 : a1 = 4) : 10 * a2 ≤ 2147483647 := by omega
theorem oz802 {a0 a1 a2 a3 : Int} (h0 : a0 < a1) (h1 : ((a0 = 0) ∧ (a2 = 0)) ∨ ((a0 = 1) ∧ ((0 : Int) ≤ a2) ∧ (a2 ≤ 9)) ∨ ((a0 = 2) ∧ ((0 : Int) ≤ a2) ∧ (a2 ≤ 99)) ∨ ((a0 = 3) ∧ ((0 : Int) ≤ a2) ∧ (a2 ≤ 999)) ∨ ((a0 = 4) ∧ ((0 : Int) ≤ a2) ∧ (a2 ≤ 9999))) (h2 : a1 = 4) (h3 : a3 = 18) : (-2147483648 : Int) ≤ a3 + a2 := by omega
theorem oz803 {a0 a1 a2 a3 : Int} (h0 : a0 < a1) (h1 : ((a0 = 0) ∧ (a2 = 0)) ∨ ((a0 = 1) ∧ ((0 : Int) ≤ a2) ∧ (a2 ≤ 9)) ∨ ((a0 = 2) ∧ ((0 : Int) ≤ a2) ∧ (a2 ≤ 99)) ∨ ((a0 = 3) ∧ ((0 : Int) ≤ a2) ∧ (a2 ≤ 999)) ∨ ((a0 = 4) ∧ ((0 : Int) ≤ a2) ∧ (a2 ≤ 9999))) (h2 : a1 = 4) (h3 : a3 = 18) : a3 + a2 ≤ 2147483647 := by omega
theorem oz808 {a0 a1 : Int} (h0 : (a0 + a1) = 6) : (a0 + a1) = 6 := by omega
theorem oz811 {a0 a1 a2 a3 : Int} (h0 : a0 = a1) (h1 : (a2 + a3) = 6) (h2 : a1 = a2) : (a0 + a3) = 6 := by omega
theorem oz812 {a0 a1 a2 a3 a4 a5 : Int} (h0 : a0 ≤ a1) (h1 : (a2 - a3) ≤ (a0 - a1)) (h2 : a4 = a3 + a5) (h3 : a5 = 1) : a2 ≤ a4 := by omega
theorem oz814 {a0 a1 a2 a3 a4 a5 a6 a7 : Int} (h0 : a0 ≤ 120) (h1 : (0 : Int) ≤ a1) (h2 : a2 ≤ a3) (h3 : (a4 - a5) ≤ (a2 - a3)) (h4 : a6 = a5 + a7) (h5 : (a1 - a0) ≤ (a4 - a6)) (h6 : a7 = 1) : ((0 : Int) ≤ a1) ∧ (a1 ≤ 199) := by omega
theorem oz819 {a0 a1 a2 a3 : Int} (h0 : a0 = a1) (h1 : a2 = a3) (h2 : a3 ≤ a1) : a2 ≤ a0 := by omega
theorem oz833 {a0 a1 a2 a3 a4 : Int} (h0 : a0 = a1) (h1 : a2 ≤ a1) (h2 : a0 ≤ a3) (h3 : a4 = (a3 + 1)) : a2 ≤ a4 := by omega
theorem oz840 {a0 a1 a2 a3 : Int} (h0 : (a0 - a1) ≤ (a2 - a3)) : (a0 - a1) ≤ (a2 - a3) := by omega
theorem oz844 {a0 a1 a2 : Int} (h0 : (a0 + a1) = 6) (h1 : a2 = a0) : (a2 + a1) = 6 := by omega
theorem oz845 {a0 a1 a2 a3 : Int} (h0 : a0 = a1) (h1 : a2 = a3) (h2 : a1 = a2) : a0 = a3 := by omega
theorem oz847 {a0 a1 a2 a3 a4 a5 a6 a7 a8 a9 : Int} (h0 : a0 = a1) (h1 : (a2 - a3) ≤ (a4 - a5)) (h2 : a6 = a3 + a7) (h3 : (a8 - a1) ≤ (a2 - a6)) (h4 : a9 = (a8 + 1)) (h5 : a7 = 1) : (a9 - a0) ≤ (a4 - a5) := by omega
theorem oz848 {a0 a1 a2 a3 : Int} (h0 : a0 ≤ a1) (h1 : a1 ≤ a2) (h2 : a3 = (a2 + 1)) : a0 ≤ a3 := by omega
theorem oz862 {a0 a1 a2 a3 a4 a5 : Int} (h0 : a0 ≤ a1) (h1 : a2 = a3 + a4) (h2 : (a5 - a3) ≤ (a0 - a1)) (h3 : a4 = 1) : a5 ≤ a2 := by omega
theorem oz864 {a0 a1 a2 a3 a4 a5 a6 a7 : Int} (h0 : a0 ≤ 120) (h1 : (0 : Int) ≤ a1) (h2 : a2 ≤ a3) (h3 : a4 = a5 + a6) (h4 : (a1 - a0) ≤ (a7 - a4)) (h5 : (a7 - a5) ≤ (a2 - a3)) (h6 : a6 = 1) : ((0 : Int) ≤ a1) ∧ (a1 ≤ 199) := by omega
theorem oz871 {a0 a1 a2 a3 a4 a5 a6 a7 : Int} (h0 : a0 ≤ 120) (h1 : (0 : Int) ≤ a1) (h2 : a2 ≤ a3) (h3 : a4 = a5 + a6) (h4 : (a7 - a5) ≤ (a2 - a3)) (h5 : (a1 - a0) ≤ (a7 - a4)) (h6 : a6 = 1) : ((0 : Int) ≤ a1) ∧ (a1 ≤ 199) := by omega
theorem oz879 {a0 : Int} (h0 : a0 = 38) : (0 : Int) ≤ a0 := by omega
theorem oz894 {a0 a1 a2 a3 a4 : Int} (h0 : a0 = a1) (h1 : a2 = a3) (h2 : a3 = a4) (h3 : a1 = a2) : a0 = a4 := by omega
theorem oz901 {a0 : Int} (h0 : a0 = 124) : (0 : Int) ≤ a0 := by omega
set_option maxRecDepth 100000 in
theorem kc216_116 {i : Nat → Int32} {a : Nat → List Int32} {q : Nat → List Int64} {r : Nat → Nat} (hI : kI i a q) (hr : kr r) (x1 : Int32) : km 3 216 [.ref 116, .int x1] (ks i a q r) (kPI (ks i a q r) (fun v => True)) := by
  have hG := kG_self kW0 hI hr
  refine km_ofPI (q := (mi_h216, mi_c216)) rfl (by decide) (Nat.le_of_ble_eq_true rfl) ?_
  intro P hP
  have fi_7457 : ((0 : Int) ≤ (i 7457).toInt) ∧ ((i 7457).toInt ≤ 1000) := hG.I.1 7457
  refine ft_go mi_k216 5 8 [(0, .ref 116), (1, .int x1)] [.int (i 7457), .int 24, .int 0, .int x1] i a q r (by rfl) ?_
  have m2 : (((bif decide ((i 7457) < 24) then (i 7457) else 24).toInt ≤ (24 : Int32).toInt) ∧ ((bif decide ((i 7457) < 24) then (i 7457) else 24).toInt ≤ (i 7457).toInt)) ∧ ((bif decide ((i 7457) < 24) then (i 7457) else 24).toInt = (24 : Int32).toInt ∨ (bif decide ((i 7457) < 24) then (i 7457) else 24).toInt = (i 7457).toInt) := kd_min
  refine ft_go mi_k216 1 11 [(0, .ref 116), (1, .int x1)] [.int (bif decide ((i 7457) < 24) then (i 7457) else 24), .int 0, .int x1] i a q r (by rfl) ?_
  generalize (bif decide ((i 7457) < 24) then (i 7457) else 24) = m1 at m2 ⊢
  have s3 : (m1 - 1).toInt = m1.toInt - (1 : Int32).toInt := kd_sub (oz580 fi_7457.1 m2.2 kn24 kn1) (oz581 m2.1.1 kn24 kn1)
  refine ft_go mi_k216 2 13 [(0, .ref 116), (1, .int x1)] [.int (m1 - 1), .int 0, .int x1] i a q r (by rfl) ?_
  refine ko_callPI mi_k216.1 (pc := 13) (ls := [(0, .ref 116), (1, .int x1)]) (st := [.int (m1 - 1), .int 0, .int x1]) (h := ks i a q r) (i := (.invokestatic 119, 3, 131, 0, 9, 0, 379)) (mi_k216.2 _ _ (by rfl)) (ft_invS mi_pq131 (by rfl)) (cy := mi_c131) mi_pq131 rfl (kc131 hG.I hG.R x1 0 (m1 - 1)) (by decide) ?_
  intro vg4 hg4
  rcases hg4 with ⟨eg4, hg4⟩ | ⟨eg4, hg4⟩
  ·
    subst eg4
    have z5 : ((0 : Int32).toInt ≤ x1.toInt) ∧ (x1.toInt ≤ (m1 - 1).toInt) := hg4
    refine ft_go mi_k216 4 24 [(0, .ref 116), (1, .int x1)] [.int x1, .ref 135] i a q r (by rfl) ?_
    refine ko_iald3 mi_k216.1 (n := 24) (c := 24) (ax := (0, 0, 0, 0, 0)) (mi_k216.2 _ _ (by rfl)) (by rfl) (ksG135 _ _ _ _) (hG.I.2.1 135) rfl (oz389 z5.1 kn0) (oz582 m2.1.1 s3 z5.2 kn24 kn1) ?_
    refine ft_go mi_k216 1 29 [(0, .ref 116), (1, .int x1)] [.int ((a 135).getD x1.toNatClampNeg 0)] i a q r (by rfl) ?_
    exact ft_ret mi_k216 (by rfl) (hP ((a 135).getD x1.toNatClampNeg 0) trivial)
  ·
    subst eg4
    refine ft_go mi_k216 2 29 [(0, .ref 116), (1, .int x1)] [.int (-1)] i a q r (by rfl) ?_
    exact ft_ret mi_k216 (by rfl) (hP (-1) trivial)
set_option maxRecDepth 100000 in
theorem kc219_116 {i : Nat → Int32} {a : Nat → List Int32} {q : Nat → List Int64} {r : Nat → Nat} (hI : kI i a q) (hr : kr r) (x1 : Int32) (hp0 : ((0 : Int) ≤ x1.toInt) ∧ (x1.toInt ≤ 5)) : km 3 219 [.ref 116, .int x1] (ks i a q r) (kPI (ks i a q r) (fun v => (v = 1 ∧ (((0 : Int) ≤ ((a 136).getD x1.toNatClampNeg 0).toInt) ∧ (((a 136).getD x1.toNatClampNeg 0).toInt ≤ 4))) ∨ (v = 0 ∧ (¬ (((0 : Int) ≤ ((a 136).getD x1.toNatClampNeg 0).toInt) ∧ (((a 136).getD x1.toNatClampNeg 0).toInt ≤ 4)))))) := by
  have hG := kG_self kW0 hI hr
  refine km_ofPI (q := (mi_h219, mi_c219)) rfl (by decide) (Nat.le_of_ble_eq_true rfl) ?_
  intro P hP
  refine ft_go mi_k219 3 5 [(0, .ref 116), (1, .int x1)] [.int x1, .ref 136] i a q r (by rfl) ?_
  refine ko_iald3 mi_k219.1 (n := 6) (c := 6) (ax := (0, 0, 0, 0, 0)) (mi_k219.2 _ _ (by rfl)) (by rfl) (ksG136 _ _ _ _) (hG.I.2.1 136) rfl (oz3 hp0.1) (oz19 hp0.2) ?_
  have r1 : ((-1 : Int) ≤ ((a 136).getD x1.toNatClampNeg 0).toInt) ∧ (((a 136).getD x1.toNatClampNeg 0).toInt ≤ 59) := hG.I.2.2.1 136 (x1.toNatClampNeg)
  refine ft_go mi_k219 2 8 [(0, .ref 116), (1, .int x1)] [.int 4, .int 0, .int ((a 136).getD x1.toNatClampNeg 0)] i a q r (by rfl) ?_
  refine ko_callPI mi_k219.1 (pc := 8) (ls := [(0, .ref 116), (1, .int x1)]) (st := [.int 4, .int 0, .int ((a 136).getD x1.toNatClampNeg 0)]) (h := ks i a q r) (i := (.invokestatic 119, 3, 131, 0, 9, 0, 379)) (mi_k219.2 _ _ (by rfl)) (ft_invS mi_pq131 (by rfl)) (cy := mi_c131) mi_pq131 rfl (kc131 hG.I hG.R ((a 136).getD x1.toNatClampNeg 0) 0 4) (by decide) ?_
  intro vg2 hg2
  rcases hg2 with ⟨eg2, hg2⟩ | ⟨eg2, hg2⟩
  ·
    subst eg2
    have z3 : ((0 : Int32).toInt ≤ ((a 136).getD x1.toNatClampNeg 0).toInt) ∧ (((a 136).getD x1.toNatClampNeg 0).toInt ≤ (4 : Int32).toInt) := hg2
    exact ft_ret mi_k219 (by rfl) (hP 1 (Or.inl ⟨rfl, (oz600 z3.1 z3.2 kn0 kn4)⟩))
  ·
    subst eg2
    have z4 : ¬ (((0 : Int32).toInt ≤ ((a 136).getD x1.toNatClampNeg 0).toInt) ∧ (((a 136).getD x1.toNatClampNeg 0).toInt ≤ (4 : Int32).toInt)) := hg2
    exact ft_ret mi_k219 (by rfl) (hP 0 (Or.inr ⟨rfl, (oz601 z4 kn0 kn4)⟩))
set_option maxRecDepth 100000 in
theorem kc222_116 {i : Nat → Int32} {a : Nat → List Int32} {q : Nat → List Int64} {r : Nat → Nat} (hI : kI i a q) (hr : kr r) (x1 : Int32) (x2 : Int32) : km 5 222 [.ref 116, .int x1, .int x2] (ks i a q r) (kPL (ks i a q r) (fun v => True)) := by
  have hG := kG_self kW0 hI hr
  refine km_ofPL (q := (mi_h222, mi_c222)) rfl (by decide) (Nat.le_of_ble_eq_true rfl) ?_
  intro P hP
  refine ft_go mi_k222 1 1 [(0, .ref 116), (1, .int x1), (2, .int x2)] [.int x1] i a q r (by rfl) ?_
  refine ko_callPI mi_k222.1 (pc := 1) (ls := [(0, .ref 116), (1, .int x1), (2, .int x2)]) (st := [.int x1]) (h := ks i a q r) (i := (.invokestatic 127, 3, 133, 0, 9, 0, 382)) (mi_k222.2 _ _ (by rfl)) (ft_invS mi_pq133 (by rfl)) (cy := mi_c133) mi_pq133 rfl (kc133 hG.I hG.R x1) (by decide) ?_
  intro vg1 hg1
  rcases hg1 with ⟨eg1, hg1⟩ | ⟨eg1, hg1⟩
  ·
    subst eg1
    have z2 : ((0 : Int) ≤ x1.toInt) ∧ (x1.toInt ≤ 5) := hg1
    refine ft_go mi_k222 3 9 [(0, .ref 116), (1, .int x1), (2, .int x2)] [.int x1, .ref 116] i a q r (by rfl) ?_
    refine ko_callPI mi_k222.1 (pc := 9) (ls := [(0, .ref 116), (1, .int x1), (2, .int x2)]) (st := [.int x1, .ref 116]) (h := ks i a q r) (i := (.invokevirtual 372, 3, 219, 0, 9, 0, 473)) (mi_k222.2 _ _ (by rfl)) (ft_invS mi_pq219 (by rfl)) (cy := mi_c219) mi_pq219 rfl (kc219_116 hG.I hG.R x1 (oz35 z2.1 z2.2)) (by decide) ?_
    intro vg3 hg3
    rcases hg3 with ⟨eg3, hg3⟩ | ⟨eg3, hg3⟩
    ·
      subst eg3
      have r4 : ((-1 : Int) ≤ ((a 136).getD x1.toNatClampNeg 0).toInt) ∧ (((a 136).getD x1.toNatClampNeg 0).toInt ≤ 59) := hG.I.2.2.1 136 (x1.toNatClampNeg)
      refine ft_go mi_k222 6 22 [(0, .ref 116), (1, .int x1), (2, .int x2)] [.int x1, .ref 137, .int 0, .int x2] i a q r (by rfl) ?_
      refine ko_iald3 mi_k222.1 (n := 6) (c := 6) (ax := (0, 0, 0, 0, 0)) (mi_k222.2 _ _ (by rfl)) (by rfl) (ksG137 _ _ _ _) (hG.I.2.1 137) rfl (oz3 z2.1) (oz19 z2.2) ?_
      have r6 : ((0 : Int) ≤ ((a 137).getD x1.toNatClampNeg 0).toInt) ∧ (((a 137).getD x1.toNatClampNeg 0).toInt ≤ 60) := hG.I.2.2.1 137 (x1.toNatClampNeg)
      have s7 : (((a 137).getD x1.toNatClampNeg 0) - 1).toInt = ((a 137).getD x1.toNatClampNeg 0).toInt - (1 : Int32).toInt := kd_sub (oz47 r6.1 kn1) (oz602 r6.2 kn1)
      refine ft_go mi_k222 2 25 [(0, .ref 116), (1, .int x1), (2, .int x2)] [.int (((a 137).getD x1.toNatClampNeg 0) - 1), .int 0, .int x2] i a q r (by rfl) ?_
      refine ko_callPI mi_k222.1 (pc := 25) (ls := [(0, .ref 116), (1, .int x1), (2, .int x2)]) (st := [.int (((a 137).getD x1.toNatClampNeg 0) - 1), .int 0, .int x2]) (h := ks i a q r) (i := (.invokestatic 119, 3, 131, 0, 9, 0, 379)) (mi_k222.2 _ _ (by rfl)) (ft_invS mi_pq131 (by rfl)) (cy := mi_c131) mi_pq131 rfl (kc131 hG.I hG.R x2 0 (((a 137).getD x1.toNatClampNeg 0) - 1)) (by decide) ?_
      intro vg8 hg8
      rcases hg8 with ⟨eg8, hg8⟩ | ⟨eg8, hg8⟩
      ·
        subst eg8
        have z9 : ((0 : Int32).toInt ≤ x2.toInt) ∧ (x2.toInt ≤ (((a 137).getD x1.toNatClampNeg 0) - 1).toInt) := hg8
        have s10 : (60 * x1).toInt = 60 * x1.toInt := kd_cmul 60 kn60 (oz28 z2.1) (oz29 z2.2)
        have s11 : ((60 * x1) + x2).toInt = (60 * x1).toInt + x2.toInt := kd_add (oz608 s10 z2.1 z9.1 kn0) (oz609 r6.2 s10 s7 z2.2 z9.2 kn1)
        refine ft_go mi_k222 8 41 [(0, .ref 116), (1, .int x1), (2, .int x2)] [.int ((60 * x1) + x2), .ref 138] i a q r (by rfl) ?_
        refine ko_lald2 mi_k222.1 (l := q 138) (n := 360) (c := 360) (ax := (0, 0, 0, 0, 0)) (mi_k222.2 _ _ (by rfl)) (by rfl) (by rfl) (hG.I.2.2.2 138) rfl (oz610 s10 s11 z2.1 z9.1 kn0) (oz611 r6.2 s10 s11 s7 z2.2 z9.2 kn1) ?_
        refine ft_go mi_k222 1 48 [(0, .ref 116), (1, .int x1), (2, .int x2)] [.long ((q 138).getD ((60 * x1) + x2).toNatClampNeg 0)] i a q r (by rfl) ?_
        exact ft_ret mi_k222 (by rfl) (hP ((q 138).getD ((60 * x1) + x2).toNatClampNeg 0) trivial)
      ·
        subst eg8
        refine ft_go mi_k222 2 48 [(0, .ref 116), (1, .int x1), (2, .int x2)] [.long (-9223372036854775808)] i a q r (by rfl) ?_
        exact ft_ret mi_k222 (by rfl) (hP (-9223372036854775808) trivial)
    ·
      subst eg3
      have r13 : ((-1 : Int) ≤ ((a 136).getD x1.toNatClampNeg 0).toInt) ∧ (((a 136).getD x1.toNatClampNeg 0).toInt ≤ 59) := hG.I.2.2.1 136 (x1.toNatClampNeg)
      refine ft_go mi_k222 2 48 [(0, .ref 116), (1, .int x1), (2, .int x2)] [.long (-9223372036854775808)] i a q r (by rfl) ?_
      exact ft_ret mi_k222 (by rfl) (hP (-9223372036854775808) trivial)
  ·
    subst eg1
    refine ft_go mi_k222 2 48 [(0, .ref 116), (1, .int x1), (2, .int x2)] [.long (-9223372036854775808)] i a q r (by rfl) ?_
    exact ft_ret mi_k222 (by rfl) (hP (-9223372036854775808) trivial)
set_option maxRecDepth 100000 in
theorem kc208 {i : Nat → Int32} {a : Nat → List Int32} {q : Nat → List Int64} {r : Nat → Nat} (hI : kI i a q) (hr : kr r) (x1 : Int32) : km 1 208 [.int x1] (ks i a q r) (kPI (ks i a q r) (fun v => ((0 : Int) ≤ v.toInt) ∧ (v.toInt ≤ 4) ∧ ((v.toInt < x1.toInt) ∨ (x1.toInt ≤ 0)))) := by
  have hG := kG_self kW0 hI hr
  refine km_ofPI (q := (mi_h208, mi_c208)) rfl (by decide) (Nat.le_of_ble_eq_true rfl) ?_
  intro P hP
  refine ft_go mi_k208 1 1 [(0, .int x1)] [.int x1] i a q r (by rfl) ?_
  by_cases w1 : x1.toInt = 3
  ·
    refine ft_swx mi_k208 (pc := 1) (v := 3) (t := 36) (kj_eq w1 (by decide) : x1 = 3) (by decide +kernel) ?_
    refine ft_go mi_k208 1 37 [(0, .int x1)] [.int 2] i a q r (by rfl) ?_
    exact ft_ret mi_k208 (by rfl) (hP 2 (oz650 w1 kn2))
  by_cases w2 : x1.toInt = 4
  ·
    refine ft_swx mi_k208 (pc := 1) (v := 4) (t := 38) (kj_eq w2 (by decide) : x1 = 4) (by decide +kernel) ?_
    refine ft_go mi_k208 1 39 [(0, .int x1)] [.int 1] i a q r (by rfl) ?_
    exact ft_ret mi_k208 (by rfl) (hP 1 (oz651 w2 kn1))
  by_cases w3 : x1.toInt = 5
  ·
    refine ft_swx mi_k208 (pc := 1) (v := 5) (t := 40) (kj_eq w3 (by decide) : x1 = 5) (by decide +kernel) ?_
    refine ft_go mi_k208 1 41 [(0, .int x1)] [.int 3] i a q r (by rfl) ?_
    exact ft_ret mi_k208 (by rfl) (hP 3 (oz652 w3 kn3))
  by_cases w4 : x1.toInt = 6
  ·
    refine ft_swx mi_k208 (pc := 1) (v := 6) (t := 44) (kj_eq w4 (by decide) : x1 = 6) (by decide +kernel) ?_
    refine ft_go mi_k208 1 45 [(0, .int x1)] [.int 0] i a q r (by rfl) ?_
    exact ft_ret mi_k208 (by rfl) (hP 0 (oz653 w4 kn0))
  by_cases w5 : x1.toInt = 7
  ·
    refine ft_swx mi_k208 (pc := 1) (v := 7) (t := 42) (kj_eq w5 (by decide) : x1 = 7) (by decide +kernel) ?_
    refine ft_go mi_k208 1 43 [(0, .int x1)] [.int 4] i a q r (by rfl) ?_
    exact ft_ret mi_k208 (by rfl) (hP 4 (oz654 w5 kn4))
  refine ko_sw (ls := [(0, .int x1)]) (r := []) (h := ks i a q r) mi_in208 (v := x1) (i := (.tableswitch 43 3 7 #[35, 37, 39, 43, 41], 35, 0, 0, 0, 0, 0)) (by rfl) rfl (oz655 w1 w2 w3 w4 w5) 44 (by rfl) ?_
  refine ft_go mi_k208 1 45 [(0, .int x1)] [.int 0] i a q r (by rfl) ?_
  exact ft_ret mi_k208 (by rfl) (hP 0 (oz656 kn0))
set_option maxRecDepth 100000 in
theorem kc224_116 {i : Nat → Int32} {a : Nat → List Int32} {q : Nat → List Int64} {r : Nat → Nat} (hI : kI i a q) (hr : kr r) (x1 : Int32) (x2 : Int32) (hE_hold : kHold i a) : km 5 224 [.ref 116, .int x1, .int x2] (ks i a q r) (kPI (ks i a q r) (fun v => True)) := by
  have hG := kG_self kW0 hI hr
  refine km_ofPI (q := (mi_h224, mi_c224)) rfl (by decide) (Nat.le_of_ble_eq_true rfl) ?_
  intro P hP
  refine ft_go mi_k224 1 1 [(0, .ref 116), (1, .int x1), (2, .int x2)] [.int x1] i a q r (by rfl) ?_
  refine ko_callPI mi_k224.1 (pc := 1) (ls := [(0, .ref 116), (1, .int x1), (2, .int x2)]) (st := [.int x1]) (h := ks i a q r) (i := (.invokestatic 127, 3, 133, 0, 9, 0, 382)) (mi_k224.2 _ _ (by rfl)) (ft_invS mi_pq133 (by rfl)) (cy := mi_c133) mi_pq133 rfl (kc133 hG.I hG.R x1) (by decide) ?_
  intro vg1 hg1
  rcases hg1 with ⟨eg1, hg1⟩ | ⟨eg1, hg1⟩
  ·
    subst eg1
    have z2 : ((0 : Int) ≤ x1.toInt) ∧ (x1.toInt ≤ 5) := hg1
    refine ft_go mi_k224 4 11 [(0, .ref 116), (1, .int x1), (2, .int x2)] [.int 7, .int 0, .int x2] i a q r (by rfl) ?_
    refine ko_callPI mi_k224.1 (pc := 11) (ls := [(0, .ref 116), (1, .int x1), (2, .int x2)]) (st := [.int 7, .int 0, .int x2]) (h := ks i a q r) (i := (.invokestatic 119, 3, 131, 0, 9, 0, 379)) (mi_k224.2 _ _ (by rfl)) (ft_invS mi_pq131 (by rfl)) (cy := mi_c131) mi_pq131 rfl (kc131 hG.I hG.R x2 0 7) (by decide) ?_
    intro vg3 hg3
    rcases hg3 with ⟨eg3, hg3⟩ | ⟨eg3, hg3⟩
    ·
      subst eg3
      have z4 : ((0 : Int32).toInt ≤ x2.toInt) ∧ (x2.toInt ≤ (7 : Int32).toInt) := hg3
      refine ft_go mi_k224 4 24 [(0, .ref 116), (1, .int x1), (2, .int x2)] [.int x1, .ref 136] i a q r (by rfl) ?_
      refine ko_iald3 mi_k224.1 (n := 6) (c := 6) (ax := (0, 0, 0, 0, 0)) (mi_k224.2 _ _ (by rfl)) (by rfl) (ksG136 _ _ _ _) (hG.I.2.1 136) rfl (oz3 z2.1) (oz19 z2.2) ?_
      have r5 : ((-1 : Int) ≤ ((a 136).getD x1.toNatClampNeg 0).toInt) ∧ (((a 136).getD x1.toNatClampNeg 0).toInt ≤ 59) := hG.I.2.2.1 136 (x1.toNatClampNeg)
      have r6 : ((a 136).getD x1.toNatClampNeg 0).toInt ≤ 4 ∨ 10 ≤ ((a 136).getD x1.toNatClampNeg 0).toInt := (kHold_of (i1 := i) hE_hold (hG.fa 136 rfl)) (x1.toNatClampNeg)
      refine ft_go mi_k224 1 26 [(0, .ref 116), (1, .int x1), (2, .int x2)] [.int (-1), .int ((a 136).getD x1.toNatClampNeg 0)] i a q r (by rfl) ?_
      refine ft_if mi_k224 (((a 136).getD x1.toNatClampNeg 0) != (-1)) 32 29 [(0, .ref 116), (1, .int x1), (2, .int x2)] [] (by rfl) (fun c => ?_) (fun c => ?_)
      ·
        have c7 : ((a 136).getD x1.toNatClampNeg 0).toInt ≠ ((-1) : Int32).toInt := kd_ne c; clear c
        refine ft_go mi_k224 2 34 [(0, .ref 116), (1, .int x1), (2, .int x2)] [.int x1, .ref 116] i a q r (by rfl) ?_
        refine ko_callPI mi_k224.1 (pc := 34) (ls := [(0, .ref 116), (1, .int x1), (2, .int x2)]) (st := [.int x1, .ref 116]) (h := ks i a q r) (i := (.invokevirtual 372, 3, 219, 0, 9, 0, 473)) (mi_k224.2 _ _ (by rfl)) (ft_invS mi_pq219 (by rfl)) (cy := mi_c219) mi_pq219 rfl (kc219_116 hG.I hG.R x1 (oz35 z2.1 z2.2)) (by decide) ?_
        intro vg8 hg8
        rcases hg8 with ⟨eg8, hg8⟩ | ⟨eg8, hg8⟩
        ·
          subst eg8
          refine ft_go mi_k224 2 42 [(0, .ref 116), (1, .int x1), (2, .int x2)] [.int (-12)] i a q r (by rfl) ?_
          exact ft_ret mi_k224 (by rfl) (hP (-12) trivial)
        ·
          subst eg8
          have z10 : ¬ (((0 : Int) ≤ ((a 136).getD x1.toNatClampNeg 0).toInt) ∧ (((a 136).getD x1.toNatClampNeg 0).toInt ≤ 4)) := hg8
          refine ft_go mi_k224 6 52 [(0, .ref 116), (1, .int x1), (2, .int x2)] [.int x1, .ref 136, .ref 134] i a q r (by rfl) ?_
          refine ko_iald3 mi_k224.1 (n := 6) (c := 6) (ax := (0, 0, 0, 0, 0)) (mi_k224.2 _ _ (by rfl)) (by rfl) (ksG136 _ _ _ _) (hG.I.2.1 136) rfl (oz3 z2.1) (oz19 z2.2) ?_
          have s11 : (((a 136).getD x1.toNatClampNeg 0) - 10).toInt = ((a 136).getD x1.toNatClampNeg 0).toInt - (10 : Int32).toInt := kd_sub (oz644 r5.1 kn10) (oz645 r5.2 kn10)
          refine ft_go mi_k224 2 56 [(0, .ref 116), (1, .int x1), (2, .int x2)] [.int (((a 136).getD x1.toNatClampNeg 0) - 10), .ref 134] i a q r (by rfl) ?_
          refine ko_iald3 mi_k224.1 (n := 50) (c := 50) (ax := (0, 0, 0, 0, 0)) (mi_k224.2 _ _ (by rfl)) (by rfl) (ksG134 _ _ _ _) (hG.I.2.1 134) rfl (oz646 c7 r5.1 r6 s11 z10 knm1 kn10) (oz647 r5.2 s11 kn10) ?_
          have r12 : ((0 : Int) ≤ ((a 134).getD (((a 136).getD x1.toNatClampNeg 0) - 10).toNatClampNeg 0).toInt) ∧ (((a 134).getD (((a 136).getD x1.toNatClampNeg 0) - 10).toNatClampNeg 0).toInt ≤ 7) := hG.I.2.2.1 134 ((((a 136).getD x1.toNatClampNeg 0) - 10).toNatClampNeg)
          refine ft_go mi_k224 3 61 [(4, .int ((a 134).getD (((a 136).getD x1.toNatClampNeg 0) - 10).toNatClampNeg 0)), (3, .int ((a 134).getD (((a 136).getD x1.toNatClampNeg 0) - 10).toNatClampNeg 0)), (0, .ref 116), (1, .int x1), (2, .int x2)] [] i a q r (by rfl) ?_
          have lp13 : ∀ (nz : Nat) (l4_13 : Int32), ((0 : Int) ≤ l4_13.toInt) ∧ (l4_13.toInt ≤ 7) → (l4_13.toInt).toNat < nz → ko 5 (mi_h224, mi_c224) P (61, [(4, .int l4_13), (3, .int ((a 134).getD (((a 136).getD x1.toNatClampNeg 0) - 10).toNatClampNeg 0)), (0, .ref 116), (1, .int x1), (2, .int x2)], [], (0, 0), ks i a q r) := by
            intro nz
            induction nz with
            | zero =>
              intro _ _ hm
              exact absurd hm (Nat.not_lt_zero _)
            | succ nz ih13 =>
              intro l4_13 p13_0 hm13
              refine ft_go mi_k224 2 64 [(4, .int l4_13), (3, .int ((a 134).getD (((a 136).getD x1.toNatClampNeg 0) - 10).toNatClampNeg 0)), (0, .ref 116), (1, .int x1), (2, .int x2)] [.int x2, .int l4_13] i a q r (by rfl) ?_
              refine ft_if mi_k224 (l4_13 == x2) 82 67 [(4, .int l4_13), (3, .int ((a 134).getD (((a 136).getD x1.toNatClampNeg 0) - 10).toNatClampNeg 0)), (0, .ref 116), (1, .int x1), (2, .int x2)] [] (by rfl) (fun c => ?_) (fun c => ?_)
              ·
                have c14 : l4_13.toInt = x2.toInt := kd_eq c; clear c
                refine ft_go mi_k224 2 85 [(4, .int l4_13), (3, .int ((a 134).getD (((a 136).getD x1.toNatClampNeg 0) - 10).toNatClampNeg 0)), (0, .ref 116), (1, .int x1), (2, .int x2)] [.int x2, .int l4_13] i a q r (by rfl) ?_
                refine ft_if mi_k224 (l4_13 != x2) 92 88 [(4, .int l4_13), (3, .int ((a 134).getD (((a 136).getD x1.toNatClampNeg 0) - 10).toNatClampNeg 0)), (0, .ref 116), (1, .int x1), (2, .int x2)] [] (by rfl) (fun c => ?_) (fun c => ?_)
                ·
                  have c15 : l4_13.toInt ≠ x2.toInt := kd_ne c; clear c
                  exact (oz648 c14 c15).elim
                ·
                  have c16 : l4_13.toInt = x2.toInt := kd_neF c; clear c
                  refine ft_go mi_k224 2 94 [(4, .int l4_13), (3, .int ((a 134).getD (((a 136).getD x1.toNatClampNeg 0) - 10).toNatClampNeg 0)), (0, .ref 116), (1, .int x1), (2, .int x2)] [.int ((a 134).getD (((a 136).getD x1.toNatClampNeg 0) - 10).toNatClampNeg 0)] i a q r (by rfl) ?_
                  exact ft_ret mi_k224 (by rfl) (hP ((a 134).getD (((a 136).getD x1.toNatClampNeg 0) - 10).toNatClampNeg 0) trivial)
              ·
                have c17 : l4_13.toInt ≠ x2.toInt := kd_eqF c; clear c
                refine ft_go mi_k224 1 69 [(4, .int l4_13), (3, .int ((a 134).getD (((a 136).getD x1.toNatClampNeg 0) - 10).toNatClampNeg 0)), (0, .ref 116), (1, .int x1), (2, .int x2)] [.int l4_13] i a q r (by rfl) ?_
                refine ft_if mi_k224 (decide (l4_13 ≤ 0)) 82 72 [(4, .int l4_13), (3, .int ((a 134).getD (((a 136).getD x1.toNatClampNeg 0) - 10).toNatClampNeg 0)), (0, .ref 116), (1, .int x1), (2, .int x2)] [] (by rfl) (fun c => ?_) (fun c => ?_)
                ·
                  have c18 : l4_13.toInt ≤ (0 : Int32).toInt := kd_le c; clear c
                  refine ft_go mi_k224 2 85 [(4, .int l4_13), (3, .int ((a 134).getD (((a 136).getD x1.toNatClampNeg 0) - 10).toNatClampNeg 0)), (0, .ref 116), (1, .int x1), (2, .int x2)] [.int x2, .int l4_13] i a q r (by rfl) ?_
                  refine ft_if mi_k224 (l4_13 != x2) 92 88 [(4, .int l4_13), (3, .int ((a 134).getD (((a 136).getD x1.toNatClampNeg 0) - 10).toNatClampNeg 0)), (0, .ref 116), (1, .int x1), (2, .int x2)] [] (by rfl) (fun c => ?_) (fun c => ?_)
                  ·
                    have c19 : l4_13.toInt ≠ x2.toInt := kd_ne c; clear c
                    refine ft_go mi_k224 1 94 [(4, .int l4_13), (3, .int ((a 134).getD (((a 136).getD x1.toNatClampNeg 0) - 10).toNatClampNeg 0)), (0, .ref 116), (1, .int x1), (2, .int x2)] [.int (-12)] i a q r (by rfl) ?_
                    exact ft_ret mi_k224 (by rfl) (hP (-12) trivial)
                  ·
                    have c20 : l4_13.toInt = x2.toInt := kd_neF c; clear c
                    exact (oz649 c17 c18 c20 z4.1 kn0).elim
                ·
                  have c21 : (0 : Int32).toInt < l4_13.toInt := kd_leF c; clear c
                  refine ft_go mi_k224 1 74 [(4, .int l4_13), (3, .int ((a 134).getD (((a 136).getD x1.toNatClampNeg 0) - 10).toNatClampNeg 0)), (0, .ref 116), (1, .int x1), (2, .int x2)] [.int l4_13] i a q r (by rfl) ?_
                  refine ko_callPI mi_k224.1 (pc := 74) (ls := [(4, .int l4_13), (3, .int ((a 134).getD (((a 136).getD x1.toNatClampNeg 0) - 10).toNatClampNeg 0)), (0, .ref 116), (1, .int x1), (2, .int x2)]) (st := [.int l4_13]) (h := ks i a q r) (i := (.invokestatic 357, 3, 208, 0, 9, 0, 465)) (mi_k224.2 _ _ (by rfl)) (ft_invS mi_pq208 (by rfl)) (cy := mi_c208) mi_pq208 rfl (kc208 hG.I hG.R l4_13) (by decide) ?_
                  intro vg22 hg22
                  have z23 : ((0 : Int) ≤ vg22.toInt) ∧ (vg22.toInt ≤ 4) ∧ ((vg22.toInt < l4_13.toInt) ∨ (l4_13.toInt ≤ 0)) := hg22
                  refine ft_go mi_k224 2 61 [(4, .int vg22), (3, .int ((a 134).getD (((a 136).getD x1.toNatClampNeg 0) - 10).toNatClampNeg 0)), (0, .ref 116), (1, .int x1), (2, .int x2)] [] i a q r (by rfl) ?_
                  exact ih13 _ (oz657 z23.1 z23.2.1) (kj_meas (oz658 c21 z23.2.2 kn0) (oz659 c21 kn0) hm13)
          exact lp13 _ _ (oz181 r12.1 r12.2) (Nat.lt_succ_self _)
      ·
        have c24 : ((a 136).getD x1.toNatClampNeg 0).toInt = ((-1) : Int32).toInt := kd_neF c; clear c
        refine ft_go mi_k224 1 31 [(0, .ref 116), (1, .int x1), (2, .int x2)] [.int (-11)] i a q r (by rfl) ?_
        exact ft_ret mi_k224 (by rfl) (hP (-11) trivial)
    ·
      subst eg3
      refine ft_go mi_k224 2 18 [(0, .ref 116), (1, .int x1), (2, .int x2)] [.int (-1)] i a q r (by rfl) ?_
      exact ft_ret mi_k224 (by rfl) (hP (-1) trivial)
  ·
    subst eg1
    refine ft_go mi_k224 2 18 [(0, .ref 116), (1, .int x1), (2, .int x2)] [.int (-1)] i a q r (by rfl) ?_
    exact ft_ret mi_k224 (by rfl) (hP (-1) trivial)
set_option maxRecDepth 100000 in
theorem kc225_116 {i : Nat → Int32} {a : Nat → List Int32} {q : Nat → List Int64} {r : Nat → Nat} (hI : kI i a q) (hr : kr r) (x1 : Int32) : km 1 225 [.ref 116, .int x1] (ks i a q r) (kPI (ks i a q r) (fun v => True)) := by
  have hG := kG_self kW0 hI hr
  refine km_ofPI (q := (mi_h225, mi_c225)) rfl (by decide) (Nat.le_of_ble_eq_true rfl) ?_
  intro P hP
  refine ft_go mi_k225 1 1 [(0, .ref 116), (1, .int x1)] [.int x1] i a q r (by rfl) ?_
  by_cases w1 : x1.toInt = 0
  ·
    refine ko_eq (x1 := (1, [(0, .ref 116), (1, .int x1)], [.int 0], (0, 0), ks i a q r)) (by rw [(kj_eq w1 (by decide) : x1 = 0)]) ?_
    refine ft_go mi_k225 3 44 [(0, .ref 116), (1, .int x1)] [.int (i 7424)] i a q r (by rfl) ?_
    exact ft_ret mi_k225 (by rfl) (hP (i 7424) trivial)
  by_cases w2 : x1.toInt = 1
  ·
    refine ft_swx mi_k225 (pc := 1) (v := 1) (t := 45) (kj_eq w2 (by decide) : x1 = 1) (by decide +kernel) ?_
    refine ft_go mi_k225 3 51 [(0, .ref 116), (1, .int x1)] [.int 18, .ref 118] i a q r (by rfl) ?_
    refine ko_iald3 mi_k225.1 (n := 31) (c := 31) (ax := (0, 0, 0, 0, 0)) (mi_k225.2 _ _ (by rfl)) (by rfl) (ksG118 _ _ _ _) (hG.I.2.1 118) rfl (oz195 kn18) (oz196 kn18) ?_
    have r3 : ((0 : Int) ≤ ((a 118).getD (18 : Int32).toNatClampNeg 0).toInt) ∧ (((a 118).getD (18 : Int32).toNatClampNeg 0).toInt ≤ 5) := kE_n18 (p := 118) hG.I (by decide)
    exact ft_ret mi_k225 (by rfl) (hP ((a 118).getD (18 : Int32).toNatClampNeg 0) trivial)
  by_cases w4 : x1.toInt = 2
  ·
    refine ko_eq (x1 := (1, [(0, .ref 116), (1, .int x1)], [.int 2], (0, 0), ks i a q r)) (by rw [(kj_eq w4 (by decide) : x1 = 2)]) ?_
    refine ft_go mi_k225 3 57 [(0, .ref 116), (1, .int x1)] [.int (i 7429)] i a q r (by rfl) ?_
    exact ft_ret mi_k225 (by rfl) (hP (i 7429) trivial)
  by_cases w5 : x1.toInt = 3
  ·
    refine ko_eq (x1 := (1, [(0, .ref 116), (1, .int x1)], [.int 3], (0, 0), ks i a q r)) (by rw [(kj_eq w5 (by decide) : x1 = 3)]) ?_
    refine ft_go mi_k225 3 62 [(0, .ref 116), (1, .int x1)] [.int (i 7453)] i a q r (by rfl) ?_
    exact ft_ret mi_k225 (by rfl) (hP (i 7453) trivial)
  by_cases w6 : x1.toInt = 4
  ·
    refine ko_eq (x1 := (1, [(0, .ref 116), (1, .int x1)], [.int 4], (0, 0), ks i a q r)) (by rw [(kj_eq w6 (by decide) : x1 = 4)]) ?_
    refine ft_go mi_k225 3 67 [(0, .ref 116), (1, .int x1)] [.int (i 7455)] i a q r (by rfl) ?_
    exact ft_ret mi_k225 (by rfl) (hP (i 7455) trivial)
  by_cases w7 : x1.toInt = 5
  ·
    refine ko_eq (x1 := (1, [(0, .ref 116), (1, .int x1)], [.int 5], (0, 0), ks i a q r)) (by rw [(kj_eq w7 (by decide) : x1 = 5)]) ?_
    refine ft_go mi_k225 3 72 [(0, .ref 116), (1, .int x1)] [.int (i 7457)] i a q r (by rfl) ?_
    exact ft_ret mi_k225 (by rfl) (hP (i 7457) trivial)
  refine ko_sw (ls := [(0, .ref 116), (1, .int x1)]) (r := []) (h := ks i a q r) mi_in225 (v := x1) (i := (.tableswitch 72 0 5 #[39, 44, 52, 57, 62, 67], 39, 0, 0, 0, 0, 0)) (by rfl) rfl (oz660 w1 w2 w4 w5 w6 w7) 73 (by rfl) ?_
  refine ft_go mi_k225 1 74 [(0, .ref 116), (1, .int x1)] [.int (-1)] i a q r (by rfl) ?_
  exact ft_ret mi_k225 (by rfl) (hP (-1) trivial)
set_option maxRecDepth 100000 in
theorem kc226 {i : Nat → Int32} {a : Nat → List Int32} {q : Nat → List Int64} {r : Nat → Nat} (hI : kI i a q) (hr : kr r) (x1 : Int32) : km 1 226 [.int x1] (ks i a q r) (kPI (ks i a q r) (fun v => v.toInt = (kbc x1).toInt)) := by
  refine km_ofPI (q := (mi_h226, mi_c226)) rfl (by decide) (Nat.le_of_ble_eq_true rfl) ?_
  intro P hP
  refine ft_go mi_k226 8 10 [(0, .int (kb1 x1))] [] i a q r (by rfl) ?_
  refine ft_go mi_k226 10 24 [(0, .int (kb2 (kb1 x1)))] [] i a q r (by rfl) ?_
  refine ft_go mi_k226 8 34 [(0, .int (kb3 (kb2 (kb1 x1))))] [] i a q r (by rfl) ?_
  refine ft_go mi_k226 6 41 [(0, .int (kb4 (kb3 (kb2 (kb1 x1)))))] [] i a q r (by rfl) ?_
  refine ft_go mi_k226 6 48 [(0, .int (kb5 (kb4 (kb3 (kb2 (kb1 x1))))))] [] i a q r (by rfl) ?_
  refine ft_go mi_k226 3 52 [(0, .int (kb5 (kb4 (kb3 (kb2 (kb1 x1))))))] [.int (kbc x1)] i a q r (by rfl) ?_
  exact ft_ret mi_k226 (by rfl) (hP (kbc x1) rfl)
