theorem kn50 : (50 : Int32).toInt = 50 := by decide
theorem kn24 : (24 : Int32).toInt = 24 := by decide
theorem knm14 : ((-14) : Int32).toInt = (-14) := by decide
theorem knm13 : ((-13) : Int32).toInt = (-13) := by decide
theorem kn48 : (48 : Int32).toInt = 48 := by decide
theorem kn57 : (57 : Int32).toInt = 57 := by decide
theorem kn15 : (15 : Int32).toInt = 15 := by decide
theorem oz560 {a0 a1 : Int} (h0 : a0 < a1) (h1 : a1 = 5) : a0 < 5 := by omega
theorem oz561 {a0 a1 a2 : Int} (h0 : a0 < a1) (h1 : a1 = 5) (h2 : a2 = 1) : a0 + a2 ≤ 2147483647 := by omega
theorem oz562 {a0 a1 : Int} (h0 : a0 < a1) (h1 : a1 = 5) : (1 : Int) ≤ (5 - a0) := by omega
theorem oz563 {a0 a1 : Int} (h0 : a0 ≤ 8) (h1 : a1 = 10) : a1 + a0 ≤ 2147483647 := by omega
theorem oz564 {a0 a1 a2 a3 a4 : Int} (h0 : a0 < a1) (h1 : a2 ≤ 8) (h2 : a1 = a3 + a2) (h3 : a3 = 10) : a0 = 18 → (0 : Int) ≤ a4 ∧ a4 ≤ 5 := by omega
theorem oz565 {a0 a1 a2 a3 a4 : Int} (h0 : a0 < a1) (h1 : a2 ≤ 8) (h2 : a1 = a3 + a2) (h3 : a3 = 10) : 19 ≤ a0 → a0 ≤ 24 → (0 : Int) ≤ a4 ∧ a4 ≤ 7 := by omega
theorem oz566 {a0 a1 : Int} (h0 : a0 ≤ a1) (h1 : a0 = 18) : (0 : Int) ≤ a1 := by omega
theorem oz567 {a0 a1 a2 : Int} (h0 : a0 ≤ a1) (h1 : (a1 = 18 → (0 : Int) ≤ a2 ∧ a2 ≤ 5)) (h2 : a0 = 18) : a1 = 18 → (0 : Int) ≤ a2 ∧ a2 ≤ 5 := by omega
theorem oz568 {a0 a1 : Int} (h0 : (19 ≤ a0 → a0 ≤ 24 → (0 : Int) ≤ a1 ∧ a1 ≤ 7)) : 19 ≤ a0 → a0 ≤ 24 → (0 : Int) ≤ a1 ∧ a1 ≤ 7 := by omega
theorem oz569 {a0 a1 a2 : Int} (h0 : a0 ≤ a1) (h1 : a0 = 18) (h2 : a2 = 1) : (-2147483648 : Int) ≤ a1 + a2 := by omega
theorem oz570 {a0 a1 a2 a3 : Int} (h0 : a0 ≤ a1) (h1 : a2 = a1 + a3) (h2 : a0 = 18) (h3 : a3 = 1) : (0 : Int) ≤ a2 := by omega
theorem oz571 {a0 a1 a2 a3 a4 : Int} (h0 : a0 ≤ a1) (h1 : (0 : Int) ≤ a2) (h2 : a0 = a3 + a2) (h3 : a3 = 10) (h4 : a4 = 1) : (-2147483648 : Int) ≤ a1 + a4 := by omega
theorem oz572 {a0 a1 a2 a3 a4 a5 : Int} (h0 : a0 ≤ a1) (h1 : (0 : Int) ≤ a2) (h2 : a0 = a3 + a2) (h3 : a4 = a1 + a5) (h4 : a3 = 10) (h5 : a5 = 1) : (0 : Int) ≤ a4 := by omega
theorem oz573 {a0 a1 a2 : Int} (h0 : a0 < a1) (h1 : a1 = 8) : a0 = 18 → (0 : Int) ≤ a2 ∧ a2 ≤ 5 := by omega
theorem oz574 {a0 a1 a2 : Int} (h0 : a0 < a1) (h1 : a1 = 8) : 19 ≤ a0 → a0 ≤ 24 → (0 : Int) ≤ a2 ∧ a2 ≤ 7 := by omega
theorem oz575 {a0 a1 a2 a3 : Int} (h0 : a0 < a1) (h1 : a2 ≤ a0) (h2 : a2 = a3 + a1) (h3 : a3 = 10) : False := by omega
theorem oz576 {a0 a1 : Int} (h0 : a0 ≠ a1) (h1 : a0 ≤ 50) (h2 : a1 = 50) : a0 < 50 := by omega
theorem oz577 {a0 a1 : Int} (h0 : a0 ≤ a1) (h1 : a1 = 7) : a0 ≤ 7 := by omega
theorem oz578 {a0 a1 : Int} (h0 : a0 ≤ 50) (h1 : a1 = 1) : a0 + a1 ≤ 2147483647 := by omega
theorem oz579 {a0 a1 a2 a3 : Int} (h0 : a0 ≠ a1) (h1 : a0 ≤ 50) (h2 : a2 = a0 + a3) (h3 : a1 = 50) (h4 : a3 = 1) : a2 ≤ 50 := by omega
theorem oz580 {a0 a1 a2 a3 : Int} (h0 : (0 : Int) ≤ a0) (h1 : a1 = a2 ∨ a1 = a0) (h2 : a2 = 24) (h3 : a3 = 1) : (-2147483648 : Int) ≤ a1 - a3 := by omega
theorem oz581 {a0 a1 a2 : Int} (h0 : a0 ≤ a1) (h1 : a1 = 24) (h2 : a2 = 1) : a0 - a2 ≤ 2147483647 := by omega
theorem oz582 {a0 a1 a2 a3 a4 : Int} (h0 : a0 ≤ a1) (h1 : a2 = a0 - a3) (h2 : a4 ≤ a2) (h3 : a1 = 24) (h4 : a3 = 1) : a4 < 24 := by omega
theorem oz583 {a0 a1 : Int} (h0 : a0 ≤ 50) (h1 : a1 = 1) : a0 - a1 ≤ 2147483647 := by omega
theorem oz584 {a0 a1 a2 : Int} (h0 : a0 ≤ a1) (h1 : a0 = (-1)) (h2 : a2 = 10) : (-2147483648 : Int) ≤ a2 + a1 := by omega
theorem oz585 {a0 a1 a2 a3 a4 : Int} (h0 : a0 ≤ 50) (h1 : a1 = a0 - a2) (h2 : a3 ≤ a1) (h3 : a2 = 1) (h4 : a4 = 10) : a4 + a3 ≤ 2147483647 := by omega
theorem oz586 {a0 a1 a2 a3 : Int} (h0 : a0 = a1 + a2) (h1 : a3 ≤ a2) (h2 : a1 = 10) (h3 : a3 = (-1)) : (-1 : Int) ≤ a0 := by omega
theorem oz587 {a0 a1 a2 a3 a4 a5 : Int} (h0 : a0 ≤ 50) (h1 : a1 = a0 - a2) (h2 : a3 = a4 + a5) (h3 : a5 ≤ a1) (h4 : a2 = 1) (h5 : a4 = 10) : a3 ≤ 59 := by omega
theorem oz588 {a0 : Int} (h0 : a0 = 0) : a0 ≤ 60 := by omega
theorem oz589 {a0 : Int} (h0 : a0 = (-1)) : (-1 : Int) ≤ a0 := by omega
theorem oz590 {a0 : Int} (h0 : a0 = (-1)) : a0 ≤ 59 := by omega
theorem oz591 {a0 a1 : Int} (h0 : a0 ≤ a1) (h1 : a0 = 0) : (-1 : Int) ≤ a1 := by omega
theorem oz592 {a0 a1 : Int} (h0 : a0 ≤ a1) (h1 : a1 = 4) : a0 ≤ 59 := by omega
theorem oz593 {a0 a1 : Int} (h0 : a0 ≤ a1) (h1 : a1 = 60) : a0 ≤ 60 := by omega
theorem oz594 {a0 a1 a2 : Int} (h0 : (0 : Int) ≤ a0) (h1 : a1 = 60 * a2) (h2 : (0 : Int) ≤ a2) : (-2147483648 : Int) ≤ a1 + a0 := by omega
theorem oz595 {a0 a1 a2 a3 : Int} (h0 : a0 < a1) (h1 : a2 = 60 * a3) (h2 : a3 ≤ 5) (h3 : a1 = 60) : a2 + a0 ≤ 2147483647 := by omega
theorem oz596 {a0 a1 a2 a3 : Int} (h0 : (0 : Int) ≤ a0) (h1 : a1 = 60 * a2) (h2 : a3 = a1 + a0) (h3 : (0 : Int) ≤ a2) : (0 : Int) ≤ a3 := by omega
theorem oz597 {a0 a1 a2 a3 a4 : Int} (h0 : a0 < a1) (h1 : a2 = 60 * a3) (h2 : a4 = a2 + a0) (h3 : a3 ≤ 5) (h4 : a1 = 60) : a4 < 360 := by omega
theorem oz598 {a0 a1 a2 : Int} (h0 : a0 < a1) (h1 : a1 = 60) (h2 : a2 = 1) : a0 + a2 ≤ 2147483647 := by omega
theorem oz599 {a0 a1 : Int} (h0 : a0 < a1) (h1 : a1 = 60) : (1 : Int) ≤ (60 - a0) := by omega
theorem oz600 {a0 a1 a2 : Int} (h0 : a0 ≤ a1) (h1 : a1 ≤ a2) (h2 : a0 = 0) (h3 : a2 = 4) : ((0 : Int) ≤ a1) ∧ (a1 ≤ 4) := by omega
theorem oz601 {a0 a1 a2 : Int} (h0 : ¬ ((a0 ≤ a1) ∧ (a1 ≤ a2))) (h1 : a0 = 0) (h2 : a2 = 4) : ¬ (((0 : Int) ≤ a1) ∧ (a1 ≤ 4)) := by omega
theorem oz602 {a0 a1 : Int} (h0 : a0 ≤ 60) (h1 : a1 = 1) : a0 - a1 ≤ 2147483647 := by omega
theorem oz603 {a0 a1 a2 a3 : Int} (h0 : a0 = 60 * a1) (h1 : a2 ≤ a3) (h2 : (0 : Int) ≤ a1) (h3 : a2 = 0) : (-2147483648 : Int) ≤ a0 + a3 := by omega
theorem oz604 {a0 a1 a2 a3 a4 a5 : Int} (h0 : a0 ≤ 60) (h1 : a1 = 60 * a2) (h2 : a3 = a0 - a4) (h3 : a5 ≤ a3) (h4 : a2 ≤ 5) (h5 : a4 = 1) : a1 + a5 ≤ 2147483647 := by omega
theorem oz605 {a0 : Int} (h0 : ¬ (a0 = 0)) (h1 : ¬ (a0 = 1)) (h2 : ¬ (a0 = 2)) (h3 : ¬ (a0 = 3)) : a0 < 0 ∨ 3 < a0 := by omega
theorem oz606 {a0 a1 a2 a3 a4 : Int} (h0 : a0 = 60 * a1) (h1 : a2 = a0 + a3) (h2 : a4 ≤ a3) (h3 : (0 : Int) ≤ a1) (h4 : a4 = 0) : (0 : Int) ≤ a2 := by omega
theorem oz607 {a0 a1 a2 a3 a4 a5 a6 : Int} (h0 : a0 ≤ 60) (h1 : a1 = 60 * a2) (h2 : a3 = a1 + a4) (h3 : a5 = a0 - a6) (h4 : a4 ≤ a5) (h5 : a2 ≤ 5) (h6 : a6 = 1) : a3 < 360 := by omega
theorem oz608 {a0 a1 a2 a3 : Int} (h0 : a0 = 60 * a1) (h1 : (0 : Int) ≤ a1) (h2 : a2 ≤ a3) (h3 : a2 = 0) : (-2147483648 : Int) ≤ a0 + a3 := by omega
theorem oz609 {a0 a1 a2 a3 a4 a5 : Int} (h0 : a0 ≤ 60) (h1 : a1 = 60 * a2) (h2 : a3 = a0 - a4) (h3 : a2 ≤ 5) (h4 : a5 ≤ a3) (h5 : a4 = 1) : a1 + a5 ≤ 2147483647 := by omega
theorem oz610 {a0 a1 a2 a3 a4 : Int} (h0 : a0 = 60 * a1) (h1 : a2 = a0 + a3) (h2 : (0 : Int) ≤ a1) (h3 : a4 ≤ a3) (h4 : a4 = 0) : (0 : Int) ≤ a2 := by omega
theorem oz611 {a0 a1 a2 a3 a4 a5 a6 : Int} (h0 : a0 ≤ 60) (h1 : a1 = 60 * a2) (h2 : a3 = a1 + a4) (h3 : a5 = a0 - a6) (h4 : a2 ≤ 5) (h5 : a4 ≤ a5) (h6 : a6 = 1) : a3 < 360 := by omega
theorem oz612 {a0 a1 a2 a3 a4 : Int} (h0 : a0 ≤ a1) (h1 : a0 ≤ a2) (h2 : a3 = a2) (h3 : a4 = a1) (h4 : a0 = 0) : (-9223372036854775808 : Int) ≤ a3 + a4 := by omega
theorem oz613 {a0 a1 a2 a3 : Int} (h0 : a0 ≤ 2147483647) (h1 : a1 ≤ 2147483647) (h2 : a2 = a0) (h3 : a3 = a1) : a2 + a3 ≤ 9223372036854775807 := by omega
theorem oz614 {a0 a1 a2 a3 a4 : Int} (h0 : a0 ≤ a1) (h1 : a0 ≤ a2) (h2 : a3 = a1) (h3 : a4 = a2) (h4 : a0 = 0) : (-9223372036854775808 : Int) ≤ a4 + a3 := by omega
theorem oz615 {a0 a1 a2 a3 : Int} (h0 : a0 ≤ 2147483647) (h1 : a1 ≤ 2147483647) (h2 : a2 = a0) (h3 : a3 = a1) : a3 + a2 ≤ 9223372036854775807 := by omega
theorem oz616 {a0 a1 a2 a3 : Int} (h0 : a0 ≤ a1) (h1 : a2 = 60 * a3) (h2 : (0 : Int) ≤ a3) (h3 : a0 = 0) : (-2147483648 : Int) ≤ a2 + a1 := by omega
theorem oz617 {a0 a1 a2 a3 a4 a5 a6 a7 a8 a9 a10 : Int} (h0 : a0 ≤ a1) (h1 : a2 ≤ a0) (h2 : a3 ≤ 60) (h3 : a4 = a1) (h4 : a5 = a6) (h5 : a7 = a5 + a4) (h6 : a8 = a3) (h7 : (0 < a2 ↔ a8 < a7)) (h8 : a9 = 60 * a10) (h9 : a10 ≤ 5) (h10 : a0 = 0) : a9 + a6 ≤ 2147483647 := by omega
theorem oz618 {a0 a1 a2 a3 a4 a5 : Int} (h0 : a0 ≤ a1) (h1 : (0 : Int) ≤ a2) (h2 : a3 = 60 * a4) (h3 : a5 = a3 + a1) (h4 : (0 : Int) ≤ a4) (h5 : a0 = 0) : (-2147483648 : Int) ≤ a5 + a2 := by omega
theorem oz619 {a0 a1 a2 a3 a4 a5 a6 a7 a8 a9 a10 a11 a12 : Int} (h0 : a0 ≤ a1) (h1 : a2 < a3) (h2 : a4 ≤ 60) (h3 : a5 = a3) (h4 : a6 = a7) (h5 : a8 = a6 + a5) (h6 : a9 = a4) (h7 : (0 < a0 ↔ a9 < a8)) (h8 : a10 = 60 * a11) (h9 : a12 = a10 + a7) (h10 : a11 ≤ 5) (h11 : a1 = 0) : a12 + a2 ≤ 2147483647 := by omega
theorem oz620 {a0 a1 a2 a3 a4 a5 a6 a7 a8 a9 a10 : Int} (h0 : a0 ≤ a1) (h1 : a2 ≤ a0) (h2 : a3 ≤ 60) (h3 : a4 = a5) (h4 : a6 = a1) (h5 : a7 = a4 + a6) (h6 : a8 = a3) (h7 : (0 < a2 ↔ a8 < a7)) (h8 : a9 = 60 * a10) (h9 : a10 ≤ 5) (h10 : a0 = 0) : a9 + a5 ≤ 2147483647 := by omega
theorem oz621 {a0 a1 a2 a3 a4 a5 a6 a7 a8 a9 a10 a11 a12 : Int} (h0 : a0 ≤ a1) (h1 : a2 < a3) (h2 : a4 ≤ 60) (h3 : a5 = a6) (h4 : a7 = a3) (h5 : a8 = a5 + a7) (h6 : a9 = a4) (h7 : (0 < a0 ↔ a9 < a8)) (h8 : a10 = 60 * a11) (h9 : a12 = a10 + a6) (h10 : a11 ≤ 5) (h11 : a1 = 0) : a12 + a2 ≤ 2147483647 := by omega
theorem oz622 {a0 a1 a2 a3 a4 a5 a6 : Int} (h0 : a0 ≤ a1) (h1 : (0 : Int) ≤ a2) (h2 : a3 = 60 * a4) (h3 : a5 = a3 + a1) (h4 : a6 = a5 + a2) (h5 : (0 : Int) ≤ a4) (h6 : a0 = 0) : (0 : Int) ≤ a6 := by omega
theorem oz623 {a0 a1 a2 a3 a4 a5 a6 a7 a8 a9 a10 a11 a12 a13 : Int} (h0 : a0 ≤ a1) (h1 : a2 < a3) (h2 : a4 ≤ 60) (h3 : a5 = a6) (h4 : a7 = a3) (h5 : a8 = a5 + a7) (h6 : a9 = a4) (h7 : (0 < a0 ↔ a9 < a8)) (h8 : a10 = 60 * a11) (h9 : a12 = a10 + a6) (h10 : a13 = a12 + a2) (h11 : a11 ≤ 5) (h12 : a1 = 0) : a13 < 360 := by omega
theorem oz624 {a0 a1 a2 a3 a4 a5 a6 a7 a8 a9 a10 a11 a12 a13 : Int} (h0 : a0 ≤ a1) (h1 : a2 < a3) (h2 : a4 ≤ 60) (h3 : a5 = a3) (h4 : a6 = a7) (h5 : a8 = a6 + a5) (h6 : a9 = a4) (h7 : (0 < a0 ↔ a9 < a8)) (h8 : a10 = 60 * a11) (h9 : a12 = a10 + a7) (h10 : a13 = a12 + a2) (h11 : a11 ≤ 5) (h12 : a1 = 0) : a13 < 360 := by omega
theorem oz625 {a0 a1 a2 : Int} (h0 : a0 ≤ 2147483647) (h1 : a1 < a0) (h2 : a2 = 1) : a1 + a2 ≤ 2147483647 := by omega
theorem oz626 {a0 a1 a2 a3 a4 a5 a6 a7 a8 a9 a10 a11 a12 a13 : Int} (h0 : a0 ≤ a1) (h1 : a2 ≤ a3) (h2 : a4 < a5) (h3 : a6 ≤ 60) (h4 : a7 = a3) (h5 : a8 = a5) (h6 : a9 = a7 + a8) (h7 : a10 = a6) (h8 : (0 < a0 ↔ a10 < a9)) (h9 : a11 = 60 * a12) (h10 : a13 = a11 + a2) (h11 : a12 ≤ 5) (h12 : a1 = 0) : a13 + a4 ≤ 2147483647 := by omega
theorem oz627 {a0 a1 a2 a3 a4 a5 a6 a7 a8 a9 a10 a11 : Int} (h0 : a0 ≤ a1) (h1 : a2 < a3) (h2 : (0 : Int) ≤ a2) (h3 : a4 ≤ 60) (h4 : a5 = a6) (h5 : a7 = a3) (h6 : a8 = a5 + a7) (h7 : a9 = a4) (h8 : (0 < a0 ↔ a9 < a8)) (h9 : a10 = 60 * a11) (h10 : a11 ≤ 5) (h11 : a1 = 0) : a10 + a6 ≤ 2147483647 := by omega
theorem oz628 {a0 a1 a2 a3 a4 a5 a6 a7 a8 a9 a10 a11 a12 a13 a14 : Int} (h0 : a0 ≤ a1) (h1 : a2 ≤ a3) (h2 : a4 < a5) (h3 : a6 ≤ 60) (h4 : a7 = a3) (h5 : a8 = a5) (h6 : a9 = a7 + a8) (h7 : a10 = a6) (h8 : (0 < a0 ↔ a10 < a9)) (h9 : a11 = 60 * a12) (h10 : a13 = a11 + a2) (h11 : a14 = a13 + a4) (h12 : a12 ≤ 5) (h13 : a1 = 0) : a14 < 360 := by omega
theorem oz629 {a0 a1 a2 : Int} (h0 : a0 ≤ a1) (h1 : a0 = 0) (h2 : a2 = 1) : (-2147483648 : Int) ≤ a1 - a2 := by omega
theorem oz630 {a0 a1 : Int} (h0 : a0 ≤ 2147483647) (h1 : a1 = 1) : a0 - a1 ≤ 2147483647 := by omega
theorem oz631 {a0 a1 a2 a3 a4 a5 a6 a7 a8 a9 a10 a11 : Int} (h0 : a0 ≤ a1) (h1 : a1 ≤ a2) (h2 : a2 ≤ (a3 - 1)) (h3 : a4 ≤ 60) (h4 : a5 = a3) (h5 : a6 = a7) (h6 : a8 = a6 + a5) (h7 : a9 = a4) (h8 : (0 < a0 ↔ a9 < a8)) (h9 : a10 = 60 * a11) (h10 : a11 ≤ 5) (h11 : a1 = 0) : a10 + a7 ≤ 2147483647 := by omega
theorem oz632 {a0 a1 a2 a3 a4 a5 : Int} (h0 : a0 ≤ a1) (h1 : a0 ≤ a2) (h2 : a3 = 60 * a4) (h3 : a5 = a3 + a1) (h4 : (0 : Int) ≤ a4) (h5 : a0 = 0) : (-2147483648 : Int) ≤ a5 + a2 := by omega
theorem oz633 {a0 a1 a2 a3 a4 a5 a6 a7 a8 a9 a10 a11 a12 : Int} (h0 : a0 ≤ a1) (h1 : a2 ≤ (a3 - 1)) (h2 : a4 ≤ 60) (h3 : a5 = a3) (h4 : a6 = a7) (h5 : a8 = a6 + a5) (h6 : a9 = a4) (h7 : (0 < a0 ↔ a9 < a8)) (h8 : a10 = 60 * a11) (h9 : a12 = a10 + a7) (h10 : a11 ≤ 5) (h11 : a1 = 0) : a12 + a2 ≤ 2147483647 := by omega
theorem oz634 {a0 a1 a2 a3 a4 a5 a6 a7 a8 a9 a10 a11 : Int} (h0 : a0 ≤ a1) (h1 : ((-1) : Int) ≤ a2) (h2 : a2 ≤ (a3 - 1)) (h3 : a4 ≤ 60) (h4 : a5 = a6) (h5 : a7 = a3) (h6 : a8 = a5 + a7) (h7 : a9 = a4) (h8 : (0 < a0 ↔ a9 < a8)) (h9 : a10 = 60 * a11) (h10 : a11 ≤ 5) (h11 : a1 = 0) : a10 + a6 ≤ 2147483647 := by omega
theorem oz635 {a0 a1 a2 a3 a4 a5 a6 a7 a8 a9 a10 a11 a12 : Int} (h0 : a0 ≤ a1) (h1 : a2 ≤ (a3 - 1)) (h2 : a4 ≤ 60) (h3 : a5 = a6) (h4 : a7 = a3) (h5 : a8 = a5 + a7) (h6 : a9 = a4) (h7 : (0 < a0 ↔ a9 < a8)) (h8 : a10 = 60 * a11) (h9 : a12 = a10 + a6) (h10 : a11 ≤ 5) (h11 : a1 = 0) : a12 + a2 ≤ 2147483647 := by omega
theorem oz636 {a0 a1 a2 a3 a4 a5 a6 : Int} (h0 : a0 ≤ a1) (h1 : a0 ≤ a2) (h2 : a3 = 60 * a4) (h3 : a5 = a3 + a1) (h4 : a6 = a5 + a2) (h5 : (0 : Int) ≤ a4) (h6 : a0 = 0) : (0 : Int) ≤ a6 := by omega
theorem oz637 {a0 a1 a2 a3 a4 a5 a6 a7 a8 a9 a10 a11 a12 a13 : Int} (h0 : a0 ≤ a1) (h1 : a2 ≤ (a3 - 1)) (h2 : a4 ≤ 60) (h3 : a5 = a6) (h4 : a7 = a3) (h5 : a8 = a5 + a7) (h6 : a9 = a4) (h7 : (0 < a0 ↔ a9 < a8)) (h8 : a10 = 60 * a11) (h9 : a12 = a10 + a6) (h10 : a13 = a12 + a2) (h11 : a11 ≤ 5) (h12 : a1 = 0) : a13 < 360 := by omega
theorem oz638 {a0 a1 a2 a3 a4 a5 a6 a7 : Int} (h0 : a0 ≤ a1) (h1 : a1 < a2) (h2 : a0 ≤ a3) (h3 : a4 = 60 * a5) (h4 : a6 = a4 + a2) (h5 : a7 = a6 + a3) (h6 : (0 : Int) ≤ a5) (h7 : a0 = 0) : (0 : Int) ≤ a7 := by omega
theorem oz639 {a0 a1 a2 a3 a4 a5 a6 a7 a8 a9 a10 a11 a12 a13 a14 : Int} (h0 : a0 ≤ a1) (h1 : a2 = a3) (h2 : a4 ≤ (a5 - 1)) (h3 : a6 ≤ 60) (h4 : a7 = a5) (h5 : a8 = a9) (h6 : a10 = a8 + a7) (h7 : a11 = a6) (h8 : (0 < a0 ↔ a11 < a10)) (h9 : a12 = 60 * a3) (h10 : a13 = a12 + a9) (h11 : a14 = a13 + a4) (h12 : a2 ≤ 5) (h13 : a1 = 0) : a14 < 360 := by omega
theorem oz640 {a0 a1 a2 : Int} (h0 : a0 ≤ 2147483647) (h1 : a1 ≤ (a0 - 1)) (h2 : a2 = (-1)) : a1 + a2 ≤ 2147483647 := by omega
theorem oz641 {a0 a1 a2 a3 : Int} (h0 : a0 ≤ (a1 - 1)) (h1 : a2 = a0 + a3) (h2 : a3 = (-1)) : a2 ≤ (a1 - 1) := by omega
theorem oz642 {a0 a1 a2 a3 : Int} (h0 : a0 ≤ a1) (h1 : a2 = a1 - a3) (h2 : a0 = 0) (h3 : a3 = 1) : ((-1) : Int) ≤ a2 := by omega
theorem oz643 {a0 a1 a2 : Int} (h0 : a0 = a1 - a2) (h1 : a2 = 1) : a0 ≤ (a1 - 1) := by omega
theorem oz644 {a0 a1 : Int} (h0 : (-1 : Int) ≤ a0) (h1 : a1 = 10) : (-2147483648 : Int) ≤ a0 - a1 := by omega
theorem oz645 {a0 a1 : Int} (h0 : a0 ≤ 59) (h1 : a1 = 10) : a0 - a1 ≤ 2147483647 := by omega
theorem oz646 {a0 a1 a2 a3 : Int} (h0 : a0 ≠ a1) (h1 : (-1 : Int) ≤ a0) (h2 : a0 ≤ 4 ∨ 10 ≤ a0) (h3 : a2 = a0 - a3) (h4 : ¬ (((0 : Int) ≤ a0) ∧ (a0 ≤ 4))) (h5 : a1 = (-1)) (h6 : a3 = 10) : (0 : Int) ≤ a2 := by omega
theorem oz647 {a0 a1 a2 : Int} (h0 : a0 ≤ 59) (h1 : a1 = a0 - a2) (h2 : a2 = 10) : a1 < 50 := by omega
theorem oz648 {a0 a1 : Int} (h0 : a0 = a1) (h1 : a0 ≠ a1) : False := by omega
theorem oz649 {a0 a1 a2 : Int} (h0 : a0 ≠ a1) (h1 : a0 ≤ a2) (h2 : a0 = a1) (h3 : a2 ≤ a1) (h4 : a2 = 0) : False := by omega
theorem oz650 {a0 a1 : Int} (h0 : a0 = 3) (h1 : a1 = 2) : ((0 : Int) ≤ a1) ∧ (a1 ≤ 4) ∧ ((a1 < a0) ∨ (a0 ≤ 0)) := by omega
theorem oz651 {a0 a1 : Int} (h0 : a0 = 4) (h1 : a1 = 1) : ((0 : Int) ≤ a1) ∧ (a1 ≤ 4) ∧ ((a1 < a0) ∨ (a0 ≤ 0)) := by omega
theorem oz652 {a0 a1 : Int} (h0 : a0 = 5) (h1 : a1 = 3) : ((0 : Int) ≤ a1) ∧ (a1 ≤ 4) ∧ ((a1 < a0) ∨ (a0 ≤ 0)) := by omega
theorem oz653 {a0 a1 : Int} (h0 : a0 = 6) (h1 : a1 = 0) : ((0 : Int) ≤ a1) ∧ (a1 ≤ 4) ∧ ((a1 < a0) ∨ (a0 ≤ 0)) := by omega
theorem oz654 {a0 a1 : Int} (h0 : a0 = 7) (h1 : a1 = 4) : ((0 : Int) ≤ a1) ∧ (a1 ≤ 4) ∧ ((a1 < a0) ∨ (a0 ≤ 0)) := by omega
theorem oz655 {a0 : Int} (h0 : ¬ (a0 = 3)) (h1 : ¬ (a0 = 4)) (h2 : ¬ (a0 = 5)) (h3 : ¬ (a0 = 6)) (h4 : ¬ (a0 = 7)) : a0 < 3 ∨ 7 < a0 := by omega
theorem oz656 {a0 a1 : Int} (h0 : a0 = 0) : ((0 : Int) ≤ a0) ∧ (a0 ≤ 4) ∧ ((a0 < a1) ∨ (a1 ≤ 0)) := by omega
theorem oz657 {a0 : Int} (h0 : (0 : Int) ≤ a0) (h1 : a0 ≤ 4) : ((0 : Int) ≤ a0) ∧ (a0 ≤ 7) := by omega
theorem oz658 {a0 a1 a2 : Int} (h0 : a0 < a1) (h1 : (a2 < a1) ∨ (a1 ≤ 0)) (h2 : a0 = 0) : a2 < a1 := by omega
theorem oz659 {a0 a1 : Int} (h0 : a0 < a1) (h1 : a0 = 0) : (1 : Int) ≤ a1 := by omega
theorem oz660 {a0 : Int} (h0 : ¬ (a0 = 0)) (h1 : ¬ (a0 = 1)) (h2 : ¬ (a0 = 2)) (h3 : ¬ (a0 = 3)) (h4 : ¬ (a0 = 4)) (h5 : ¬ (a0 = 5)) : a0 < 0 ∨ 5 < a0 := by omega
theorem oz661 {a0 : Int} (h0 : a0 ≤ 255) : a0 ≤ 255 := by omega
theorem oz662 {a0 a1 : Int} (h0 : a0 ≠ a1) (h1 : (0 : Int) ≤ a0) (h2 : a1 = 0) : a0 ≠ 0 := by omega
theorem oz663 {a0 a1 : Int} (h0 : (a0 + a1) ≤ 5) (h1 : (1 : Int) ≤ a1) : a0 < 5 := by omega
theorem oz664 {a0 a1 a2 : Int} (h0 : (a0 + a1) ≤ 5) (h1 : (1 : Int) ≤ a1) (h2 : a2 = 1) : a0 + a2 ≤ 2147483647 := by omega
theorem oz665 {a0 a1 : Int} (h0 : a0 = a1) (h1 : (1 : Int) ≤ a0) : (1 : Int) ≤ a1 := by omega
theorem oz666 {a0 : Int} (h0 : (0 : Int) ≤ a0) (h1 : a0 ≤ 255) : ((0 : Int) ≤ a0) ∧ (a0 ≤ 255) := by omega
theorem oz667 {a0 a1 a2 a3 a4 : Int} (h0 : (a0 + a1) ≤ 5) (h1 : a2 = a1 - 1) (h2 : a3 = a0 + a4) (h3 : a4 = 1) : (a3 + a2) ≤ 5 := by omega
theorem oz668 {a0 a1 a2 a3 : Int} (h0 : a0 = a1 + 1) (h1 : a2 = a0) (h2 : a3 = a2 - 1) : a3 = a1 := by omega
theorem oz669 {a0 a1 a2 : Int} (h0 : (0 : Int) ≤ a0) (h1 : (a1 + a2) ≤ 5) (h2 : a2 = a0) : a1 ≤ 21 := by omega
theorem oz670 {a0 a1 a2 a3 : Int} (h0 : a0 < a1) (h1 : (0 : Int) ≤ a2) (h2 : (a1 + a3) ≤ 5) (h3 : a3 = a2) : a0 < 5 := by omega
theorem oz671 {a0 a1 a2 a3 a4 : Int} (h0 : a0 < a1) (h1 : (0 : Int) ≤ a2) (h2 : (a1 + a3) ≤ 5) (h3 : a3 = a2) (h4 : a4 = 1) : a0 + a4 ≤ 2147483647 := by omega
theorem oz672 {a0 a1 a2 a3 : Int} (h0 : a0 < a1) (h1 : (0 : Int) ≤ a2) (h2 : (a1 + a3) ≤ 5) (h3 : a3 = a2) : a0 < 21 := by omega
theorem oz673 {a0 : Int} (h0 : (0 : Int) ≤ a0) : (-2147483648 : Int) ≤ 31 * a0 := by omega
theorem oz674 {a0 a1 : Int} (h0 : a0 ≤ 5) (h1 : (a1 + 1) ≤ a0) : 31 * a1 ≤ 2147483647 := by omega
theorem oz675 {a0 a1 : Int} (h0 : (0 : Int) ≤ a0) (h1 : (0 : Int) ≤ a1) : (-2147483648 : Int) ≤ a0 + a1 := by omega
theorem oz676 {a0 a1 a2 : Int} (h0 : a0 < a1) (h1 : a2 ≤ 124) (h2 : a1 = 31) : a2 + a0 ≤ 2147483647 := by omega
theorem oz677 {a0 a1 a2 : Int} (h0 : (0 : Int) ≤ a0) (h1 : (0 : Int) ≤ a1) (h2 : a2 = a0 + a1) : (0 : Int) ≤ a2 := by omega
theorem oz678 {a0 a1 a2 a3 : Int} (h0 : a0 < a1) (h1 : a2 ≤ 124) (h2 : a3 = a2 + a0) (h3 : a1 = 31) : a3 < 155 := by omega
theorem oz679 {a0 a1 a2 : Int} (h0 : (0 : Int) ≤ a0) (h1 : a1 ≤ 5) (h2 : (a0 + 1) ≤ a1) (h3 : a2 = 31 * a0) : ((0 : Int) ≤ a2) ∧ (a2 ≤ 124) := by omega
theorem oz680 {a0 a1 a2 : Int} (h0 : a0 ≤ 5) (h1 : (a1 + 1) ≤ a0) (h2 : a2 = 1) : a1 + a2 ≤ 2147483647 := by omega
theorem oz681 {a0 a1 a2 : Int} (h0 : (a0 - a1) = a2) (h1 : (a1 + 1) ≤ a0) : (1 : Int) ≤ a2 := by omega
theorem oz682 {a0 a1 a2 a3 : Int} (h0 : (0 : Int) ≤ a0) (h1 : a1 ≤ 5) (h2 : (a0 + 1) ≤ a1) (h3 : a2 = a0 + a3) (h4 : a3 = 1) : ((0 : Int) ≤ a2) ∧ (a2 ≤ a1) ∧ (a1 ≤ 5) := by omega
theorem oz683 {a0 a1 a2 a3 a4 a5 : Int} (h0 : a0 = a1 + 1) (h1 : (a2 - a3) = a0) (h2 : a4 = a3 + a5) (h3 : a5 = 1) : (a2 - a4) = a1 := by omega
theorem oz684 {a0 a1 a2 : Int} (h0 : a0 ≤ a1) (h1 : a1 ≤ 5) (h2 : a2 = 1) : a0 + a2 ≤ 2147483647 := by omega
theorem oz685 {a0 a1 a2 : Int} (h0 : a0 ≠ a1) (h1 : (0 : Int) ≤ a2) (h2 : (a1 - a0) = a2) : (1 : Int) ≤ a2 := by omega
theorem oz686 {a0 a1 a2 a3 : Int} (h0 : a0 ≠ a1) (h1 : (0 : Int) ≤ a0) (h2 : a0 ≤ a1) (h3 : a1 ≤ 5) (h4 : a2 = a0 + a3) (h5 : a3 = 1) : ((0 : Int) ≤ a2) ∧ (a2 ≤ a1) ∧ (a1 ≤ 5) := by omega
theorem oz687 {a0 a1 : Int} (h0 : (0 : Int) ≤ a0) (h1 : a0 ≤ a1) (h2 : a1 ≤ 5) : ((0 : Int) ≤ a0) ∧ (a0 ≤ a1) ∧ (a1 ≤ 5) := by omega
theorem oz688 {a0 a1 a2 : Int} (h0 : (a0 - a1) = a2) : (a0 - a1) = a2 := by omega
theorem oz689 {a0 a1 : Int} (h0 : a0 ≠ a1) (h1 : a0 ≤ a1) : (a0 + 1) ≤ a1 := by omega
theorem oz690 {a0 a1 : Int} (h0 : a0 ≤ 256) (h1 : a1 = 1) : a0 - a1 ≤ 2147483647 := by omega
theorem oz691 {a0 a1 a2 a3 : Int} (h0 : a0 ≤ 256) (h1 : a1 = a0 - a2) (h2 : a3 ≤ a1) (h3 : a2 = 1) : a3 ≤ 255 := by omega
theorem oz692 {a0 a1 a2 a3 a4 : Int} (h0 : a0 ≤ 256) (h1 : a1 = a0 - a2) (h2 : a3 ≤ a4) (h3 : a4 ≤ a1) (h4 : a2 = 1) (h5 : a3 = 0) : ((0 : Int) ≤ a4) ∧ (a4 ≤ 255) := by omega
theorem oz693 {a0 a1 a2 a3 : Int} (h0 : a0 ≤ a1) (h1 : a0 = a2) (h2 : a1 = 5) (h3 : a3 = 0) : (a3 + a2) ≤ 5 := by omega
theorem oz694 {a0 a1 : Int} (h0 : a0 ≠ a1) (h1 : a1 ≤ a0) (h2 : a1 = (-1)) : (0 : Int) ≤ a0 := by omega
theorem oz695 {a0 a1 a2 a3 a4 : Int} (h0 : a0 ≤ a1) (h1 : a2 < a3) (h2 : a0 = a4) (h3 : a3 = a4) (h4 : a1 = 5) : a2 < 5 := by omega
theorem oz696 {a0 a1 a2 : Int} (h0 : a0 ≤ a1) (h1 : a1 ≤ a2) (h2 : a0 = 1) (h3 : a2 = 5) : ((0 : Int) ≤ a0) ∧ (a0 ≤ a1) ∧ (a1 ≤ 5) := by omega
theorem oz697 {a0 a1 a2 : Int} (h0 : a0 ≤ 8) (h1 : a1 = (a2 / 10)) (h2 : (0 : Int) ≤ a2) (h3 : (a2 / 10) < a0) (h4 : (a2 % 10) < a0) (h5 : (a2 / 10) ≠ (a2 % 10)) : ((0 : Int) ≤ a1) ∧ (a1 ≤ 7) := by omega
theorem oz698 {a0 a1 a2 : Int} (h0 : a0 ≤ 8) (h1 : a1 = (a2 % 10)) (h2 : (a2 % 10) < a0) : ((0 : Int) ≤ a1) ∧ (a1 ≤ 7) := by omega
theorem oz699 {a0 a1 a2 a3 : Int} (h0 : a0 ≤ a1) (h1 : a1 ≤ a2) (h2 : a0 = 1) (h3 : a2 = 5) (h4 : a3 = 0) : ((0 : Int) ≤ a3) ∧ (a3 ≤ a1) ∧ (a1 ≤ 5) := by omega
theorem oz700 {a0 a1 a2 : Int} (h0 : a0 ≤ a1) (h1 : a0 = 1) (h2 : a2 = 0) : (a2 + 1) ≤ a1 := by omega
theorem oz702 {a0 a1 : Int} (h0 : a0 < a1) (h1 : a1 ≤ 120) : a0 < 120 := by omega
theorem oz716 {a0 a1 a2 : Int} (h0 : ((a0 = 0) ∧ (a1 = 0)) ∨ ((a0 = 1) ∧ ((0 : Int) ≤ a1) ∧ (a1 ≤ 9)) ∨ ((a0 = 2) ∧ ((0 : Int) ≤ a1) ∧ (a1 ≤ 99)) ∨ ((a0 = 3) ∧ ((0 : Int) ≤ a1) ∧ (a1 ≤ 999)) ∨ ((a0 = 4) ∧ ((0 : Int) ≤ a1) ∧ (a1 ≤ 9999))) (h1 : a2 = 1) : (-2147483648 : Int) ≤ a0 + a2 := by omega
theorem oz717 {a0 a1 a2 : Int} (h0 : a0 < a1) (h1 : a1 = 4) (h2 : a2 = 1) : a0 + a2 ≤ 2147483647 := by omega
theorem oz719 {a0 a1 : Int} (h0 : a0 = a1) : a0 = a1 := by omega
theorem oz720 {a0 a1 a2 a3 a4 a5 : Int} (h0 : (a0 + a1) ≤ a2) (h1 : a3 = a2 + a4) (h2 : a5 = a1 + a4) (h3 : a4 = 1) : (a0 + a5) ≤ a3 := by omega
theorem oz722 {a0 a1 a2 a3 a4 a5 : Int} (h0 : ((a0 = 0) ∧ (a1 = 0)) ∨ ((a0 = 1) ∧ ((0 : Int) ≤ a1) ∧ (a1 ≤ 9)) ∨ ((a0 = 2) ∧ ((0 : Int) ≤ a1) ∧ (a1 ≤ 99)) ∨ ((a0 = 3) ∧ ((0 : Int) ≤ a1) ∧ (a1 ≤ 999)) ∨ ((a0 = 4) ∧ ((0 : Int) ≤ a1) ∧ (a1 ≤ 9999))) (h1 : a2 = a0 + a3) (h2 : a3 = 1) : ((1 : Int) ≤ a2) ∨ (a4 = a5) := by omega
theorem oz723 {a0 a1 a2 : Int} (h0 : a0 = a1 + a2) (h1 : a2 = 1) : (4 - a0) < (4 - a1) := by omega
theorem oz724 {a0 a1 : Int} (h0 : a0 < a1) (h1 : a1 = 4) : (1 : Int) ≤ (4 - a0) := by omega
theorem oz726 {a0 : Int} (h0 : a0 = 0) : ((a0 = 0) ∧ (a0 = 0)) ∨ ((a0 = 1) ∧ ((0 : Int) ≤ a0) ∧ (a0 ≤ 9)) ∨ ((a0 = 2) ∧ ((0 : Int) ≤ a0) ∧ (a0 ≤ 99)) ∨ ((a0 = 3) ∧ ((0 : Int) ≤ a0) ∧ (a0 ≤ 999)) ∨ ((a0 = 4) ∧ ((0 : Int) ≤ a0) ∧ (a0 ≤ 9999)) := by omega
theorem oz727 {a0 a1 : Int} (h0 : a0 = 0) : (a1 + a0) ≤ a1 := by omega
theorem oz729 {a0 a1 : Int} (h0 : a0 = 0) : ((1 : Int) ≤ a0) ∨ (a1 = a1) := by omega
theorem oz730 {a0 a1 : Int} (h0 : a0 = 100) (h1 : a1 = 5) : (((-1) : Int) ≤ a1) ∧ (a1 ≤ 5) ∧ ((a1 = (-1)) ∨ ((100 : Int) ≤ a0)) := by omega
theorem oz731 {a0 a1 : Int} (h0 : a0 = (-1)) : (((-1) : Int) ≤ a0) ∧ (a0 ≤ 5) ∧ ((a0 = (-1)) ∨ ((100 : Int) ≤ a1)) := by omega
theorem oz732 {a0 a1 : Int} (h0 : a0 = 104) (h1 : a1 = 2) : (((-1) : Int) ≤ a1) ∧ (a1 ≤ 5) ∧ ((a1 = (-1)) ∨ ((100 : Int) ≤ a0)) := by omega
theorem oz733 {a0 a1 : Int} (h0 : a0 = 110) (h1 : a1 = 3) : (((-1) : Int) ≤ a1) ∧ (a1 ≤ 5) ∧ ((a1 = (-1)) ∨ ((100 : Int) ≤ a0)) := by omega
theorem oz734 {a0 a1 : Int} (h0 : a0 = 111) (h1 : a1 = 4) : (((-1) : Int) ≤ a1) ∧ (a1 ≤ 5) ∧ ((a1 = (-1)) ∨ ((100 : Int) ≤ a0)) := by omega
theorem oz735 {a0 a1 : Int} (h0 : a0 = 112) (h1 : a1 = 1) : (((-1) : Int) ≤ a1) ∧ (a1 ≤ 5) ∧ ((a1 = (-1)) ∨ ((100 : Int) ≤ a0)) := by omega
theorem oz736 {a0 a1 : Int} (h0 : a0 = 119) (h1 : a1 = 0) : (((-1) : Int) ≤ a1) ∧ (a1 ≤ 5) ∧ ((a1 = (-1)) ∨ ((100 : Int) ≤ a0)) := by omega
theorem oz737 {a0 : Int} (h0 : ¬ (a0 = 100)) (h1 : ¬ (a0 = 101)) (h2 : ¬ (a0 = 102)) (h3 : ¬ (a0 = 103)) (h4 : ¬ (a0 = 104)) (h5 : ¬ (a0 = 105)) (h6 : ¬ (a0 = 106)) (h7 : ¬ (a0 = 107)) (h8 : ¬ (a0 = 108)) (h9 : ¬ (a0 = 109)) (h10 : ¬ (a0 = 110)) (h11 : ¬ (a0 = 111)) (h12 : ¬ (a0 = 112)) (h13 : ¬ (a0 = 113)) (h14 : ¬ (a0 = 114)) (h15 : ¬ (a0 = 115)) (h16 : ¬ (a0 = 116)) (h17 : ¬ (a0 = 117)) (h18 : ¬ (a0 = 118)) (h19 : ¬ (a0 = 119)) : a0 < 100 ∨ 119 < a0 := by omega
theorem oz738 {a0 a1 : Int} (h0 : (-2147483648 : Int) ≤ a0) (h1 : a1 = 1) : (-2147483648 : Int) ≤ a0 + a1 := by omega
theorem oz739 {a0 a1 a2 : Int} (h0 : (0 : Int) ≤ a0) (h1 : (a1 + a0) = 6) (h2 : a2 = 1) : a1 + a2 ≤ 2147483647 := by omega
theorem oz742 {a0 : Int} (h0 : a0 = 33) : (0 : Int) ≤ a0 := by omega
theorem oz743 {a0 a1 a2 : Int} (h0 : a0 ≠ a1) (h1 : (0 : Int) ≤ a2) (h2 : (a0 + a2) = 6) (h3 : a1 = 6) : (1 : Int) ≤ a2 := by omega
theorem oz744 {a0 a1 a2 a3 a4 a5 : Int} (h0 : a0 = a1) (h1 : a2 = a3 + 1) (h2 : (a4 + a2) = 6) (h3 : a1 = a4 + a5) (h4 : a5 = 1) : (a0 + a3) = 6 := by omega
theorem oz746 {a0 a1 a2 : Int} (h0 : a0 ≤ 199) (h1 : a1 = a0 + a2) (h2 : a2 = 1) : a1 ≤ 200 := by omega
theorem oz747 {a0 : Int} (h0 : a0 ≤ 199) : a0 < 200 := by omega
theorem oz748 {a0 a1 a2 : Int} (h0 : a0 = a1 + a2) (h1 : a2 = 1) : a0 = (a1 + 1) := by omega
theorem oz756 {a0 a1 a2 a3 a4 : Int} (h0 : (-2147483648 : Int) ≤ a0) (h1 : a1 = a2) (h2 : a2 = a0 + a3) (h3 : a4 = a1) (h4 : a3 = 1) : (-2147483648 : Int) ≤ a4 - a3 := by omega
theorem oz757 {a0 a1 a2 a3 a4 a5 : Int} (h0 : a0 = a1) (h1 : (0 : Int) ≤ a2) (h2 : (a3 + a2) = 6) (h3 : a1 = a3 + a4) (h4 : a5 = a0) (h5 : a4 = 1) : a5 - a4 ≤ 2147483647 := by omega
theorem oz759 {a0 : Int} (h0 : a0 = 45) : (0 : Int) ≤ a0 := by omega
theorem oz760 {a0 a1 a2 a3 a4 a5 a6 : Int} (h0 : a0 = a1) (h1 : a2 = a0) (h2 : a3 = a4 + 1) (h3 : (a5 + a3) = 6) (h4 : a1 = a5 + a6) (h5 : a6 = 1) : (a2 + a4) = 6 := by omega
theorem oz762 {a0 a1 a2 : Int} (h0 : a0 = a1) (h1 : a2 = a0) : a2 = a1 := by omega
theorem oz764 {a0 a1 a2 a3 a4 a5 a6 : Int} (h0 : (-2147483648 : Int) ≤ a0) (h1 : a1 = a2) (h2 : a3 = a1) (h3 : a4 = a5) (h4 : a2 = a0 + a6) (h5 : a5 = a3) (h6 : a6 = 1) : (-2147483648 : Int) ≤ a4 - a6 := by omega
theorem oz765 {a0 a1 a2 a3 a4 a5 a6 a7 : Int} (h0 : a0 = a1) (h1 : a2 = a0) (h2 : a3 = a4) (h3 : (0 : Int) ≤ a5) (h4 : (a6 + a5) = 6) (h5 : a1 = a6 + a7) (h6 : a4 = a2) (h7 : a7 = 1) : a3 - a7 ≤ 2147483647 := by omega
theorem oz767 {a0 a1 a2 a3 a4 a5 : Int} (h0 : (-2147483648 : Int) ≤ a0) (h1 : a1 = a2) (h2 : a3 = a1) (h3 : a2 = a0 + a4) (h4 : a5 = a3) (h5 : a4 = 1) : (-2147483648 : Int) ≤ a5 - a4 := by omega
theorem oz768 {a0 a1 a2 a3 a4 a5 a6 : Int} (h0 : a0 = a1) (h1 : a2 = a0) (h2 : (0 : Int) ≤ a3) (h3 : (a4 + a3) = 6) (h4 : a1 = a4 + a5) (h5 : a6 = a2) (h6 : a5 = 1) : a6 - a5 ≤ 2147483647 := by omega
theorem oz770 {a0 : Int} (h0 : a0 = 40) : (0 : Int) ≤ a0 := by omega
theorem oz771 {a0 a1 a2 a3 a4 a5 a6 a7 : Int} (h0 : a0 = a1) (h1 : a2 = a0) (h2 : a3 = a2) (h3 : a4 = a5 + 1) (h4 : (a6 + a4) = 6) (h5 : a1 = a6 + a7) (h6 : a7 = 1) : (a3 + a5) = 6 := by omega
theorem oz774 {a0 : Int} (h0 : a0 = 41) : (0 : Int) ≤ a0 := by omega
theorem oz775 {a0 a1 a2 a3 a4 a5 a6 a7 : Int} (h0 : (-2147483648 : Int) ≤ a0) (h1 : a1 = a2) (h2 : a3 = a1) (h3 : a4 = a3) (h4 : a5 = a6) (h5 : a2 = a0 + a7) (h6 : a6 = a4) (h7 : a7 = 1) : (-2147483648 : Int) ≤ a5 - a7 := by omega
theorem oz776 {a0 a1 a2 a3 a4 a5 a6 a7 a8 : Int} (h0 : a0 = a1) (h1 : a2 = a0) (h2 : a3 = a2) (h3 : a4 = a5) (h4 : (0 : Int) ≤ a6) (h5 : (a7 + a6) = 6) (h6 : a1 = a7 + a8) (h7 : a5 = a3) (h8 : a8 = 1) : a4 - a8 ≤ 2147483647 := by omega
theorem oz779 {a0 a1 a2 a3 a4 a5 a6 : Int} (h0 : (-2147483648 : Int) ≤ a0) (h1 : a1 = a2) (h2 : a3 = a1) (h3 : a4 = a3) (h4 : a2 = a0 + a5) (h5 : a6 = a4) (h6 : a5 = 1) : (-2147483648 : Int) ≤ a6 - a5 := by omega
theorem oz780 {a0 a1 a2 a3 a4 a5 a6 a7 : Int} (h0 : a0 = a1) (h1 : a2 = a0) (h2 : a3 = a2) (h3 : (0 : Int) ≤ a4) (h4 : (a5 + a4) = 6) (h5 : a1 = a5 + a6) (h6 : a7 = a3) (h7 : a6 = 1) : a7 - a6 ≤ 2147483647 := by omega
theorem oz782 {a0 a1 a2 a3 a4 a5 : Int} (h0 : (-2147483648 : Int) ≤ a0) (h1 : a1 = a2) (h2 : a3 = a1) (h3 : a4 = a3) (h4 : a2 = a0 + a5) (h5 : a5 = 1) : (-2147483648 : Int) ≤ a4 - a5 := by omega
theorem oz783 {a0 a1 a2 a3 a4 a5 a6 : Int} (h0 : a0 = a1) (h1 : a2 = a0) (h2 : a3 = a2) (h3 : (0 : Int) ≤ a4) (h4 : (a5 + a4) = 6) (h5 : a1 = a5 + a6) (h6 : a6 = 1) : a3 - a6 ≤ 2147483647 := by omega
theorem oz787 {a0 a1 : Int} (h0 : a0 ≤ 120) (h1 : (0 : Int) ≤ a1) (h2 : a1 ≤ a0) : ((0 : Int) ≤ a1) ∧ (a1 ≤ 199) := by omega
theorem oz790 {a0 a1 a2 a3 : Int} (h0 : a0 ≤ a1) (h1 : ((a1 = 0) ∧ (a2 = 0)) ∨ ((a1 = 1) ∧ ((0 : Int) ≤ a2) ∧ (a2 ≤ 9)) ∨ ((a1 = 2) ∧ ((0 : Int) ≤ a2) ∧ (a2 ≤ 99)) ∨ ((a1 = 3) ∧ ((0 : Int) ≤ a2) ∧ (a2 ≤ 999)) ∨ ((a1 = 4) ∧ ((0 : Int) ≤ a2) ∧ (a2 ≤ 9999))) (h2 : a0 = 4) (h3 : a3 = 18) : (-2147483648 : Int) ≤ a3 + a2 := by omega
theorem oz791 {a0 a1 a2 a3 : Int} (h0 : a0 ≤ a1) (h1 : ((a1 = 0) ∧ (a2 = 0)) ∨ ((a1 = 1) ∧ ((0 : Int) ≤ a2) ∧ (a2 ≤ 9)) ∨ ((a1 = 2) ∧ ((0 : Int) ≤ a2) ∧ (a2 ≤ 99)) ∨ ((a1 = 3) ∧ ((0 : Int) ≤ a2) ∧ (a2 ≤ 999)) ∨ ((a1 = 4) ∧ ((0 : Int) ≤ a2) ∧ (a2 ≤ 9999))) (h2 : a0 = 4) (h3 : a3 = 18) : a3 + a2 ≤ 2147483647 := by omega
theorem oz792 {a0 a1 a2 : Int} (h0 : a0 = a1) (h1 : (0 : Int) ≤ a0) (h2 : a2 ≤ 120) (h3 : a1 ≤ a2) : ((0 : Int) ≤ a0) ∧ (a0 ≤ 199) := by omega
theorem oz795 {a0 a1 a2 : Int} (h0 : a0 < a1) (h1 : ((a0 = 0) ∧ (a2 = 0)) ∨ ((a0 = 1) ∧ ((0 : Int) ≤ a2) ∧ (a2 ≤ 9)) ∨ ((a0 = 2) ∧ ((0 : Int) ≤ a2) ∧ (a2 ≤ 99)) ∨ ((a0 = 3) ∧ ((0 : Int) ≤ a2) ∧ (a2 ≤ 999)) ∨ ((a0 = 4) ∧ ((0 : Int) ≤ a2) ∧ (a2 ≤ 9999))) (h2 : a1 = 4) : (-2147483648 : Int) ≤ 10 * a2 := by omega
theorem oz796 {a0 a1 a2 : Int} (h0 : a0 < a1) (h1 : ((a0 = 0) ∧ (a2 = 0)) ∨ ((a0 = 1) ∧ ((0 : Int) ≤ a2) ∧ (a2 ≤ 9)) ∨ ((a0 = 2) ∧ ((0 : Int) ≤ a2) ∧ (a2 ≤ 99)) ∨ ((a0 = 3) ∧ ((0 : Int) ≤ a2) ∧ (a2 ≤ 999)) ∨ ((a0 = 4) ∧ ((0 : Int) ≤ a2) ∧ (a2 ≤ 9999))) (h2 : a1 = 4) : 10 * a2 ≤ 2147483647 := by omega
theorem oz802 {a0 a1 a2 a3 : Int} (h0 : a0 < a1) (h1 : ((a0 = 0) ∧ (a2 = 0)) ∨ ((a0 = 1) ∧ ((0 : Int) ≤ a2) ∧ (a2 ≤ 9)) ∨ ((a0 = 2) ∧ ((0 : Int) ≤ a2) ∧ (a2 ≤ 99)) ∨ ((a0 = 3) ∧ ((0 : Int) ≤ a2) ∧ (a2 ≤ 999)) ∨ ((a0 = 4) ∧ ((0 : Int) ≤ a2) ∧ (a2 ≤ 9999))) (h2 : a1 = 4) (h3 : a3 = 18) : (-2147483648 : Int) ≤ a3 + a2 := by omega
theorem oz803 {a0 a1 a2 a3 : Int} (h0 : a0 < a1) (h1 : ((a0 = 0) ∧ (a2 = 0)) ∨ ((a0 = 1) ∧ ((0 : Int) ≤ a2) ∧ (a2 ≤ 9)) ∨ ((a0 = 2) ∧ ((0 : Int) ≤ a2) ∧ (a2 ≤ 99)) ∨ ((a0 = 3) ∧ ((0 : Int) ≤ a2) ∧ (a2 ≤ 999)) ∨ ((a0 = 4) ∧ ((0 : Int) ≤ a2) ∧ (a2 ≤ 9999))) (h2 : a1 = 4) (h3 : a3 = 18) : a3 + a2 ≤ 2147483647 := by omega
theorem oz808 {a0 a1 : Int} (h0 : (a0 + a1) = 6) : (a0 + a1) = 6 := by omega
theorem oz811 {a0 a1 a2 a3 : Int} (h0 : a0 = a1) (h1 : (a2 + a3) = 6) (h2 : a1 = a2) : (a0 + a3) = 6 := by omega
theorem oz812 {a0 a1 a2 a3 a4 a5 : Int} (h0 : a0 ≤ a1) (h1 : (a2 - a3) ≤ (a0 - a1)) (h2 : a4 = a3 + a5) (h3 : a5 = 1) : a2 ≤ a4 := by omega
theorem oz814 {a0 a1 a2 a3 a4 a5 a6 a7 : Int} (h0 : a0 ≤ 120) (h1 : (0 : Int) ≤ a1) (h2 : a2 ≤ a3) (h3 : (a4 - a5) ≤ (a2 - a3)) (h4 : a6 = a5 + a7) (h5 : (a1 - a0) ≤ (a4 - a6)) (h6 : a7 = 1) : ((0 : Int) ≤ a1) ∧ (a1 ≤ 199) := by omega
theorem oz819 {a0 a1 a2 a3 : Int} (h0 : a0 = a1) (h1 : a2 = a3) (h2 : a3 ≤ a1) : a2 ≤ a0 := by omega
theorem oz833 {a0 a1 a2 a3 a4 : Int} (h0 : a0 = a1) (h1 : a2 ≤ a1) (h2 : a0 ≤ a3) (h3 : a4 = (a3 + 1)) : a2 ≤ a4 := by omega
theorem oz840 {a0 a1 a2 a3 : Int} (h0 : (a0 - a1) ≤ (a2 - a3)) : (a0 - a1) ≤ (a2 - a3) := by omega
theorem oz844 {a0 a1 a2 : Int} (h0 : (a0 + a1) = 6) (h1 : a2 = a0) : (a2 + a1) = 6 := by omega
theorem oz845 {a0 a1 a2 a3 : Int} (h0 : a0 = a1) (h1 : a2 = a3) (h2 : a1 = a2) : a0 = a3 := by omega
theorem oz847 {a0 a1 a2 a3 a4 a5 a6 a7 a8 a9 : Int} (h0 : a0 = a1) (h1 : (a2 - a3) ≤ (a4 - a5)) (h2 : a6 = a3 + a7) (h3 : (a8 - a1) ≤ (a2 - a6)) (h4 : a9 = (a8 + 1)) (h5 : a7 = 1) : (a9 - a0) ≤ (a4 - a5) := by omega
theorem oz848 {a0 a1 a2 a3 : Int} (h0 : a0 ≤ a1) (h1 : a1 ≤ a2) (h2 : a3 = (a2 + 1)) : a0 ≤ a3 := by omega
theorem oz862 {a0 a1 a2 a3 a4 a5 : Int} (h0 : a0 ≤ a1) (h1 : a2 = a3 + a4) (h2 : (a5 - a3) ≤ (a0 - a1)) (h3 : a4 = 1) : a5 ≤ a2 := by omega
theorem oz864 {a0 a1 a2 a3 a4 a5 a6 a7 : Int} (h0 : a0 ≤ 120) (h1 : (0 : Int) ≤ a1) (h2 : a2 ≤ a3) (h3 : a4 = a5 + a6) (h4 : (a1 - a0) ≤ (a7 - a4)) (h5 : (a7 - a5) ≤ (a2 - a3)) (h6 : a6 = 1) : ((0 : Int) ≤ a1) ∧ (a1 ≤ 199) := by omega
theorem oz871 {a0 a1 a2 a3 a4 a5 a6 a7 : Int} (h0 : a0 ≤ 120) (h1 : (0 : Int) ≤ a1) (h2 : a2 ≤ a3) (h3 : a4 = a5 + a6) (h4 : (a7 - a5) ≤ (a2 - a3)) (h5 : (a1 - a0) ≤ (a7 - a4)) (h6 : a6 = 1) : ((0 : Int) ≤ a1) ∧ (a1 ≤ 199) := by omega
theorem oz879 {a0 : Int} (h0 : a0 = 38) : (0 : Int) ≤ a0 := by omega
theorem oz894 {a0 a1 a2 a3 a4 : Int} (h0 : a0 = a1) (h1 : a2 = a3) (h2 : a3 = a4) (h3 : a1 = a2) : a0 = a4 := by omega
theorem oz901 {a0 : Int} (h0 : a0 = 124) : (0 : Int) ≤ a0 := by omega
def w206_116 : kW := ([7448, 7449], [131, 132], [], [])
def w206_116_L24 : kW := ([], [132], [], [])
set_option maxRecDepth 100000 in
theorem kc206_116 {i : Nat → Int32} {a : Nat → List Int32} {q : Nat → List Int64} {r : Nat → Nat} (hI : kI i a q) (hr : kr r)  : km 3 206 [.ref 116] (ks i a q r) (kVI w206_116 i a q r (fun v i1 a1 q1 r1 => True)) := by
  have hG := kG_self w206_116 hI hr
  refine km_ofI (q := (mi_h206, mi_c206)) rfl (by decide) (Nat.le_of_ble_eq_true rfl) ?_
  intro P hP
  have hJ1 := kG_i hG 7448 rfl (v := 1) ⟨(oz246 kn1), (oz558 kn1)⟩
  have fi_7424 : ((0 : Int) ≤ (i 7424).toInt) ∧ ((i 7424).toInt ≤ 8) := hJ1.I.1 7424
  have hJ2 := kG_i hJ1 7449 rfl (v := (i 7424)) ⟨(oz3 fi_7424.1), (oz559 fi_7424.2)⟩
  refine ft_go mi_k206 11 19 [(0, .ref 116)] [.int 0, .ref 131, .ref 116] (ku (ku i 7448 1) 7449 (i 7424)) a q r (by rfl) ?_
  refine ko_callN mi_k206.1 (pc := 19) (ls := [(0, .ref 116)]) (st := [.int 0, .ref 131, .ref 116]) (h := ks (ku (ku i 7448 1) 7449 (i 7424)) a q r) (i := (.invokevirtual 263, 3, 168, 0, 9, 0, 413)) (mi_k206.2 _ _ (by rfl)) (ft_invS mi_pq168 (by rfl)) (cy := mi_c168) mi_pq168 rfl (kc168_116_131 hJ2.I hJ2.R 0 (oz236 kn0)) (by decide) ?_
  intro ig3 ag3 qg3 rg3 kg3 hg3
  have hGg3 := kG_call hJ2 kg3 (by decide +kernel)
  refine ft_go mi_k206 2 24 [(1, .int 0), (0, .ref 116)] [] ig3 ag3 qg3 rg3 (by rfl) ?_
  have lp4 : ∀ (nz : Nat) (i4 : Nat → Int32) (a4 : Nat → List Int32) (q4 : Nat → List Int64) (r4 : Nat → Nat) (l1_4 : Int32), kG w206_116_L24 ig3 ag3 qg3 rg3 i4 a4 q4 r4 → (0 : Int) ≤ l1_4.toInt → ((5 - l1_4.toInt)).toNat < nz → ko 3 (mi_h206, mi_c206) P (24, [(1, .int l1_4), (0, .ref 116)], [], (0, 0), ks i4 a4 q4 r4) := by
    intro nz
    induction nz with
    | zero =>
      intro _ _ _ _ _ _ _ hm
      exact absurd hm (Nat.not_lt_zero _)
    | succ nz ih4 =>
      intro i4 a4 q4 r4 l1_4 hL4 p4_0 hm4
      refine ft_go mi_k206 2 26 [(1, .int l1_4), (0, .ref 116)] [.int 5, .int l1_4] i4 a4 q4 r4 (by rfl) ?_
      refine ft_if mi_k206 (decide (5 ≤ l1_4)) 47 29 [(1, .int l1_4), (0, .ref 116)] [] (by rfl) (fun c => ?_) (fun c => ?_)
      ·
        have c5 : (5 : Int32).toInt ≤ l1_4.toInt := kd_le c; clear c
        have hG6 := kG_call hGg3 hL4 (by decide +kernel)
        refine ft_go mi_k206 3 52 [(1, .int l1_4), (0, .ref 116)] [.int 0, .ref 130] i4 a4 q4 r4 (by rfl) ?_
        refine ko_iald3 mi_k206.1 (n := 5) (c := 5) (ax := (0, 0, 0, 0, 0)) (mi_k206.2 _ _ (by rfl)) (by rfl) (ksG130 _ _ _ _) (hG6.I.2.1 130) rfl (oz46 kn0) (oz547 kn0) ?_
        exact ft_ret mi_k206 (by rfl) (hP ((a4 130).getD (0 : Int32).toNatClampNeg 0) _ _ _ _ hG6 trivial)
      ·
        have c7 : l1_4.toInt < (5 : Int32).toInt := kd_leF c; clear c
        refine ft_go mi_k206 6 39 [(1, .int l1_4), (0, .ref 116)] [.int l1_4, .ref 130, .int l1_4, .ref 132] i4 a4 q4 r4 (by rfl) ?_
        refine ko_iald3 mi_k206.1 (n := 5) (c := 5) (ax := (0, 0, 0, 0, 0)) (mi_k206.2 _ _ (by rfl)) (by rfl) (ksG130 _ _ _ _) (hL4.I.2.1 130) rfl (oz3 p4_0) (oz560 c7 kn5) ?_
        refine ko_iast3 mi_k206.1 (n := 5) (c := 5) (ax := (0, 0, 0, 0, 0)) (mi_k206.2 _ _ (by rfl)) (by rfl) (ksG132 _ _ _ _) (ksA132 _ _ _ _) (hL4.I.2.1 132) rfl (oz3 p4_0) (oz560 c7 kn5) ?_
        intro a8 ea8 fa8
        have hJ8 := kG_a3 hL4 132 rfl ea8 fa8 (kd_bd _)
        have s9 : (l1_4 + 1).toInt = l1_4.toInt + (1 : Int32).toInt := kd_add (oz12 p4_0 kn1) (oz561 c7 kn5 kn1)
        refine ft_go mi_k206 2 24 [(1, .int (l1_4 + 1)), (0, .ref 116)] [] i4 a8 q4 r4 (by rfl) ?_
        exact ih4 _ _ _ _ _ hJ8 (oz14 p4_0 s9 kn1) (kj_meas (oz372 s9 kn1) (oz562 c7 kn5) hm4)
  exact lp4 _ _ _ _ _ _ (kG_self _ hGg3.I hGg3.R) (oz46 kn0) (Nat.lt_succ_self _)
def w207_116 : kW := ([], [118, 130], [], [])
def w207_116_L12 : kW := ([], [118], [], [])
def w207_116_L79 : kW := ([], [130], [], [])
set_option maxRecDepth 100000 in
theorem kc207_116 {i : Nat → Int32} {a : Nat → List Int32} {q : Nat → List Int64} {r : Nat → Nat} (hI : kI i a q) (hr : kr r)  : km 1 207 [.ref 116] (ks i a q r) (kVI w207_116 i a q r (fun v i1 a1 q1 r1 => True)) := by
  have hG := kG_self w207_116 hI hr
  refine km_ofI (q := (mi_h207, mi_c207)) rfl (by decide) (Nat.le_of_ble_eq_true rfl) ?_
  intro P hP
  have fi_7448 : ((0 : Int) ≤ (i 7448).toInt) ∧ ((i 7448).toInt ≤ 1) := hG.I.1 7448
  refine ft_go mi_k207 2 4 [(0, .ref 116)] [.int (i 7448)] i a q r (by rfl) ?_
  refine ft_if mi_k207 ((i 7448) != 0) 10 7 [(0, .ref 116)] [] (by rfl) (fun c => ?_) (fun c => ?_)
  ·
    have c1 : (i 7448).toInt ≠ (0 : Int32).toInt := kd_ne c; clear c
    refine ft_go mi_k207 2 12 [(1, .int 0), (0, .ref 116)] [] i a q r (by rfl) ?_
    have lp2 : ∀ (nz : Nat) (i2 : Nat → Int32) (a2 : Nat → List Int32) (q2 : Nat → List Int64) (r2 : Nat → Nat) (l1_2 : Int32), kG w207_116_L12 i a q r i2 a2 q2 r2 → (0 : Int) ≤ l1_2.toInt → ((31 - l1_2.toInt)).toNat < nz → ko 1 (mi_h207, mi_c207) P (12, [(1, .int l1_2), (0, .ref 116)], [], (0, 0), ks i2 a2 q2 r2) := by
      intro nz
      induction nz with
      | zero =>
        intro _ _ _ _ _ _ _ hm
        exact absurd hm (Nat.not_lt_zero _)
      | succ nz ih2 =>
        intro i2 a2 q2 r2 l1_2 hL2 p2_0 hm2
        refine ft_go mi_k207 2 15 [(1, .int l1_2), (0, .ref 116)] [.int 31, .int l1_2] i2 a2 q2 r2 (by rfl) ?_
        refine ft_if mi_k207 (decide (31 ≤ l1_2)) 77 18 [(1, .int l1_2), (0, .ref 116)] [] (by rfl) (fun c => ?_) (fun c => ?_)
        ·
          have c3 : (31 : Int32).toInt ≤ l1_2.toInt := kd_le c; clear c
          have hG4 := kG_call hG hL2 (by decide +kernel)
          refine ft_go mi_k207 2 79 [(1, .int 0), (0, .ref 116)] [] i2 a2 q2 r2 (by rfl) ?_
          have lp5 : ∀ (nz : Nat) (i5 : Nat → Int32) (a5 : Nat → List Int32) (q5 : Nat → List Int64) (r5 : Nat → Nat) (l1_5 : Int32), kG w207_116_L79 i2 a2 q2 r2 i5 a5 q5 r5 → (0 : Int) ≤ l1_5.toInt → ((5 - l1_5.toInt)).toNat < nz → ko 1 (mi_h207, mi_c207) P (79, [(1, .int l1_5), (0, .ref 116)], [], (0, 0), ks i5 a5 q5 r5) := by
            intro nz
            induction nz with
            | zero =>
              intro _ _ _ _ _ _ _ hm
              exact absurd hm (Nat.not_lt_zero _)
            | succ nz ih5 =>
              intro i5 a5 q5 r5 l1_5 hL5 p5_0 hm5
              refine ft_go mi_k207 2 81 [(1, .int l1_5), (0, .ref 116)] [.int 5, .int l1_5] i5 a5 q5 r5 (by rfl) ?_
              refine ft_if mi_k207 (decide (5 ≤ l1_5)) 102 84 [(1, .int l1_5), (0, .ref 116)] [] (by rfl) (fun c => ?_) (fun c => ?_)
              ·
                have c6 : (5 : Int32).toInt ≤ l1_5.toInt := kd_le c; clear c
                have hG7 := kG_call hG4 hL5 (by decide +kernel)
                refine ft_go mi_k207 3 107 [(1, .int l1_5), (0, .ref 116)] [.int 0, .ref 130] i5 a5 q5 r5 (by rfl) ?_
                refine ko_iald3 mi_k207.1 (n := 5) (c := 5) (ax := (0, 0, 0, 0, 0)) (mi_k207.2 _ _ (by rfl)) (by rfl) (ksG130 _ _ _ _) (hG7.I.2.1 130) rfl (oz46 kn0) (oz547 kn0) ?_
                exact ft_ret mi_k207 (by rfl) (hP ((a5 130).getD (0 : Int32).toNatClampNeg 0) _ _ _ _ hG7 trivial)
              ·
                have c8 : l1_5.toInt < (5 : Int32).toInt := kd_leF c; clear c
                refine ft_go mi_k207 6 94 [(1, .int l1_5), (0, .ref 116)] [.int l1_5, .ref 132, .int l1_5, .ref 130] i5 a5 q5 r5 (by rfl) ?_
                refine ko_iald3 mi_k207.1 (n := 5) (c := 5) (ax := (0, 0, 0, 0, 0)) (mi_k207.2 _ _ (by rfl)) (by rfl) (ksG132 _ _ _ _) (hL5.I.2.1 132) rfl (oz3 p5_0) (oz560 c8 kn5) ?_
                refine ko_iast3 mi_k207.1 (n := 5) (c := 5) (ax := (0, 0, 0, 0, 0)) (mi_k207.2 _ _ (by rfl)) (by rfl) (ksG130 _ _ _ _) (ksA130 _ _ _ _) (hL5.I.2.1 130) rfl (oz3 p5_0) (oz560 c8 kn5) ?_
                intro a9 ea9 fa9
                have hJ9 := kG_a3 hL5 130 rfl ea9 fa9 (kd_bd _)
                have s10 : (l1_5 + 1).toInt = l1_5.toInt + (1 : Int32).toInt := kd_add (oz12 p5_0 kn1) (oz561 c8 kn5 kn1)
                refine ft_go mi_k207 2 79 [(1, .int (l1_5 + 1)), (0, .ref 116)] [] i5 a9 q5 r5 (by rfl) ?_
                exact ih5 _ _ _ _ _ hJ9 (oz14 p5_0 s10 kn1) (kj_meas (oz372 s10 kn1) (oz562 c8 kn5) hm5)
          exact lp5 _ _ _ _ _ _ (kG_self _ hG4.I hG4.R) (oz46 kn0) (Nat.lt_succ_self _)
        ·
          have c11 : l1_2.toInt < (31 : Int32).toInt := kd_leF c; clear c
          refine ft_go mi_k207 2 21 [(1, .int l1_2), (0, .ref 116)] [.int 8, .int l1_2] i2 a2 q2 r2 (by rfl) ?_
          refine ft_if mi_k207 (decide (8 ≤ l1_2)) 32 24 [(1, .int l1_2), (0, .ref 116)] [] (by rfl) (fun c => ?_) (fun c => ?_)
          ·
            have c12 : (8 : Int32).toInt ≤ l1_2.toInt := kd_le c; clear c
            have fi2_7449 : ((0 : Int) ≤ (i2 7449).toInt) ∧ ((i2 7449).toInt ≤ 8) := hL2.I.1 7449
            have fi_7449 : ((0 : Int) ≤ (i 7449).toInt) ∧ ((i 7449).toInt ≤ 8) := hG.I.1 7449
            have efi2_7449 : (i2 7449).toInt = (i 7449).toInt := hL2.ti 7449 rfl
            have s13 : (10 + (i2 7449)).toInt = (10 : Int32).toInt + (i2 7449).toInt := kd_add (oz251 fi2_7449.1 kn10) (oz563 fi2_7449.2 kn10)
            refine ft_go mi_k207 5 40 [(1, .int l1_2), (0, .ref 116)] [.int (10 + (i2 7449)), .int l1_2] i2 a2 q2 r2 (by rfl) ?_
            refine ft_if mi_k207 (decide (l1_2 < (10 + (i2 7449)))) 53 43 [(1, .int l1_2), (0, .ref 116)] [] (by rfl) (fun c => ?_) (fun c => ?_)
            ·
              have c14 : l1_2.toInt < (10 + (i2 7449)).toInt := kd_lt c; clear c
              refine ft_go mi_k207 10 69 [(2, .int 0), (1, .int l1_2), (0, .ref 116)] [.int l1_2, .ref 131, .int l1_2, .ref 118] i2 a2 q2 r2 (by rfl) ?_
              refine ko_iald3 mi_k207.1 (n := 31) (c := 31) (ax := (0, 0, 0, 0, 0)) (mi_k207.2 _ _ (by rfl)) (by rfl) (ksG131 _ _ _ _) (hL2.I.2.1 131) rfl (oz3 p2_0) (oz228 c11 kn31) ?_
              have r15 : ((l1_2.toInt = 18 → (0 : Int) ≤ ((a2 131).getD l1_2.toNatClampNeg 0).toInt ∧ ((a2 131).getD l1_2.toNatClampNeg 0).toInt ≤ 5)) ∧ ((19 ≤ l1_2.toInt → l1_2.toInt ≤ 24 → (0 : Int) ≤ ((a2 131).getD l1_2.toNatClampNeg 0).toInt ∧ ((a2 131).getD l1_2.toNatClampNeg 0).toInt ≤ 7)) := kE_ncond (p := 131) hL2.I (by decide) (j := l1_2) (oz3 p2_0)
              refine ko_iast3 mi_k207.1 (n := 31) (c := 31) (ax := (0, 0, 0, 0, 0)) (mi_k207.2 _ _ (by rfl)) (by rfl) (ksG118 _ _ _ _) (ksA118 _ _ _ _) (hL2.I.2.1 118) rfl (oz3 p2_0) (oz228 c11 kn31) ?_
              intro a16 ea16 fa16
              have hJ16 := kG_a3 hL2 118 rfl ea16 fa16 (kE_nset (p := 118) (by decide) (oz3 p2_0) (oz564 c14 fi2_7449.2 s13 kn10) (oz565 c14 fi2_7449.2 s13 kn10))
              have s17 : (l1_2 + 1).toInt = l1_2.toInt + (1 : Int32).toInt := kd_add (oz12 p2_0 kn1) (oz233 c11 kn31 kn1)
              refine ft_go mi_k207 2 12 [(1, .int (l1_2 + 1)), (2, .int 0), (0, .ref 116)] [] i2 a16 q2 r2 (by rfl) ?_
              refine ko_perm [(1, .int (l1_2 + 1)), (0, .ref 116)] (List.forall_mem_cons.mpr ⟨(List.Mem.head _), (List.forall_mem_cons.mpr ⟨(List.Mem.tail _ (List.Mem.tail _ (List.Mem.head _))), (fun _ h => absurd h List.not_mem_nil)⟩)⟩) ?_
              exact ih2 _ _ _ _ _ hJ16 (oz14 p2_0 s17 kn1) (kj_meas (oz234 s17 kn1) (oz235 c11 kn31) hm2)
            ·
              have c18 : (10 + (i2 7449)).toInt ≤ l1_2.toInt := kd_ltF c; clear c
              refine ft_go mi_k207 2 46 [(1, .int l1_2), (0, .ref 116)] [.int 18, .int l1_2] i2 a2 q2 r2 (by rfl) ?_
              refine ft_if mi_k207 (decide (18 ≤ l1_2)) 53 49 [(1, .int l1_2), (0, .ref 116)] [] (by rfl) (fun c => ?_) (fun c => ?_)
              ·
                have c19 : (18 : Int32).toInt ≤ l1_2.toInt := kd_le c; clear c
                refine ft_go mi_k207 10 69 [(2, .int 0), (1, .int l1_2), (0, .ref 116)] [.int l1_2, .ref 131, .int l1_2, .ref 118] i2 a2 q2 r2 (by rfl) ?_
                refine ko_iald3 mi_k207.1 (n := 31) (c := 31) (ax := (0, 0, 0, 0, 0)) (mi_k207.2 _ _ (by rfl)) (by rfl) (ksG131 _ _ _ _) (hL2.I.2.1 131) rfl (oz566 c19 kn18) (oz228 c11 kn31) ?_
                have r20 : ((l1_2.toInt = 18 → (0 : Int) ≤ ((a2 131).getD l1_2.toNatClampNeg 0).toInt ∧ ((a2 131).getD l1_2.toNatClampNeg 0).toInt ≤ 5)) ∧ ((19 ≤ l1_2.toInt → l1_2.toInt ≤ 24 → (0 : Int) ≤ ((a2 131).getD l1_2.toNatClampNeg 0).toInt ∧ ((a2 131).getD l1_2.toNatClampNeg 0).toInt ≤ 7)) := kE_ncond (p := 131) hL2.I (by decide) (j := l1_2) (oz566 c19 kn18)
                refine ko_iast3 mi_k207.1 (n := 31) (c := 31) (ax := (0, 0, 0, 0, 0)) (mi_k207.2 _ _ (by rfl)) (by rfl) (ksG118 _ _ _ _) (ksA118 _ _ _ _) (hL2.I.2.1 118) rfl (oz566 c19 kn18) (oz228 c11 kn31) ?_
                intro a21 ea21 fa21
                have hJ21 := kG_a3 hL2 118 rfl ea21 fa21 (kE_nset (p := 118) (by decide) (oz566 c19 kn18) (oz567 c19 r20.1 kn18) (oz568 r20.2))
                have s22 : (l1_2 + 1).toInt = l1_2.toInt + (1 : Int32).toInt := kd_add (oz569 c19 kn18 kn1) (oz233 c11 kn31 kn1)
                refine ft_go mi_k207 2 12 [(1, .int (l1_2 + 1)), (2, .int 0), (0, .ref 116)] [] i2 a21 q2 r2 (by rfl) ?_
                refine ko_perm [(1, .int (l1_2 + 1)), (0, .ref 116)] (List.forall_mem_cons.mpr ⟨(List.Mem.head _), (List.forall_mem_cons.mpr ⟨(List.Mem.tail _ (List.Mem.tail _ (List.Mem.head _))), (fun _ h => absurd h List.not_mem_nil)⟩)⟩) ?_
                exact ih2 _ _ _ _ _ hJ21 (oz570 c19 s22 kn18 kn1) (kj_meas (oz234 s22 kn1) (oz235 c11 kn31) hm2)
              ·
                have c23 : l1_2.toInt < (18 : Int32).toInt := kd_leF c; clear c
                have s24 : (l1_2 + 1).toInt = l1_2.toInt + (1 : Int32).toInt := kd_add (oz571 c18 fi2_7449.1 s13 kn10 kn1) (oz233 c11 kn31 kn1)
                refine ft_go mi_k207 7 12 [(1, .int (l1_2 + 1)), (2, .int 1), (0, .ref 116)] [] i2 a2 q2 r2 (by rfl) ?_
                refine ko_perm [(1, .int (l1_2 + 1)), (0, .ref 116)] (List.forall_mem_cons.mpr ⟨(List.Mem.head _), (List.forall_mem_cons.mpr ⟨(List.Mem.tail _ (List.Mem.tail _ (List.Mem.head _))), (fun _ h => absurd h List.not_mem_nil)⟩)⟩) ?_
                exact ih2 _ _ _ _ _ hL2 (oz572 c18 fi2_7449.1 s13 s24 kn10 kn1) (kj_meas (oz234 s24 kn1) (oz235 c11 kn31) hm2)
          ·
            have c25 : l1_2.toInt < (8 : Int32).toInt := kd_leF c; clear c
            have fi2_7449 : ((0 : Int) ≤ (i2 7449).toInt) ∧ ((i2 7449).toInt ≤ 8) := hL2.I.1 7449
            have fi_7449 : ((0 : Int) ≤ (i 7449).toInt) ∧ ((i 7449).toInt ≤ 8) := hG.I.1 7449
            have efi2_7449 : (i2 7449).toInt = (i 7449).toInt := hL2.ti 7449 rfl
            refine ft_go mi_k207 3 29 [(1, .int l1_2), (0, .ref 116)] [.int (i2 7449), .int l1_2] i2 a2 q2 r2 (by rfl) ?_
            refine ft_if mi_k207 (decide ((i2 7449) ≤ l1_2)) 49 32 [(1, .int l1_2), (0, .ref 116)] [] (by rfl) (fun c => ?_) (fun c => ?_)
            ·
              have c26 : (i2 7449).toInt ≤ l1_2.toInt := kd_le c; clear c
              have s27 : (l1_2 + 1).toInt = l1_2.toInt + (1 : Int32).toInt := kd_add (oz12 p2_0 kn1) (oz233 c11 kn31 kn1)
              refine ft_go mi_k207 7 12 [(1, .int (l1_2 + 1)), (2, .int 1), (0, .ref 116)] [] i2 a2 q2 r2 (by rfl) ?_
              refine ko_perm [(1, .int (l1_2 + 1)), (0, .ref 116)] (List.forall_mem_cons.mpr ⟨(List.Mem.head _), (List.forall_mem_cons.mpr ⟨(List.Mem.tail _ (List.Mem.tail _ (List.Mem.head _))), (fun _ h => absurd h List.not_mem_nil)⟩)⟩) ?_
              exact ih2 _ _ _ _ _ hL2 (oz14 p2_0 s27 kn1) (kj_meas (oz234 s27 kn1) (oz235 c11 kn31) hm2)
            ·
              have c28 : l1_2.toInt < (i2 7449).toInt := kd_leF c; clear c
              have s29 : (10 + (i2 7449)).toInt = (10 : Int32).toInt + (i2 7449).toInt := kd_add (oz251 fi2_7449.1 kn10) (oz563 fi2_7449.2 kn10)
              refine ft_go mi_k207 5 40 [(1, .int l1_2), (0, .ref 116)] [.int (10 + (i2 7449)), .int l1_2] i2 a2 q2 r2 (by rfl) ?_
              refine ft_if mi_k207 (decide (l1_2 < (10 + (i2 7449)))) 53 43 [(1, .int l1_2), (0, .ref 116)] [] (by rfl) (fun c => ?_) (fun c => ?_)
              ·
                have c30 : l1_2.toInt < (10 + (i2 7449)).toInt := kd_lt c; clear c
                refine ft_go mi_k207 10 69 [(2, .int 0), (1, .int l1_2), (0, .ref 116)] [.int l1_2, .ref 131, .int l1_2, .ref 118] i2 a2 q2 r2 (by rfl) ?_
                refine ko_iald3 mi_k207.1 (n := 31) (c := 31) (ax := (0, 0, 0, 0, 0)) (mi_k207.2 _ _ (by rfl)) (by rfl) (ksG131 _ _ _ _) (hL2.I.2.1 131) rfl (oz3 p2_0) (oz228 c11 kn31) ?_
                have r31 : ((l1_2.toInt = 18 → (0 : Int) ≤ ((a2 131).getD l1_2.toNatClampNeg 0).toInt ∧ ((a2 131).getD l1_2.toNatClampNeg 0).toInt ≤ 5)) ∧ ((19 ≤ l1_2.toInt → l1_2.toInt ≤ 24 → (0 : Int) ≤ ((a2 131).getD l1_2.toNatClampNeg 0).toInt ∧ ((a2 131).getD l1_2.toNatClampNeg 0).toInt ≤ 7)) := kE_ncond (p := 131) hL2.I (by decide) (j := l1_2) (oz3 p2_0)
                refine ko_iast3 mi_k207.1 (n := 31) (c := 31) (ax := (0, 0, 0, 0, 0)) (mi_k207.2 _ _ (by rfl)) (by rfl) (ksG118 _ _ _ _) (ksA118 _ _ _ _) (hL2.I.2.1 118) rfl (oz3 p2_0) (oz228 c11 kn31) ?_
                intro a32 ea32 fa32
                have hJ32 := kG_a3 hL2 118 rfl ea32 fa32 (kE_nset (p := 118) (by decide) (oz3 p2_0) (oz573 c25 kn8) (oz574 c25 kn8))
                have s33 : (l1_2 + 1).toInt = l1_2.toInt + (1 : Int32).toInt := kd_add (oz12 p2_0 kn1) (oz233 c11 kn31 kn1)
                refine ft_go mi_k207 2 12 [(1, .int (l1_2 + 1)), (2, .int 0), (0, .ref 116)] [] i2 a32 q2 r2 (by rfl) ?_
                refine ko_perm [(1, .int (l1_2 + 1)), (0, .ref 116)] (List.forall_mem_cons.mpr ⟨(List.Mem.head _), (List.forall_mem_cons.mpr ⟨(List.Mem.tail _ (List.Mem.tail _ (List.Mem.head _))), (fun _ h => absurd h List.not_mem_nil)⟩)⟩) ?_
                exact ih2 _ _ _ _ _ hJ32 (oz14 p2_0 s33 kn1) (kj_meas (oz234 s33 kn1) (oz235 c11 kn31) hm2)
              ·
                have c34 : (10 + (i2 7449)).toInt ≤ l1_2.toInt := kd_ltF c; clear c
                exact (oz575 c28 c34 s29 kn10).elim
    exact lp2 _ _ _ _ _ _ (kG_self _ hG.I hG.R) (oz46 kn0) (Nat.lt_succ_self _)
  ·
    have c35 : (i 7448).toInt = (0 : Int32).toInt := kd_neF c; clear c
    refine ft_go mi_k207 1 9 [(0, .ref 116)] [.int (-5)] i a q r (by rfl) ?_
    exact ft_ret mi_k207 (by rfl) (hP (-5) _ _ _ _ hG trivial)
set_option maxRecDepth 100000 in
theorem kc216_116 {i : Nat → Int32} {a : Nat → List Int32} {q : Nat → List Int64} {r : Nat → Nat} (hI : kI i a q) (hr : kr r) (x1 : Int32) : km 3 216 [.ref 116, .int x1] (ks i a q r) (kPI (ks i a q r) (fun v => True)) := by
  have hG := kG_self kW0 hI hr
  refine km_ofPI (q := (mi_h216, mi_c216)) rfl (by decide) (Nat.le_of_ble_eq_true rfl) ?_
  intro P hP
  have fi_7457 : ((0 : Int) ≤ (i 7457).toInt) ∧ ((i 7457).toInt ≤ 1000) := hG.I.1 7457
  refine ft_go mi_k216 5 8 [(0, .ref 116), (1, .int x1)] [.int (i 7457), .int 24, .int 0, .int x1] i a q r (by rfl) ?_
  have m2 : (((bif decide ((i 7457) < 24) then (i 7457) else 24).toInt ≤ (24 : Int32).toInt) ∧ ((bif decide ((i 7457) < 24) then (i 7457) else 24).toInt ≤ (i 7457).toInt)) ∧ ((bif decide ((i 7457) < 24) then (i 7457) else 24).toInt = (24 : Int32).toInt ∨ (bif decide ((i 7457) < 24) then (i 7457) else 24).toInt = (i 7457).toInt) := kd_min
  refine ft_go mi_k216 1 11 [(0, .ref 116), (1, .int x1)] [.int (bif decide ((i 7457) < 24) then (i 7457) else 24), .int 0, .int x1] i a q r (by rfl) ?_
  generalize (bif decide ((i 7457) < 24) then (i 7457) else 24) = m1 at m2 ⊢
  have s3 : (m1 - 1).toInt = m1.toInt - (1 : Int32).toInt := kd_sub (oz580 fi_7457.1 m2.2 kn24 kn1) (oz581 m2.1.1 kn24 kn1)
  refine ft_go mi_k216 2 13 [(0, .ref 116), (1, .int x1)] [.int (m1 - 1), .int 0, .int x1] i a q r (by rfl) ?_
  refine ko_callPI mi_k216.1 (pc := 13) (ls := [(0, .ref 116), (1, .int x1)]) (st := [.int (m1 - 1), .int 0, .int x1]) (h := ks i a q r) (i := (.invokestatic 119, 3, 131, 0, 9, 0, 379)) (mi_k216.2 _ _ (by rfl)) (ft_invS mi_pq131 (by rfl)) (cy := mi_c131) mi_pq131 rfl (kc131 hG.I hG.R x1 0 (m1 - 1)) (by decide) ?_
  intro vg4 hg4
  rcases hg4 with ⟨eg4, hg4⟩ | ⟨eg4, hg4⟩
  ·
    subst eg4
    have z5 : ((0 : Int32).toInt ≤ x1.toInt) ∧ (x1.toInt ≤ (m1 - 1).toInt) := hg4
    refine ft_go mi_k216 4 24 [(0, .ref 116), (1, .int x1)] [.int x1, .ref 135] i a q r (by rfl) ?_
    refine ko_iald3 mi_k216.1 (n := 24) (c := 24) (ax := (0, 0, 0, 0, 0)) (mi_k216.2 _ _ (by rfl)) (by rfl) (ksG135 _ _ _ _) (hG.I.2.1 135) rfl (oz389 z5.1 kn0) (oz582 m2.1.1 s3 z5.2 kn24 kn1) ?_
    refine ft_go mi_k216 1 29 [(0, .ref 116), (1, .int x1)] [.int ((a 135).getD x1.toNatClampNeg 0)] i a q r (by rfl) ?_
    exact ft_ret mi_k216 (by rfl) (hP ((a 135).getD x1.toNatClampNeg 0) trivial)
  ·
    subst eg4
    have z6 : ¬ (((0 : Int32).toInt ≤ x1.toInt) ∧ (x1.toInt ≤ (m1 - 1).toInt)) := hg4
    refine ft_go mi_k216 2 29 [(0, .ref 116), (1, .int x1)] [.int (-1)] i a q r (by rfl) ?_
    exact ft_ret mi_k216 (by rfl) (hP (-1) trivial)
set_option maxRecDepth 100000 in
theorem kc219_116 {i : Nat → Int32} {a : Nat → List Int32} {q : Nat → List Int64} {r : Nat → Nat} (hI : kI i a q) (hr : kr r) (x1 : Int32) (hp0 : ((0 : Int) ≤ x1.toInt) ∧ (x1.toInt ≤ 5)) : km 3 219 [.ref 116, .int x1] (ks i a q r) (kPI (ks i a q r) (fun v => (v = 1 ∧ (((0 : Int) ≤ ((a 136).getD x1.toNatClampNeg 0).toInt) ∧ (((a 136).getD x1.toNatClampNeg 0).toInt ≤ 4))) ∨ (v = 0 ∧ (¬ (((0 : Int) ≤ ((a 136).getD x1.toNatClampNeg 0).toInt) ∧ (((a 136).getD x1.toNatClampNeg 0).toInt ≤ 4)))))) := by
  have hG := kG_self kW0 hI hr
  refine km_ofPI (q := (mi_h219, mi_c219)) rfl (by decide) (Nat.le_of_ble_eq_true rfl) ?_
  intro P hP
  refine ft_go mi_k219 3 5 [(0, .ref 116), (1, .int x1)] [.int x1, .ref 136] i a q r (by rfl) ?_
  refine ko_iald3 mi_k219.1 (n := 6) (c := 6) (ax := (0, 0, 0, 0, 0)) (mi_k219.2 _ _ (by rfl)) (by rfl) (ksG136 _ _ _ _) (hG.I.2.1 136) rfl (oz3 hp0.1) (oz19 hp0.2) ?_
  have r1 : ((-1 : Int) ≤ ((a 136).getD x1.toNatClampNeg 0).toInt) ∧ (((a 136).getD x1.toNatClampNeg 0).toInt ≤ 59) := hG.I.2.2.1 136 (x1.toNatClampNeg)
  refine ft_go mi_k219 2 8 [(0, .ref 116), (1, .int x1)] [.int 4, .int 0, .int ((a 136).getD x1.toNatClampNeg 0)] i a q r (by rfl) ?_
  refine ko_callPI mi_k219.1 (pc := 8) (ls := [(0, .ref 116), (1, .int x1)]) (st := [.int 4, .int 0, .int ((a 136).getD x1.toNatClampNeg 0)]) (h := ks i a q r) (i := (.invokestatic 119, 3, 131, 0, 9, 0, 379)) (mi_k219.2 _ _ (by rfl)) (ft_invS mi_pq131 (by rfl)) (cy := mi_c131) mi_pq131 rfl (kc131 hG.I hG.R ((a 136).getD x1.toNatClampNeg 0) 0 4) (by decide) ?_
  intro vg2 hg2
  rcases hg2 with ⟨eg2, hg2⟩ | ⟨eg2, hg2⟩
  ·
    subst eg2
    have z3 : ((0 : Int32).toInt ≤ ((a 136).getD x1.toNatClampNeg 0).toInt) ∧ (((a 136).getD x1.toNatClampNeg 0).toInt ≤ (4 : Int32).toInt) := hg2
    exact ft_ret mi_k219 (by rfl) (hP 1 (Or.inl ⟨rfl, (oz600 z3.1 z3.2 kn0 kn4)⟩))
  ·
    subst eg2
    have z4 : ¬ (((0 : Int32).toInt ≤ ((a 136).getD x1.toNatClampNeg 0).toInt) ∧ (((a 136).getD x1.toNatClampNeg 0).toInt ≤ (4 : Int32).toInt)) := hg2
    exact ft_ret mi_k219 (by rfl) (hP 0 (Or.inr ⟨rfl, (oz601 z4 kn0 kn4)⟩))
set_option maxRecDepth 100000 in
theorem kc222_116 {i : Nat → Int32} {a : Nat → List Int32} {q : Nat → List Int64} {r : Nat → Nat} (hI : kI i a q) (hr : kr r) (x1 : Int32) (x2 : Int32) : km 5 222 [.ref 116, .int x1, .int x2] (ks i a q r) (kPL (ks i a q r) (fun v => True)) := by
  have hG := kG_self kW0 hI hr
  refine km_ofPL (q := (mi_h222, mi_c222)) rfl (by decide) (Nat.le_of_ble_eq_true rfl) ?_
  intro P hP
  refine ft_go mi_k222 1 1 [(0, .ref 116), (1, .int x1), (2, .int x2)] [.int x1] i a q r (by rfl) ?_
  refine ko_callPI mi_k222.1 (pc := 1) (ls := [(0, .ref 116), (1, .int x1), (2, .int x2)]) (st := [.int x1]) (h := ks i a q r) (i := (.invokestatic 127, 3, 133, 0, 9, 0, 382)) (mi_k222.2 _ _ (by rfl)) (ft_invS mi_pq133 (by rfl)) (cy := mi_c133) mi_pq133 rfl (kc133 hG.I hG.R x1) (by decide) ?_
  intro vg1 hg1
  rcases hg1 with ⟨eg1, hg1⟩ | ⟨eg1, hg1⟩
  ·
    subst eg1
    have z2 : ((0 : Int) ≤ x1.toInt) ∧ (x1.toInt ≤ 5) := hg1
    refine ft_go mi_k222 3 9 [(0, .ref 116), (1, .int x1), (2, .int x2)] [.int x1, .ref 116] i a q r (by rfl) ?_
    refine ko_callPI mi_k222.1 (pc := 9) (ls := [(0, .ref 116), (1, .int x1), (2, .int x2)]) (st := [.int x1, .ref 116]) (h := ks i a q r) (i := (.invokevirtual 372, 3, 219, 0, 9, 0, 473)) (mi_k222.2 _ _ (by rfl)) (ft_invS mi_pq219 (by rfl)) (cy := mi_c219) mi_pq219 rfl (kc219_116 hG.I hG.R x1 (oz35 z2.1 z2.2)) (by decide) ?_
    intro vg3 hg3
    rcases hg3 with ⟨eg3, hg3⟩ | ⟨eg3, hg3⟩
    ·
      subst eg3
      have r4 : ((-1 : Int) ≤ ((a 136).getD x1.toNatClampNeg 0).toInt) ∧ (((a 136).getD x1.toNatClampNeg 0).toInt ≤ 59) := hG.I.2.2.1 136 (x1.toNatClampNeg)
      have z5 : ((0 : Int) ≤ ((a 136).getD x1.toNatClampNeg 0).toInt) ∧ (((a 136).getD x1.toNatClampNeg 0).toInt ≤ 4) := hg3
      refine ft_go mi_k222 6 22 [(0, .ref 116), (1, .int x1), (2, .int x2)] [.int x1, .ref 137, .int 0, .int x2] i a q r (by rfl) ?_
      refine ko_iald3 mi_k222.1 (n := 6) (c := 6) (ax := (0, 0, 0, 0, 0)) (mi_k222.2 _ _ (by rfl)) (by rfl) (ksG137 _ _ _ _) (hG.I.2.1 137) rfl (oz3 z2.1) (oz19 z2.2) ?_
      have r6 : ((0 : Int) ≤ ((a 137).getD x1.toNatClampNeg 0).toInt) ∧ (((a 137).getD x1.toNatClampNeg 0).toInt ≤ 60) := hG.I.2.2.1 137 (x1.toNatClampNeg)
      have s7 : (((a 137).getD x1.toNatClampNeg 0) - 1).toInt = ((a 137).getD x1.toNatClampNeg 0).toInt - (1 : Int32).toInt := kd_sub (oz47 r6.1 kn1) (oz602 r6.2 kn1)
      refine ft_go mi_k222 2 25 [(0, .ref 116), (1, .int x1), (2, .int x2)] [.int (((a 137).getD x1.toNatClampNeg 0) - 1), .int 0, .int x2] i a q r (by rfl) ?_
      refine ko_callPI mi_k222.1 (pc := 25) (ls := [(0, .ref 116), (1, .int x1), (2, .int x2)]) (st := [.int (((a 137).getD x1.toNatClampNeg 0) - 1), .int 0, .int x2]) (h := ks i a q r) (i := (.invokestatic 119, 3, 131, 0, 9, 0, 379)) (mi_k222.2 _ _ (by rfl)) (ft_invS mi_pq131 (by rfl)) (cy := mi_c131) mi_pq131 rfl (kc131 hG.I hG.R x2 0 (((a 137).getD x1.toNatClampNeg 0) - 1)) (by decide) ?_
      intro vg8 hg8
      rcases hg8 with ⟨eg8, hg8⟩ | ⟨eg8, hg8⟩
      ·
        subst eg8
        have z9 : ((0 : Int32).toInt ≤ x2.toInt) ∧ (x2.toInt ≤ (((a 137).getD x1.toNatClampNeg 0) - 1).toInt) := hg8
        have s10 : (60 * x1).toInt = 60 * x1.toInt := kd_cmul 60 kn60 (oz28 z2.1) (oz29 z2.2)
        have s11 : ((60 * x1) + x2).toInt = (60 * x1).toInt + x2.toInt := kd_add (oz608 s10 z2.1 z9.1 kn0) (oz609 r6.2 s10 s7 z2.2 z9.2 kn1)
        refine ft_go mi_k222 8 41 [(0, .ref 116), (1, .int x1), (2, .int x2)] [.int ((60 * x1) + x2), .ref 138] i a q r (by rfl) ?_
        refine ko_lald2 mi_k222.1 (l := q 138) (n := 360) (c := 360) (ax := (0, 0, 0, 0, 0)) (mi_k222.2 _ _ (by rfl)) (by rfl) (by rfl) (hG.I.2.2.2 138) rfl (oz610 s10 s11 z2.1 z9.1 kn0) (oz611 r6.2 s10 s11 s7 z2.2 z9.2 kn1) ?_
        refine ft_go mi_k222 1 48 [(0, .ref 116), (1, .int x1), (2, .int x2)] [.long ((q 138).getD ((60 * x1) + x2).toNatClampNeg 0)] i a q r (by rfl) ?_
        exact ft_ret mi_k222 (by rfl) (hP ((q 138).getD ((60 * x1) + x2).toNatClampNeg 0) trivial)
      ·
        subst eg8
        have z12 : ¬ (((0 : Int32).toInt ≤ x2.toInt) ∧ (x2.toInt ≤ (((a 137).getD x1.toNatClampNeg 0) - 1).toInt)) := hg8
        refine ft_go mi_k222 2 48 [(0, .ref 116), (1, .int x1), (2, .int x2)] [.long (-9223372036854775808)] i a q r (by rfl) ?_
        exact ft_ret mi_k222 (by rfl) (hP (-9223372036854775808) trivial)
    ·
      subst eg3
      have r13 : ((-1 : Int) ≤ ((a 136).getD x1.toNatClampNeg 0).toInt) ∧ (((a 136).getD x1.toNatClampNeg 0).toInt ≤ 59) := hG.I.2.2.1 136 (x1.toNatClampNeg)
      have z14 : ¬ (((0 : Int) ≤ ((a 136).getD x1.toNatClampNeg 0).toInt) ∧ (((a 136).getD x1.toNatClampNeg 0).toInt ≤ 4)) := hg3
      refine ft_go mi_k222 2 48 [(0, .ref 116), (1, .int x1), (2, .int x2)] [.long (-9223372036854775808)] i a q r (by rfl) ?_
      exact ft_ret mi_k222 (by rfl) (hP (-9223372036854775808) trivial)
  ·
    subst eg1
    have z15 : ¬ (((0 : Int) ≤ x1.toInt) ∧ (x1.toInt ≤ 5)) := hg1
    refine ft_go mi_k222 2 48 [(0, .ref 116), (1, .int x1), (2, .int x2)] [.long (-9223372036854775808)] i a q r (by rfl) ?_
    exact ft_ret mi_k222 (by rfl) (hP (-9223372036854775808) trivial)
set_option maxRecDepth 100000 in
theorem kc208 {i : Nat → Int32} {a : Nat → List Int32} {q : Nat → List Int64} {r : Nat → Nat} (hI : kI i a q) (hr : kr r) (x1 : Int32) : km 1 208 [.int x1] (ks i a q r) (kPI (ks i a q r) (fun v => ((0 : Int) ≤ v.toInt) ∧ (v.toInt ≤ 4) ∧ ((v.toInt < x1.toInt) ∨ (x1.toInt ≤ 0)))) := by
  have hG := kG_self kW0 hI hr
  refine km_ofPI (q := (mi_h208, mi_c208)) rfl (by decide) (Nat.le_of_ble_eq_true rfl) ?_
  intro P hP
  refine ft_go mi_k208 1 1 [(0, .int x1)] [.int x1] i a q r (by rfl) ?_
  by_cases w1 : x1.toInt = 3
  ·
    refine ko_eq (x1 := (1, [(0, .int x1)], [.int 3], (0, 0), ks i a q r)) (by rw [(kj_eq w1 (by decide) : x1 = 3)]) ?_
    refine ft_go mi_k208 2 37 [(0, .int x1)] [.int 2] i a q r (by rfl) ?_
    exact ft_ret mi_k208 (by rfl) (hP 2 (oz650 w1 kn2))
  by_cases w2 : x1.toInt = 4
  ·
    refine ko_eq (x1 := (1, [(0, .int x1)], [.int 4], (0, 0), ks i a q r)) (by rw [(kj_eq w2 (by decide) : x1 = 4)]) ?_
    refine ft_go mi_k208 2 39 [(0, .int x1)] [.int 1] i a q r (by rfl) ?_
    exact ft_ret mi_k208 (by rfl) (hP 1 (oz651 w2 kn1))
  by_cases w3 : x1.toInt = 5
  ·
    refine ko_eq (x1 := (1, [(0, .int x1)], [.int 5], (0, 0), ks i a q r)) (by rw [(kj_eq w3 (by decide) : x1 = 5)]) ?_
    refine ft_go mi_k208 2 41 [(0, .int x1)] [.int 3] i a q r (by rfl) ?_
    exact ft_ret mi_k208 (by rfl) (hP 3 (oz652 w3 kn3))
  by_cases w4 : x1.toInt = 6
  ·
    refine ko_eq (x1 := (1, [(0, .int x1)], [.int 6], (0, 0), ks i a q r)) (by rw [(kj_eq w4 (by decide) : x1 = 6)]) ?_
    refine ft_go mi_k208 2 45 [(0, .int x1)] [.int 0] i a q r (by rfl) ?_
    exact ft_ret mi_k208 (by rfl) (hP 0 (oz653 w4 kn0))
  by_cases w5 : x1.toInt = 7
  ·
    refine ko_eq (x1 := (1, [(0, .int x1)], [.int 7], (0, 0), ks i a q r)) (by rw [(kj_eq w5 (by decide) : x1 = 7)]) ?_
    refine ft_go mi_k208 2 43 [(0, .int x1)] [.int 4] i a q r (by rfl) ?_
    exact ft_ret mi_k208 (by rfl) (hP 4 (oz654 w5 kn4))
  refine ko_sw (ls := [(0, .int x1)]) (r := []) (h := ks i a q r) mi_in208 (v := x1) (i := (.tableswitch 43 3 7 #[35, 37, 39, 43, 41], 35, 0, 0, 0, 0, 0)) (by rfl) rfl (oz655 w1 w2 w3 w4 w5) 44 (by rfl) ?_
  refine ft_go mi_k208 1 45 [(0, .int x1)] [.int 0] i a q r (by rfl) ?_
  exact ft_ret mi_k208 (by rfl) (hP 0 (oz656 kn0))
set_option maxRecDepth 100000 in
theorem kc224_116 {i : Nat → Int32} {a : Nat → List Int32} {q : Nat → List Int64} {r : Nat → Nat} (hI : kI i a q) (hr : kr r) (x1 : Int32) (x2 : Int32) (hE_hold : kHold i a) : km 5 224 [.ref 116, .int x1, .int x2] (ks i a q r) (kPI (ks i a q r) (fun v => True)) := by
  have hG := kG_self kW0 hI hr
  refine km_ofPI (q := (mi_h224, mi_c224)) rfl (by decide) (Nat.le_of_ble_eq_true rfl) ?_
  intro P hP
  refine ft_go mi_k224 1 1 [(0, .ref 116), (1, .int x1), (2, .int x2)] [.int x1] i a q r (by rfl) ?_
  refine ko_callPI mi_k224.1 (pc := 1) (ls := [(0, .ref 116), (1, .int x1), (2, .int x2)]) (st := [.int x1]) (h := ks i a q r) (i := (.invokestatic 127, 3, 133, 0, 9, 0, 382)) (mi_k224.2 _ _ (by rfl)) (ft_invS mi_pq133 (by rfl)) (cy := mi_c133) mi_pq133 rfl (kc133 hG.I hG.R x1) (by decide) ?_
  intro vg1 hg1
  rcases hg1 with ⟨eg1, hg1⟩ | ⟨eg1, hg1⟩
  ·
    subst eg1
    have z2 : ((0 : Int) ≤ x1.toInt) ∧ (x1.toInt ≤ 5) := hg1
    refine ft_go mi_k224 4 11 [(0, .ref 116), (1, .int x1), (2, .int x2)] [.int 7, .int 0, .int x2] i a q r (by rfl) ?_
    refine ko_callPI mi_k224.1 (pc := 11) (ls := [(0, .ref 116), (1, .int x1), (2, .int x2)]) (st := [.int 7, .int 0, .int x2]) (h := ks i a q r) (i := (.invokestatic 119, 3, 131, 0, 9, 0, 379)) (mi_k224.2 _ _ (by rfl)) (ft_invS mi_pq131 (by rfl)) (cy := mi_c131) mi_pq131 rfl (kc131 hG.I hG.R x2 0 7) (by decide) ?_
    intro vg3 hg3
    rcases hg3 with ⟨eg3, hg3⟩ | ⟨eg3, hg3⟩
    ·
      subst eg3
      have z4 : ((0 : Int32).toInt ≤ x2.toInt) ∧ (x2.toInt ≤ (7 : Int32).toInt) := hg3
      refine ft_go mi_k224 4 24 [(0, .ref 116), (1, .int x1), (2, .int x2)] [.int x1, .ref 136] i a q r (by rfl) ?_
      refine ko_iald3 mi_k224.1 (n := 6) (c := 6) (ax := (0, 0, 0, 0, 0)) (mi_k224.2 _ _ (by rfl)) (by rfl) (ksG136 _ _ _ _) (hG.I.2.1 136) rfl (oz3 z2.1) (oz19 z2.2) ?_
      have r5 : ((-1 : Int) ≤ ((a 136).getD x1.toNatClampNeg 0).toInt) ∧ (((a 136).getD x1.toNatClampNeg 0).toInt ≤ 59) := hG.I.2.2.1 136 (x1.toNatClampNeg)
      have r6 : ((a 136).getD x1.toNatClampNeg 0).toInt ≤ 4 ∨ 10 ≤ ((a 136).getD x1.toNatClampNeg 0).toInt := (kHold_of (i1 := i) hE_hold (hG.fa 136 rfl)) (x1.toNatClampNeg)
      refine ft_go mi_k224 1 26 [(0, .ref 116), (1, .int x1), (2, .int x2)] [.int (-1), .int ((a 136).getD x1.toNatClampNeg 0)] i a q r (by rfl) ?_
      refine ft_if mi_k224 (((a 136).getD x1.toNatClampNeg 0) != (-1)) 32 29 [(0, .ref 116), (1, .int x1), (2, .int x2)] [] (by rfl) (fun c => ?_) (fun c => ?_)
      ·
        have c7 : ((a 136).getD x1.toNatClampNeg 0).toInt ≠ ((-1) : Int32).toInt := kd_ne c; clear c
        refine ft_go mi_k224 2 34 [(0, .ref 116), (1, .int x1), (2, .int x2)] [.int x1, .ref 116] i a q r (by rfl) ?_
        refine ko_callPI mi_k224.1 (pc := 34) (ls := [(0, .ref 116), (1, .int x1), (2, .int x2)]) (st := [.int x1, .ref 116]) (h := ks i a q r) (i := (.invokevirtual 372, 3, 219, 0, 9, 0, 473)) (mi_k224.2 _ _ (by rfl)) (ft_invS mi_pq219 (by rfl)) (cy := mi_c219) mi_pq219 rfl (kc219_116 hG.I hG.R x1 (oz35 z2.1 z2.2)) (by decide) ?_
        intro vg8 hg8
        rcases hg8 with ⟨eg8, hg8⟩ | ⟨eg8, hg8⟩
        ·
          subst eg8
          have z9 : ((0 : Int) ≤ ((a 136).getD x1.toNatClampNeg 0).toInt) ∧ (((a 136).getD x1.toNatClampNeg 0).toInt ≤ 4) := hg8
          refine ft_go mi_k224 2 42 [(0, .ref 116), (1, .int x1), (2, .int x2)] [.int (-12)] i a q r (by rfl) ?_
          exact ft_ret mi_k224 (by rfl) (hP (-12) trivial)
        ·
          subst eg8
          have z10 : ¬ (((0 : Int) ≤ ((a 136).getD x1.toNatClampNeg 0).toInt) ∧ (((a 136).getD x1.toNatClampNeg 0).toInt ≤ 4)) := hg8
          refine ft_go mi_k224 6 52 [(0, .ref 116), (1, .int x1), (2, .int x2)] [.int x1, .ref 136, .ref 134] i a q r (by rfl) ?_
          refine ko_iald3 mi_k224.1 (n := 6) (c := 6) (ax := (0, 0, 0, 0, 0)) (mi_k224.2 _ _ (by rfl)) (by rfl) (ksG136 _ _ _ _) (hG.I.2.1 136) rfl (oz3 z2.1) (oz19 z2.2) ?_
          have s11 : (((a 136).getD x1.toNatClampNeg 0) - 10).toInt = ((a 136).getD x1.toNatClampNeg 0).toInt - (10 : Int32).toInt := kd_sub (oz644 r5.1 kn10) (oz645 r5.2 kn10)
          refine ft_go mi_k224 2 56 [(0, .ref 116), (1, .int x1), (2, .int x2)] [.int (((a 136).getD x1.toNatClampNeg 0) - 10), .ref 134] i a q r (by rfl) ?_
          refine ko_iald3 mi_k224.1 (n := 50) (c := 50) (ax := (0, 0, 0, 0, 0)) (mi_k224.2 _ _ (by rfl)) (by rfl) (ksG134 _ _ _ _) (hG.I.2.1 134) rfl (oz646 c7 r5.1 r6 s11 z10 knm1 kn10) (oz647 r5.2 s11 kn10) ?_
          have r12 : ((0 : Int) ≤ ((a 134).getD (((a 136).getD x1.toNatClampNeg 0) - 10).toNatClampNeg 0).toInt) ∧ (((a 134).getD (((a 136).getD x1.toNatClampNeg 0) - 10).toNatClampNeg 0).toInt ≤ 7) := hG.I.2.2.1 134 ((((a 136).getD x1.toNatClampNeg 0) - 10).toNatClampNeg)
          refine ft_go mi_k224 3 61 [(4, .int ((a 134).getD (((a 136).getD x1.toNatClampNeg 0) - 10).toNatClampNeg 0)), (3, .int ((a 134).getD (((a 136).getD x1.toNatClampNeg 0) - 10).toNatClampNeg 0)), (0, .ref 116), (1, .int x1), (2, .int x2)] [] i a q r (by rfl) ?_
          have lp13 : ∀ (nz : Nat) (l4_13 : Int32), ((0 : Int) ≤ l4_13.toInt) ∧ (l4_13.toInt ≤ 7) → (l4_13.toInt).toNat < nz → ko 5 (mi_h224, mi_c224) P (61, [(4, .int l4_13), (3, .int ((a 134).getD (((a 136).getD x1.toNatClampNeg 0) - 10).toNatClampNeg 0)), (0, .ref 116), (1, .int x1), (2, .int x2)], [], (0, 0), ks i a q r) := by
            intro nz
            induction nz with
            | zero =>
              intro _ _ hm
              exact absurd hm (Nat.not_lt_zero _)
            | succ nz ih13 =>
              intro l4_13 p13_0 hm13
              refine ft_go mi_k224 2 64 [(4, .int l4_13), (3, .int ((a 134).getD (((a 136).getD x1.toNatClampNeg 0) - 10).toNatClampNeg 0)), (0, .ref 116), (1, .int x1), (2, .int x2)] [.int x2, .int l4_13] i a q r (by rfl) ?_
              refine ft_if mi_k224 (l4_13 == x2) 82 67 [(4, .int l4_13), (3, .int ((a 134).getD (((a 136).getD x1.toNatClampNeg 0) - 10).toNatClampNeg 0)), (0, .ref 116), (1, .int x1), (2, .int x2)] [] (by rfl) (fun c => ?_) (fun c => ?_)
              ·
                have c14 : l4_13.toInt = x2.toInt := kd_eq c; clear c
                refine ft_go mi_k224 2 85 [(4, .int l4_13), (3, .int ((a 134).getD (((a 136).getD x1.toNatClampNeg 0) - 10).toNatClampNeg 0)), (0, .ref 116), (1, .int x1), (2, .int x2)] [.int x2, .int l4_13] i a q r (by rfl) ?_
                refine ft_if mi_k224 (l4_13 != x2) 92 88 [(4, .int l4_13), (3, .int ((a 134).getD (((a 136).getD x1.toNatClampNeg 0) - 10).toNatClampNeg 0)), (0, .ref 116), (1, .int x1), (2, .int x2)] [] (by rfl) (fun c => ?_) (fun c => ?_)
                ·
                  have c15 : l4_13.toInt ≠ x2.toInt := kd_ne c; clear c
                  exact (oz648 c14 c15).elim
                ·
                  have c16 : l4_13.toInt = x2.toInt := kd_neF c; clear c
                  refine ft_go mi_k224 2 94 [(4, .int l4_13), (3, .int ((a 134).getD (((a 136).getD x1.toNatClampNeg 0) - 10).toNatClampNeg 0)), (0, .ref 116), (1, .int x1), (2, .int x2)] [.int ((a 134).getD (((a 136).getD x1.toNatClampNeg 0) - 10).toNatClampNeg 0)] i a q r (by rfl) ?_
                  exact ft_ret mi_k224 (by rfl) (hP ((a 134).getD (((a 136).getD x1.toNatClampNeg 0) - 10).toNatClampNeg 0) trivial)
              ·
                have c17 : l4_13.toInt ≠ x2.toInt := kd_eqF c; clear c
                refine ft_go mi_k224 1 69 [(4, .int l4_13), (3, .int ((a 134).getD (((a 136).getD x1.toNatClampNeg 0) - 10).toNatClampNeg 0)), (0, .ref 116), (1, .int x1), (2, .int x2)] [.int l4_13] i a q r (by rfl) ?_
                refine ft_if mi_k224 (decide (l4_13 ≤ 0)) 82 72 [(4, .int l4_13), (3, .int ((a 134).getD (((a 136).getD x1.toNatClampNeg 0) - 10).toNatClampNeg 0)), (0, .ref 116), (1, .int x1), (2, .int x2)] [] (by rfl) (fun c => ?_) (fun c => ?_)
                ·
                  have c18 : l4_13.toInt ≤ (0 : Int32).toInt := kd_le c; clear c
                  refine ft_go mi_k224 2 85 [(4, .int l4_13), (3, .int ((a 134).getD (((a 136).getD x1.toNatClampNeg 0) - 10).toNatClampNeg 0)), (0, .ref 116), (1, .int x1), (2, .int x2)] [.int x2, .int l4_13] i a q r (by rfl) ?_
                  refine ft_if mi_k224 (l4_13 != x2) 92 88 [(4, .int l4_13), (3, .int ((a 134).getD (((a 136).getD x1.toNatClampNeg 0) - 10).toNatClampNeg 0)), (0, .ref 116), (1, .int x1), (2, .int x2)] [] (by rfl) (fun c => ?_) (fun c => ?_)
                  ·
                    have c19 : l4_13.toInt ≠ x2.toInt := kd_ne c; clear c
                    refine ft_go mi_k224 1 94 [(4, .int l4_13), (3, .int ((a 134).getD (((a 136).getD x1.toNatClampNeg 0) - 10).toNatClampNeg 0)), (0, .ref 116), (1, .int x1), (2, .int x2)] [.int (-12)] i a q r (by rfl) ?_
                    exact ft_ret mi_k224 (by rfl) (hP (-12) trivial)
                  ·
                    have c20 : l4_13.toInt = x2.toInt := kd_neF c; clear c
                    exact (oz649 c17 c18 c20 z4.1 kn0).elim
                ·
                  have c21 : (0 : Int32).toInt < l4_13.toInt := kd_leF c; clear c
                  refine ft_go mi_k224 1 74 [(4, .int l4_13), (3, .int ((a 134).getD (((a 136).getD x1.toNatClampNeg 0) - 10).toNatClampNeg 0)), (0, .ref 116), (1, .int x1), (2, .int x2)] [.int l4_13] i a q r (by rfl) ?_
                  refine ko_callPI mi_k224.1 (pc := 74) (ls := [(4, .int l4_13), (3, .int ((a 134).getD (((a 136).getD x1.toNatClampNeg 0) - 10).toNatClampNeg 0)), (0, .ref 116), (1, .int x1), (2, .int x2)]) (st := [.int l4_13]) (h := ks i a q r) (i := (.invokestatic 357, 3, 208, 0, 9, 0, 465)) (mi_k224.2 _ _ (by rfl)) (ft_invS mi_pq208 (by rfl)) (cy := mi_c208) mi_pq208 rfl (kc208 hG.I hG.R l4_13) (by decide) ?_
                  intro vg22 hg22
                  have z23 : ((0 : Int) ≤ vg22.toInt) ∧ (vg22.toInt ≤ 4) ∧ ((vg22.toInt < l4_13.toInt) ∨ (l4_13.toInt ≤ 0)) := hg22
                  refine ft_go mi_k224 2 61 [(4, .int vg22), (3, .int ((a 134).getD (((a 136).getD x1.toNatClampNeg 0) - 10).toNatClampNeg 0)), (0, .ref 116), (1, .int x1), (2, .int x2)] [] i a q r (by rfl) ?_
                  exact ih13 _ (oz657 z23.1 z23.2.1) (kj_meas (oz658 c21 z23.2.2 kn0) (oz659 c21 kn0) hm13)
          exact lp13 _ _ (oz181 r12.1 r12.2) (Nat.lt_succ_self _)
      ·
        have c24 : ((a 136).getD x1.toNatClampNeg 0).toInt = ((-1) : Int32).toInt := kd_neF c; clear c
        refine ft_go mi_k224 1 31 [(0, .ref 116), (1, .int x1), (2, .int x2)] [.int (-11)] i a q r (by rfl) ?_
        exact ft_ret mi_k224 (by rfl) (hP (-11) trivial)
    ·
      subst eg3
      have z25 : ¬ (((0 : Int32).toInt ≤ x2.toInt) ∧ (x2.toInt ≤ (7 : Int32).toInt)) := hg3
      refine ft_go mi_k224 2 18 [(0, .ref 116), (1, .int x1), (2, .int x2)] [.int (-1)] i a q r (by rfl) ?_
      exact ft_ret mi_k224 (by rfl) (hP (-1) trivial)
  ·
    subst eg1
    have z26 : ¬ (((0 : Int) ≤ x1.toInt) ∧ (x1.toInt ≤ 5)) := hg1
    refine ft_go mi_k224 2 18 [(0, .ref 116), (1, .int x1), (2, .int x2)] [.int (-1)] i a q r (by rfl) ?_
    exact ft_ret mi_k224 (by rfl) (hP (-1) trivial)
set_option maxRecDepth 100000 in
theorem kc225_116 {i : Nat → Int32} {a : Nat → List Int32} {q : Nat → List Int64} {r : Nat → Nat} (hI : kI i a q) (hr : kr r) (x1 : Int32) : km 1 225 [.ref 116, .int x1] (ks i a q r) (kPI (ks i a q r) (fun v => True)) := by
  have hG := kG_self kW0 hI hr
  refine km_ofPI (q := (mi_h225, mi_c225)) rfl (by decide) (Nat.le_of_ble_eq_true rfl) ?_
  intro P hP
  refine ft_go mi_k225 1 1 [(0, .ref 116), (1, .int x1)] [.int x1] i a q r (by rfl) ?_
  by_cases w1 : x1.toInt = 0
  ·
    refine ko_eq (x1 := (1, [(0, .ref 116), (1, .int x1)], [.int 0], (0, 0), ks i a q r)) (by rw [(kj_eq w1 (by decide) : x1 = 0)]) ?_
    have fi_7424 : ((0 : Int) ≤ (i 7424).toInt) ∧ ((i 7424).toInt ≤ 8) := hG.I.1 7424
    refine ft_go mi_k225 3 44 [(0, .ref 116), (1, .int x1)] [.int (i 7424)] i a q r (by rfl) ?_
    exact ft_ret mi_k225 (by rfl) (hP (i 7424) trivial)
  by_cases w2 : x1.toInt = 1
  ·
    refine ko_eq (x1 := (1, [(0, .ref 116), (1, .int x1)], [.int 1], (0, 0), ks i a q r)) (by rw [(kj_eq w2 (by decide) : x1 = 1)]) ?_
    refine ft_go mi_k225 4 51 [(0, .ref 116), (1, .int x1)] [.int 18, .ref 118] i a q r (by rfl) ?_
    refine ko_iald3 mi_k225.1 (n := 31) (c := 31) (ax := (0, 0, 0, 0, 0)) (mi_k225.2 _ _ (by rfl)) (by rfl) (ksG118 _ _ _ _) (hG.I.2.1 118) rfl (oz195 kn18) (oz196 kn18) ?_
    have r3 : ((0 : Int) ≤ ((a 118).getD (18 : Int32).toNatClampNeg 0).toInt) ∧ (((a 118).getD (18 : Int32).toNatClampNeg 0).toInt ≤ 5) := kE_n18 (p := 118) hG.I (by decide)
    exact ft_ret mi_k225 (by rfl) (hP ((a 118).getD (18 : Int32).toNatClampNeg 0) trivial)
  by_cases w4 : x1.toInt = 2
  ·
    refine ko_eq (x1 := (1, [(0, .ref 116), (1, .int x1)], [.int 2], (0, 0), ks i a q r)) (by rw [(kj_eq w4 (by decide) : x1 = 2)]) ?_
    have fi_7429 : ((0 : Int) ≤ (i 7429).toInt) ∧ ((i 7429).toInt ≤ 120) := hG.I.1 7429
    refine ft_go mi_k225 3 57 [(0, .ref 116), (1, .int x1)] [.int (i 7429)] i a q r (by rfl) ?_
    exact ft_ret mi_k225 (by rfl) (hP (i 7429) trivial)
  by_cases w5 : x1.toInt = 3
  ·
    refine ko_eq (x1 := (1, [(0, .ref 116), (1, .int x1)], [.int 3], (0, 0), ks i a q r)) (by rw [(kj_eq w5 (by decide) : x1 = 3)]) ?_
    have fi_7453 : ((0 : Int) ≤ (i 7453).toInt) ∧ ((i 7453).toInt ≤ 40) := hG.I.1 7453
    refine ft_go mi_k225 3 62 [(0, .ref 116), (1, .int x1)] [.int (i 7453)] i a q r (by rfl) ?_
    exact ft_ret mi_k225 (by rfl) (hP (i 7453) trivial)
  by_cases w6 : x1.toInt = 4
  ·
    refine ko_eq (x1 := (1, [(0, .ref 116), (1, .int x1)], [.int 4], (0, 0), ks i a q r)) (by rw [(kj_eq w6 (by decide) : x1 = 4)]) ?_
    have fi_7455 : ((0 : Int) ≤ (i 7455).toInt) ∧ ((i 7455).toInt ≤ 50) := hG.I.1 7455
    refine ft_go mi_k225 3 67 [(0, .ref 116), (1, .int x1)] [.int (i 7455)] i a q r (by rfl) ?_
    exact ft_ret mi_k225 (by rfl) (hP (i 7455) trivial)
  by_cases w7 : x1.toInt = 5
  ·
    refine ko_eq (x1 := (1, [(0, .ref 116), (1, .int x1)], [.int 5], (0, 0), ks i a q r)) (by rw [(kj_eq w7 (by decide) : x1 = 5)]) ?_
    have fi_7457 : ((0 : Int) ≤ (i 7457).toInt) ∧ ((i 7457).toInt ≤ 1000) := hG.I.1 7457
    refine ft_go mi_k225 3 72 [(0, .ref 116), (1, .int x1)] [.int (i 7457)] i a q r (by rfl) ?_
    exact ft_ret mi_k225 (by rfl) (hP (i 7457) trivial)
  refine ko_sw (ls := [(0, .ref 116), (1, .int x1)]) (r := []) (h := ks i a q r) mi_in225 (v := x1) (i := (.tableswitch 72 0 5 #[39, 44, 52, 57, 62, 67], 39, 0, 0, 0, 0, 0)) (by rfl) rfl (oz660 w1 w2 w4 w5 w6 w7) 73 (by rfl) ?_
  refine ft_go mi_k225 1 74 [(0, .ref 116), (1, .int x1)] [.int (-1)] i a q r (by rfl) ?_
  exact ft_ret mi_k225 (by rfl) (hP (-1) trivial)
def wO : kW := ([7464, 7465, 7466, 7467, 7469, 7476], [118, 128, 129, 139, 141, 142, 143, 144, 145, 146, 147], [], [])
def w184_116_L94 : kW := ([7464, 7465, 7466, 7467, 7469, 7476], [118, 128, 129, 139, 141, 142, 143, 144, 145, 146, 147], [], [])
def w184_116_L12 : kW := ([], [142], [], [])
def w184_116_L64 : kW := ([], [147], [], [])
def kLO_184 (n : Nat) : Prop := ∀ (i : Nat → Int32) (a : Nat → List Int32) (q : Nat → List Int64) (r : Nat → Nat), kI i a q → kr r → ∀ (x1 : Int32) (x2 : Int32) (x3 : Int32), (0 : Int) ≤ x1.toInt → ((0 : Int) ≤ x2.toInt) ∧ (x2.toInt ≤ 255) → ((0 : Int) ≤ x3.toInt) ∧ (x3.toInt ≤ 7) → (x1.toInt + (kbc x2).toInt) ≤ 5 → (kbc x2).toInt = (n : Int) → kCode i a → km (6 * n + 30) 184 [.ref 116, .int x1, .int x2, .int x3] (ks i a q r) (kVN wO i a q r (fun i1 a1 q1 r1 => True))
set_option maxRecDepth 100000 in
theorem kLsO_184 (n : Nat)  (ih : ∀ m, n = m + 1 → kLO_184 m) : kLO_184 n := by
  intro i a q r hI hr x1 x2 x3 hp0 hp1 hp2 hp3 hp4 hE_code
  have hG := kG_self wO hI hr
  refine km_ofN (q := (mi_h184, mi_c184)) rfl (by decide) (Nat.le_of_ble_eq_true rfl) ?_
  intro P hP
  have hn0 : (0 : Int) ≤ (n : Int) := Int.natCast_nonneg n
  refine ft_go mi_k184 1 1 [(0, .ref 116), (1, .int x1), (2, .int x2), (3, .int x3)] [.int x2] i a q r (by rfl) ?_
  refine ft_if mi_k184 (x2 != 0) 91 4 [(0, .ref 116), (1, .int x1), (2, .int x2), (3, .int x3)] [] (by rfl) (fun c => ?_) (fun c => ?_)
  ·
    have c1 : x2.toInt ≠ (0 : Int32).toInt := kd_ne c; clear c
    have kb2 : (1 : Int) ≤ (kbc x2).toInt := kbc_pos (oz3 hp1.1) (oz661 hp1.2) (oz662 c1 hp1.1 kn0)
    refine ft_go mi_k184 2 94 [(4, .int 0), (0, .ref 116), (1, .int x1), (2, .int x2), (3, .int x3)] [] i a q r (by rfl) ?_
    have lp3 : ∀ (nz : Nat) (i3 : Nat → Int32) (a3 : Nat → List Int32) (q3 : Nat → List Int64) (r3 : Nat → Nat) (l4_3 : Int32), kG w184_116_L94 i a q r i3 a3 q3 r3 → (0 : Int) ≤ l4_3.toInt → (((i3 7424).toInt - l4_3.toInt)).toNat < nz → ko (6 * n + 30) (mi_h184, mi_c184) P (94, [(4, .int l4_3), (0, .ref 116), (1, .int x1), (2, .int x2), (3, .int x3)], [], (0, 0), ks i3 a3 q3 r3) := by
      intro nz
      induction nz with
      | zero =>
        intro _ _ _ _ _ _ _ hm
        exact absurd hm (Nat.not_lt_zero _)
      | succ nz ih3 =>
        intro i3 a3 q3 r3 l4_3 hL3 p3_0 hm3
        have fi3_7424 : ((0 : Int) ≤ (i3 7424).toInt) ∧ ((i3 7424).toInt ≤ 8) := hL3.I.1 7424
        have fi_7424 : ((0 : Int) ≤ (i 7424).toInt) ∧ ((i 7424).toInt ≤ 8) := hG.I.1 7424
        have efi3_7424 : (i3 7424).toInt = (i 7424).toInt := hL3.ti 7424 rfl
        refine ft_go mi_k184 3 100 [(4, .int l4_3), (0, .ref 116), (1, .int x1), (2, .int x2), (3, .int x3)] [.int (i3 7424), .int l4_3] i3 a3 q3 r3 (by rfl) ?_
        refine ft_if mi_k184 (decide ((i3 7424) ≤ l4_3)) 145 103 [(4, .int l4_3), (0, .ref 116), (1, .int x1), (2, .int x2), (3, .int x3)] [] (by rfl) (fun c => ?_) (fun c => ?_)
        ·
          have c4 : (i3 7424).toInt ≤ l4_3.toInt := kd_le c; clear c
          have hG5 := kG_call hG hL3 (by decide +kernel)
          exact ft_ret mi_k184 (by rfl) (hP  _ _ _ _ hG5 trivial)
        ·
          have c6 : l4_3.toInt < (i3 7424).toInt := kd_leF c; clear c
          refine ft_go mi_k184 5 109 [(4, .int l4_3), (0, .ref 116), (1, .int x1), (2, .int x2), (3, .int x3)] [.int ((x2 >>> (l4_3 &&& 31)) &&& 1)] i3 a3 q3 r3 (by rfl) ?_
          refine ft_if mi_k184 (((x2 >>> (l4_3 &&& 31)) &&& 1) != 0) 115 112 [(4, .int l4_3), (0, .ref 116), (1, .int x1), (2, .int x2), (3, .int x3)] [] (by rfl) (fun c => ?_) (fun c => ?_)
          ·
            have c7 : ((x2 >>> (l4_3 &&& 31)) &&& 1).toInt ≠ (0 : Int32).toInt := kd_ne c; clear c
            have ks8 : ((kbc (x2 &&& ((1 <<< (l4_3 &&& 31)) ^^^ (-1)))).toInt = (kbc x2).toInt - 1) ∧ ((0 : Int) ≤ (x2 &&& ((1 <<< (l4_3 &&& 31)) ^^^ (-1))).toInt) ∧ ((x2 &&& ((1 <<< (l4_3 &&& 31)) ^^^ (-1))).toInt ≤ 255) := kbc_step (oz3 hp1.1) (oz661 hp1.2) (oz3 p3_0) (oz512 c6 fi3_7424.2) (oz295 c7 kn0)
            refine ft_go mi_k184 4 122 [(4, .int l4_3), (0, .ref 116), (1, .int x1), (2, .int x2), (3, .int x3)] [.int l4_3, .int x1, .ref 146] i3 a3 q3 r3 (by rfl) ?_
            refine ko_iast3 mi_k184.1 (n := 5) (c := 5) (ax := (0, 0, 0, 0, 0)) (mi_k184.2 _ _ (by rfl)) (by rfl) (ksG146 _ _ _ _) (ksA146 _ _ _ _) (hL3.I.2.1 146) rfl (oz3 hp0) (oz663 hp3 kb2) ?_
            intro a9 ea9 fa9
            have hJ9 := kG_a3 hL3 146 rfl ea9 fa9 ⟨(oz3 p3_0), (oz512 c6 fi3_7424.2)⟩
            have s10 : (x1 + 1).toInt = x1.toInt + (1 : Int32).toInt := kd_add (oz12 hp0 kn1) (oz664 hp3 kb2 kn1)
            have s11 : ((1 : Int) ≤ (1 <<< (l4_3 &&& 31)).toInt) ∧ ((1 <<< (l4_3 &&& 31)).toInt ≤ 256) := kd_shl1 (oz3 p3_0) (oz513 c6 fi3_7424.2)
            refine ft_go mi_k184 12 136 [(4, .int l4_3), (0, .ref 116), (1, .int x1), (2, .int x2), (3, .int x3)] [.int x3, .int (x2 &&& ((1 <<< (l4_3 &&& 31)) ^^^ (-1))), .int (x1 + 1), .ref 116] i3 a9 q3 r3 (by rfl) ?_
            obtain ⟨m, hm, hmI⟩ := kj_pred (oz665 hp4 kb2)
            have hG12 := kG_call hG hJ9 (by decide +kernel)
            refine ko_callN mi_k184.1 (pc := 136) (ls := [(4, .int l4_3), (0, .ref 116), (1, .int x1), (2, .int x2), (3, .int x3)]) (st := [.int x3, .int (x2 &&& ((1 <<< (l4_3 &&& 31)) ^^^ (-1))), .int (x1 + 1), .ref 116]) (h := ks i3 a9 q3 r3) (i := (.invokevirtual 300, 3, 184, 0, 9, 0, 436)) (mi_k184.2 _ _ (by rfl)) (ft_invS mi_pq184 (by rfl)) (cy := mi_c184) mi_pq184 rfl ((ih m hm) _ _ _ _ hJ9.I hJ9.R (x1 + 1) (x2 &&& ((1 <<< (l4_3 &&& 31)) ^^^ (-1))) x3 (oz14 hp0 s10 kn1) (oz666 ks8.2.1 ks8.2.2) (oz181 hp2.1 hp2.2) (oz667 hp3 ks8.1 s10 kn1) (oz668 hmI hp4 ks8.1) (kCode_of (i1 := i3) hE_code (hG12.fi 7432 rfl) (hG12.fa 120 rfl) (hG12.fa 121 rfl) (hG12.fa 122 rfl) (hG12.fa 123 rfl))) (kj_d2 (n := n) (m := m) (o := 30) (o1 := 30) hm (by decide)) ?_
            intro ig13 ag13 qg13 rg13 kg13 hg13
            have hGg13 := kG_call hJ9 kg13 (by decide +kernel)
            have s14 : (l4_3 + 1).toInt = l4_3.toInt + (1 : Int32).toInt := kd_add (oz12 p3_0 kn1) (oz442 c6 fi3_7424.2 kn1)
            refine ft_go mi_k184 2 94 [(4, .int (l4_3 + 1)), (0, .ref 116), (1, .int x1), (2, .int x2), (3, .int x3)] [] ig13 ag13 qg13 rg13 (by rfl) ?_
            have fig13_7424 : ((0 : Int) ≤ (ig13 7424).toInt) ∧ ((ig13 7424).toInt ≤ 8) := hGg13.I.1 7424
            have efig13_7424 : (ig13 7424).toInt = (i3 7424).toInt := kg13.ti 7424 rfl
            exact ih3 _ _ _ _ _ hGg13 (oz14 p3_0 s14 kn1) (kj_meas (oz308 efig13_7424 s14 kn1) (oz45 c6) hm3)
          ·
            have c15 : ((x2 >>> (l4_3 &&& 31)) &&& 1).toInt = (0 : Int32).toInt := kd_neF c; clear c
            have s16 : (l4_3 + 1).toInt = l4_3.toInt + (1 : Int32).toInt := kd_add (oz12 p3_0 kn1) (oz442 c6 fi3_7424.2 kn1)
            refine ft_go mi_k184 3 94 [(4, .int (l4_3 + 1)), (0, .ref 116), (1, .int x1), (2, .int x2), (3, .int x3)] [] i3 a3 q3 r3 (by rfl) ?_
            exact ih3 _ _ _ _ _ hL3 (oz14 p3_0 s16 kn1) (kj_meas (oz44 s16 kn1) (oz45 c6) hm3)
    exact lp3 _ _ _ _ _ _ (kG_self _ hG.I hG.R) (oz46 kn0) (Nat.lt_succ_self _)
  ·
    have c17 : x2.toInt = (0 : Int32).toInt := kd_neF c; clear c
    have hJ18 := kG_i hG 7469 rfl (v := x1) ⟨(oz3 hp0), (oz669 hn0 hp3 hp4)⟩
    refine ft_go mi_k184 5 12 [(4, .int 0), (0, .ref 116), (1, .int x1), (2, .int x2), (3, .int x3)] [] (ku i 7469 x1) a q r (by rfl) ?_
    have lp19 : ∀ (nz : Nat) (i19 : Nat → Int32) (a19 : Nat → List Int32) (q19 : Nat → List Int64) (r19 : Nat → Nat) (l4_19 : Int32), kG w184_116_L12 (ku i 7469 x1) a q r i19 a19 q19 r19 → (0 : Int) ≤ l4_19.toInt → ((x1.toInt - l4_19.toInt)).toNat < nz → ko (6 * n + 30) (mi_h184, mi_c184) P (12, [(4, .int l4_19), (0, .ref 116), (1, .int x1), (2, .int x2), (3, .int x3)], [], (0, 0), ks i19 a19 q19 r19) := by
      intro nz
      induction nz with
      | zero =>
        intro _ _ _ _ _ _ _ hm
        exact absurd hm (Nat.not_lt_zero _)
      | succ nz ih19 =>
        intro i19 a19 q19 r19 l4_19 hL19 p19_0 hm19
        refine ft_go mi_k184 2 15 [(4, .int l4_19), (0, .ref 116), (1, .int x1), (2, .int x2), (3, .int x3)] [.int x1, .int l4_19] i19 a19 q19 r19 (by rfl) ?_
        refine ft_if mi_k184 (decide (x1 ≤ l4_19)) 38 18 [(4, .int l4_19), (0, .ref 116), (1, .int x1), (2, .int x2), (3, .int x3)] [] (by rfl) (fun c => ?_) (fun c => ?_)
        ·
          have c20 : x1.toInt ≤ l4_19.toInt := kd_le c; clear c
          have hG21 := kG_call hJ18 hL19 (by decide +kernel)
          refine ft_go mi_k184 2 40 [(4, .int l4_19), (0, .ref 116), (1, .int x1), (2, .int x2), (3, .int x3)] [.int x3, .ref 116] i19 a19 q19 r19 (by rfl) ?_
          refine ko_callI mi_k184.1 (pc := 40) (ls := [(4, .int l4_19), (0, .ref 116), (1, .int x1), (2, .int x2), (3, .int x3)]) (st := [.int x3, .ref 116]) (h := ks i19 a19 q19 r19) (i := (.invokevirtual 288, 3, 172, 0, 9, 0, 429)) (mi_k184.2 _ _ (by rfl)) (ft_invS mi_pq172 (by rfl)) (cy := mi_c172) mi_pq172 rfl (kc172_116 hG21.I hG21.R x3 (oz181 hp2.1 hp2.2) (kCode_of (i1 := i19) hE_code (hG21.fi 7432 rfl) (hG21.fa 120 rfl) (hG21.fa 121 rfl) (hG21.fa 122 rfl) (hG21.fa 123 rfl))) (kj_d3 (n := n) (c := 13) (o1 := 30) (by decide)) ?_
          intro vg22 ig22 ag22 qg22 rg22 kg22 hg22
          have hGg22 := kG_call hG21 kg22 (by decide +kernel)
          have efi19_7476 : (i19 7476).toInt = (i 7476).toInt := hL19.ti 7476 rfl
          have efig22_7476 : (ig22 7476).toInt = (i19 7476).toInt := kg22.ti 7476 rfl
          refine ft_go mi_k184 4 51 [(4, .int vg22), (0, .ref 116), (1, .int x1), (2, .int x2), (3, .int x3)] [.int (ig22 7476), .int vg22] ig22 ag22 qg22 rg22 (by rfl) ?_
          refine ft_if mi_k184 (decide ((ig22 7476) < vg22)) 55 54 [(4, .int vg22), (0, .ref 116), (1, .int x1), (2, .int x2), (3, .int x3)] [] (by rfl) (fun c => ?_) (fun c => ?_)
          ·
            have c23 : (ig22 7476).toInt < vg22.toInt := kd_lt c; clear c
            have hJ24 := kG_i hGg22 7476 rfl (v := vg22) (kd_bd _)
            refine ft_go mi_k184 5 64 [(5, .int 0), (4, .int vg22), (0, .ref 116), (1, .int x1), (2, .int x2), (3, .int x3)] [] (ku ig22 7476 vg22) ag22 qg22 rg22 (by rfl) ?_
            have lp25 : ∀ (nz : Nat) (i25 : Nat → Int32) (a25 : Nat → List Int32) (q25 : Nat → List Int64) (r25 : Nat → Nat) (l5_25 : Int32), kG w184_116_L64 (ku ig22 7476 vg22) ag22 qg22 rg22 i25 a25 q25 r25 → (0 : Int) ≤ l5_25.toInt → ((x1.toInt - l5_25.toInt)).toNat < nz → ko (6 * n + 30) (mi_h184, mi_c184) P (64, [(5, .int l5_25), (4, .int vg22), (0, .ref 116), (1, .int x1), (2, .int x2), (3, .int x3)], [], (0, 0), ks i25 a25 q25 r25) := by
              intro nz
              induction nz with
              | zero =>
                intro _ _ _ _ _ _ _ hm
                exact absurd hm (Nat.not_lt_zero _)
              | succ nz ih25 =>
                intro i25 a25 q25 r25 l5_25 hL25 p25_0 hm25
                refine ft_go mi_k184 2 67 [(5, .int l5_25), (4, .int vg22), (0, .ref 116), (1, .int x1), (2, .int x2), (3, .int x3)] [.int x1, .int l5_25] i25 a25 q25 r25 (by rfl) ?_
                refine ft_if mi_k184 (decide (x1 ≤ l5_25)) 90 70 [(5, .int l5_25), (4, .int vg22), (0, .ref 116), (1, .int x1), (2, .int x2), (3, .int x3)] [] (by rfl) (fun c => ?_) (fun c => ?_)
                ·
                  have c26 : x1.toInt ≤ l5_25.toInt := kd_le c; clear c
                  have hG27 := kG_call hJ24 hL25 (by decide +kernel)
                  exact ft_ret mi_k184 (by rfl) (hP  _ _ _ _ hG27 trivial)
                ·
                  have c28 : l5_25.toInt < x1.toInt := kd_leF c; clear c
                  refine ft_go mi_k184 6 82 [(5, .int l5_25), (4, .int vg22), (0, .ref 116), (1, .int x1), (2, .int x2), (3, .int x3)] [.int l5_25, .ref 146, .int l5_25, .ref 147] i25 a25 q25 r25 (by rfl) ?_
                  refine ko_iald3 mi_k184.1 (n := 5) (c := 5) (ax := (0, 0, 0, 0, 0)) (mi_k184.2 _ _ (by rfl)) (by rfl) (ksG146 _ _ _ _) (hL25.I.2.1 146) rfl (oz3 p25_0) (oz670 c28 hn0 hp3 hp4) ?_
                  have r29 : ((0 : Int) ≤ ((a25 146).getD l5_25.toNatClampNeg 0).toInt) ∧ (((a25 146).getD l5_25.toNatClampNeg 0).toInt ≤ 7) := hL25.I.2.2.1 146 (l5_25.toNatClampNeg)
                  refine ko_iast3 mi_k184.1 (n := 5) (c := 5) (ax := (0, 0, 0, 0, 0)) (mi_k184.2 _ _ (by rfl)) (by rfl) (ksG147 _ _ _ _) (ksA147 _ _ _ _) (hL25.I.2.1 147) rfl (oz3 p25_0) (oz670 c28 hn0 hp3 hp4) ?_
                  intro a30 ea30 fa30
                  have hJ30 := kG_a3 hL25 147 rfl ea30 fa30 (kd_bd _)
                  have s31 : (l5_25 + 1).toInt = l5_25.toInt + (1 : Int32).toInt := kd_add (oz12 p25_0 kn1) (oz671 c28 hn0 hp3 hp4 kn1)
                  refine ft_go mi_k184 2 64 [(5, .int (l5_25 + 1)), (4, .int vg22), (0, .ref 116), (1, .int x1), (2, .int x2), (3, .int x3)] [] i25 a30 q25 r25 (by rfl) ?_
                  exact ih25 _ _ _ _ _ hJ30 (oz14 p25_0 s31 kn1) (kj_meas (oz44 s31 kn1) (oz45 c28) hm25)
            exact lp25 _ _ _ _ _ _ (kG_self _ hJ24.I hJ24.R) (oz46 kn0) (Nat.lt_succ_self _)
          ·
            have c32 : vg22.toInt ≤ (ig22 7476).toInt := kd_ltF c; clear c
            exact ft_ret mi_k184 (by rfl) (hP  _ _ _ _ hGg22 trivial)
        ·
          have c33 : l4_19.toInt < x1.toInt := kd_leF c; clear c
          refine ft_go mi_k184 6 30 [(4, .int l4_19), (0, .ref 116), (1, .int x1), (2, .int x2), (3, .int x3)] [.int l4_19, .ref 146, .int l4_19, .ref 142] i19 a19 q19 r19 (by rfl) ?_
          refine ko_iald3 mi_k184.1 (n := 5) (c := 5) (ax := (0, 0, 0, 0, 0)) (mi_k184.2 _ _ (by rfl)) (by rfl) (ksG146 _ _ _ _) (hL19.I.2.1 146) rfl (oz3 p19_0) (oz670 c33 hn0 hp3 hp4) ?_
          have r34 : ((0 : Int) ≤ ((a19 146).getD l4_19.toNatClampNeg 0).toInt) ∧ (((a19 146).getD l4_19.toNatClampNeg 0).toInt ≤ 7) := hL19.I.2.2.1 146 (l4_19.toNatClampNeg)
          refine ko_iast3 mi_k184.1 (n := 21) (c := 21) (ax := (0, 0, 0, 0, 0)) (mi_k184.2 _ _ (by rfl)) (by rfl) (ksG142 _ _ _ _) (ksA142 _ _ _ _) (hL19.I.2.1 142) rfl (oz3 p19_0) (oz672 c33 hn0 hp3 hp4) ?_
          intro a35 ea35 fa35
          have hJ35 := kG_a3 hL19 142 rfl ea35 fa35 ⟨(oz3 r34.1), (oz407 r34.2)⟩
          have s36 : (l4_19 + 1).toInt = l4_19.toInt + (1 : Int32).toInt := kd_add (oz12 p19_0 kn1) (oz671 c33 hn0 hp3 hp4 kn1)
          refine ft_go mi_k184 2 12 [(4, .int (l4_19 + 1)), (0, .ref 116), (1, .int x1), (2, .int x2), (3, .int x3)] [] i19 a35 q19 r19 (by rfl) ?_
          exact ih19 _ _ _ _ _ hJ35 (oz14 p19_0 s36 kn1) (kj_meas (oz44 s36 kn1) (oz45 c33) hm19)
    exact lp19 _ _ _ _ _ _ (kG_self _ hJ18.I hJ18.R) (oz46 kn0) (Nat.lt_succ_self _)
theorem kLallO : ∀ n : Nat, kLO_184 n
  | 0 => by
    have ih : ∀ m, 0 = m + 1 → kLO_184 m := fun m h => by omega
    have h184 := kLsO_184 0  ih
    exact h184
  | n + 1 => by
    have ih : ∀ m, n + 1 = m + 1 → kLO_184 m := fun m h => by
      have e : n = m := by omega
      subst e
      exact kLallO n
    have h184 := kLsO_184 (n + 1)  ih
    exact h184
def w168_116_140 : kW := ([], [140], [], [])
def w168_116_140_L2 : kW := ([], [140], [], [])
set_option maxRecDepth 100000 in
theorem kc168_116_140 {i : Nat → Int32} {a : Nat → List Int32} {q : Nat → List Int64} {r : Nat → Nat} (hI : kI i a q) (hr : kr r) (x2 : Int32) (hp0 : ((0 : Int) ≤ x2.toInt) ∧ (x2.toInt ≤ 124)) (hp1 : (x2.toInt % 31) = 0) : km 1 168 [.ref 116, .ref 140, .int x2] (ks i a q r) (kVN w168_116_140 i a q r (fun i1 a1 q1 r1 => True)) := by
  have hG := kG_self w168_116_140 hI hr
  refine km_ofN (q := (mi_h168, mi_c168)) rfl (by decide) (Nat.le_of_ble_eq_true rfl) ?_
  intro P hP
  refine ft_go mi_k168 2 2 [(3, .int 0), (0, .ref 116), (1, .ref 140), (2, .int x2)] [] i a q r (by rfl) ?_
  have lp1 : ∀ (nz : Nat) (i1 : Nat → Int32) (a1 : Nat → List Int32) (q1 : Nat → List Int64) (r1 : Nat → Nat) (l3_1 : Int32), kG w168_116_140_L2 i a q r i1 a1 q1 r1 → (0 : Int) ≤ l3_1.toInt → ((31 - l3_1.toInt)).toNat < nz → ko 1 (mi_h168, mi_c168) P (2, [(3, .int l3_1), (0, .ref 116), (1, .ref 140), (2, .int x2)], [], (0, 0), ks i1 a1 q1 r1) := by
    intro nz
    induction nz with
    | zero =>
      intro _ _ _ _ _ _ _ hm
      exact absurd hm (Nat.not_lt_zero _)
    | succ nz ih1 =>
      intro i1 a1 q1 r1 l3_1 hL1 p1_0 hm1
      refine ft_go mi_k168 2 5 [(3, .int l3_1), (0, .ref 116), (1, .ref 140), (2, .int x2)] [.int 31, .int l3_1] i1 a1 q1 r1 (by rfl) ?_
      refine ft_if mi_k168 (decide (31 ≤ l3_1)) 25 8 [(3, .int l3_1), (0, .ref 116), (1, .ref 140), (2, .int x2)] [] (by rfl) (fun c => ?_) (fun c => ?_)
      ·
        have c2 : (31 : Int32).toInt ≤ l3_1.toInt := kd_le c; clear c
        have hG3 := kG_call hG hL1 (by decide +kernel)
        exact ft_ret mi_k168 (by rfl) (hP  _ _ _ _ hG3 trivial)
      ·
        have c4 : l3_1.toInt < (31 : Int32).toInt := kd_leF c; clear c
        have s5 : (x2 + l3_1).toInt = x2.toInt + l3_1.toInt := kd_add (oz675 hp0.1 p1_0) (oz676 c4 hp0.2 kn31)
        refine ft_go mi_k168 7 17 [(3, .int l3_1), (0, .ref 116), (1, .ref 140), (2, .int x2)] [.int l3_1, .ref 118, .int (x2 + l3_1), .ref 140] i1 a1 q1 r1 (by rfl) ?_
        refine ko_iald3 mi_k168.1 (n := 31) (c := 31) (ax := (0, 0, 0, 0, 0)) (mi_k168.2 _ _ (by rfl)) (by rfl) (ksG118 _ _ _ _) (hL1.I.2.1 118) rfl (oz3 p1_0) (oz228 c4 kn31) ?_
        have r6 : ((l3_1.toInt = 18 → (0 : Int) ≤ ((a1 118).getD l3_1.toNatClampNeg 0).toInt ∧ ((a1 118).getD l3_1.toNatClampNeg 0).toInt ≤ 5)) ∧ ((19 ≤ l3_1.toInt → l3_1.toInt ≤ 24 → (0 : Int) ≤ ((a1 118).getD l3_1.toNatClampNeg 0).toInt ∧ ((a1 118).getD l3_1.toNatClampNeg 0).toInt ≤ 7)) := kE_ncond (p := 118) hL1.I (by decide) (j := l3_1) (oz3 p1_0)
        have u7 : ((a1 118).getD l3_1.toNatClampNeg 0).toInt = ((a 118).getD l3_1.toNatClampNeg 0).toInt := congrArg (fun z : List Int32 => (z.getD l3_1.toNatClampNeg 0).toInt) (hL1.fa 118 rfl)
        refine ko_iast3 mi_k168.1 (n := 155) (c := 155) (ax := (0, 0, 0, 0, 0)) (mi_k168.2 _ _ (by rfl)) (by rfl) (ksG140 _ _ _ _) (ksA140 _ _ _ _) (hL1.I.2.1 140) rfl (oz677 hp0.1 p1_0 s5) (oz678 c4 hp0.2 s5 kn31) ?_
        intro a8 ea8 fa8
        have hJ8 := kG_a3 hL1 140 rfl ea8 fa8 (kE_tset (oz677 hp0.1 p1_0 s5) (by have := kn31; omega) (by have := kn31; omega))
        have s9 : (l3_1 + 1).toInt = l3_1.toInt + (1 : Int32).toInt := kd_add (oz12 p1_0 kn1) (oz233 c4 kn31 kn1)
        refine ft_go mi_k168 2 2 [(3, .int (l3_1 + 1)), (0, .ref 116), (1, .ref 140), (2, .int x2)] [] i1 a8 q1 r1 (by rfl) ?_
        exact ih1 _ _ _ _ _ hJ8 (oz14 p1_0 s9 kn1) (kj_meas (oz234 s9 kn1) (oz235 c4 kn31) hm1)
  exact lp1 _ _ _ _ _ _ (kG_self _ hG.I hG.R) (oz46 kn0) (Nat.lt_succ_self _)
def w169_116_140 : kW := ([], [118], [], [])
def w169_116_140_L2 : kW := ([], [118], [], [])
set_option maxRecDepth 100000 in
theorem kc169_116_140 {i : Nat → Int32} {a : Nat → List Int32} {q : Nat → List Int64} {r : Nat → Nat} (hI : kI i a q) (hr : kr r) (x2 : Int32) (hp0 : ((0 : Int) ≤ x2.toInt) ∧ (x2.toInt ≤ 124)) (hp1 : (x2.toInt % 31) = 0) : km 1 169 [.ref 116, .ref 140, .int x2] (ks i a q r) (kVN w169_116_140 i a q r (fun i1 a1 q1 r1 => True)) := by
  have hG := kG_self w169_116_140 hI hr
  refine km_ofN (q := (mi_h169, mi_c169)) rfl (by decide) (Nat.le_of_ble_eq_true rfl) ?_
  intro P hP
  refine ft_go mi_k169 2 2 [(3, .int 0), (0, .ref 116), (1, .ref 140), (2, .int x2)] [] i a q r (by rfl) ?_
  have lp1 : ∀ (nz : Nat) (i1 : Nat → Int32) (a1 : Nat → List Int32) (q1 : Nat → List Int64) (r1 : Nat → Nat) (l3_1 : Int32), kG w169_116_140_L2 i a q r i1 a1 q1 r1 → (0 : Int) ≤ l3_1.toInt → ((31 - l3_1.toInt)).toNat < nz → ko 1 (mi_h169, mi_c169) P (2, [(3, .int l3_1), (0, .ref 116), (1, .ref 140), (2, .int x2)], [], (0, 0), ks i1 a1 q1 r1) := by
    intro nz
    induction nz with
    | zero =>
      intro _ _ _ _ _ _ _ hm
      exact absurd hm (Nat.not_lt_zero _)
    | succ nz ih1 =>
      intro i1 a1 q1 r1 l3_1 hL1 p1_0 hm1
      refine ft_go mi_k169 2 5 [(3, .int l3_1), (0, .ref 116), (1, .ref 140), (2, .int x2)] [.int 31, .int l3_1] i1 a1 q1 r1 (by rfl) ?_
      refine ft_if mi_k169 (decide (31 ≤ l3_1)) 25 8 [(3, .int l3_1), (0, .ref 116), (1, .ref 140), (2, .int x2)] [] (by rfl) (fun c => ?_) (fun c => ?_)
      ·
        have c2 : (31 : Int32).toInt ≤ l3_1.toInt := kd_le c; clear c
        have hG3 := kG_call hG hL1 (by decide +kernel)
        exact ft_ret mi_k169 (by rfl) (hP  _ _ _ _ hG3 trivial)
      ·
        have c4 : l3_1.toInt < (31 : Int32).toInt := kd_leF c; clear c
        have s5 : (x2 + l3_1).toInt = x2.toInt + l3_1.toInt := kd_add (oz675 hp0.1 p1_0) (oz676 c4 hp0.2 kn31)
        refine ft_go mi_k169 7 17 [(3, .int l3_1), (0, .ref 116), (1, .ref 140), (2, .int x2)] [.int (x2 + l3_1), .ref 140, .int l3_1, .ref 118] i1 a1 q1 r1 (by rfl) ?_
        refine ko_iald3 mi_k169.1 (n := 155) (c := 155) (ax := (0, 0, 0, 0, 0)) (mi_k169.2 _ _ (by rfl)) (by rfl) (ksG140 _ _ _ _) (hL1.I.2.1 140) rfl (oz677 hp0.1 p1_0 s5) (oz678 c4 hp0.2 s5 kn31) ?_
        have r6 : ((((x2 + l3_1).toInt % 31) = 18 → (0 : Int) ≤ ((a1 140).getD (x2 + l3_1).toNatClampNeg 0).toInt ∧ ((a1 140).getD (x2 + l3_1).toNatClampNeg 0).toInt ≤ 5)) ∧ ((19 ≤ ((x2 + l3_1).toInt % 31) → ((x2 + l3_1).toInt % 31) ≤ 24 → (0 : Int) ≤ ((a1 140).getD (x2 + l3_1).toNatClampNeg 0).toInt ∧ ((a1 140).getD (x2 + l3_1).toNatClampNeg 0).toInt ≤ 7)) := kE_tcond hL1.I (j := (x2 + l3_1)) (oz677 hp0.1 p1_0 s5)
        refine ko_iast3 mi_k169.1 (n := 31) (c := 31) (ax := (0, 0, 0, 0, 0)) (mi_k169.2 _ _ (by rfl)) (by rfl) (ksG118 _ _ _ _) (ksA118 _ _ _ _) (hL1.I.2.1 118) rfl (oz3 p1_0) (oz228 c4 kn31) ?_
        intro a7 ea7 fa7
        have hJ7 := kG_a3 hL1 118 rfl ea7 fa7 (kE_nset (p := 118) (by decide) (oz3 p1_0) (by have := kn31; omega) (by have := kn31; omega))
        have s8 : (l3_1 + 1).toInt = l3_1.toInt + (1 : Int32).toInt := kd_add (oz12 p1_0 kn1) (oz233 c4 kn31 kn1)
        refine ft_go mi_k169 2 2 [(3, .int (l3_1 + 1)), (0, .ref 116), (1, .ref 140), (2, .int x2)] [] i1 a7 q1 r1 (by rfl) ?_
        exact ih1 _ _ _ _ _ hJ7 (oz14 p1_0 s8 kn1) (kj_meas (oz234 s8 kn1) (oz235 c4 kn31) hm1)
  exact lp1 _ _ _ _ _ _ (kG_self _ hG.I hG.R) (oz46 kn0) (Nat.lt_succ_self _)
def wU : kW := ([7464, 7465, 7466, 7467], [118, 128, 129, 140, 141], [], [])
def kLU_198 (n : Nat) : Prop := ∀ (i : Nat → Int32) (a : Nat → List Int32) (q : Nat → List Int64) (r : Nat → Nat), kI i a q → kr r → ∀ (x1 : Int32) (x2 : Int32) (x3 : Int32) (x4 : Int32), ((0 : Int) ≤ x1.toInt) ∧ (x1.toInt ≤ x2.toInt) ∧ (x2.toInt ≤ 5) → (x2.toInt - x1.toInt) = (n : Int) → ((0 : Int) ≤ x3.toInt) ∧ (x3.toInt ≤ 7) → ((0 : Int) ≤ x4.toInt) ∧ (x4.toInt ≤ 7) → (x1.toInt + 1) ≤ x2.toInt → kCode i a → km (6 * n + 30) 198 [.ref 116, .int x1, .int x2, .int x3, .int x4] (ks i a q r) (kVI wU i a q r (fun v i1 a1 q1 r1 => True))
def kLU_199 (n : Nat) : Prop := ∀ (i : Nat → Int32) (a : Nat → List Int32) (q : Nat → List Int64) (r : Nat → Nat), kI i a q → kr r → ∀ (x1 : Int32) (x2 : Int32) (x3 : Int32) (x4 : Int32), ((0 : Int) ≤ x1.toInt) ∧ (x1.toInt ≤ x2.toInt) ∧ (x2.toInt ≤ 5) → (x2.toInt - x1.toInt) = (n : Int) → ((0 : Int) ≤ x3.toInt) ∧ (x3.toInt ≤ 7) → ((0 : Int) ≤ x4.toInt) ∧ (x4.toInt ≤ 7) → kCode i a → km (6 * n + 31) 199 [.ref 116, .int x1, .int x2, .int x3, .int x4] (ks i a q r) (kVI wU i a q r (fun v i1 a1 q1 r1 => True))
set_option maxRecDepth 100000 in
theorem kLsU_198 (n : Nat)  (ih : ∀ m, n = m + 1 → kLU_199 m ∧ kLU_198 m) : kLU_198 n := by
  intro i a q r hI hr x1 x2 x3 x4 hp0 hp1 hp2 hp3 hp4 hE_code
  have hG := kG_self wU hI hr
  refine km_ofI (q := (mi_h198, mi_c198)) rfl (by decide) (Nat.le_of_ble_eq_true rfl) ?_
  intro P hP
  have hn0 : (0 : Int) ≤ (n : Int) := Int.natCast_nonneg n
  have s1 : (31 * x1).toInt = 31 * x1.toInt := kd_cmul 31 kn31 (oz673 hp0.1) (oz674 hp0.2.2 hp4)
  refine ft_go mi_k198 6 9 [(0, .ref 116), (1, .int x1), (2, .int x2), (3, .int x3), (4, .int x4)] [.int (31 * x1), .ref 140, .ref 116] i a q r (by rfl) ?_
  refine ko_callN mi_k198.1 (pc := 9) (ls := [(0, .ref 116), (1, .int x1), (2, .int x2), (3, .int x3), (4, .int x4)]) (st := [.int (31 * x1), .ref 140, .ref 116]) (h := ks i a q r) (i := (.invokevirtual 263, 3, 168, 0, 9, 0, 413)) (mi_k198.2 _ _ (by rfl)) (ft_invS mi_pq168 (by rfl)) (cy := mi_c168) mi_pq168 rfl (kc168_116_140 hG.I hG.R (31 * x1) (oz679 hp0.1 hp0.2.2 hp4 s1) (by omega)) (kj_d3 (n := n) (c := 1) (o1 := 30) (by decide)) ?_
  intro ig2 ag2 qg2 rg2 kg2 hg2
  have hGg2 := kG_call hG kg2 (by decide +kernel)
  have s3 : (x1 - x1 / 2 * 2).toInt = (x1.toInt % 2) := kd_rem 2 kn2 (by decide) (oz3 hp0.1)
  refine ft_go mi_k198 4 16 [(0, .ref 116), (1, .int x1), (2, .int x2), (3, .int x3), (4, .int x4)] [.int (x1 - x1 / 2 * 2), .ref 116] ig2 ag2 qg2 rg2 (by rfl) ?_
  refine ft_if mi_k198 ((x1 - x1 / 2 * 2) != 0) 23 19 [(0, .ref 116), (1, .int x1), (2, .int x2), (3, .int x3), (4, .int x4)] [.ref 116] (by rfl) (fun c => ?_) (fun c => ?_)
  ·
    have c4 : (x1 - x1 / 2 * 2).toInt ≠ (0 : Int32).toInt := kd_ne c; clear c
    refine ft_go mi_k198 1 25 [(0, .ref 116), (1, .int x1), (2, .int x2), (3, .int x3), (4, .int x4)] [.int x4, .ref 116] ig2 ag2 qg2 rg2 (by rfl) ?_
    refine ko_callI mi_k198.1 (pc := 25) (ls := [(0, .ref 116), (1, .int x1), (2, .int x2), (3, .int x3), (4, .int x4)]) (st := [.int x4, .ref 116]) (h := ks ig2 ag2 qg2 rg2) (i := (.invokevirtual 260, 3, 166, 0, 9, 0, 415)) (mi_k198.2 _ _ (by rfl)) (ft_invS mi_pq166 (by rfl)) (cy := mi_c166) mi_pq166 rfl (kc166_116 hGg2.I hGg2.R x4 (oz181 hp3.1 hp3.2) (kCode_of (i1 := ig2) hE_code (hGg2.fi 7432 rfl) (hGg2.fa 120 rfl) (hGg2.fa 121 rfl) (hGg2.fa 122 rfl) (hGg2.fa 123 rfl))) (kj_d3 (n := n) (c := 9) (o1 := 30) (by decide)) ?_
    intro vg5 ig5 ag5 qg5 rg5 kg5 hg5
    have hGg5 := kG_call hGg2 kg5 (by decide +kernel)
    rcases hg5 with ⟨eg5, hg5⟩ | ⟨eg5, hg5⟩
    ·
      subst eg5
      have s6 : (x1 + 1).toInt = x1.toInt + (1 : Int32).toInt := kd_add (oz12 hp0.1 kn1) (oz680 hp0.2.2 hp4 kn1)
      refine ft_go mi_k198 8 37 [(0, .ref 116), (1, .int x1), (2, .int x2), (3, .int x3), (4, .int x4)] [.int x4, .int x3, .int x2, .int (x1 + 1), .ref 116] ig5 ag5 qg5 rg5 (by rfl) ?_
      obtain ⟨m, hm, hmI⟩ := kj_pred (oz681 hp1 hp4)
      refine ko_callI mi_k198.1 (pc := 37) (ls := [(0, .ref 116), (1, .int x1), (2, .int x2), (3, .int x3), (4, .int x4)]) (st := [.int x4, .int x3, .int x2, .int (x1 + 1), .ref 116]) (h := ks ig5 ag5 qg5 rg5) (i := (.invokevirtual 333, 3, 199, 0, 9, 0, 451)) (mi_k198.2 _ _ (by rfl)) (ft_invS mi_pq199 (by rfl)) (cy := mi_c199) mi_pq199 rfl ((ih m hm).1 _ _ _ _ hGg5.I hGg5.R (x1 + 1) x2 x3 x4 (oz682 hp0.1 hp0.2.2 hp4 s6 kn1) (oz683 hmI hp1 s6 kn1) (oz181 hp2.1 hp2.2) (oz181 hp3.1 hp3.2) (kCode_of (i1 := ig5) hE_code (hGg5.fi 7432 rfl) (hGg5.fa 120 rfl) (hGg5.fa 121 rfl) (hGg5.fa 122 rfl) (hGg5.fa 123 rfl))) (kj_d2 (n := n) (m := m) (o := 31) (o1 := 30) hm (by decide)) ?_
      intro vg7 ig7 ag7 qg7 rg7 kg7 hg7
      have hGg7 := kG_call hGg5 kg7 (by decide +kernel)
      refine ft_go mi_k198 7 51 [(5, .int vg7), (0, .ref 116), (1, .int x1), (2, .int x2), (3, .int x3), (4, .int x4)] [.int (31 * x1), .ref 140, .ref 116] ig7 ag7 qg7 rg7 (by rfl) ?_
      refine ko_callN mi_k198.1 (pc := 51) (ls := [(5, .int vg7), (0, .ref 116), (1, .int x1), (2, .int x2), (3, .int x3), (4, .int x4)]) (st := [.int (31 * x1), .ref 140, .ref 116]) (h := ks ig7 ag7 qg7 rg7) (i := (.invokevirtual 273, 3, 169, 0, 9, 0, 423)) (mi_k198.2 _ _ (by rfl)) (ft_invS mi_pq169 (by rfl)) (cy := mi_c169) mi_pq169 rfl (kc169_116_140 hGg7.I hGg7.R (31 * x1) (oz679 hp0.1 hp0.2.2 hp4 s1) (by have := kn0; have := kn1; omega)) (kj_d3 (n := n) (c := 1) (o1 := 30) (by decide)) ?_
      intro ig8 ag8 qg8 rg8 kg8 hg8
      have hGg8 := kG_call hGg7 kg8 (by decide +kernel)
      refine ft_go mi_k198 1 56 [(5, .int vg7), (0, .ref 116), (1, .int x1), (2, .int x2), (3, .int x3), (4, .int x4)] [.int vg7] ig8 ag8 qg8 rg8 (by rfl) ?_
      exact ft_ret mi_k198 (by rfl) (hP vg7 _ _ _ _ hGg8 trivial)
    ·
      subst eg5
      have s9 : (x1 + 1).toInt = x1.toInt + (1 : Int32).toInt := kd_add (oz12 hp0.1 kn1) (oz680 hp0.2.2 hp4 kn1)
      refine ft_go mi_k198 8 37 [(0, .ref 116), (1, .int x1), (2, .int x2), (3, .int x3), (4, .int x4)] [.int x4, .int x3, .int x2, .int (x1 + 1), .ref 116] ig5 ag5 qg5 rg5 (by rfl) ?_
      obtain ⟨m, hm, hmI⟩ := kj_pred (oz681 hp1 hp4)
      refine ko_callI mi_k198.1 (pc := 37) (ls := [(0, .ref 116), (1, .int x1), (2, .int x2), (3, .int x3), (4, .int x4)]) (st := [.int x4, .int x3, .int x2, .int (x1 + 1), .ref 116]) (h := ks ig5 ag5 qg5 rg5) (i := (.invokevirtual 333, 3, 199, 0, 9, 0, 451)) (mi_k198.2 _ _ (by rfl)) (ft_invS mi_pq199 (by rfl)) (cy := mi_c199) mi_pq199 rfl ((ih m hm).1 _ _ _ _ hGg5.I hGg5.R (x1 + 1) x2 x3 x4 (oz682 hp0.1 hp0.2.2 hp4 s9 kn1) (oz683 hmI hp1 s9 kn1) (oz181 hp2.1 hp2.2) (oz181 hp3.1 hp3.2) (kCode_of (i1 := ig5) hE_code (hGg5.fi 7432 rfl) (hGg5.fa 120 rfl) (hGg5.fa 121 rfl) (hGg5.fa 122 rfl) (hGg5.fa 123 rfl))) (kj_d2 (n := n) (m := m) (o := 31) (o1 := 30) hm (by decide)) ?_
      intro vg10 ig10 ag10 qg10 rg10 kg10 hg10
      have hGg10 := kG_call hGg5 kg10 (by decide +kernel)
      refine ft_go mi_k198 7 51 [(5, .int vg10), (0, .ref 116), (1, .int x1), (2, .int x2), (3, .int x3), (4, .int x4)] [.int (31 * x1), .ref 140, .ref 116] ig10 ag10 qg10 rg10 (by rfl) ?_
      refine ko_callN mi_k198.1 (pc := 51) (ls := [(5, .int vg10), (0, .ref 116), (1, .int x1), (2, .int x2), (3, .int x3), (4, .int x4)]) (st := [.int (31 * x1), .ref 140, .ref 116]) (h := ks ig10 ag10 qg10 rg10) (i := (.invokevirtual 273, 3, 169, 0, 9, 0, 423)) (mi_k198.2 _ _ (by rfl)) (ft_invS mi_pq169 (by rfl)) (cy := mi_c169) mi_pq169 rfl (kc169_116_140 hGg10.I hGg10.R (31 * x1) (oz679 hp0.1 hp0.2.2 hp4 s1) (by have := kn0; have := kn1; omega)) (kj_d3 (n := n) (c := 1) (o1 := 30) (by decide)) ?_
      intro ig11 ag11 qg11 rg11 kg11 hg11
      have hGg11 := kG_call hGg10 kg11 (by decide +kernel)
      refine ft_go mi_k198 1 56 [(5, .int vg10), (0, .ref 116), (1, .int x1), (2, .int x2), (3, .int x3), (4, .int x4)] [.int vg10] ig11 ag11 qg11 rg11 (by rfl) ?_
      exact ft_ret mi_k198 (by rfl) (hP vg10 _ _ _ _ hGg11 trivial)
  ·
    have c12 : (x1 - x1 / 2 * 2).toInt = (0 : Int32).toInt := kd_neF c; clear c
    refine ft_go mi_k198 2 25 [(0, .ref 116), (1, .int x1), (2, .int x2), (3, .int x3), (4, .int x4)] [.int x3, .ref 116] ig2 ag2 qg2 rg2 (by rfl) ?_
    refine ko_callI mi_k198.1 (pc := 25) (ls := [(0, .ref 116), (1, .int x1), (2, .int x2), (3, .int x3), (4, .int x4)]) (st := [.int x3, .ref 116]) (h := ks ig2 ag2 qg2 rg2) (i := (.invokevirtual 260, 3, 166, 0, 9, 0, 415)) (mi_k198.2 _ _ (by rfl)) (ft_invS mi_pq166 (by rfl)) (cy := mi_c166) mi_pq166 rfl (kc166_116 hGg2.I hGg2.R x3 (oz181 hp2.1 hp2.2) (kCode_of (i1 := ig2) hE_code (hGg2.fi 7432 rfl) (hGg2.fa 120 rfl) (hGg2.fa 121 rfl) (hGg2.fa 122 rfl) (hGg2.fa 123 rfl))) (kj_d3 (n := n) (c := 9) (o1 := 30) (by decide)) ?_
    intro vg13 ig13 ag13 qg13 rg13 kg13 hg13
    have hGg13 := kG_call hGg2 kg13 (by decide +kernel)
    rcases hg13 with ⟨eg13, hg13⟩ | ⟨eg13, hg13⟩
    ·
      subst eg13
      have s14 : (x1 + 1).toInt = x1.toInt + (1 : Int32).toInt := kd_add (oz12 hp0.1 kn1) (oz680 hp0.2.2 hp4 kn1)
      refine ft_go mi_k198 8 37 [(0, .ref 116), (1, .int x1), (2, .int x2), (3, .int x3), (4, .int x4)] [.int x4, .int x3, .int x2, .int (x1 + 1), .ref 116] ig13 ag13 qg13 rg13 (by rfl) ?_
      obtain ⟨m, hm, hmI⟩ := kj_pred (oz681 hp1 hp4)
      refine ko_callI mi_k198.1 (pc := 37) (ls := [(0, .ref 116), (1, .int x1), (2, .int x2), (3, .int x3), (4, .int x4)]) (st := [.int x4, .int x3, .int x2, .int (x1 + 1), .ref 116]) (h := ks ig13 ag13 qg13 rg13) (i := (.invokevirtual 333, 3, 199, 0, 9, 0, 451)) (mi_k198.2 _ _ (by rfl)) (ft_invS mi_pq199 (by rfl)) (cy := mi_c199) mi_pq199 rfl ((ih m hm).1 _ _ _ _ hGg13.I hGg13.R (x1 + 1) x2 x3 x4 (oz682 hp0.1 hp0.2.2 hp4 s14 kn1) (oz683 hmI hp1 s14 kn1) (oz181 hp2.1 hp2.2) (oz181 hp3.1 hp3.2) (kCode_of (i1 := ig13) hE_code (hGg13.fi 7432 rfl) (hGg13.fa 120 rfl) (hGg13.fa 121 rfl) (hGg13.fa 122 rfl) (hGg13.fa 123 rfl))) (kj_d2 (n := n) (m := m) (o := 31) (o1 := 30) hm (by decide)) ?_
      intro vg15 ig15 ag15 qg15 rg15 kg15 hg15
      have hGg15 := kG_call hGg13 kg15 (by decide +kernel)
      refine ft_go mi_k198 7 51 [(5, .int vg15), (0, .ref 116), (1, .int x1), (2, .int x2), (3, .int x3), (4, .int x4)] [.int (31 * x1), .ref 140, .ref 116] ig15 ag15 qg15 rg15 (by rfl) ?_
      refine ko_callN mi_k198.1 (pc := 51) (ls := [(5, .int vg15), (0, .ref 116), (1, .int x1), (2, .int x2), (3, .int x3), (4, .int x4)]) (st := [.int (31 * x1), .ref 140, .ref 116]) (h := ks ig15 ag15 qg15 rg15) (i := (.invokevirtual 273, 3, 169, 0, 9, 0, 423)) (mi_k198.2 _ _ (by rfl)) (ft_invS mi_pq169 (by rfl)) (cy := mi_c169) mi_pq169 rfl (kc169_116_140 hGg15.I hGg15.R (31 * x1) (oz679 hp0.1 hp0.2.2 hp4 s1) (by have := kn0; have := kn1; omega)) (kj_d3 (n := n) (c := 1) (o1 := 30) (by decide)) ?_
      intro ig16 ag16 qg16 rg16 kg16 hg16
      have hGg16 := kG_call hGg15 kg16 (by decide +kernel)
      refine ft_go mi_k198 1 56 [(5, .int vg15), (0, .ref 116), (1, .int x1), (2, .int x2), (3, .int x3), (4, .int x4)] [.int vg15] ig16 ag16 qg16 rg16 (by rfl) ?_
      exact ft_ret mi_k198 (by rfl) (hP vg15 _ _ _ _ hGg16 trivial)
    ·
      subst eg13
      have s17 : (x1 + 1).toInt = x1.toInt + (1 : Int32).toInt := kd_add (oz12 hp0.1 kn1) (oz680 hp0.2.2 hp4 kn1)
      refine ft_go mi_k198 8 37 [(0, .ref 116), (1, .int x1), (2, .int x2), (3, .int x3), (4, .int x4)] [.int x4, .int x3, .int x2, .int (x1 + 1), .ref 116] ig13 ag13 qg13 rg13 (by rfl) ?_
      obtain ⟨m, hm, hmI⟩ := kj_pred (oz681 hp1 hp4)
      refine ko_callI mi_k198.1 (pc := 37) (ls := [(0, .ref 116), (1, .int x1), (2, .int x2), (3, .int x3), (4, .int x4)]) (st := [.int x4, .int x3, .int x2, .int (x1 + 1), .ref 116]) (h := ks ig13 ag13 qg13 rg13) (i := (.invokevirtual 333, 3, 199, 0, 9, 0, 451)) (mi_k198.2 _ _ (by rfl)) (ft_invS mi_pq199 (by rfl)) (cy := mi_c199) mi_pq199 rfl ((ih m hm).1 _ _ _ _ hGg13.I hGg13.R (x1 + 1) x2 x3 x4 (oz682 hp0.1 hp0.2.2 hp4 s17 kn1) (oz683 hmI hp1 s17 kn1) (oz181 hp2.1 hp2.2) (oz181 hp3.1 hp3.2) (kCode_of (i1 := ig13) hE_code (hGg13.fi 7432 rfl) (hGg13.fa 120 rfl) (hGg13.fa 121 rfl) (hGg13.fa 122 rfl) (hGg13.fa 123 rfl))) (kj_d2 (n := n) (m := m) (o := 31) (o1 := 30) hm (by decide)) ?_
      intro vg18 ig18 ag18 qg18 rg18 kg18 hg18
      have hGg18 := kG_call hGg13 kg18 (by decide +kernel)
      refine ft_go mi_k198 7 51 [(5, .int vg18), (0, .ref 116), (1, .int x1), (2, .int x2), (3, .int x3), (4, .int x4)] [.int (31 * x1), .ref 140, .ref 116] ig18 ag18 qg18 rg18 (by rfl) ?_
      refine ko_callN mi_k198.1 (pc := 51) (ls := [(5, .int vg18), (0, .ref 116), (1, .int x1), (2, .int x2), (3, .int x3), (4, .int x4)]) (st := [.int (31 * x1), .ref 140, .ref 116]) (h := ks ig18 ag18 qg18 rg18) (i := (.invokevirtual 273, 3, 169, 0, 9, 0, 423)) (mi_k198.2 _ _ (by rfl)) (ft_invS mi_pq169 (by rfl)) (cy := mi_c169) mi_pq169 rfl (kc169_116_140 hGg18.I hGg18.R (31 * x1) (oz679 hp0.1 hp0.2.2 hp4 s1) (by have := kn0; have := kn1; omega)) (kj_d3 (n := n) (c := 1) (o1 := 30) (by decide)) ?_
      intro ig19 ag19 qg19 rg19 kg19 hg19
      have hGg19 := kG_call hGg18 kg19 (by decide +kernel)
      refine ft_go mi_k198 1 56 [(5, .int vg18), (0, .ref 116), (1, .int x1), (2, .int x2), (3, .int x3), (4, .int x4)] [.int vg18] ig19 ag19 qg19 rg19 (by rfl) ?_
      exact ft_ret mi_k198 (by rfl) (hP vg18 _ _ _ _ hGg19 trivial)
set_option maxRecDepth 100000 in
theorem kLsU_199 (n : Nat) (h198 : kLU_198 n) (ih : ∀ m, n = m + 1 → kLU_199 m ∧ kLU_198 m) : kLU_199 n := by
  intro i a q r hI hr x1 x2 x3 x4 hp0 hp1 hp2 hp3 hE_code
  have hG := kG_self wU hI hr
  refine km_ofI (q := (mi_h199, mi_c199)) rfl (by decide) (Nat.le_of_ble_eq_true rfl) ?_
  intro P hP
  have hn0 : (0 : Int) ≤ (n : Int) := Int.natCast_nonneg n
  refine ft_go mi_k199 2 2 [(0, .ref 116), (1, .int x1), (2, .int x2), (3, .int x3), (4, .int x4)] [.int x2, .int x1] i a q r (by rfl) ?_
  refine ft_if mi_k199 (x1 != x2) 20 5 [(0, .ref 116), (1, .int x1), (2, .int x2), (3, .int x3), (4, .int x4)] [] (by rfl) (fun c => ?_) (fun c => ?_)
  ·
    have c1 : x1.toInt ≠ x2.toInt := kd_ne c; clear c
    have s2 : (x1 + 1).toInt = x1.toInt + (1 : Int32).toInt := kd_add (oz12 hp0.1 kn1) (oz684 hp0.2.1 hp0.2.2 kn1)
    refine ft_go mi_k199 7 28 [(0, .ref 116), (1, .int x1), (2, .int x2), (3, .int x3), (4, .int x4)] [.int x4, .int x3, .int x2, .int (x1 + 1), .ref 116] i a q r (by rfl) ?_
    obtain ⟨m, hm, hmI⟩ := kj_pred (oz685 c1 hn0 hp1)
    refine ko_callI mi_k199.1 (pc := 28) (ls := [(0, .ref 116), (1, .int x1), (2, .int x2), (3, .int x3), (4, .int x4)]) (st := [.int x4, .int x3, .int x2, .int (x1 + 1), .ref 116]) (h := ks i a q r) (i := (.invokevirtual 333, 3, 199, 0, 9, 0, 451)) (mi_k199.2 _ _ (by rfl)) (ft_invS mi_pq199 (by rfl)) (cy := mi_c199) mi_pq199 rfl ((ih m hm).1 _ _ _ _ hG.I hG.R (x1 + 1) x2 x3 x4 (oz686 c1 hp0.1 hp0.2.1 hp0.2.2 s2 kn1) (oz683 hmI hp1 s2 kn1) (oz181 hp2.1 hp2.2) (oz181 hp3.1 hp3.2) (kCode_of (i1 := i) hE_code (hG.fi 7432 rfl) (hG.fa 120 rfl) (hG.fa 121 rfl) (hG.fa 122 rfl) (hG.fa 123 rfl))) (kj_d2 (n := n) (m := m) (o := 31) (o1 := 31) hm (by decide)) ?_
    intro vg3 ig3 ag3 qg3 rg3 kg3 hg3
    have hGg3 := kG_call hG kg3 (by decide +kernel)
    refine ft_go mi_k199 6 39 [(5, .int vg3), (0, .ref 116), (1, .int x1), (2, .int x2), (3, .int x3), (4, .int x4)] [.int x4, .int x3, .int x2, .int x1, .ref 116] ig3 ag3 qg3 rg3 (by rfl) ?_
    refine ko_callI mi_k199.1 (pc := 39) (ls := [(5, .int vg3), (0, .ref 116), (1, .int x1), (2, .int x2), (3, .int x3), (4, .int x4)]) (st := [.int x4, .int x3, .int x2, .int x1, .ref 116]) (h := ks ig3 ag3 qg3 rg3) (i := (.invokevirtual 337, 3, 198, 0, 9, 0, 452)) (mi_k199.2 _ _ (by rfl)) (ft_invS mi_pq198 (by rfl)) (cy := mi_c198) mi_pq198 rfl (h198 _ _ _ _ hGg3.I hGg3.R x1 x2 x3 x4 (oz687 hp0.1 hp0.2.1 hp0.2.2) (oz688 hp1) (oz181 hp2.1 hp2.2) (oz181 hp3.1 hp3.2) (oz689 c1 hp0.2.1) (kCode_of (i1 := ig3) hE_code (hGg3.fi 7432 rfl) (hGg3.fa 120 rfl) (hGg3.fa 121 rfl) (hGg3.fa 122 rfl) (hGg3.fa 123 rfl))) (kj_d1 (n := n) (o := 30) (o1 := 31) (by decide)) ?_
    intro vg4 ig4 ag4 qg4 rg4 kg4 hg4
    have hGg4 := kG_call hGg3 kg4 (by decide +kernel)
    have s5 : (x1 - x1 / 2 * 2).toInt = (x1.toInt % 2) := kd_rem 2 kn2 (by decide) (oz3 hp0.1)
    refine ft_go mi_k199 4 47 [(6, .int vg4), (5, .int vg3), (0, .ref 116), (1, .int x1), (2, .int x2), (3, .int x3), (4, .int x4)] [.int (x1 - x1 / 2 * 2)] ig4 ag4 qg4 rg4 (by rfl) ?_
    refine ft_if mi_k199 ((x1 - x1 / 2 * 2) != 0) 60 50 [(6, .int vg4), (5, .int vg3), (0, .ref 116), (1, .int x1), (2, .int x2), (3, .int x3), (4, .int x4)] [] (by rfl) (fun c => ?_) (fun c => ?_)
    ·
      have c6 : (x1 - x1 / 2 * 2).toInt ≠ (0 : Int32).toInt := kd_ne c; clear c
      refine ft_go mi_k199 2 64 [(6, .int vg4), (5, .int vg3), (0, .ref 116), (1, .int x1), (2, .int x2), (3, .int x3), (4, .int x4)] [.int vg4, .int vg3] ig4 ag4 qg4 rg4 (by rfl) ?_
      have m8 : (((bif decide (vg4 < vg3) then vg4 else vg3).toInt ≤ vg3.toInt) ∧ ((bif decide (vg4 < vg3) then vg4 else vg3).toInt ≤ vg4.toInt)) ∧ ((bif decide (vg4 < vg3) then vg4 else vg3).toInt = vg3.toInt ∨ (bif decide (vg4 < vg3) then vg4 else vg3).toInt = vg4.toInt) := kd_min
      refine ft_go mi_k199 1 67 [(6, .int vg4), (5, .int vg3), (0, .ref 116), (1, .int x1), (2, .int x2), (3, .int x3), (4, .int x4)] [.int (bif decide (vg4 < vg3) then vg4 else vg3)] ig4 ag4 qg4 rg4 (by rfl) ?_
      generalize (bif decide (vg4 < vg3) then vg4 else vg3) = m7 at m8 ⊢
      exact ft_ret mi_k199 (by rfl) (hP m7 _ _ _ _ hGg4 trivial)
    ·
      have c9 : (x1 - x1 / 2 * 2).toInt = (0 : Int32).toInt := kd_neF c; clear c
      refine ft_go mi_k199 2 54 [(6, .int vg4), (5, .int vg3), (0, .ref 116), (1, .int x1), (2, .int x2), (3, .int x3), (4, .int x4)] [.int vg4, .int vg3] ig4 ag4 qg4 rg4 (by rfl) ?_
      have m11 : ((vg3.toInt ≤ (bif decide (vg3 < vg4) then vg4 else vg3).toInt) ∧ (vg4.toInt ≤ (bif decide (vg3 < vg4) then vg4 else vg3).toInt)) ∧ ((bif decide (vg3 < vg4) then vg4 else vg3).toInt = vg3.toInt ∨ (bif decide (vg3 < vg4) then vg4 else vg3).toInt = vg4.toInt) := kd_max
      refine ft_go mi_k199 1 57 [(6, .int vg4), (5, .int vg3), (0, .ref 116), (1, .int x1), (2, .int x2), (3, .int x3), (4, .int x4)] [.int (bif decide (vg3 < vg4) then vg4 else vg3)] ig4 ag4 qg4 rg4 (by rfl) ?_
      generalize (bif decide (vg3 < vg4) then vg4 else vg3) = m10 at m11 ⊢
      refine ft_go mi_k199 1 67 [(6, .int vg4), (5, .int vg3), (0, .ref 116), (1, .int x1), (2, .int x2), (3, .int x3), (4, .int x4)] [.int m10] ig4 ag4 qg4 rg4 (by rfl) ?_
      exact ft_ret mi_k199 (by rfl) (hP m10 _ _ _ _ hGg4 trivial)
  ·
    have c12 : x1.toInt = x2.toInt := kd_neF c; clear c
    refine ft_go mi_k199 3 10 [(0, .ref 116), (1, .int x1), (2, .int x2), (3, .int x3), (4, .int x4)] [.int x3, .ref 118] i a q r (by rfl) ?_
    refine ko_iald3 mi_k199.1 (n := 31) (c := 31) (ax := (0, 0, 0, 0, 0)) (mi_k199.2 _ _ (by rfl)) (by rfl) (ksG118 _ _ _ _) (hG.I.2.1 118) rfl (oz3 hp2.1) (oz65 hp2.2) ?_
    have r13 : ((x3.toInt = 18 → (0 : Int) ≤ ((a 118).getD x3.toNatClampNeg 0).toInt ∧ ((a 118).getD x3.toNatClampNeg 0).toInt ≤ 5)) ∧ ((19 ≤ x3.toInt → x3.toInt ≤ 24 → (0 : Int) ≤ ((a 118).getD x3.toNatClampNeg 0).toInt ∧ ((a 118).getD x3.toNatClampNeg 0).toInt ≤ 7)) := kE_ncond (p := 118) hG.I (by decide) (j := x3) (oz3 hp2.1)
    refine ft_go mi_k199 3 17 [(0, .ref 116), (1, .int x1), (2, .int x2), (3, .int x3), (4, .int x4)] [.int x4, .ref 118, .int ((a 118).getD x3.toNatClampNeg 0)] i a q r (by rfl) ?_
    refine ko_iald3 mi_k199.1 (n := 31) (c := 31) (ax := (0, 0, 0, 0, 0)) (mi_k199.2 _ _ (by rfl)) (by rfl) (ksG118 _ _ _ _) (hG.I.2.1 118) rfl (oz3 hp3.1) (oz65 hp3.2) ?_
    have r14 : ((x4.toInt = 18 → (0 : Int) ≤ ((a 118).getD x4.toNatClampNeg 0).toInt ∧ ((a 118).getD x4.toNatClampNeg 0).toInt ≤ 5)) ∧ ((19 ≤ x4.toInt → x4.toInt ≤ 24 → (0 : Int) ≤ ((a 118).getD x4.toNatClampNeg 0).toInt ∧ ((a 118).getD x4.toNatClampNeg 0).toInt ≤ 7)) := kE_ncond (p := 118) hG.I (by decide) (j := x4) (oz3 hp3.1)
    have b15 : ((-2147483648 : Int) ≤ ((a 118).getD x3.toNatClampNeg 0).toInt) ∧ (((a 118).getD x3.toNatClampNeg 0).toInt ≤ 2147483647) := kd_bd ((a 118).getD x3.toNatClampNeg 0)
    have b16 : ((-2147483648 : Int) ≤ ((a 118).getD x4.toNatClampNeg 0).toInt) ∧ (((a 118).getD x4.toNatClampNeg 0).toInt ≤ 2147483647) := kd_bd ((a 118).getD x4.toNatClampNeg 0)
    refine ft_go mi_k199 1 19 [(0, .ref 116), (1, .int x1), (2, .int x2), (3, .int x3), (4, .int x4)] [.int (((a 118).getD x3.toNatClampNeg 0) - ((a 118).getD x4.toNatClampNeg 0))] i a q r (by rfl) ?_
    exact ft_ret mi_k199 (by rfl) (hP (((a 118).getD x3.toNatClampNeg 0) - ((a 118).getD x4.toNatClampNeg 0)) _ _ _ _ hG trivial)
theorem kLallU : ∀ n : Nat, kLU_199 n ∧ kLU_198 n
  | 0 => by
    have ih : ∀ m, 0 = m + 1 → kLU_199 m ∧ kLU_198 m := fun m h => by omega
    have h198 := kLsU_198 0  ih
    have h199 := kLsU_199 0 h198 ih
    exact ⟨h199, h198⟩
  | n + 1 => by
    have ih : ∀ m, n + 1 = m + 1 → kLU_199 m ∧ kLU_198 m := fun m h => by
      have e : n = m := by omega
      subst e
      exact kLallU n
    have h198 := kLsU_198 (n + 1)  ih
    have h199 := kLsU_199 (n + 1) h198 ih
    exact ⟨h199, h198⟩
set_option maxRecDepth 100000 in
theorem kc226 {i : Nat → Int32} {a : Nat → List Int32} {q : Nat → List Int64} {r : Nat → Nat} (hI : kI i a q) (hr : kr r) (x1 : Int32) : km 1 226 [.int x1] (ks i a q r) (kPI (ks i a q r) (fun v => v.toInt = (kbc x1).toInt)) := by
  refine km_ofPI (q := (mi_h226, mi_c226)) rfl (by decide) (Nat.le_of_ble_eq_true rfl) ?_
  intro P hP
  refine ft_go mi_k226 8 10 [(0, .int (kb1 x1))] [] i a q r (by rfl) ?_
  refine ft_go mi_k226 10 24 [(0, .int (kb2 (kb1 x1)))] [] i a q r (by rfl) ?_
  refine ft_go mi_k226 8 34 [(0, .int (kb3 (kb2 (kb1 x1))))] [] i a q r (by rfl) ?_
  refine ft_go mi_k226 6 41 [(0, .int (kb4 (kb3 (kb2 (kb1 x1)))))] [] i a q r (by rfl) ?_
  refine ft_go mi_k226 6 48 [(0, .int (kb5 (kb4 (kb3 (kb2 (kb1 x1))))))] [] i a q r (by rfl) ?_
  refine ft_go mi_k226 3 52 [(0, .int (kb5 (kb4 (kb3 (kb2 (kb1 x1))))))] [.int (kbc x1)] i a q r (by rfl) ?_
  exact ft_ret mi_k226 (by rfl) (hP (kbc x1) rfl)
def w185_116 : kW := ([7464, 7465, 7466, 7467, 7469, 7476], [118, 128, 129, 139, 141, 142, 143, 144, 145, 146, 147], [], [])
set_option maxRecDepth 100000 in
theorem kc185_116 {i : Nat → Int32} {a : Nat → List Int32} {q : Nat → List Int64} {r : Nat → Nat} (hI : kI i a q) (hr : kr r) (x1 : Int32) (x2 : Int32) (x3 : Int32) (hE_code : kCode i a) : km 63 185 [.ref 116, .int x1, .int x2, .int x3] (ks i a q r) (kVI w185_116 i a q r (fun v i1 a1 q1 r1 => True)) := by
  have hG := kG_self w185_116 hI hr
  refine km_ofI (q := (mi_h185, mi_c185)) rfl (by decide) (Nat.le_of_ble_eq_true rfl) ?_
  intro P hP
  have fi_7424 : ((0 : Int) ≤ (i 7424).toInt) ∧ ((i 7424).toInt ≤ 8) := hG.I.1 7424
  have s1 : ((1 : Int) ≤ (1 <<< ((i 7424) &&& 31)).toInt) ∧ ((1 <<< ((i 7424) &&& 31)).toInt ≤ 256) := kd_shl1 (oz3 fi_7424.1) (oz559 fi_7424.2)
  have s2 : ((1 <<< ((i 7424) &&& 31)) - 1).toInt = (1 <<< ((i 7424) &&& 31)).toInt - (1 : Int32).toInt := kd_sub (oz341 s1.1 kn1) (oz690 s1.2 kn1)
  refine ft_go mi_k185 8 10 [(0, .ref 116), (1, .int x1), (2, .int x2), (3, .int x3)] [.int ((1 <<< ((i 7424) &&& 31)) - 1), .int 0, .int x1] i a q r (by rfl) ?_
  refine ko_callPI mi_k185.1 (pc := 10) (ls := [(0, .ref 116), (1, .int x1), (2, .int x2), (3, .int x3)]) (st := [.int ((1 <<< ((i 7424) &&& 31)) - 1), .int 0, .int x1]) (h := ks i a q r) (i := (.invokestatic 119, 3, 131, 0, 9, 0, 379)) (mi_k185.2 _ _ (by rfl)) (ft_invS mi_pq131 (by rfl)) (cy := mi_c131) mi_pq131 rfl (kc131 hG.I hG.R x1 0 ((1 <<< ((i 7424) &&& 31)) - 1)) (by decide) ?_
  intro vg3 hg3
  rcases hg3 with ⟨eg3, hg3⟩ | ⟨eg3, hg3⟩
  ·
    subst eg3
    have z4 : ((0 : Int32).toInt ≤ x1.toInt) ∧ (x1.toInt ≤ ((1 <<< ((i 7424) &&& 31)) - 1).toInt) := hg3
    refine ft_go mi_k185 3 18 [(0, .ref 116), (1, .int x1), (2, .int x2), (3, .int x3)] [.int x2, .ref 116] i a q r (by rfl) ?_
    refine ko_callPI mi_k185.1 (pc := 18) (ls := [(0, .ref 116), (1, .int x1), (2, .int x2), (3, .int x3)]) (st := [.int x2, .ref 116]) (h := ks i a q r) (i := (.invokevirtual 137, 3, 132, 0, 9, 0, 387)) (mi_k185.2 _ _ (by rfl)) (ft_invS mi_pq132 (by rfl)) (cy := mi_c132) mi_pq132 rfl (kc132_116 hG.I hG.R x2) (by decide) ?_
    intro vg5 hg5
    rcases hg5 with ⟨eg5, hg5⟩ | ⟨eg5, hg5⟩
    ·
      subst eg5
      have z6 : ((0 : Int) ≤ x2.toInt) ∧ (x2.toInt < (i 7424).toInt) := hg5
      refine ft_go mi_k185 3 26 [(0, .ref 116), (1, .int x1), (2, .int x2), (3, .int x3)] [.int (-1), .int x3] i a q r (by rfl) ?_
      refine ft_if mi_k185 (decide ((-1) ≤ x3)) 31 29 [(0, .ref 116), (1, .int x1), (2, .int x2), (3, .int x3)] [] (by rfl) (fun c => ?_) (fun c => ?_)
      ·
        have c7 : ((-1) : Int32).toInt ≤ x3.toInt := kd_le c; clear c
        have kb8 : (0 : Int) ≤ (kbc x1).toInt := kbc_nn (oz389 z4.1 kn0) (oz691 s1.2 s2 z4.2 kn1)
        refine ft_go mi_k185 1 32 [(0, .ref 116), (1, .int x1), (2, .int x2), (3, .int x3)] [.int x1] i a q r (by rfl) ?_
        refine ko_callPI mi_k185.1 (pc := 32) (ls := [(0, .ref 116), (1, .int x1), (2, .int x2), (3, .int x3)]) (st := [.int x1]) (h := ks i a q r) (i := (.invokestatic 303, 3, 226, 0, 9, 0, 435)) (mi_k185.2 _ _ (by rfl)) (ft_invS mi_pq226 (by rfl)) (cy := mi_c226) mi_pq226 rfl (kc226 hG.I hG.R x1) (by decide) ?_
        intro vg9 hg9
        have z10 : vg9.toInt = (kbc x1).toInt := hg9
        refine ft_go mi_k185 1 36 [(0, .ref 116), (1, .int x1), (2, .int x2), (3, .int x3)] [.int 5, .int vg9] i a q r (by rfl) ?_
        refine ft_if mi_k185 (decide (vg9 ≤ 5)) 42 39 [(0, .ref 116), (1, .int x1), (2, .int x2), (3, .int x3)] [] (by rfl) (fun c => ?_) (fun c => ?_)
        ·
          have c11 : vg9.toInt ≤ (5 : Int32).toInt := kd_le c; clear c
          refine ft_go mi_k185 2 44 [(0, .ref 116), (1, .int x1), (2, .int x2), (3, .int x3)] [.int x1, .int x3] i a q r (by rfl) ?_
          refine ko_callPI mi_k185.1 (pc := 44) (ls := [(0, .ref 116), (1, .int x1), (2, .int x2), (3, .int x3)]) (st := [.int x1, .int x3]) (h := ks i a q r) (i := (.invokestatic 303, 3, 226, 0, 9, 0, 435)) (mi_k185.2 _ _ (by rfl)) (ft_invS mi_pq226 (by rfl)) (cy := mi_c226) mi_pq226 rfl (kc226 hG.I hG.R x1) (by decide) ?_
          intro vg12 hg12
          have z13 : vg12.toInt = (kbc x1).toInt := hg12
          refine ft_if mi_k185 (decide (x3 < vg12)) 53 50 [(0, .ref 116), (1, .int x1), (2, .int x2), (3, .int x3)] [] (by rfl) (fun c => ?_) (fun c => ?_)
          ·
            have c14 : x3.toInt < vg12.toInt := kd_lt c; clear c
            have hJ15 := kG_i hG 7476 rfl (v := (-1)) (kd_bd _)
            refine ft_go mi_k185 7 62 [(0, .ref 116), (1, .int x1), (2, .int x2), (3, .int x3)] [.int x2, .int x1, .int 0, .ref 116] (ku i 7476 (-1)) a q r (by rfl) ?_
            have nn0 := kn0
            have nn0 := kn0
            refine ko_callN mi_k185.1 (pc := 62) (ls := [(0, .ref 116), (1, .int x1), (2, .int x2), (3, .int x3)]) (st := [.int x2, .int x1, .int 0, .ref 116]) (h := ks (ku i 7476 (-1)) a q r) (i := (.invokevirtual 300, 3, 184, 0, 9, 0, 436)) (mi_k185.2 _ _ (by rfl)) (ft_invS mi_pq184 (by rfl)) (cy := mi_c184) mi_pq184 rfl ((kLallO ((kbc x1).toInt.toNat)) _ _ _ _ hJ15.I hJ15.R 0 x1 x2 (oz46 kn0) (oz692 s1.2 s2 z4.1 z4.2 kn1 kn0) (oz423 fi_7424.2 z6.1 z6.2) (oz693 c11 z10 kn5 kn0) (by have := knm1; have := kn0; have := kn1; have := kn5; omega) (kCode_of (i1 := ku i 7476 (-1)) hE_code (hJ15.fi 7432 rfl) (hJ15.fa 120 rfl) (hJ15.fa 121 rfl) (hJ15.fa 122 rfl) (hJ15.fa 123 rfl))) (by have := kn0; have := kn1; have := kn5; omega) ?_
            intro ig16 ag16 qg16 rg16 kg16 hg16
            have hGg16 := kG_call hJ15 kg16 (by decide +kernel)
            refine ft_go mi_k185 2 67 [(0, .ref 116), (1, .int x1), (2, .int x2), (3, .int x3)] [.int (-1), .int x3] ig16 ag16 qg16 rg16 (by rfl) ?_
            refine ft_if mi_k185 (x3 != (-1)) 77 70 [(0, .ref 116), (1, .int x1), (2, .int x2), (3, .int x3)] [] (by rfl) (fun c => ?_) (fun c => ?_)
            ·
              have c17 : x3.toInt ≠ ((-1) : Int32).toInt := kd_ne c; clear c
              refine ft_go mi_k185 3 82 [(0, .ref 116), (1, .int x1), (2, .int x2), (3, .int x3)] [.int x3, .ref 147] ig16 ag16 qg16 rg16 (by rfl) ?_
              refine ko_iald3 mi_k185.1 (n := 5) (c := 5) (ax := (0, 0, 0, 0, 0)) (mi_k185.2 _ _ (by rfl)) (by rfl) (ksG147 _ _ _ _) (hGg16.I.2.1 147) rfl (oz694 c17 c7 knm1) (oz695 c11 c14 z10 z13 kn5) ?_
              exact ft_ret mi_k185 (by rfl) (hP ((ag16 147).getD x3.toNatClampNeg 0) _ _ _ _ hGg16 trivial)
            ·
              have c18 : x3.toInt = ((-1) : Int32).toInt := kd_neF c; clear c
              refine ft_go mi_k185 3 83 [(0, .ref 116), (1, .int x1), (2, .int x2), (3, .int x3)] [.int (ig16 7476)] ig16 ag16 qg16 rg16 (by rfl) ?_
              exact ft_ret mi_k185 (by rfl) (hP (ig16 7476) _ _ _ _ hGg16 trivial)
          ·
            have c19 : vg12.toInt ≤ x3.toInt := kd_ltF c; clear c
            refine ft_go mi_k185 1 52 [(0, .ref 116), (1, .int x1), (2, .int x2), (3, .int x3)] [.int (-2)] i a q r (by rfl) ?_
            exact ft_ret mi_k185 (by rfl) (hP (-2) _ _ _ _ hG trivial)
        ·
          have c20 : (5 : Int32).toInt < vg9.toInt := kd_leF c; clear c
          refine ft_go mi_k185 1 41 [(0, .ref 116), (1, .int x1), (2, .int x2), (3, .int x3)] [.int (-5)] i a q r (by rfl) ?_
          exact ft_ret mi_k185 (by rfl) (hP (-5) _ _ _ _ hG trivial)
      ·
        have c21 : x3.toInt < ((-1) : Int32).toInt := kd_leF c; clear c
        refine ft_go mi_k185 1 30 [(0, .ref 116), (1, .int x1), (2, .int x2), (3, .int x3)] [.int (-1)] i a q r (by rfl) ?_
        exact ft_ret mi_k185 (by rfl) (hP (-1) _ _ _ _ hG trivial)
    ·
      subst eg5
      have z22 : ¬ (((0 : Int) ≤ x2.toInt) ∧ (x2.toInt < (i 7424).toInt)) := hg5
      refine ft_go mi_k185 2 30 [(0, .ref 116), (1, .int x1), (2, .int x2), (3, .int x3)] [.int (-1)] i a q r (by rfl) ?_
      exact ft_ret mi_k185 (by rfl) (hP (-1) _ _ _ _ hG trivial)
  ·
    subst eg3
    have z23 : ¬ (((0 : Int32).toInt ≤ x1.toInt) ∧ (x1.toInt ≤ ((1 <<< ((i 7424) &&& 31)) - 1).toInt)) := hg3
    refine ft_go mi_k185 2 30 [(0, .ref 116), (1, .int x1), (2, .int x2), (3, .int x3)] [.int (-1)] i a q r (by rfl) ?_
    exact ft_ret mi_k185 (by rfl) (hP (-1) _ _ _ _ hG trivial)
def w200_116 : kW := ([7464, 7465, 7466, 7467], [118, 128, 129, 140, 141], [], [])
set_option maxRecDepth 100000 in
theorem kc200_116 {i : Nat → Int32} {a : Nat → List Int32} {q : Nat → List Int64} {r : Nat → Nat} (hI : kI i a q) (hr : kr r) (x1 : Int32) (x2 : Int32) (x3 : Int32) (hE_code : kCode i a) : km 64 200 [.ref 116, .int x1, .int x2, .int x3] (ks i a q r) (kVI w200_116 i a q r (fun v i1 a1 q1 r1 => True)) := by
  have hG := kG_self w200_116 hI hr
  refine km_ofI (q := (mi_h200, mi_c200)) rfl (by decide) (Nat.le_of_ble_eq_true rfl) ?_
  intro P hP
  refine ft_go mi_k200 2 2 [(0, .ref 116), (1, .int x1), (2, .int x2), (3, .int x3)] [.int x1, .ref 116] i a q r (by rfl) ?_
  refine ko_callPI mi_k200.1 (pc := 2) (ls := [(0, .ref 116), (1, .int x1), (2, .int x2), (3, .int x3)]) (st := [.int x1, .ref 116]) (h := ks i a q r) (i := (.invokevirtual 308, 3, 186, 0, 9, 0, 438)) (mi_k200.2 _ _ (by rfl)) (ft_invS mi_pq186 (by rfl)) (cy := mi_c186) mi_pq186 rfl (kc186_116 hG.I hG.R x1) (by decide) ?_
  intro vg1 hg1
  rcases hg1 with ⟨eg1, hg1⟩ | ⟨eg1, hg1⟩
  ·
    subst eg1
    have fi_7424 : ((0 : Int) ≤ (i 7424).toInt) ∧ ((i 7424).toInt ≤ 8) := hG.I.1 7424
    have z2 : ((0 : Int) ≤ x1.toInt) ∧ (((x1.toInt / 10) < (i 7424).toInt) ∧ ((x1.toInt % 10) < (i 7424).toInt)) ∧ ((x1.toInt / 10) ≠ (x1.toInt % 10)) := hg1
    refine ft_go mi_k200 4 11 [(0, .ref 116), (1, .int x1), (2, .int x2), (3, .int x3)] [.int 5, .int 1, .int x2] i a q r (by rfl) ?_
    refine ko_callPI mi_k200.1 (pc := 11) (ls := [(0, .ref 116), (1, .int x1), (2, .int x2), (3, .int x3)]) (st := [.int 5, .int 1, .int x2]) (h := ks i a q r) (i := (.invokestatic 119, 3, 131, 0, 9, 0, 379)) (mi_k200.2 _ _ (by rfl)) (ft_invS mi_pq131 (by rfl)) (cy := mi_c131) mi_pq131 rfl (kc131 hG.I hG.R x2 1 5) (by decide) ?_
    intro vg3 hg3
    rcases hg3 with ⟨eg3, hg3⟩ | ⟨eg3, hg3⟩
    ·
      subst eg3
      have z4 : ((1 : Int32).toInt ≤ x2.toInt) ∧ (x2.toInt ≤ (5 : Int32).toInt) := hg3
      refine ft_go mi_k200 4 20 [(0, .ref 116), (1, .int x1), (2, .int x2), (3, .int x3)] [.int 1, .int 0, .int x3] i a q r (by rfl) ?_
      refine ko_callPI mi_k200.1 (pc := 20) (ls := [(0, .ref 116), (1, .int x1), (2, .int x2), (3, .int x3)]) (st := [.int 1, .int 0, .int x3]) (h := ks i a q r) (i := (.invokestatic 119, 3, 131, 0, 9, 0, 379)) (mi_k200.2 _ _ (by rfl)) (ft_invS mi_pq131 (by rfl)) (cy := mi_c131) mi_pq131 rfl (kc131 hG.I hG.R x3 0 1) (by decide) ?_
      intro vg5 hg5
      rcases hg5 with ⟨eg5, hg5⟩ | ⟨eg5, hg5⟩
      ·
        subst eg5
        have z6 : ((0 : Int32).toInt ≤ x3.toInt) ∧ (x3.toInt ≤ (1 : Int32).toInt) := hg5
        have s7 : (x1 / 10).toInt = (x1.toInt / 10) := kd_div 10 kn10 (by decide) (oz3 z2.1)
        have s8 : (x1 - x1 / 10 * 10).toInt = (x1.toInt % 10) := kd_rem 10 kn10 (by decide) (oz3 z2.1)
        refine ft_go mi_k200 10 41 [(0, .ref 116), (1, .int x1), (2, .int x2), (3, .int x3)] [.int (x1 - x1 / 10 * 10), .int (x1 / 10), .int x2, .int 1, .ref 116] i a q r (by rfl) ?_
        have nn1 := kn1
        have nn0 := kn0
        refine ko_callI mi_k200.1 (pc := 41) (ls := [(0, .ref 116), (1, .int x1), (2, .int x2), (3, .int x3)]) (st := [.int (x1 - x1 / 10 * 10), .int (x1 / 10), .int x2, .int 1, .ref 116]) (h := ks i a q r) (i := (.invokevirtual 333, 3, 199, 0, 9, 0, 451)) (mi_k200.2 _ _ (by rfl)) (ft_invS mi_pq199 (by rfl)) (cy := mi_c199) mi_pq199 rfl ((kLallU ((x2.toInt - (1 : Int32).toInt).toNat)).1 _ _ _ _ hG.I hG.R 1 x2 (x1 / 10) (x1 - x1 / 10 * 10) (oz696 z4.1 z4.2 kn1 kn5) (by have := kn0; have := kn1; have := kn5; omega) (oz697 fi_7424.2 s7 z2.1 z2.2.1.1 z2.2.1.2 z2.2.2) (oz698 fi_7424.2 s8 z2.2.1.2) (kCode_of (i1 := i) hE_code (hG.fi 7432 rfl) (hG.fa 120 rfl) (hG.fa 121 rfl) (hG.fa 122 rfl) (hG.fa 123 rfl))) (by have := kn0; have := kn1; have := kn5; omega) ?_
        intro vg9 ig9 ag9 qg9 rg9 kg9 hg9
        have hGg9 := kG_call hG kg9 (by decide +kernel)
        refine ft_go mi_k200 10 57 [(4, .int vg9), (0, .ref 116), (1, .int x1), (2, .int x2), (3, .int x3)] [.int (x1 - x1 / 10 * 10), .int (x1 / 10), .int x2, .int 0, .ref 116] ig9 ag9 qg9 rg9 (by rfl) ?_
        have nn0 := kn0
        have nn0 := kn0
        refine ko_callI mi_k200.1 (pc := 57) (ls := [(4, .int vg9), (0, .ref 116), (1, .int x1), (2, .int x2), (3, .int x3)]) (st := [.int (x1 - x1 / 10 * 10), .int (x1 / 10), .int x2, .int 0, .ref 116]) (h := ks ig9 ag9 qg9 rg9) (i := (.invokevirtual 337, 3, 198, 0, 9, 0, 452)) (mi_k200.2 _ _ (by rfl)) (ft_invS mi_pq198 (by rfl)) (cy := mi_c198) mi_pq198 rfl ((kLallU ((x2.toInt - (0 : Int32).toInt).toNat)).2 _ _ _ _ hGg9.I hGg9.R 0 x2 (x1 / 10) (x1 - x1 / 10 * 10) (oz699 z4.1 z4.2 kn1 kn5 kn0) (by have := kn0; have := kn1; have := kn5; omega) (oz697 fi_7424.2 s7 z2.1 z2.2.1.1 z2.2.1.2 z2.2.2) (oz698 fi_7424.2 s8 z2.2.1.2) (oz700 z4.1 kn1 kn0) (kCode_of (i1 := ig9) hE_code (hGg9.fi 7432 rfl) (hGg9.fa 120 rfl) (hGg9.fa 121 rfl) (hGg9.fa 122 rfl) (hGg9.fa 123 rfl))) (by have := kn0; have := kn1; have := kn5; omega) ?_
        intro vg10 ig10 ag10 qg10 rg10 kg10 hg10
        have hGg10 := kG_call hGg9 kg10 (by decide +kernel)
        refine ft_go mi_k200 2 63 [(5, .int vg10), (4, .int vg9), (0, .ref 116), (1, .int x1), (2, .int x2), (3, .int x3)] [.int x3] ig10 ag10 qg10 rg10 (by rfl) ?_
        refine ft_if mi_k200 (x3 != 0) 76 66 [(5, .int vg10), (4, .int vg9), (0, .ref 116), (1, .int x1), (2, .int x2), (3, .int x3)] [] (by rfl) (fun c => ?_) (fun c => ?_)
        ·
          have c11 : x3.toInt ≠ (0 : Int32).toInt := kd_ne c; clear c
          refine ft_go mi_k200 2 80 [(5, .int vg10), (4, .int vg9), (0, .ref 116), (1, .int x1), (2, .int x2), (3, .int x3)] [.int vg9, .int vg10] ig10 ag10 qg10 rg10 (by rfl) ?_
          refine ft_if mi_k200 (decide (vg10 ≤ vg9)) 87 83 [(5, .int vg10), (4, .int vg9), (0, .ref 116), (1, .int x1), (2, .int x2), (3, .int x3)] [] (by rfl) (fun c => ?_) (fun c => ?_)
          ·
            have c12 : vg10.toInt ≤ vg9.toInt := kd_le c; clear c
            refine ft_go mi_k200 1 88 [(5, .int vg10), (4, .int vg9), (0, .ref 116), (1, .int x1), (2, .int x2), (3, .int x3)] [.int 0] ig10 ag10 qg10 rg10 (by rfl) ?_
            exact ft_ret mi_k200 (by rfl) (hP 0 _ _ _ _ hGg10 trivial)
          ·
            have c13 : vg9.toInt < vg10.toInt := kd_leF c; clear c
            refine ft_go mi_k200 2 88 [(5, .int vg10), (4, .int vg9), (0, .ref 116), (1, .int x1), (2, .int x2), (3, .int x3)] [.int 1] ig10 ag10 qg10 rg10 (by rfl) ?_
            exact ft_ret mi_k200 (by rfl) (hP 1 _ _ _ _ hGg10 trivial)
        ·
          have c14 : x3.toInt = (0 : Int32).toInt := kd_neF c; clear c
          refine ft_go mi_k200 2 70 [(5, .int vg10), (4, .int vg9), (0, .ref 116), (1, .int x1), (2, .int x2), (3, .int x3)] [.int vg10, .int vg9] ig10 ag10 qg10 rg10 (by rfl) ?_
          have m16 : ((vg9.toInt ≤ (bif decide (vg9 < vg10) then vg10 else vg9).toInt) ∧ (vg10.toInt ≤ (bif decide (vg9 < vg10) then vg10 else vg9).toInt)) ∧ ((bif decide (vg9 < vg10) then vg10 else vg9).toInt = vg9.toInt ∨ (bif decide (vg9 < vg10) then vg10 else vg9).toInt = vg10.toInt) := kd_max
          refine ft_go mi_k200 1 73 [(5, .int vg10), (4, .int vg9), (0, .ref 116), (1, .int x1), (2, .int x2), (3, .int x3)] [.int (bif decide (vg9 < vg10) then vg10 else vg9)] ig10 ag10 qg10 rg10 (by rfl) ?_
          generalize (bif decide (vg9 < vg10) then vg10 else vg9) = m15 at m16 ⊢
          refine ft_go mi_k200 1 88 [(5, .int vg10), (4, .int vg9), (0, .ref 116), (1, .int x1), (2, .int x2), (3, .int x3)] [.int m15] ig10 ag10 qg10 rg10 (by rfl) ?_
          exact ft_ret mi_k200 (by rfl) (hP m15 _ _ _ _ hGg10 trivial)
      ·
        subst eg5
        have z17 : ¬ (((0 : Int32).toInt ≤ x3.toInt) ∧ (x3.toInt ≤ (1 : Int32).toInt)) := hg5
        refine ft_go mi_k200 2 29 [(0, .ref 116), (1, .int x1), (2, .int x2), (3, .int x3)] [.int (-2000000000)] i a q r (by rfl) ?_
        exact ft_ret mi_k200 (by rfl) (hP (-2000000000) _ _ _ _ hG trivial)
    ·
      subst eg3
      have z18 : ¬ (((1 : Int32).toInt ≤ x2.toInt) ∧ (x2.toInt ≤ (5 : Int32).toInt)) := hg3
      refine ft_go mi_k200 2 29 [(0, .ref 116), (1, .int x1), (2, .int x2), (3, .int x3)] [.int (-2000000000)] i a q r (by rfl) ?_
      exact ft_ret mi_k200 (by rfl) (hP (-2000000000) _ _ _ _ hG trivial)
  ·
    subst eg1
    have fi_7424 : ((0 : Int) ≤ (i 7424).toInt) ∧ ((i 7424).toInt ≤ 8) := hG.I.1 7424
    have z19 : ¬ (((0 : Int) ≤ x1.toInt) ∧ (((x1.toInt / 10) < (i 7424).toInt) ∧ ((x1.toInt % 10) < (i 7424).toInt)) ∧ ((x1.toInt / 10) ≠ (x1.toInt % 10))) := hg1
    refine ft_go mi_k200 2 29 [(0, .ref 116), (1, .int x1), (2, .int x2), (3, .int x3)] [.int (-2000000000)] i a q r (by rfl) ?_
    exact ft_ret mi_k200 (by rfl) (hP (-2000000000) _ _ _ _ hG trivial)
