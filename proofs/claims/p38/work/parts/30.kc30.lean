theorem kn50 : (50 : Int32).toInt = 50 := by decide
theorem kn24 : (24 : Int32).toInt = 24 := by decide
theorem knm14 : ((-14) : Int32).toInt = (-14) := by decide
theorem knm13 : ((-13) : Int32).toInt = (-13) := by decide
theorem kn48 : (48 : Int32).toInt = 48 := by decide
theorem kn57 : (57 : Int32).toInt = 57 := by decide
theorem kn33 : (33 : Int32).toInt = 33 := by decide
theorem kn45 : (45 : Int32).toInt = 45 := by decide
theorem kn41 : (41 : Int32).toInt = 41 := by decide
theorem kn42 : (42 : Int32).toInt = 42 := by decide
theorem kn47 : (47 : Int32).toInt = 47 := by decide
theorem kn37 : (37 : Int32).toInt = 37 := by decide
theorem kn15 : (15 : Int32).toInt = 15 := by decide
theorem kn43 : (43 : Int32).toInt = 43 := by decide
theorem kn61 : (61 : Int32).toInt = 61 := by decide
theorem kn62 : (62 : Int32).toInt = 62 := by decide
theorem kn38 : (38 : Int32).toInt = 38 := by decide
theorem kn124 : (124 : Int32).toInt = 124 := by decide
theorem oz560 {a0 a1 : Int} (h0 : a0 < a1) (h1 : a1 = 5) : a0 < 5 := by omega
theorem oz561 {a0 a1 a2 : Int} (h0 : a0 < a1) (h1 : a1 = 5) (h2 : a2 = 1) : a0 + a2 ≤ 2147483647 := by omega
theorem oz562 {a0 a1 : Int} (h0 : a0 < a1) (h1 : a1 = 5) : (1 : Int) ≤ (5 - a0) := by omega
theorem oz563 {a0 a1 : Int} (h0 : a0 ≤ 8) (h1 : a1 = 10) : a1 + a0 ≤ 2147483647 := by omega
theorem oz564 {a0 a1 a2 a3 a4 : Int} (h0 : a0 < a1) (h1 : a2 ≤ 8) (h2 : a1 = a3 + a2) (h3 : a3 = 10) : a0 = 18 → (0 : Int) ≤ a4 ∧ a4 ≤ 5 := by omega
theorem oz565 {a0 a1 a2 a3 a4 : Int} (h0 : a0 < a1) (h1 : a2 ≤ 8) (h2 : a1 = a3 + a2) (h3 : a3 = 10) : 19 ≤ a0 → a0 ≤ 24 → (0 : Int) ≤ a4 ∧ a4 ≤ 7 := by omega
theorem oz566 {a0 a1 : Int} (h0 : a0 ≤ a1) (h1 : a0 = 18) : (0 : Int) ≤ a1 := by omega
theorem oz567 {a0 a1 a2 : Int} (h0 : a0 ≤ a1) (h1 : (a1 = 18 → (0 : Int) ≤ a2 ∧ a2 ≤ 5)) (h2 : a0 = 18) : a1 = 18 → (0 : Int) ≤ a2 ∧ a2 ≤ 5 := by omega
theorem oz568 {a0 a1 : Int} (h0 : (19 ≤ a0 → a0 ≤ 24 → (0 : Int) ≤ a1 ∧ a1 ≤ 7)) : 19 ≤ a0 → a0 ≤ 24 → (0 : Int) ≤ a1 ∧ a1 ≤ 7 := by omega
theorem oz569 {a0 a1 a2 : Int} (h0 : a0 ≤ a1) (h1 : a0 = 18) (h2 : a2 = 1) : (-2147483648 : Int) ≤ a1 + a2 := by omega
theorem oz570 {a0 a1 a2 a3 : Int} (h0 : a0 ≤ a1) (h1 : a2 = a1 + a3) (h2 : a0 = 18) (h3 : a3 = 1) : (0 : Int) ≤ a2 := by omega
theorem oz571 {a0 a1 a2 a3 a4 : Int} (h0 : a0 ≤ a1) (h1 : (0 : Int) ≤ a2) (h2 : a0 = a3 + a2) (h3 : a3 = 10) (h4 : a4 = 1) : (-2147483648 : Int) ≤ a1 + a4 := by omega
theorem oz572 {a0 a1 a2 a3 a4 a5 : Int} (h0 : a0 ≤ a1) (h1 : (0 : Int) ≤ a2) (h2 : a0 = a3 + a2) (h3 : a4 = a1 + a5) (h4 : a3 = 10) (h5 : a5 = 1) : (0 : Int) ≤ a4 := by omega
theorem oz573 {a0 a1 a2 : Int} (h0 : a0 < a1) (h1 : a1 = 8) : a0 = 18 → (0 : Int) ≤ a2 ∧ a2 ≤ 5 := by omega
theorem oz574 {a0 a1 a2 : Int} (h0 : a0 < a1) (h1 : a1 = 8) : 19 ≤ a0 → a0 ≤ 24 → (0 : Int) ≤ a2 ∧ a2 ≤ 7 := by omega
theorem oz575 {a0 a1 a2 a3 : Int} (h0 : a0 < a1) (h1 : a2 ≤ a0) (h2 : a2 = a3 + a1) (h3 : a3 = 10) : False := by omega
theorem oz580 {a0 a1 a2 a3 : Int} (h0 : (0 : Int) ≤ a0) (h1 : a1 = a2 ∨ a1 = a0) (h2 : a2 = 24) (h3 : a3 = 1) : (-2147483648 : Int) ≤ a1 - a3 := by omega
theorem oz581 {a0 a1 a2 : Int} (h0 : a0 ≤ a1) (h1 : a1 = 24) (h2 : a2 = 1) : a0 - a2 ≤ 2147483647 := by omega
theorem oz582 {a0 a1 a2 a3 a4 : Int} (h0 : a0 ≤ a1) (h1 : a2 = a0 - a3) (h2 : a4 ≤ a2) (h3 : a1 = 24) (h4 : a3 = 1) : a4 < 24 := by omega
theorem oz583 {a0 a1 : Int} (h0 : a0 ≤ 50) (h1 : a1 = 1) : a0 - a1 ≤ 2147483647 := by omega
theorem oz584 {a0 a1 a2 : Int} (h0 : a0 ≤ a1) (h1 : a0 = (-1)) (h2 : a2 = 10) : (-2147483648 : Int) ≤ a2 + a1 := by omega
theorem oz585 {a0 a1 a2 a3 a4 : Int} (h0 : a0 ≤ 50) (h1 : a1 = a0 - a2) (h2 : a3 ≤ a1) (h3 : a2 = 1) (h4 : a4 = 10) : a4 + a3 ≤ 2147483647 := by omega
theorem oz586 {a0 a1 a2 a3 : Int} (h0 : a0 = a1 + a2) (h1 : a3 ≤ a2) (h2 : a1 = 10) (h3 : a3 = (-1)) : (-1 : Int) ≤ a0 := by omega
theorem oz587 {a0 a1 a2 a3 a4 a5 : Int} (h0 : a0 ≤ 50) (h1 : a1 = a0 - a2) (h2 : a3 = a4 + a5) (h3 : a5 ≤ a1) (h4 : a2 = 1) (h5 : a4 = 10) : a3 ≤ 59 := by omega
theorem oz588 {a0 : Int} (h0 : a0 = 0) : a0 ≤ 60 := by omega
theorem oz589 {a0 : Int} (h0 : a0 = (-1)) : (-1 : Int) ≤ a0 := by omega
theorem oz590 {a0 : Int} (h0 : a0 = (-1)) : a0 ≤ 59 := by omega
theorem oz591 {a0 a1 : Int} (h0 : a0 ≤ a1) (h1 : a0 = 0) : (-1 : Int) ≤ a1 := by omega
theorem oz592 {a0 a1 : Int} (h0 : a0 ≤ a1) (h1 : a1 = 4) : a0 ≤ 59 := by omega
theorem oz593 {a0 a1 : Int} (h0 : a0 ≤ a1) (h1 : a1 = 60) : a0 ≤ 60 := by omega
theorem oz594 {a0 a1 a2 : Int} (h0 : (0 : Int) ≤ a0) (h1 : a1 = 60 * a2) (h2 : (0 : Int) ≤ a2) : (-2147483648 : Int) ≤ a1 + a0 := by omega
theorem oz595 {a0 a1 a2 a3 : Int} (h0 : a0 < a1) (h1 : a2 = 60 * a3) (h2 : a3 ≤ 5) (h3 : a1 = 60) : a2 + a0 ≤ 2147483647 := by omega
theorem oz596 {a0 a1 a2 a3 : Int} (h0 : (0 : Int) ≤ a0) (h1 : a1 = 60 * a2) (h2 : a3 = a1 + a0) (h3 : (0 : Int) ≤ a2) : (0 : Int) ≤ a3 := by omega
theorem oz597 {a0 a1 a2 a3 a4 : Int} (h0 : a0 < a1) (h1 : a2 = 60 * a3) (h2 : a4 = a2 + a0) (h3 : a3 ≤ 5) (h4 : a1 = 60) : a4 < 360 := by omega
theorem oz598 {a0 a1 a2 : Int} (h0 : a0 < a1) (h1 : a1 = 60) (h2 : a2 = 1) : a0 + a2 ≤ 2147483647 := by omega
theorem oz599 {a0 a1 : Int} (h0 : a0 < a1) (h1 : a1 = 60) : (1 : Int) ≤ (60 - a0) := by omega
theorem oz600 {a0 a1 a2 : Int} (h0 : a0 ≤ a1) (h1 : a1 ≤ a2) (h2 : a0 = 0) (h3 : a2 = 4) : ((0 : Int) ≤ a1) ∧ (a1 ≤ 4) := by omega
theorem oz601 {a0 a1 a2 : Int} (h0 : ¬ ((a0 ≤ a1) ∧ (a1 ≤ a2))) (h1 : a0 = 0) (h2 : a2 = 4) : ¬ (((0 : Int) ≤ a1) ∧ (a1 ≤ 4)) := by omega
theorem oz602 {a0 a1 : Int} (h0 : a0 ≤ 60) (h1 : a1 = 1) : a0 - a1 ≤ 2147483647 := by omega
theorem oz603 {a0 a1 a2 a3 : Int} (h0 : a0 = 60 * a1) (h1 : a2 ≤ a3) (h2 : (0 : Int) ≤ a1) (h3 : a2 = 0) : (-2147483648 : Int) ≤ a0 + a3 := by omega
theorem oz604 {a0 a1 a2 a3 a4 a5 : Int} (h0 : a0 ≤ 60) (h1 : a1 = 60 * a2) (h2 : a3 = a0 - a4) (h3 : a5 ≤ a3) (h4 : a2 ≤ 5) (h5 : a4 = 1) : a1 + a5 ≤ 2147483647 := by omega
theorem oz605 {a0 : Int} (h0 : ¬ (a0 = 0)) (h1 : ¬ (a0 = 1)) (h2 : ¬ (a0 = 2)) (h3 : ¬ (a0 = 3)) : a0 < 0 ∨ 3 < a0 := by omega
theorem oz606 {a0 a1 a2 a3 a4 : Int} (h0 : a0 = 60 * a1) (h1 : a2 = a0 + a3) (h2 : a4 ≤ a3) (h3 : (0 : Int) ≤ a1) (h4 : a4 = 0) : (0 : Int) ≤ a2 := by omega
theorem oz607 {a0 a1 a2 a3 a4 a5 a6 : Int} (h0 : a0 ≤ 60) (h1 : a1 = 60 * a2) (h2 : a3 = a1 + a4) (h3 : a5 = a0 - a6) (h4 : a4 ≤ a5) (h5 : a2 ≤ 5) (h6 : a6 = 1) : a3 < 360 := by omega
theorem oz608 {a0 a1 a2 a3 : Int} (h0 : a0 = 60 * a1) (h1 : (0 : Int) ≤ a1) (h2 : a2 ≤ a3) (h3 : a2 = 0) : (-2147483648 : Int) ≤ a0 + a3 := by omega
theorem oz609 {a0 a1 a2 a3 a4 a5 : Int} (h0 : a0 ≤ 60) (h1 : a1 = 60 * a2) (h2 : a3 = a0 - a4) (h3 : a2 ≤ 5) (h4 : a5 ≤ a3) (h5 : a4 = 1) : a1 + a5 ≤ 2147483647 := by omega
theorem oz610 {a0 a1 a2 a3 a4 : Int} (h0 : a0 = 60 * a1) (h1 : a2 = a0 + a3) (h2 : (0 : Int) ≤ a1) (h3 : a4 ≤ a3) (h4 : a4 = 0) : (0 : Int) ≤ a2 := by omega
theorem oz611 {a0 a1 a2 a3 a4 a5 a6 : Int} (h0 : a0 ≤ 60) (h1 : a1 = 60 * a2) (h2 : a3 = a1 + a4) (h3 : a5 = a0 - a6) (h4 : a2 ≤ 5) (h5 : a4 ≤ a5) (h6 : a6 = 1) : a3 < 360 := by omega
theorem oz641 {a0 a1 a2 a3 : Int} (h0 : a0 ≤ (a1 - 1)) (h1 : a2 = a0 + a3) (h2 : a3 = (-1)) : a2 ≤ (a1 - 1) := by omega
theorem oz643 {a0 a1 a2 : Int} (h0 : a0 = a1 - a2) (h1 : a2 = 1) : a0 ≤ (a1 - 1) := by omega
theorem oz659 {a0 a1 : Int} (h0 : a0 < a1) (h1 : a0 = 0) : (1 : Int) ≤ a1 := by omega
theorem oz660 {a0 : Int} (h0 : ¬ (a0 = 0)) (h1 : ¬ (a0 = 1)) (h2 : ¬ (a0 = 2)) (h3 : ¬ (a0 = 3)) (h4 : ¬ (a0 = 4)) (h5 : ¬ (a0 = 5)) : a0 < 0 ∨ 5 < a0 := by omega
theorem oz661 {a0 : Int} (h0 : a0 ≤ 255) : a0 ≤ 255 := by omega
theorem oz662 {a0 a1 : Int} (h0 : a0 ≠ a1) (h1 : (0 : Int) ≤ a0) (h2 : a1 = 0) : a0 ≠ 0 := by omega
theorem oz663 {a0 a1 : Int} (h0 : (a0 + a1) ≤ 5) (h1 : (1 : Int) ≤ a1) : a0 < 5 := by omega
theorem oz664 {a0 a1 a2 : Int} (h0 : (a0 + a1) ≤ 5) (h1 : (1 : Int) ≤ a1) (h2 : a2 = 1) : a0 + a2 ≤ 2147483647 := by omega
theorem oz665 {a0 a1 : Int} (h0 : a0 = a1) (h1 : (1 : Int) ≤ a0) : (1 : Int) ≤ a1 := by omega
theorem oz666 {a0 : Int} (h0 : (0 : Int) ≤ a0) (h1 : a0 ≤ 255) : ((0 : Int) ≤ a0) ∧ (a0 ≤ 255) := by omega
theorem oz667 {a0 a1 a2 a3 a4 : Int} (h0 : (a0 + a1) ≤ 5) (h1 : a2 = a1 - 1) (h2 : a3 = a0 + a4) (h3 : a4 = 1) : (a3 + a2) ≤ 5 := by omega
theorem oz668 {a0 a1 a2 a3 : Int} (h0 : a0 = a1 + 1) (h1 : a2 = a0) (h2 : a3 = a2 - 1) : a3 = a1 := by omega
theorem oz669 {a0 a1 a2 : Int} (h0 : (0 : Int) ≤ a0) (h1 : (a1 + a2) ≤ 5) (h2 : a2 = a0) : a1 ≤ 21 := by omega
theorem oz670 {a0 a1 a2 a3 : Int} (h0 : a0 < a1) (h1 : (0 : Int) ≤ a2) (h2 : (a1 + a3) ≤ 5) (h3 : a3 = a2) : a0 < 5 := by omega
theorem oz671 {a0 a1 a2 a3 a4 : Int} (h0 : a0 < a1) (h1 : (0 : Int) ≤ a2) (h2 : (a1 + a3) ≤ 5) (h3 : a3 = a2) (h4 : a4 = 1) : a0 + a4 ≤ 2147483647 := by omega
theorem oz672 {a0 a1 a2 a3 : Int} (h0 : a0 < a1) (h1 : (0 : Int) ≤ a2) (h2 : (a1 + a3) ≤ 5) (h3 : a3 = a2) : a0 < 21 := by omega
theorem oz673 {a0 : Int} (h0 : (0 : Int) ≤ a0) : (-2147483648 : Int) ≤ 31 * a0 := by omega
theorem oz674 {a0 a1 : Int} (h0 : a0 ≤ 5) (h1 : (a1 + 1) ≤ a0) : 31 * a1 ≤ 2147483647 := by omega
theorem oz675 {a0 a1 : Int} (h0 : (0 : Int) ≤ a0) (h1 : (0 : Int) ≤ a1) : (-2147483648 : Int) ≤ a0 + a1 := by omega
theorem oz676 {a0 a1 a2 : Int} (h0 : a0 < a1) (h1 : a2 ≤ 124) (h2 : a1 = 31) : a2 + a0 ≤ 2147483647 := by omega
theorem oz677 {a0 a1 a2 : Int} (h0 : (0 : Int) ≤ a0) (h1 : (0 : Int) ≤ a1) (h2 : a2 = a0 + a1) : (0 : Int) ≤ a2 := by omega
theorem oz678 {a0 a1 a2 a3 : Int} (h0 : a0 < a1) (h1 : a2 ≤ 124) (h2 : a3 = a2 + a0) (h3 : a1 = 31) : a3 < 155 := by omega
theorem oz679 {a0 a1 a2 : Int} (h0 : (0 : Int) ≤ a0) (h1 : a1 ≤ 5) (h2 : (a0 + 1) ≤ a1) (h3 : a2 = 31 * a0) : ((0 : Int) ≤ a2) ∧ (a2 ≤ 124) := by omega
theorem oz680 {a0 a1 a2 : Int} (h0 : a0 ≤ 5) (h1 : (a1 + 1) ≤ a0) (h2 : a2 = 1) : a1 + a2 ≤ 2147483647 := by omega
theorem oz681 {a0 a1 a2 : Int} (h0 : (a0 - a1) = a2) (h1 : (a1 + 1) ≤ a0) : (1 : Int) ≤ a2 := by omega
theorem oz682 {a0 a1 a2 a3 : Int} (h0 : (0 : Int) ≤ a0) (h1 : a1 ≤ 5) (h2 : (a0 + 1) ≤ a1) (h3 : a2 = a0 + a3) (h4 : a3 = 1) : ((0 : Int) ≤ a2) ∧ (a2 ≤ a1) ∧ (a1 ≤ 5) := by omega
theorem oz683 {a0 a1 a2 a3 a4 a5 : Int} (h0 : a0 = a1 + 1) (h1 : (a2 - a3) = a0) (h2 : a4 = a3 + a5) (h3 : a5 = 1) : (a2 - a4) = a1 := by omega
theorem oz684 {a0 a1 a2 : Int} (h0 : a0 ≤ a1) (h1 : a1 ≤ 5) (h2 : a2 = 1) : a0 + a2 ≤ 2147483647 := by omega
theorem oz685 {a0 a1 a2 : Int} (h0 : a0 ≠ a1) (h1 : (0 : Int) ≤ a2) (h2 : (a1 - a0) = a2) : (1 : Int) ≤ a2 := by omega
theorem oz686 {a0 a1 a2 a3 : Int} (h0 : a0 ≠ a1) (h1 : (0 : Int) ≤ a0) (h2 : a0 ≤ a1) (h3 : a1 ≤ 5) (h4 : a2 = a0 + a3) (h5 : a3 = 1) : ((0 : Int) ≤ a2) ∧ (a2 ≤ a1) ∧ (a1 ≤ 5) := by omega
theorem oz687 {a0 a1 : Int} (h0 : (0 : Int) ≤ a0) (h1 : a0 ≤ a1) (h2 : a1 ≤ 5) : ((0 : Int) ≤ a0) ∧ (a0 ≤ a1) ∧ (a1 ≤ 5) := by omega
theorem oz688 {a0 a1 a2 : Int} (h0 : (a0 - a1) = a2) : (a0 - a1) = a2 := by omega
theorem oz689 {a0 a1 : Int} (h0 : a0 ≠ a1) (h1 : a0 ≤ a1) : (a0 + 1) ≤ a1 := by omega
theorem oz690 {a0 a1 : Int} (h0 : a0 ≤ 256) (h1 : a1 = 1) : a0 - a1 ≤ 2147483647 := by omega
theorem oz691 {a0 a1 a2 a3 : Int} (h0 : a0 ≤ 256) (h1 : a1 = a0 - a2) (h2 : a3 ≤ a1) (h3 : a2 = 1) : a3 ≤ 255 := by omega
theorem oz692 {a0 a1 a2 a3 a4 : Int} (h0 : a0 ≤ 256) (h1 : a1 = a0 - a2) (h2 : a3 ≤ a4) (h3 : a4 ≤ a1) (h4 : a2 = 1) (h5 : a3 = 0) : ((0 : Int) ≤ a4) ∧ (a4 ≤ 255) := by omega
theorem oz693 {a0 a1 a2 a3 : Int} (h0 : a0 ≤ a1) (h1 : a0 = a2) (h2 : a1 = 5) (h3 : a3 = 0) : (a3 + a2) ≤ 5 := by omega
theorem oz694 {a0 a1 : Int} (h0 : a0 ≠ a1) (h1 : a1 ≤ a0) (h2 : a1 = (-1)) : (0 : Int) ≤ a0 := by omega
theorem oz695 {a0 a1 a2 a3 a4 : Int} (h0 : a0 ≤ a1) (h1 : a2 < a3) (h2 : a0 = a4) (h3 : a3 = a4) (h4 : a1 = 5) : a2 < 5 := by omega
theorem oz696 {a0 a1 a2 : Int} (h0 : a0 ≤ a1) (h1 : a1 ≤ a2) (h2 : a0 = 1) (h3 : a2 = 5) : ((0 : Int) ≤ a0) ∧ (a0 ≤ a1) ∧ (a1 ≤ 5) := by omega
theorem oz697 {a0 a1 a2 : Int} (h0 : a0 ≤ 8) (h1 : a1 = (a2 / 10)) (h2 : (0 : Int) ≤ a2) (h3 : (a2 / 10) < a0) (h4 : (a2 % 10) < a0) (h5 : (a2 / 10) ≠ (a2 % 10)) : ((0 : Int) ≤ a1) ∧ (a1 ≤ 7) := by omega
theorem oz698 {a0 a1 a2 : Int} (h0 : a0 ≤ 8) (h1 : a1 = (a2 % 10)) (h2 : (a2 % 10) < a0) : ((0 : Int) ≤ a1) ∧ (a1 ≤ 7) := by omega
theorem oz699 {a0 a1 a2 a3 : Int} (h0 : a0 ≤ a1) (h1 : a1 ≤ a2) (h2 : a0 = 1) (h3 : a2 = 5) (h4 : a3 = 0) : ((0 : Int) ≤ a3) ∧ (a3 ≤ a1) ∧ (a1 ≤ 5) := by omega
theorem oz700 {a0 a1 a2 : Int} (h0 : a0 ≤ a1) (h1 : a0 = 1) (h2 : a2 = 0) : (a2 + 1) ≤ a1 := by omega
theorem oz701 {a0 a1 a2 a3 : Int} (h0 : a0 ≤ a1) (h1 : a2 = (-1)) : ((a2 = (-1)) ∧ (a0 ≤ a1)) ∨ ((a1 < a0) ∧ (a2 = a3)) := by omega
theorem oz702 {a0 a1 : Int} (h0 : a0 < a1) (h1 : a1 ≤ 120) : a0 < 120 := by omega
theorem oz703 {a0 a1 a2 : Int} (h0 : a0 < a1) : ((a2 = (-1)) ∧ (a1 ≤ a0)) ∨ ((a0 < a1) ∧ (a2 = a2)) := by omega
theorem oz704 {a0 a1 a2 a3 a4 : Int} (h0 : a0 < a1) (h1 : ((a0 = (-1)) ∧ (a2 ≤ a3)) ∨ ((a3 < a2) ∧ (a0 = a4))) (h2 : a1 = 48) : ¬ ((a3 < a2) ∧ ((48 : Int) ≤ a4) ∧ (a4 ≤ 57)) := by omega
theorem oz705 {a0 a1 a2 a3 a4 : Int} (h0 : a0 < a1) (h1 : ((a1 = (-1)) ∧ (a2 ≤ a3)) ∨ ((a3 < a2) ∧ (a1 = a4))) (h2 : a0 = 57) : ¬ ((a3 < a2) ∧ ((48 : Int) ≤ a4) ∧ (a4 ≤ 57)) := by omega
theorem oz706 {a0 a1 a2 a3 a4 a5 a6 : Int} (h0 : a0 ≤ a1) (h1 : a2 ≤ a3) (h2 : ((a1 = (-1)) ∧ (a4 ≤ a5)) ∨ ((a5 < a4) ∧ (a1 = a6))) (h3 : ((a2 = (-1)) ∧ (a4 ≤ a5)) ∨ ((a5 < a4) ∧ (a2 = a6))) (h4 : a0 = 48) (h5 : a3 = 57) : (a5 < a4) ∧ ((48 : Int) ≤ a6) ∧ (a6 ≤ 57) := by omega
theorem oz710 {a0 a1 : Int} (h0 : a0 ≤ 120) (h1 : a1 < a0) : a1 < 120 := by omega
theorem oz715 {a0 a1 a2 a3 : Int} (h0 : a0 ≤ 120) (h1 : a1 = a2 + a3) (h2 : a2 < a0) (h3 : a3 = 1) : a1 ≤ 120 := by omega
theorem oz716 {a0 a1 a2 : Int} (h0 : ((a0 = 0) ∧ (a1 = 0)) ∨ ((a0 = 1) ∧ ((0 : Int) ≤ a1) ∧ (a1 ≤ 9)) ∨ ((a0 = 2) ∧ ((0 : Int) ≤ a1) ∧ (a1 ≤ 99)) ∨ ((a0 = 3) ∧ ((0 : Int) ≤ a1) ∧ (a1 ≤ 999)) ∨ ((a0 = 4) ∧ ((0 : Int) ≤ a1) ∧ (a1 ≤ 9999))) (h1 : a2 = 1) : (-2147483648 : Int) ≤ a0 + a2 := by omega
theorem oz717 {a0 a1 a2 : Int} (h0 : a0 < a1) (h1 : a1 = 4) (h2 : a2 = 1) : a0 + a2 ≤ 2147483647 := by omega
theorem oz719 {a0 a1 : Int} (h0 : a0 = a1) : a0 = a1 := by omega
theorem oz720 {a0 a1 a2 a3 a4 a5 : Int} (h0 : (a0 + a1) ≤ a2) (h1 : a3 = a2 + a4) (h2 : a5 = a1 + a4) (h3 : a4 = 1) : (a0 + a5) ≤ a3 := by omega
theorem oz721 {a0 a1 a2 a3 : Int} (h0 : a0 = a1 + a2) (h1 : a1 < a3) (h2 : a2 = 1) : a0 ≤ a3 := by omega
theorem oz722 {a0 a1 a2 a3 a4 a5 : Int} (h0 : ((a0 = 0) ∧ (a1 = 0)) ∨ ((a0 = 1) ∧ ((0 : Int) ≤ a1) ∧ (a1 ≤ 9)) ∨ ((a0 = 2) ∧ ((0 : Int) ≤ a1) ∧ (a1 ≤ 99)) ∨ ((a0 = 3) ∧ ((0 : Int) ≤ a1) ∧ (a1 ≤ 999)) ∨ ((a0 = 4) ∧ ((0 : Int) ≤ a1) ∧ (a1 ≤ 9999))) (h1 : a2 = a0 + a3) (h2 : a3 = 1) : ((1 : Int) ≤ a2) ∨ (a4 = a5) := by omega
theorem oz723 {a0 a1 a2 : Int} (h0 : a0 = a1 + a2) (h1 : a2 = 1) : (4 - a0) < (4 - a1) := by omega
theorem oz724 {a0 a1 : Int} (h0 : a0 < a1) (h1 : a1 = 4) : (1 : Int) ≤ (4 - a0) := by omega
theorem oz726 {a0 : Int} (h0 : a0 = 0) : ((a0 = 0) ∧ (a0 = 0)) ∨ ((a0 = 1) ∧ ((0 : Int) ≤ a0) ∧ (a0 ≤ 9)) ∨ ((a0 = 2) ∧ ((0 : Int) ≤ a0) ∧ (a0 ≤ 99)) ∨ ((a0 = 3) ∧ ((0 : Int) ≤ a0) ∧ (a0 ≤ 999)) ∨ ((a0 = 4) ∧ ((0 : Int) ≤ a0) ∧ (a0 ≤ 9999)) := by omega
theorem oz727 {a0 a1 : Int} (h0 : a0 = 0) : (a1 + a0) ≤ a1 := by omega
theorem oz728 {a0 a1 : Int} (h0 : a0 < a1) : a0 ≤ a1 := by omega
theorem oz729 {a0 a1 : Int} (h0 : a0 = 0) : ((1 : Int) ≤ a0) ∨ (a1 = a1) := by omega
theorem oz730 {a0 a1 : Int} (h0 : a0 = 100) (h1 : a1 = 5) : (((-1) : Int) ≤ a1) ∧ (a1 ≤ 5) ∧ ((a1 = (-1)) ∨ ((100 : Int) ≤ a0)) := by omega
theorem oz731 {a0 a1 : Int} (h0 : a0 = (-1)) : (((-1) : Int) ≤ a0) ∧ (a0 ≤ 5) ∧ ((a0 = (-1)) ∨ ((100 : Int) ≤ a1)) := by omega
theorem oz732 {a0 a1 : Int} (h0 : a0 = 104) (h1 : a1 = 2) : (((-1) : Int) ≤ a1) ∧ (a1 ≤ 5) ∧ ((a1 = (-1)) ∨ ((100 : Int) ≤ a0)) := by omega
theorem oz733 {a0 a1 : Int} (h0 : a0 = 110) (h1 : a1 = 3) : (((-1) : Int) ≤ a1) ∧ (a1 ≤ 5) ∧ ((a1 = (-1)) ∨ ((100 : Int) ≤ a0)) := by omega
theorem oz734 {a0 a1 : Int} (h0 : a0 = 111) (h1 : a1 = 4) : (((-1) : Int) ≤ a1) ∧ (a1 ≤ 5) ∧ ((a1 = (-1)) ∨ ((100 : Int) ≤ a0)) := by omega
theorem oz735 {a0 a1 : Int} (h0 : a0 = 112) (h1 : a1 = 1) : (((-1) : Int) ≤ a1) ∧ (a1 ≤ 5) ∧ ((a1 = (-1)) ∨ ((100 : Int) ≤ a0)) := by omega
theorem oz736 {a0 a1 : Int} (h0 : a0 = 119) (h1 : a1 = 0) : (((-1) : Int) ≤ a1) ∧ (a1 ≤ 5) ∧ ((a1 = (-1)) ∨ ((100 : Int) ≤ a0)) := by omega
theorem oz737 {a0 : Int} (h0 : ¬ (a0 = 100)) (h1 : ¬ (a0 = 101)) (h2 : ¬ (a0 = 102)) (h3 : ¬ (a0 = 103)) (h4 : ¬ (a0 = 104)) (h5 : ¬ (a0 = 105)) (h6 : ¬ (a0 = 106)) (h7 : ¬ (a0 = 107)) (h8 : ¬ (a0 = 108)) (h9 : ¬ (a0 = 109)) (h10 : ¬ (a0 = 110)) (h11 : ¬ (a0 = 111)) (h12 : ¬ (a0 = 112)) (h13 : ¬ (a0 = 113)) (h14 : ¬ (a0 = 114)) (h15 : ¬ (a0 = 115)) (h16 : ¬ (a0 = 116)) (h17 : ¬ (a0 = 117)) (h18 : ¬ (a0 = 118)) (h19 : ¬ (a0 = 119)) : a0 < 100 ∨ 119 < a0 := by omega
theorem oz738 {a0 a1 : Int} (h0 : (-2147483648 : Int) ≤ a0) (h1 : a1 = 1) : (-2147483648 : Int) ≤ a0 + a1 := by omega
theorem oz739 {a0 a1 a2 : Int} (h0 : (0 : Int) ≤ a0) (h1 : (a1 + a0) = 6) (h2 : a2 = 1) : a1 + a2 ≤ 2147483647 := by omega
theorem oz740 {a0 a1 a2 a3 a4 a5 a6 : Int} (h0 : a0 = a1) (h1 : a2 ≤ 120) (h2 : (0 : Int) ≤ a1) (h3 : a3 = a4 + a5) (h4 : ((a0 = (-1)) ∧ (a2 ≤ a4)) ∨ ((a4 < a2) ∧ (a0 = a6))) (h5 : a5 = 1) : a3 ≤ 120 := by omega
theorem oz741 {a0 a1 a2 a3 a4 a5 a6 : Int} (h0 : a0 = a1) (h1 : (0 : Int) ≤ a1) (h2 : a2 = a3 + a4) (h3 : ((a0 = (-1)) ∧ (a5 ≤ a3)) ∨ ((a3 < a5) ∧ (a0 = a6))) (h4 : a4 = 1) : (a2 = (a3 + 1)) ∧ (a2 ≤ a5) := by omega
theorem oz742 {a0 : Int} (h0 : a0 = 33) : (0 : Int) ≤ a0 := by omega
theorem oz743 {a0 a1 a2 : Int} (h0 : a0 ≠ a1) (h1 : (0 : Int) ≤ a2) (h2 : (a0 + a2) = 6) (h3 : a1 = 6) : (1 : Int) ≤ a2 := by omega
theorem oz744 {a0 a1 a2 a3 a4 a5 : Int} (h0 : a0 = a1) (h1 : a2 = a3 + 1) (h2 : (a4 + a2) = 6) (h3 : a1 = a4 + a5) (h4 : a5 = 1) : (a0 + a3) = 6 := by omega
theorem oz745 {a0 a1 a2 a3 : Int} (h0 : a0 = a1) (h1 : a1 ≤ a2) (h2 : a3 = (a2 + 1)) : a0 ≤ a3 := by omega
theorem oz746 {a0 a1 a2 : Int} (h0 : a0 ≤ 199) (h1 : a1 = a0 + a2) (h2 : a2 = 1) : a1 ≤ 200 := by omega
theorem oz747 {a0 : Int} (h0 : a0 ≤ 199) : a0 < 200 := by omega
theorem oz748 {a0 a1 a2 : Int} (h0 : a0 = a1 + a2) (h1 : a2 = 1) : a0 = (a1 + 1) := by omega
theorem oz750 {a0 a1 : Int} (h0 : a0 ≤ 200) (h1 : a0 = (a1 + 1)) : a1 < 200 := by omega
theorem oz751 {a0 a1 : Int} (h0 : a0 = (a1 + 1)) : a0 = a1 + 1 := by omega
theorem oz752 {a0 a1 a2 a3 a4 a5 : Int} (h0 : (-2147483648 : Int) ≤ a0) (h1 : a1 = a2) (h2 : a3 = a4) (h3 : a2 = a0 + a5) (h4 : a4 = a1) (h5 : a5 = 1) : (-2147483648 : Int) ≤ a3 - a5 := by omega
theorem oz753 {a0 a1 a2 a3 a4 a5 a6 : Int} (h0 : a0 = a1) (h1 : a2 = a3) (h2 : (0 : Int) ≤ a4) (h3 : (a5 + a4) = 6) (h4 : a1 = a5 + a6) (h5 : a3 = a0) (h6 : a6 = 1) : a2 - a6 ≤ 2147483647 := by omega
theorem oz755 (h0 : (2 : Int) ≤ 1) : False := by omega
theorem oz756 {a0 a1 a2 a3 a4 : Int} (h0 : (-2147483648 : Int) ≤ a0) (h1 : a1 = a2) (h2 : a2 = a0 + a3) (h3 : a4 = a1) (h4 : a3 = 1) : (-2147483648 : Int) ≤ a4 - a3 := by omega
theorem oz757 {a0 a1 a2 a3 a4 a5 : Int} (h0 : a0 = a1) (h1 : (0 : Int) ≤ a2) (h2 : (a3 + a2) = 6) (h3 : a1 = a3 + a4) (h4 : a5 = a0) (h5 : a4 = 1) : a5 - a4 ≤ 2147483647 := by omega
theorem oz758 {a0 a1 a2 a3 a4 a5 a6 a7 a8 a9 a10 a11 a12 : Int} (h0 : a0 = a1) (h1 : a2 = a3) (h2 : a1 = a4 + a5) (h3 : a6 = a7 - a5) (h4 : a8 = (a9 + 1)) (h5 : a7 = a0) (h6 : a8 ≤ a10) (h7 : a10 ≤ a11) (h8 : (a12 - a10) ≤ (a2 - a8)) (h9 : a2 ≤ a12) (h10 : a5 = 1) : (a6 = a4) ∧ (a9 ≤ a10) ∧ (a10 ≤ a11) ∧ ((a12 - a10) ≤ (a3 - a9)) ∧ (a3 ≤ a12) := by omega
theorem oz759 {a0 : Int} (h0 : a0 = 45) : (0 : Int) ≤ a0 := by omega
theorem oz760 {a0 a1 a2 a3 a4 a5 a6 : Int} (h0 : a0 = a1) (h1 : a2 = a0) (h2 : a3 = a4 + 1) (h3 : (a5 + a3) = 6) (h4 : a1 = a5 + a6) (h5 : a6 = 1) : (a2 + a4) = 6 := by omega
theorem oz761 {a0 a1 a2 a3 a4 a5 : Int} (h0 : a0 = a1) (h1 : a2 = a0) (h2 : a1 ≤ a3) (h3 : a4 = a3) (h4 : a5 = (a4 + 1)) : a2 ≤ a5 := by omega
theorem oz762 {a0 a1 a2 : Int} (h0 : a0 = a1) (h1 : a2 = a0) : a2 = a1 := by omega
theorem oz763 {a0 a1 a2 a3 a4 a5 a6 a7 : Int} (h0 : a0 = a1) (h1 : a2 = a0) (h2 : a3 ≤ 120) (h3 : (0 : Int) ≤ a4) (h4 : a1 ≤ a5) (h5 : a6 = a5) (h6 : a7 = (a6 + 1)) (h7 : (a4 - a3) ≤ (a2 - a7)) : ((0 : Int) ≤ a4) ∧ (a4 ≤ 199) := by omega
theorem oz764 {a0 a1 a2 a3 a4 a5 a6 : Int} (h0 : (-2147483648 : Int) ≤ a0) (h1 : a1 = a2) (h2 : a3 = a1) (h3 : a4 = a5) (h4 : a2 = a0 + a6) (h5 : a5 = a3) (h6 : a6 = 1) : (-2147483648 : Int) ≤ a4 - a6 := by omega
theorem oz765 {a0 a1 a2 a3 a4 a5 a6 a7 : Int} (h0 : a0 = a1) (h1 : a2 = a0) (h2 : a3 = a4) (h3 : (0 : Int) ≤ a5) (h4 : (a6 + a5) = 6) (h5 : a1 = a6 + a7) (h6 : a4 = a2) (h7 : a7 = 1) : a3 - a7 ≤ 2147483647 := by omega
theorem oz766 {a0 a1 a2 a3 a4 a5 a6 a7 a8 a9 a10 a11 a12 a13 a14 a15 a16 a17 a18 a19 : Int} (h0 : a0 = a1) (h1 : a2 = a3) (h2 : a4 = a0) (h3 : a5 = a2) (h4 : a6 = a7) (h5 : a8 = a9) (h6 : a10 = a11) (h7 : a1 = a12 + a13) (h8 : a14 = a10 - a13) (h9 : a15 = a16) (h10 : a17 = (a15 + 1)) (h11 : a11 = a4) (h12 : a9 ≤ a7) (h13 : (a18 - a9) ≤ (a5 - a17)) (h14 : a5 ≤ a18) (h15 : (a17 + 1) ≤ a9) (h16 : a19 = (a18 + 1)) (h17 : a13 = 1) : (a14 = a12) ∧ (a16 ≤ a8) ∧ (a8 ≤ a6) ∧ ((a19 - a8) ≤ (a3 - a16)) ∧ (a3 ≤ a19) ∧ ((a16 + 1) ≤ a8) := by omega
theorem oz767 {a0 a1 a2 a3 a4 a5 : Int} (h0 : (-2147483648 : Int) ≤ a0) (h1 : a1 = a2) (h2 : a3 = a1) (h3 : a2 = a0 + a4) (h4 : a5 = a3) (h5 : a4 = 1) : (-2147483648 : Int) ≤ a5 - a4 := by omega
theorem oz768 {a0 a1 a2 a3 a4 a5 a6 : Int} (h0 : a0 = a1) (h1 : a2 = a0) (h2 : (0 : Int) ≤ a3) (h3 : (a4 + a3) = 6) (h4 : a1 = a4 + a5) (h5 : a6 = a2) (h6 : a5 = 1) : a6 - a5 ≤ 2147483647 := by omega
theorem oz769 {a0 a1 a2 a3 a4 a5 a6 a7 a8 a9 a10 a11 a12 a13 a14 a15 : Int} (h0 : a0 = a1) (h1 : a2 = a3) (h2 : a4 = a0) (h3 : a5 = a2) (h4 : a1 = a6 + a7) (h5 : a8 = a9 - a7) (h6 : a10 = a11) (h7 : a12 = (a10 + 1)) (h8 : a9 = a4) (h9 : a12 ≤ a13) (h10 : a13 ≤ a14) (h11 : (a15 - a13) ≤ (a5 - a12)) (h12 : a5 ≤ a15) (h13 : a7 = 1) : (a8 = a6) ∧ (a11 ≤ a13) ∧ (a13 ≤ a14) ∧ ((a15 - a13) ≤ (a3 - a11)) ∧ (a3 ≤ a15) := by omega
theorem oz770 {a0 : Int} (h0 : a0 = 40) : (0 : Int) ≤ a0 := by omega
theorem oz771 {a0 a1 a2 a3 a4 a5 a6 a7 : Int} (h0 : a0 = a1) (h1 : a2 = a0) (h2 : a3 = a2) (h3 : a4 = a5 + 1) (h4 : (a6 + a4) = 6) (h5 : a1 = a6 + a7) (h6 : a7 = 1) : (a3 + a5) = 6 := by omega
theorem oz772 {a0 a1 a2 a3 a4 a5 a6 a7 : Int} (h0 : a0 = a1) (h1 : a2 = a0) (h2 : a3 = a2) (h3 : a1 ≤ a4) (h4 : a5 = a4) (h5 : a6 = a5) (h6 : a7 = (a6 + 1)) : a3 ≤ a7 := by omega
theorem oz773 {a0 a1 a2 a3 : Int} (h0 : a0 = a1) (h1 : a2 = a0) (h2 : a3 = a2) : a3 = a1 := by omega
theorem oz774 {a0 : Int} (h0 : a0 = 41) : (0 : Int) ≤ a0 := by omega
theorem oz775 {a0 a1 a2 a3 a4 a5 a6 a7 : Int} (h0 : (-2147483648 : Int) ≤ a0) (h1 : a1 = a2) (h2 : a3 = a1) (h3 : a4 = a3) (h4 : a5 = a6) (h5 : a2 = a0 + a7) (h6 : a6 = a4) (h7 : a7 = 1) : (-2147483648 : Int) ≤ a5 - a7 := by omega
theorem oz776 {a0 a1 a2 a3 a4 a5 a6 a7 a8 : Int} (h0 : a0 = a1) (h1 : a2 = a0) (h2 : a3 = a2) (h3 : a4 = a5) (h4 : (0 : Int) ≤ a6) (h5 : (a7 + a6) = 6) (h6 : a1 = a7 + a8) (h7 : a5 = a3) (h8 : a8 = 1) : a4 - a8 ≤ 2147483647 := by omega
theorem oz777 {a0 a1 a2 a3 a4 a5 a6 a7 a8 a9 a10 a11 a12 a13 a14 a15 a16 a17 a18 a19 a20 a21 : Int} (h0 : a0 = a1) (h1 : a2 = a3) (h2 : a4 = a0) (h3 : a5 = a2) (h4 : a6 = a4) (h5 : a7 = a5) (h6 : a8 = a9) (h7 : a10 = a11) (h8 : a1 = a12 + a13) (h9 : a14 = a8 - a13) (h10 : a15 = a16) (h11 : a17 = a15) (h12 : a18 = (a17 + 1)) (h13 : a9 = a6) (h14 : (a11 - a19) ≤ (a7 - a18)) (h15 : a7 ≤ a11) (h16 : (a18 + 1) ≤ a19) (h17 : a20 = (a19 + 1)) (h18 : a20 ≤ a21) (h19 : a13 = 1) : (a14 = a12) ∧ (a16 ≤ a20) ∧ (a20 ≤ a21) ∧ ((a10 - a20) ≤ (a3 - a16)) ∧ (a3 ≤ a10) ∧ ((a16 + 1) ≤ a20) := by omega
theorem oz778 {a0 a1 a2 a3 a4 a5 a6 a7 a8 a9 a10 a11 a12 a13 a14 a15 a16 a17 a18 a19 a20 a21 a22 : Int} (h0 : a0 = a1) (h1 : a2 = a3) (h2 : a4 = a0) (h3 : a5 = a2) (h4 : a6 = a4) (h5 : a7 = a5) (h6 : a8 = a9) (h7 : a10 = a11) (h8 : a12 = a13) (h9 : a1 = a14 + a15) (h10 : a16 = a10 - a15) (h11 : a17 = a18) (h12 : a19 = a17) (h13 : a20 = (a19 + 1)) (h14 : a11 = a6) (h15 : a21 ≤ a9) (h16 : (a13 - a21) ≤ (a7 - a20)) (h17 : a7 ≤ a13) (h18 : (a20 + 1) ≤ a21) (h19 : a22 = a21) (h20 : a15 = 1) : (a16 = a14) ∧ (a18 ≤ a22) ∧ (a22 ≤ a8) ∧ ((a12 - a22) ≤ (a3 - a18)) ∧ (a3 ≤ a12) := by omega
theorem oz779 {a0 a1 a2 a3 a4 a5 a6 : Int} (h0 : (-2147483648 : Int) ≤ a0) (h1 : a1 = a2) (h2 : a3 = a1) (h3 : a4 = a3) (h4 : a2 = a0 + a5) (h5 : a6 = a4) (h6 : a5 = 1) : (-2147483648 : Int) ≤ a6 - a5 := by omega
theorem oz780 {a0 a1 a2 a3 a4 a5 a6 a7 : Int} (h0 : a0 = a1) (h1 : a2 = a0) (h2 : a3 = a2) (h3 : (0 : Int) ≤ a4) (h4 : (a5 + a4) = 6) (h5 : a1 = a5 + a6) (h6 : a7 = a3) (h7 : a6 = 1) : a7 - a6 ≤ 2147483647 := by omega
theorem oz781 {a0 a1 a2 a3 a4 a5 a6 a7 a8 a9 a10 a11 a12 a13 a14 a15 a16 a17 a18 : Int} (h0 : a0 = a1) (h1 : a2 = a3) (h2 : a4 = a0) (h3 : a5 = a2) (h4 : a6 = a4) (h5 : a7 = a5) (h6 : a1 = a8 + a9) (h7 : a10 = a11 - a9) (h8 : a12 = a13) (h9 : a14 = a12) (h10 : a15 = (a14 + 1)) (h11 : a11 = a6) (h12 : a15 ≤ a16) (h13 : a16 ≤ a17) (h14 : (a18 - a16) ≤ (a7 - a15)) (h15 : a7 ≤ a18) (h16 : a9 = 1) : (a10 = a8) ∧ (a13 ≤ a16) ∧ (a16 ≤ a17) ∧ ((a18 - a16) ≤ (a3 - a13)) ∧ (a3 ≤ a18) := by omega
theorem oz782 {a0 a1 a2 a3 a4 a5 : Int} (h0 : (-2147483648 : Int) ≤ a0) (h1 : a1 = a2) (h2 : a3 = a1) (h3 : a4 = a3) (h4 : a2 = a0 + a5) (h5 : a5 = 1) : (-2147483648 : Int) ≤ a4 - a5 := by omega
theorem oz783 {a0 a1 a2 a3 a4 a5 a6 : Int} (h0 : a0 = a1) (h1 : a2 = a0) (h2 : a3 = a2) (h3 : (0 : Int) ≤ a4) (h4 : (a5 + a4) = 6) (h5 : a1 = a5 + a6) (h6 : a6 = 1) : a3 - a6 ≤ 2147483647 := by omega
theorem oz784 {a0 a1 a2 a3 a4 a5 a6 a7 a8 a9 a10 a11 a12 a13 a14 a15 a16 a17 a18 : Int} (h0 : a0 = a1) (h1 : a2 = a3) (h2 : a4 = a5) (h3 : a6 = a0) (h4 : a7 = a2) (h5 : a8 = a4) (h6 : a9 = a6) (h7 : a10 = a7) (h8 : a11 = a8) (h9 : a12 ≤ a1) (h10 : a3 = a13 + a14) (h11 : a15 = a10 - a14) (h12 : a16 = a12) (h13 : a17 = a16) (h14 : a18 = a17) (h15 : a14 = 1) : (a15 = a13) ∧ (a12 ≤ a18) ∧ (a18 ≤ a9) ∧ ((a11 - a18) ≤ (a5 - a12)) ∧ (a5 ≤ a11) := by omega
theorem oz785 {a0 a1 a2 a3 : Int} (h0 : a0 ≤ a1) : (a2 = a2) ∧ (a0 ≤ a0) ∧ (a0 ≤ a1) ∧ ((a3 - a0) ≤ (a3 - a0)) ∧ (a3 ≤ a3) := by omega
theorem oz786 {a0 a1 a2 a3 a4 a5 a6 a7 : Int} (h0 : a0 ≤ a1) (h1 : a2 ≤ 120) (h2 : a3 = a4 + a5) (h3 : ((a6 = (-1)) ∧ (a2 ≤ a4)) ∨ ((a4 < a2) ∧ (a6 = a7))) (h4 : (a1 = (-1)) ∨ ((100 : Int) ≤ a6)) (h5 : a0 = 0) (h6 : a5 = 1) : a3 ≤ 120 := by omega
theorem oz787 {a0 a1 : Int} (h0 : a0 ≤ 120) (h1 : (0 : Int) ≤ a1) (h2 : a1 ≤ a0) : ((0 : Int) ≤ a1) ∧ (a1 ≤ 199) := by omega
theorem oz788 {a0 a1 : Int} (h0 : a0 ≤ 120) (h1 : a1 ≤ a0) : a1 < 200 := by omega
theorem oz789 {a0 a1 a2 a3 a4 a5 a6 a7 a8 a9 a10 a11 a12 a13 : Int} (h0 : a0 ≤ a1) (h1 : a2 = a3) (h2 : a4 = a5) (h3 : a6 = a7) (h4 : a5 = a8 + a9) (h5 : ((a10 = (-1)) ∧ (a3 ≤ a8)) ∨ ((a8 < a3) ∧ (a10 = a11))) (h6 : (a1 = (-1)) ∨ ((100 : Int) ≤ a10)) (h7 : a12 = (a13 + 1)) (h8 : a0 = 0) (h9 : a9 = 1) : (a6 = a7) ∧ (a8 ≤ a4) ∧ (a4 ≤ a2) ∧ ((a12 - a4) ≤ (a13 - a8)) ∧ (a13 ≤ a12) ∧ ((a8 + 1) ≤ a4) := by omega
theorem oz790 {a0 a1 a2 a3 : Int} (h0 : a0 ≤ a1) (h1 : ((a1 = 0) ∧ (a2 = 0)) ∨ ((a1 = 1) ∧ ((0 : Int) ≤ a2) ∧ (a2 ≤ 9)) ∨ ((a1 = 2) ∧ ((0 : Int) ≤ a2) ∧ (a2 ≤ 99)) ∨ ((a1 = 3) ∧ ((0 : Int) ≤ a2) ∧ (a2 ≤ 999)) ∨ ((a1 = 4) ∧ ((0 : Int) ≤ a2) ∧ (a2 ≤ 9999))) (h2 : a0 = 4) (h3 : a3 = 18) : (-2147483648 : Int) ≤ a3 + a2 := by omega
theorem oz791 {a0 a1 a2 a3 : Int} (h0 : a0 ≤ a1) (h1 : ((a1 = 0) ∧ (a2 = 0)) ∨ ((a1 = 1) ∧ ((0 : Int) ≤ a2) ∧ (a2 ≤ 9)) ∨ ((a1 = 2) ∧ ((0 : Int) ≤ a2) ∧ (a2 ≤ 99)) ∨ ((a1 = 3) ∧ ((0 : Int) ≤ a2) ∧ (a2 ≤ 999)) ∨ ((a1 = 4) ∧ ((0 : Int) ≤ a2) ∧ (a2 ≤ 9999))) (h2 : a0 = 4) (h3 : a3 = 18) : a3 + a2 ≤ 2147483647 := by omega
theorem oz792 {a0 a1 a2 : Int} (h0 : a0 = a1) (h1 : (0 : Int) ≤ a0) (h2 : a2 ≤ 120) (h3 : a1 ≤ a2) : ((0 : Int) ≤ a0) ∧ (a0 ≤ 199) := by omega
theorem oz793 {a0 a1 a2 a3 a4 : Int} (h0 : a0 ≤ a1) (h1 : ((a1 = 0) ∧ (a2 = 0)) ∨ ((a1 = 1) ∧ ((0 : Int) ≤ a2) ∧ (a2 ≤ 9)) ∨ ((a1 = 2) ∧ ((0 : Int) ≤ a2) ∧ (a2 ≤ 99)) ∨ ((a1 = 3) ∧ ((0 : Int) ≤ a2) ∧ (a2 ≤ 999)) ∨ ((a1 = 4) ∧ ((0 : Int) ≤ a2) ∧ (a2 ≤ 9999))) (h2 : a3 = a4 + a2) (h3 : a0 = 4) (h4 : a4 = 18) : (18 : Int) ≤ a3 := by omega
theorem oz794 {a0 a1 a2 a3 a4 a5 a6 a7 a8 a9 a10 a11 a12 : Int} (h0 : a0 ≤ a1) (h1 : a2 = a3) (h2 : a4 = a5) (h3 : a6 = a7) (h4 : a8 = a9) (h5 : a10 = a2) (h6 : (a11 + a1) ≤ a9) (h7 : a9 ≤ a7) (h8 : a12 = (a4 + 1)) (h9 : a0 = 4) : (a10 = a3) ∧ (a11 ≤ a8) ∧ (a8 ≤ a6) ∧ ((a12 - a8) ≤ (a5 - a11)) ∧ (a5 ≤ a12) ∧ ((a11 + 1) ≤ a8) := by omega
theorem oz795 {a0 a1 a2 : Int} (h0 : a0 < a1) (h1 : ((a0 = 0) ∧ (a2 = 0)) ∨ ((a0 = 1) ∧ ((0 : Int) ≤ a2) ∧ (a2 ≤ 9)) ∨ ((a0 = 2) ∧ ((0 : Int) ≤ a2) ∧ (a2 ≤ 99)) ∨ ((a0 = 3) ∧ ((0 : Int) ≤ a2) ∧ (a2 ≤ 999)) ∨ ((a0 = 4) ∧ ((0 : Int) ≤ a2) ∧ (a2 ≤ 9999))) (h2 : a1 = 4) : (-2147483648 : Int) ≤ 10 * a2 := by omega
theorem oz796 {a0 a1 a2 : Int} (h0 : a0 < a1) (h1 : ((a0 = 0) ∧ (a2 = 0)) ∨ ((a0 = 1) ∧ ((0 : Int) ≤ a2) ∧ (a2 ≤ 9)) ∨ ((a0 = 2) ∧ ((0 : Int) ≤ a2) ∧ (a2 ≤ 99)) ∨ ((a0 = 3) ∧ ((0 : Int) ≤ a2) ∧ (a2 ≤ 999)) ∨ ((a0 = 4) ∧ ((0 : Int) ≤ a2) ∧ (a2 ≤ 9999))) (h2 : a1 = 4) : 10 * a2 ≤ 2147483647 := by omega
theorem oz797 {a0 a1 a2 a3 a4 : Int} (h0 : a0 < a1) (h1 : ((a0 = 0) ∧ (a2 = 0)) ∨ ((a0 = 1) ∧ ((0 : Int) ≤ a2) ∧ (a2 ≤ 9)) ∨ ((a0 = 2) ∧ ((0 : Int) ≤ a2) ∧ (a2 ≤ 99)) ∨ ((a0 = 3) ∧ ((0 : Int) ≤ a2) ∧ (a2 ≤ 999)) ∨ ((a0 = 4) ∧ ((0 : Int) ≤ a2) ∧ (a2 ≤ 9999))) (h2 : a3 = 10 * a2) (h3 : (48 : Int) ≤ a4) (h4 : a1 = 4) : (-2147483648 : Int) ≤ a3 + a4 := by omega
theorem oz798 {a0 a1 a2 a3 a4 : Int} (h0 : a0 < a1) (h1 : ((a0 = 0) ∧ (a2 = 0)) ∨ ((a0 = 1) ∧ ((0 : Int) ≤ a2) ∧ (a2 ≤ 9)) ∨ ((a0 = 2) ∧ ((0 : Int) ≤ a2) ∧ (a2 ≤ 99)) ∨ ((a0 = 3) ∧ ((0 : Int) ≤ a2) ∧ (a2 ≤ 999)) ∨ ((a0 = 4) ∧ ((0 : Int) ≤ a2) ∧ (a2 ≤ 9999))) (h2 : a3 = 10 * a2) (h3 : a4 ≤ 57) (h4 : a1 = 4) : a3 + a4 ≤ 2147483647 := by omega
theorem oz799 {a0 a1 a2 a3 a4 a5 a6 : Int} (h0 : a0 < a1) (h1 : ((a0 = 0) ∧ (a2 = 0)) ∨ ((a0 = 1) ∧ ((0 : Int) ≤ a2) ∧ (a2 ≤ 9)) ∨ ((a0 = 2) ∧ ((0 : Int) ≤ a2) ∧ (a2 ≤ 99)) ∨ ((a0 = 3) ∧ ((0 : Int) ≤ a2) ∧ (a2 ≤ 999)) ∨ ((a0 = 4) ∧ ((0 : Int) ≤ a2) ∧ (a2 ≤ 9999))) (h2 : a3 = 10 * a2) (h3 : a4 = a3 + a5) (h4 : (48 : Int) ≤ a5) (h5 : a1 = 4) (h6 : a6 = 48) : (-2147483648 : Int) ≤ a4 - a6 := by omega
theorem oz800 {a0 a1 a2 a3 a4 a5 a6 : Int} (h0 : a0 < a1) (h1 : ((a0 = 0) ∧ (a2 = 0)) ∨ ((a0 = 1) ∧ ((0 : Int) ≤ a2) ∧ (a2 ≤ 9)) ∨ ((a0 = 2) ∧ ((0 : Int) ≤ a2) ∧ (a2 ≤ 99)) ∨ ((a0 = 3) ∧ ((0 : Int) ≤ a2) ∧ (a2 ≤ 999)) ∨ ((a0 = 4) ∧ ((0 : Int) ≤ a2) ∧ (a2 ≤ 9999))) (h2 : a3 = 10 * a2) (h3 : a4 = a3 + a5) (h4 : a5 ≤ 57) (h5 : a1 = 4) (h6 : a6 = 48) : a4 - a6 ≤ 2147483647 := by omega
theorem oz801 {a0 a1 a2 a3 a4 a5 a6 a7 a8 a9 : Int} (h0 : a0 < a1) (h1 : ((a0 = 0) ∧ (a2 = 0)) ∨ ((a0 = 1) ∧ ((0 : Int) ≤ a2) ∧ (a2 ≤ 9)) ∨ ((a0 = 2) ∧ ((0 : Int) ≤ a2) ∧ (a2 ≤ 99)) ∨ ((a0 = 3) ∧ ((0 : Int) ≤ a2) ∧ (a2 ≤ 999)) ∨ ((a0 = 4) ∧ ((0 : Int) ≤ a2) ∧ (a2 ≤ 9999))) (h2 : a3 = 10 * a2) (h3 : a4 = a3 + a5) (h4 : a6 = a4 - a7) (h5 : a8 = a0 + a9) (h6 : (48 : Int) ≤ a5) (h7 : a5 ≤ 57) (h8 : a1 = 4) (h9 : a7 = 48) (h10 : a9 = 1) : ((a8 = 0) ∧ (a6 = 0)) ∨ ((a8 = 1) ∧ ((0 : Int) ≤ a6) ∧ (a6 ≤ 9)) ∨ ((a8 = 2) ∧ ((0 : Int) ≤ a6) ∧ (a6 ≤ 99)) ∨ ((a8 = 3) ∧ ((0 : Int) ≤ a6) ∧ (a6 ≤ 999)) ∨ ((a8 = 4) ∧ ((0 : Int) ≤ a6) ∧ (a6 ≤ 9999)) := by omega
theorem oz802 {a0 a1 a2 a3 : Int} (h0 : a0 < a1) (h1 : ((a0 = 0) ∧ (a2 = 0)) ∨ ((a0 = 1) ∧ ((0 : Int) ≤ a2) ∧ (a2 ≤ 9)) ∨ ((a0 = 2) ∧ ((0 : Int) ≤ a2) ∧ (a2 ≤ 99)) ∨ ((a0 = 3) ∧ ((0 : Int) ≤ a2) ∧ (a2 ≤ 999)) ∨ ((a0 = 4) ∧ ((0 : Int) ≤ a2) ∧ (a2 ≤ 9999))) (h2 : a1 = 4) (h3 : a3 = 18) : (-2147483648 : Int) ≤ a3 + a2 := by omega
theorem oz803 {a0 a1 a2 a3 : Int} (h0 : a0 < a1) (h1 : ((a0 = 0) ∧ (a2 = 0)) ∨ ((a0 = 1) ∧ ((0 : Int) ≤ a2) ∧ (a2 ≤ 9)) ∨ ((a0 = 2) ∧ ((0 : Int) ≤ a2) ∧ (a2 ≤ 99)) ∨ ((a0 = 3) ∧ ((0 : Int) ≤ a2) ∧ (a2 ≤ 999)) ∨ ((a0 = 4) ∧ ((0 : Int) ≤ a2) ∧ (a2 ≤ 9999))) (h2 : a1 = 4) (h3 : a3 = 18) : a3 + a2 ≤ 2147483647 := by omega
theorem oz804 {a0 a1 a2 a3 a4 : Int} (h0 : a0 < a1) (h1 : ((a0 = 0) ∧ (a2 = 0)) ∨ ((a0 = 1) ∧ ((0 : Int) ≤ a2) ∧ (a2 ≤ 9)) ∨ ((a0 = 2) ∧ ((0 : Int) ≤ a2) ∧ (a2 ≤ 99)) ∨ ((a0 = 3) ∧ ((0 : Int) ≤ a2) ∧ (a2 ≤ 999)) ∨ ((a0 = 4) ∧ ((0 : Int) ≤ a2) ∧ (a2 ≤ 9999))) (h2 : a3 = a4 + a2) (h3 : a1 = 4) (h4 : a4 = 18) : (18 : Int) ≤ a3 := by omega
theorem oz805 {a0 a1 a2 a3 a4 a5 a6 a7 a8 a9 a10 a11 a12 a13 a14 : Int} (h0 : a0 = a1) (h1 : a2 = a3) (h2 : a4 = a5) (h3 : a6 = a0) (h4 : a7 = a8) (h5 : a9 = a2) (h6 : (a10 + a11) ≤ a8) (h7 : a8 ≤ a0) (h8 : ((1 : Int) ≤ a11) ∨ (a8 = a10)) (h9 : (a8 = a10 → a12 = a13)) (h10 : a10 < a1) (h11 : (48 : Int) ≤ a13) (h12 : a13 ≤ 57) (h13 : ¬ ((a8 < a0) ∧ ((48 : Int) ≤ a12) ∧ (a12 ≤ 57))) (h14 : a14 = (a4 + 1)) : (a9 = a3) ∧ (a10 ≤ a7) ∧ (a7 ≤ a6) ∧ ((a14 - a7) ≤ (a5 - a10)) ∧ (a5 ≤ a14) ∧ ((a10 + 1) ≤ a7) := by omega
theorem oz806 {a0 a1 a2 a3 a4 a5 : Int} (h0 : a0 = a1) (h1 : a2 ≤ 120) (h2 : (0 : Int) ≤ a3) (h3 : a1 ≤ a4) (h4 : a5 = (a4 + 1)) (h5 : (a3 - a2) ≤ (a0 - a5)) : ((0 : Int) ≤ a3) ∧ (a3 ≤ 199) := by omega
theorem oz807 {a0 a1 a2 a3 a4 a5 a6 a7 a8 a9 a10 a11 a12 a13 a14 a15 a16 : Int} (h0 : a0 = a1) (h1 : a2 = a3) (h2 : a4 = a5) (h3 : a6 = a7) (h4 : a8 = a9) (h5 : a1 = a10 + a11) (h6 : a12 = a8 - a11) (h7 : a13 = (a14 + 1)) (h8 : a9 = a0) (h9 : a7 ≤ a5) (h10 : (a15 - a7) ≤ (a2 - a13)) (h11 : a2 ≤ a15) (h12 : (a13 + 1) ≤ a7) (h13 : a16 = (a15 + 1)) (h14 : a11 = 1) : (a12 = a10) ∧ (a14 ≤ a6) ∧ (a6 ≤ a4) ∧ ((a16 - a6) ≤ (a3 - a14)) ∧ (a3 ≤ a16) ∧ ((a14 + 1) ≤ a6) := by omega
theorem oz808 {a0 a1 : Int} (h0 : (a0 + a1) = 6) : (a0 + a1) = 6 := by omega
theorem oz810 {a0 a1 a2 a3 a4 a5 a6 : Int} (h0 : a0 = a1) (h1 : a2 ≤ 120) (h2 : a3 = a4 + a5) (h3 : ((a0 = (-1)) ∧ (a2 ≤ a4)) ∨ ((a4 < a2) ∧ (a0 = a6))) (h4 : a1 = 37) (h5 : a5 = 1) : a3 ≤ 120 := by omega
theorem oz811 {a0 a1 a2 a3 : Int} (h0 : a0 = a1) (h1 : (a2 + a3) = 6) (h2 : a1 = a2) : (a0 + a3) = 6 := by omega
theorem oz812 {a0 a1 a2 a3 a4 a5 : Int} (h0 : a0 ≤ a1) (h1 : (a2 - a3) ≤ (a0 - a1)) (h2 : a4 = a3 + a5) (h3 : a5 = 1) : a2 ≤ a4 := by omega
theorem oz813 {a0 a1 a2 a3 a4 a5 a6 : Int} (h0 : a0 = a1) (h1 : a2 = a3 + a4) (h2 : ((a0 = (-1)) ∧ (a5 ≤ a3)) ∨ ((a3 < a5) ∧ (a0 = a6))) (h3 : a1 = 37) (h4 : a4 = 1) : a2 ≤ a5 := by omega
theorem oz814 {a0 a1 a2 a3 a4 a5 a6 a7 : Int} (h0 : a0 ≤ 120) (h1 : (0 : Int) ≤ a1) (h2 : a2 ≤ a3) (h3 : (a4 - a5) ≤ (a2 - a3)) (h4 : a6 = a5 + a7) (h5 : (a1 - a0) ≤ (a4 - a6)) (h6 : a7 = 1) : ((0 : Int) ≤ a1) ∧ (a1 ≤ 199) := by omega
theorem oz815 {a0 : Int} (h0 : a0 = 15) : (6 : Int) ≤ a0 := by omega
theorem oz816 {a0 : Int} (h0 : a0 = 15) : a0 ≤ 15 := by omega
theorem oz819 {a0 a1 a2 a3 : Int} (h0 : a0 = a1) (h1 : a2 = a3) (h2 : a3 ≤ a1) : a2 ≤ a0 := by omega
theorem oz823 {a0 a1 a2 a3 a4 a5 a6 a7 : Int} (h0 : a0 = a1) (h1 : a2 = a0) (h2 : a3 = a4) (h3 : a5 = a6 + a7) (h4 : (a5 + 1) ≤ a4) (h5 : a7 = 1) : (a2 - a3) < (a1 - a6) := by omega
theorem oz824 {a0 a1 a2 a3 a4 a5 : Int} (h0 : a0 = a1) (h1 : a2 = a3 + a4) (h2 : a5 ≤ a0) (h3 : (a2 + 1) ≤ a5) (h4 : a4 = 1) : (1 : Int) ≤ (a1 - a3) := by omega
theorem oz826 {a0 a1 a2 a3 a4 a5 a6 : Int} (h0 : a0 = a1) (h1 : a2 ≤ 120) (h2 : a3 = a4 + a5) (h3 : ((a0 = (-1)) ∧ (a2 ≤ a4)) ∨ ((a4 < a2) ∧ (a0 = a6))) (h4 : a1 = 47) (h5 : a5 = 1) : a3 ≤ 120 := by omega
theorem oz827 {a0 a1 a2 a3 a4 a5 a6 : Int} (h0 : a0 = a1) (h1 : a2 = a3 + a4) (h2 : ((a0 = (-1)) ∧ (a5 ≤ a3)) ∨ ((a3 < a5) ∧ (a0 = a6))) (h3 : a1 = 47) (h4 : a4 = 1) : a2 ≤ a5 := by omega
theorem oz828 {a0 : Int} (h0 : a0 = 14) : (6 : Int) ≤ a0 := by omega
theorem oz829 {a0 : Int} (h0 : a0 = 14) : a0 ≤ 15 := by omega
theorem oz835 {a0 a1 a2 a3 a4 a5 a6 : Int} (h0 : a0 = a1) (h1 : a2 ≤ 120) (h2 : a3 = a4 + a5) (h3 : ((a0 = (-1)) ∧ (a2 ≤ a4)) ∨ ((a4 < a2) ∧ (a0 = a6))) (h4 : a1 = 42) (h5 : a5 = 1) : a3 ≤ 120 := by omega
theorem oz836 {a0 a1 a2 a3 a4 a5 a6 : Int} (h0 : a0 = a1) (h1 : a2 = a3 + a4) (h2 : ((a0 = (-1)) ∧ (a5 ≤ a3)) ∨ ((a3 < a5) ∧ (a0 = a6))) (h3 : a1 = 42) (h4 : a4 = 1) : a2 ≤ a5 := by omega
theorem oz837 {a0 : Int} (h0 : a0 = 13) : (6 : Int) ≤ a0 := by omega
theorem oz838 {a0 : Int} (h0 : a0 = 13) : a0 ≤ 15 := by omega
theorem oz839 {a0 a1 : Int} (h0 : (a0 + 1) ≤ a1) : a0 ≤ a1 := by omega
theorem oz840 {a0 a1 a2 a3 : Int} (h0 : (a0 - a1) ≤ (a2 - a3)) : (a0 - a1) ≤ (a2 - a3) := by omega
theorem oz841 {a0 a1 : Int} (h0 : (a0 + 1) ≤ a1) : (a0 + 1) ≤ a1 := by omega
theorem oz842 {a0 a1 a2 a3 a4 a5 a6 : Int} (h0 : a0 = a1) (h1 : a2 ≤ a3) (h2 : a3 ≤ a4) (h3 : (a5 - a3) ≤ (a6 - a2)) (h4 : a6 ≤ a5) : (a0 = a1) ∧ (a2 ≤ a3) ∧ (a3 ≤ a4) ∧ ((a5 - a3) ≤ (a6 - a2)) ∧ (a6 ≤ a5) := by omega
theorem oz843 {a0 a1 a2 a3 a4 a5 a6 : Int} (h0 : a0 = a1) (h1 : a2 ≤ a3) (h2 : (a4 - a2) ≤ (a5 - a6)) (h3 : a5 ≤ a4) (h4 : (a6 + 1) ≤ a2) : (a0 = a1) ∧ (a6 ≤ a2) ∧ (a2 ≤ a3) ∧ ((a4 - a2) ≤ (a5 - a6)) ∧ (a5 ≤ a4) ∧ ((a6 + 1) ≤ a2) := by omega
theorem oz844 {a0 a1 a2 : Int} (h0 : (a0 + a1) = 6) (h1 : a2 = a0) : (a2 + a1) = 6 := by omega
theorem oz845 {a0 a1 a2 a3 : Int} (h0 : a0 = a1) (h1 : a2 = a3) (h2 : a1 = a2) : a0 = a3 := by omega
theorem oz846 {a0 a1 a2 a3 a4 a5 : Int} (h0 : a0 = a1) (h1 : (a2 + 1) ≤ a3) (h2 : a4 = a3 + a5) (h3 : (a4 + 1) ≤ a1) (h4 : a5 = 1) : a2 ≤ a0 := by omega
theorem oz847 {a0 a1 a2 a3 a4 a5 a6 a7 a8 a9 : Int} (h0 : a0 = a1) (h1 : (a2 - a3) ≤ (a4 - a5)) (h2 : a6 = a3 + a7) (h3 : (a8 - a1) ≤ (a2 - a6)) (h4 : a9 = (a8 + 1)) (h5 : a7 = 1) : (a9 - a0) ≤ (a4 - a5) := by omega
theorem oz848 {a0 a1 a2 a3 : Int} (h0 : a0 ≤ a1) (h1 : a1 ≤ a2) (h2 : a3 = (a2 + 1)) : a0 ≤ a3 := by omega
theorem oz849 {a0 a1 a2 a3 a4 a5 : Int} (h0 : a0 = a1) (h1 : (a2 + 1) ≤ a3) (h2 : a4 = a3 + a5) (h3 : (a4 + 1) ≤ a1) (h4 : a5 = 1) : (a2 + 1) ≤ a0 := by omega
theorem oz850 {a0 a1 a2 a3 a4 a5 a6 a7 a8 a9 a10 a11 : Int} (h0 : a0 = a1) (h1 : (a2 - a3) ≤ (a4 - a5)) (h2 : a4 ≤ a2) (h3 : (a5 + 1) ≤ a3) (h4 : a6 = a3 + a7) (h5 : a8 = a0) (h6 : a6 ≤ a9) (h7 : a9 ≤ a10) (h8 : (a11 - a9) ≤ (a2 - a6)) (h9 : a2 ≤ a11) (h10 : a7 = 1) : (a8 = a1) ∧ (a5 ≤ a9) ∧ (a9 ≤ a10) ∧ ((a11 - a9) ≤ (a4 - a5)) ∧ (a4 ≤ a11) := by omega
theorem oz851 {a0 a1 a2 a3 a4 a5 a6 : Int} (h0 : a0 = a1) (h1 : a2 ≤ 120) (h2 : a3 = a4 + a5) (h3 : ((a0 = (-1)) ∧ (a2 ≤ a4)) ∨ ((a4 < a2) ∧ (a0 = a6))) (h4 : a1 = 45) (h5 : a5 = 1) : a3 ≤ 120 := by omega
theorem oz852 {a0 a1 a2 a3 a4 a5 a6 : Int} (h0 : a0 = a1) (h1 : a2 = a3 + a4) (h2 : ((a0 = (-1)) ∧ (a5 ≤ a3)) ∨ ((a3 < a5) ∧ (a0 = a6))) (h3 : a1 = 45) (h4 : a4 = 1) : a2 ≤ a5 := by omega
theorem oz853 {a0 : Int} (h0 : a0 = 12) : (6 : Int) ≤ a0 := by omega
theorem oz854 {a0 : Int} (h0 : a0 = 12) : a0 ≤ 15 := by omega
theorem oz857 {a0 a1 a2 a3 a4 a5 a6 : Int} (h0 : a0 = a1) (h1 : a2 ≤ 120) (h2 : a3 = a4 + a5) (h3 : ((a0 = (-1)) ∧ (a2 ≤ a4)) ∨ ((a4 < a2) ∧ (a0 = a6))) (h4 : a1 = 43) (h5 : a5 = 1) : a3 ≤ 120 := by omega
theorem oz858 {a0 a1 a2 a3 a4 a5 a6 : Int} (h0 : a0 = a1) (h1 : a2 = a3 + a4) (h2 : ((a0 = (-1)) ∧ (a5 ≤ a3)) ∨ ((a3 < a5) ∧ (a0 = a6))) (h3 : a1 = 43) (h4 : a4 = 1) : a2 ≤ a5 := by omega
theorem oz859 {a0 : Int} (h0 : a0 = 11) : (6 : Int) ≤ a0 := by omega
theorem oz860 {a0 : Int} (h0 : a0 = 11) : a0 ≤ 15 := by omega
theorem oz861 {a0 a1 a2 a3 a4 a5 a6 : Int} (h0 : a0 = a1) (h1 : a2 ≤ 120) (h2 : a3 = a4 + a5) (h3 : ((a0 = (-1)) ∧ (a2 ≤ a4)) ∨ ((a4 < a2) ∧ (a0 = a6))) (h4 : a1 = 62) (h5 : a5 = 1) : a3 ≤ 120 := by omega
theorem oz862 {a0 a1 a2 a3 a4 a5 : Int} (h0 : a0 ≤ a1) (h1 : a2 = a3 + a4) (h2 : (a5 - a3) ≤ (a0 - a1)) (h3 : a4 = 1) : a5 ≤ a2 := by omega
theorem oz863 {a0 a1 a2 a3 a4 a5 a6 : Int} (h0 : a0 = a1) (h1 : a2 = a3 + a4) (h2 : ((a0 = (-1)) ∧ (a5 ≤ a3)) ∨ ((a3 < a5) ∧ (a0 = a6))) (h3 : a1 = 62) (h4 : a4 = 1) : a2 ≤ a5 := by omega
theorem oz864 {a0 a1 a2 a3 a4 a5 a6 a7 : Int} (h0 : a0 ≤ 120) (h1 : (0 : Int) ≤ a1) (h2 : a2 ≤ a3) (h3 : a4 = a5 + a6) (h4 : (a1 - a0) ≤ (a7 - a4)) (h5 : (a7 - a5) ≤ (a2 - a3)) (h6 : a6 = 1) : ((0 : Int) ≤ a1) ∧ (a1 ≤ 199) := by omega
theorem oz865 {a0 : Int} (h0 : a0 = 10) : (6 : Int) ≤ a0 := by omega
theorem oz866 {a0 : Int} (h0 : a0 = 10) : a0 ≤ 15 := by omega
theorem oz867 {a0 a1 a2 a3 a4 a5 a6 a7 a8 a9 a10 a11 a12 a13 a14 a15 : Int} (h0 : a0 = a1) (h1 : a2 = a3) (h2 : a4 = a5) (h3 : a6 = a7 + a8) (h4 : a5 = a9) (h5 : a3 ≤ a1) (h6 : (a10 - a3) ≤ (a11 - a6)) (h7 : a11 ≤ a10) (h8 : (a6 + 1) ≤ a3) (h9 : a9 = a12) (h10 : (a11 - a7) ≤ (a13 - a14)) (h11 : a13 ≤ a11) (h12 : (a14 + 1) ≤ a7) (h13 : a15 = (a10 + 1)) (h14 : a8 = 1) : (a4 = a12) ∧ (a14 ≤ a2) ∧ (a2 ≤ a0) ∧ ((a15 - a2) ≤ (a13 - a14)) ∧ (a13 ≤ a15) ∧ ((a14 + 1) ≤ a2) := by omega
theorem oz868 {a0 a1 a2 a3 a4 a5 a6 a7 a8 a9 a10 a11 : Int} (h0 : a0 = a1 + a2) (h1 : a3 = a4) (h2 : (a5 - a1) ≤ (a6 - a7)) (h3 : a6 ≤ a5) (h4 : (a7 + 1) ≤ a1) (h5 : a8 = a3) (h6 : a0 ≤ a9) (h7 : a9 ≤ a10) (h8 : (a11 - a9) ≤ (a5 - a0)) (h9 : a5 ≤ a11) (h10 : a2 = 1) : (a8 = a4) ∧ (a7 ≤ a9) ∧ (a9 ≤ a10) ∧ ((a11 - a9) ≤ (a6 - a7)) ∧ (a6 ≤ a11) := by omega
theorem oz869 {a0 a1 a2 a3 a4 a5 a6 : Int} (h0 : a0 = a1) (h1 : a2 ≤ 120) (h2 : a3 = a4 + a5) (h3 : ((a0 = (-1)) ∧ (a2 ≤ a4)) ∨ ((a4 < a2) ∧ (a0 = a6))) (h4 : a1 = 61) (h5 : a5 = 1) : a3 ≤ 120 := by omega
theorem oz870 {a0 a1 a2 a3 a4 a5 a6 : Int} (h0 : a0 = a1) (h1 : a2 = a3 + a4) (h2 : ((a0 = (-1)) ∧ (a5 ≤ a3)) ∨ ((a3 < a5) ∧ (a0 = a6))) (h3 : a1 = 61) (h4 : a4 = 1) : a2 ≤ a5 := by omega
theorem oz871 {a0 a1 a2 a3 a4 a5 a6 a7 : Int} (h0 : a0 ≤ 120) (h1 : (0 : Int) ≤ a1) (h2 : a2 ≤ a3) (h3 : a4 = a5 + a6) (h4 : (a7 - a5) ≤ (a2 - a3)) (h5 : (a1 - a0) ≤ (a7 - a4)) (h6 : a6 = 1) : ((0 : Int) ≤ a1) ∧ (a1 ≤ 199) := by omega
theorem oz872 {a0 : Int} (h0 : a0 = 9) : (6 : Int) ≤ a0 := by omega
theorem oz873 {a0 : Int} (h0 : a0 = 9) : a0 ≤ 15 := by omega
theorem oz874 {a0 a1 a2 a3 a4 a5 a6 a7 a8 a9 a10 a11 a12 a13 a14 a15 : Int} (h0 : a0 = a1) (h1 : a2 = a3) (h2 : a4 = a5) (h3 : a6 = a7 + a8) (h4 : a9 = a10) (h5 : (a11 - a7) ≤ (a12 - a13)) (h6 : a12 ≤ a11) (h7 : (a13 + 1) ≤ a7) (h8 : a5 = a9) (h9 : a3 ≤ a1) (h10 : (a14 - a3) ≤ (a11 - a6)) (h11 : a11 ≤ a14) (h12 : (a6 + 1) ≤ a3) (h13 : a15 = (a14 + 1)) (h14 : a8 = 1) : (a4 = a10) ∧ (a13 ≤ a2) ∧ (a2 ≤ a0) ∧ ((a15 - a2) ≤ (a12 - a13)) ∧ (a12 ≤ a15) ∧ ((a13 + 1) ≤ a2) := by omega
theorem oz875 {a0 a1 a2 a3 a4 a5 a6 : Int} (h0 : a0 = a1) (h1 : a2 ≤ 120) (h2 : a3 = a4 + a5) (h3 : ((a0 = (-1)) ∧ (a2 ≤ a4)) ∨ ((a4 < a2) ∧ (a0 = a6))) (h4 : a1 = 60) (h5 : a5 = 1) : a3 ≤ 120 := by omega
theorem oz876 {a0 a1 a2 a3 a4 a5 a6 : Int} (h0 : a0 = a1) (h1 : a2 = a3 + a4) (h2 : ((a0 = (-1)) ∧ (a5 ≤ a3)) ∨ ((a3 < a5) ∧ (a0 = a6))) (h3 : a1 = 60) (h4 : a4 = 1) : a2 ≤ a5 := by omega
theorem oz877 {a0 : Int} (h0 : a0 = 8) : (6 : Int) ≤ a0 := by omega
theorem oz878 {a0 : Int} (h0 : a0 = 8) : a0 ≤ 15 := by omega
theorem oz879 {a0 : Int} (h0 : a0 = 38) : (0 : Int) ≤ a0 := by omega
theorem oz881 {a0 a1 a2 a3 a4 a5 : Int} (h0 : a0 = a1) (h1 : a2 ≤ a3) (h2 : (a1 - a4) ≤ (a2 - a3)) (h3 : a5 = (a4 + 1)) : a0 ≤ a5 := by omega
theorem oz882 {a0 a1 a2 a3 a4 a5 a6 a7 : Int} (h0 : a0 = a1) (h1 : a2 ≤ 120) (h2 : (0 : Int) ≤ a3) (h3 : a4 ≤ a5) (h4 : (a1 - a6) ≤ (a4 - a5)) (h5 : a7 = (a6 + 1)) (h6 : (a3 - a2) ≤ (a0 - a7)) : ((0 : Int) ≤ a3) ∧ (a3 ≤ 199) := by omega
theorem oz883 {a0 : Int} (h0 : a0 = 7) : (6 : Int) ≤ a0 := by omega
theorem oz884 {a0 : Int} (h0 : a0 = 7) : a0 ≤ 15 := by omega
theorem oz890 {a0 a1 a2 a3 a4 a5 a6 a7 : Int} (h0 : a0 = a1) (h1 : a2 = a3) (h2 : a4 = a5) (h3 : a1 = a4) (h4 : a6 = (a7 + 1)) (h5 : (a6 + 1) ≤ a3) : (a0 - a2) < (a5 - a7) := by omega
theorem oz891 {a0 a1 a2 a3 : Int} (h0 : a0 = a1) (h1 : a2 = (a3 + 1)) (h2 : a2 ≤ a0) : (1 : Int) ≤ (a1 - a3) := by omega
theorem oz894 {a0 a1 a2 a3 a4 : Int} (h0 : a0 = a1) (h1 : a2 = a3) (h2 : a3 = a4) (h3 : a1 = a2) : a0 = a4 := by omega
theorem oz895 {a0 a1 a2 a3 a4 : Int} (h0 : a0 = a1) (h1 : (a2 + 1) ≤ a3) (h2 : a4 = (a3 + 1)) (h3 : (a4 + 1) ≤ a1) : a2 ≤ a0 := by omega
theorem oz896 {a0 a1 a2 a3 a4 a5 a6 a7 a8 a9 : Int} (h0 : a0 = a1) (h1 : a2 = a3) (h2 : (a3 - a4) ≤ (a5 - a6)) (h3 : a7 = (a8 + 1)) (h4 : a9 = (a4 + 1)) (h5 : (a8 - a1) ≤ (a2 - a9)) : (a7 - a0) ≤ (a5 - a6) := by omega
theorem oz897 {a0 a1 a2 a3 a4 : Int} (h0 : a0 = a1) (h1 : a2 ≤ a1) (h2 : a3 = (a4 + 1)) (h3 : a0 ≤ a4) : a2 ≤ a3 := by omega
theorem oz898 {a0 a1 a2 a3 a4 : Int} (h0 : a0 = a1) (h1 : (a2 + 1) ≤ a3) (h2 : a4 = (a3 + 1)) (h3 : (a4 + 1) ≤ a1) : (a2 + 1) ≤ a0 := by omega
theorem oz899 {a0 a1 a2 a3 a4 a5 a6 a7 a8 a9 a10 a11 a12 : Int} (h0 : a0 = a1) (h1 : a2 = a3) (h2 : a1 = a4) (h3 : (a3 - a5) ≤ (a6 - a7)) (h4 : a6 ≤ a3) (h5 : (a7 + 1) ≤ a5) (h6 : a8 = a0) (h7 : a9 ≤ a10) (h8 : a10 ≤ a11) (h9 : (a12 - a10) ≤ (a2 - a9)) (h10 : a2 ≤ a12) (h11 : a9 = (a5 + 1)) : (a8 = a4) ∧ (a7 ≤ a10) ∧ (a10 ≤ a11) ∧ ((a12 - a10) ≤ (a6 - a7)) ∧ (a6 ≤ a12) := by omega
theorem oz900 {a0 a1 a2 a3 a4 a5 a6 a7 a8 a9 a10 : Int} (h0 : a0 = a1) (h1 : a2 = a3) (h2 : a4 = a5) (h3 : a3 = a6) (h4 : a7 ≤ a1) (h5 : (a5 - a7) ≤ (a8 - a9)) (h6 : a8 ≤ a5) (h7 : (a9 + 1) ≤ a7) (h8 : a10 = a7) : (a2 = a6) ∧ (a9 ≤ a10) ∧ (a10 ≤ a0) ∧ ((a4 - a10) ≤ (a8 - a9)) ∧ (a8 ≤ a4) ∧ ((a9 + 1) ≤ a10) := by omega
theorem oz901 {a0 : Int} (h0 : a0 = 124) : (0 : Int) ≤ a0 := by omega
theorem oz902 {a0 : Int} (h0 : a0 = 6) : (6 : Int) ≤ a0 := by omega
theorem oz903 {a0 : Int} (h0 : a0 = 6) : a0 ≤ 15 := by omega
def w206_116 : kW := ([7448, 7449], [131, 132], [], [])
def w206_116_L24 : kW := ([], [132], [], [])
set_option maxRecDepth 100000 in
theorem kc206_116 {i : Nat → Int32} {a : Nat → List Int32} {q : Nat → List Int64} {r : Nat → Nat} (hI : kI i a q) (hr : kr r)  : km 3 206 [.ref 116] (ks i a q r) (kVI w206_116 i a q r (fun v i1 a1 q1 r1 => True)) := by
  have hG := kG_self w206_116 hI hr
  refine km_ofI (q := (mi_h206, mi_c206)) rfl (by decide) (Nat.le_of_ble_eq_true rfl) ?_
  intro P hP
  have hJ1 := kG_i hG 7448 rfl (v := 1) ⟨(oz246 kn1), (oz558 kn1)⟩
  have fi_7424 : ((0 : Int) ≤ (i 7424).toInt) ∧ ((i 7424).toInt ≤ 8) := hJ1.I.1 7424
  have hJ2 := kG_i hJ1 7449 rfl (v := (i 7424)) ⟨(oz3 fi_7424.1), (oz559 fi_7424.2)⟩
  refine ft_go mi_k206 11 19 [(0, .ref 116)] [.int 0, .ref 131, .ref 116] (ku (ku i 7448 1) 7449 (i 7424)) a q r (by rfl) ?_
  refine ko_callN mi_k206.1 (pc := 19) (ls := [(0, .ref 116)]) (st := [.int 0, .ref 131, .ref 116]) (h := ks (ku (ku i 7448 1) 7449 (i 7424)) a q r) (i := (.invokevirtual 263, 3, 168, 0, 9, 0, 413)) (mi_k206.2 _ _ (by rfl)) (ft_invS mi_pq168 (by rfl)) (cy := mi_c168) mi_pq168 rfl (kc168_116_131 hJ2.I hJ2.R 0 (oz236 kn0)) (by decide) ?_
  intro ig3 ag3 qg3 rg3 kg3 hg3
  have hGg3 := kG_call hJ2 kg3 (by decide +kernel)
  refine ft_go mi_k206 2 24 [(1, .int 0), (0, .ref 116)] [] ig3 ag3 qg3 rg3 (by rfl) ?_
  have lp4 : ∀ (nz : Nat) (i4 : Nat → Int32) (a4 : Nat → List Int32) (q4 : Nat → List Int64) (r4 : Nat → Nat) (l1_4 : Int32), kG w206_116_L24 ig3 ag3 qg3 rg3 i4 a4 q4 r4 → (0 : Int) ≤ l1_4.toInt → ((5 - l1_4.toInt)).toNat < nz → ko 3 (mi_h206, mi_c206) P (24, [(1, .int l1_4), (0, .ref 116)], [], (0, 0), ks i4 a4 q4 r4) := by
    intro nz
    induction nz with
    | zero =>
      intro _ _ _ _ _ _ _ hm
      exact absurd hm (Nat.not_lt_zero _)
    | succ nz ih4 =>
      intro i4 a4 q4 r4 l1_4 hL4 p4_0 hm4
      refine ft_go mi_k206 2 26 [(1, .int l1_4), (0, .ref 116)] [.int 5, .int l1_4] i4 a4 q4 r4 (by rfl) ?_
      refine ft_if mi_k206 (decide (5 ≤ l1_4)) 47 29 [(1, .int l1_4), (0, .ref 116)] [] (by rfl) (fun c => ?_) (fun c => ?_)
      ·
        have c5 : (5 : Int32).toInt ≤ l1_4.toInt := kd_le c; clear c
        have hG6 := kG_call hGg3 hL4 (by decide +kernel)
        refine ft_go mi_k206 3 52 [(1, .int l1_4), (0, .ref 116)] [.int 0, .ref 130] i4 a4 q4 r4 (by rfl) ?_
        refine ko_iald3 mi_k206.1 (n := 5) (c := 5) (ax := (0, 0, 0, 0, 0)) (mi_k206.2 _ _ (by rfl)) (by rfl) (ksG130 _ _ _ _) (hG6.I.2.1 130) rfl (oz46 kn0) (oz547 kn0) ?_
        exact ft_ret mi_k206 (by rfl) (hP ((a4 130).getD (0 : Int32).toNatClampNeg 0) _ _ _ _ hG6 trivial)
      ·
        have c7 : l1_4.toInt < (5 : Int32).toInt := kd_leF c; clear c
        refine ft_go mi_k206 6 39 [(1, .int l1_4), (0, .ref 116)] [.int l1_4, .ref 130, .int l1_4, .ref 132] i4 a4 q4 r4 (by rfl) ?_
        refine ko_iald3 mi_k206.1 (n := 5) (c := 5) (ax := (0, 0, 0, 0, 0)) (mi_k206.2 _ _ (by rfl)) (by rfl) (ksG130 _ _ _ _) (hL4.I.2.1 130) rfl (oz3 p4_0) (oz560 c7 kn5) ?_
        refine ko_iast3 mi_k206.1 (n := 5) (c := 5) (ax := (0, 0, 0, 0, 0)) (mi_k206.2 _ _ (by rfl)) (by rfl) (ksG132 _ _ _ _) (ksA132 _ _ _ _) (hL4.I.2.1 132) rfl (oz3 p4_0) (oz560 c7 kn5) ?_
        intro a8 ea8 fa8
        have hJ8 := kG_a3 hL4 132 rfl ea8 fa8 (kd_bd _)
        have s9 : (l1_4 + 1).toInt = l1_4.toInt + (1 : Int32).toInt := kd_add (oz12 p4_0 kn1) (oz561 c7 kn5 kn1)
        refine ft_go mi_k206 2 24 [(1, .int (l1_4 + 1)), (0, .ref 116)] [] i4 a8 q4 r4 (by rfl) ?_
        exact ih4 _ _ _ _ _ hJ8 (oz14 p4_0 s9 kn1) (kj_meas (oz372 s9 kn1) (oz562 c7 kn5) hm4)
  exact lp4 _ _ _ _ _ _ (kG_self _ hGg3.I hGg3.R) (oz46 kn0) (Nat.lt_succ_self _)
def w207_116 : kW := ([], [118, 130], [], [])
def w207_116_L12 : kW := ([], [118], [], [])
def w207_116_L79 : kW := ([], [130], [], [])
set_option maxRecDepth 100000 in
theorem kc207_116 {i : Nat → Int32} {a : Nat → List Int32} {q : Nat → List Int64} {r : Nat → Nat} (hI : kI i a q) (hr : kr r)  : km 1 207 [.ref 116] (ks i a q r) (kVI w207_116 i a q r (fun v i1 a1 q1 r1 => True)) := by
  have hG := kG_self w207_116 hI hr
  refine km_ofI (q := (mi_h207, mi_c207)) rfl (by decide) (Nat.le_of_ble_eq_true rfl) ?_
  intro P hP
  have fi_7448 : ((0 : Int) ≤ (i 7448).toInt) ∧ ((i 7448).toInt ≤ 1) := hG.I.1 7448
  refine ft_go mi_k207 2 4 [(0, .ref 116)] [.int (i 7448)] i a q r (by rfl) ?_
  refine ft_if mi_k207 ((i 7448) != 0) 10 7 [(0, .ref 116)] [] (by rfl) (fun c => ?_) (fun c => ?_)
  ·
    have c1 : (i 7448).toInt ≠ (0 : Int32).toInt := kd_ne c; clear c
    refine ft_go mi_k207 2 12 [(1, .int 0), (0, .ref 116)] [] i a q r (by rfl) ?_
    have lp2 : ∀ (nz : Nat) (i2 : Nat → Int32) (a2 : Nat → List Int32) (q2 : Nat → List Int64) (r2 : Nat → Nat) (l1_2 : Int32), kG w207_116_L12 i a q r i2 a2 q2 r2 → (0 : Int) ≤ l1_2.toInt → ((31 - l1_2.toInt)).toNat < nz → ko 1 (mi_h207, mi_c207) P (12, [(1, .int l1_2), (0, .ref 116)], [], (0, 0), ks i2 a2 q2 r2) := by
      intro nz
      induction nz with
      | zero =>
        intro _ _ _ _ _ _ _ hm
        exact absurd hm (Nat.not_lt_zero _)
      | succ nz ih2 =>
        intro i2 a2 q2 r2 l1_2 hL2 p2_0 hm2
        refine ft_go mi_k207 2 15 [(1, .int l1_2), (0, .ref 116)] [.int 31, .int l1_2] i2 a2 q2 r2 (by rfl) ?_
        refine ft_if mi_k207 (decide (31 ≤ l1_2)) 77 18 [(1, .int l1_2), (0, .ref 116)] [] (by rfl) (fun c => ?_) (fun c => ?_)
        ·
          have c3 : (31 : Int32).toInt ≤ l1_2.toInt := kd_le c; clear c
          have hG4 := kG_call hG hL2 (by decide +kernel)
          refine ft_go mi_k207 2 79 [(1, .int 0), (0, .ref 116)] [] i2 a2 q2 r2 (by rfl) ?_
          have lp5 : ∀ (nz : Nat) (i5 : Nat → Int32) (a5 : Nat → List Int32) (q5 : Nat → List Int64) (r5 : Nat → Nat) (l1_5 : Int32), kG w207_116_L79 i2 a2 q2 r2 i5 a5 q5 r5 → (0 : Int) ≤ l1_5.toInt → ((5 - l1_5.toInt)).toNat < nz → ko 1 (mi_h207, mi_c207) P (79, [(1, .int l1_5), (0, .ref 116)], [], (0, 0), ks i5 a5 q5 r5) := by
            intro nz
            induction nz with
            | zero =>
              intro _ _ _ _ _ _ _ hm
              exact absurd hm (Nat.not_lt_zero _)
            | succ nz ih5 =>
              intro i5 a5 q5 r5 l1_5 hL5 p5_0 hm5
              refine ft_go mi_k207 2 81 [(1, .int l1_5), (0, .ref 116)] [.int 5, .int l1_5] i5 a5 q5 r5 (by rfl) ?_
              refine ft_if mi_k207 (decide (5 ≤ l1_5)) 102 84 [(1, .int l1_5), (0, .ref 116)] [] (by rfl) (fun c => ?_) (fun c => ?_)
              ·
                have c6 : (5 : Int32).toInt ≤ l1_5.toInt := kd_le c; clear c
                have hG7 := kG_call hG4 hL5 (by decide +kernel)
                refine ft_go mi_k207 3 107 [(1, .int l1_5), (0, .ref 116)] [.int 0, .ref 130] i5 a5 q5 r5 (by rfl) ?_
                refine ko_iald3 mi_k207.1 (n := 5) (c := 5) (ax := (0, 0, 0, 0, 0)) (mi_k207.2 _ _ (by rfl)) (by rfl) (ksG130 _ _ _ _) (hG7.I.2.1 130) rfl (oz46 kn0) (oz547 kn0) ?_
                exact ft_ret mi_k207 (by rfl) (hP ((a5 130).getD (0 : Int32).toNatClampNeg 0) _ _ _ _ hG7 trivial)
              ·
                have c8 : l1_5.toInt < (5 : Int32).toInt := kd_leF c; clear c
                refine ft_go mi_k207 6 94 [(1, .int l1_5), (0, .ref 116)] [.int l1_5, .ref 132, .int l1_5, .ref 130] i5 a5 q5 r5 (by rfl) ?_
                refine ko_iald3 mi_k207.1 (n := 5) (c := 5) (ax := (0, 0, 0, 0, 0)) (mi_k207.2 _ _ (by rfl)) (by rfl) (ksG132 _ _ _ _) (hL5.I.2.1 132) rfl (oz3 p5_0) (oz560 c8 kn5) ?_
                refine ko_iast3 mi_k207.1 (n := 5) (c := 5) (ax := (0, 0, 0, 0, 0)) (mi_k207.2 _ _ (by rfl)) (by rfl) (ksG130 _ _ _ _) (ksA130 _ _ _ _) (hL5.I.2.1 130) rfl (oz3 p5_0) (oz560 c8 kn5) ?_
                intro a9 ea9 fa9
                have hJ9 := kG_a3 hL5 130 rfl ea9 fa9 (kd_bd _)
                have s10 : (l1_5 + 1).toInt = l1_5.toInt + (1 : Int32).toInt := kd_add (oz12 p5_0 kn1) (oz561 c8 kn5 kn1)
                refine ft_go mi_k207 2 79 [(1, .int (l1_5 + 1)), (0, .ref 116)] [] i5 a9 q5 r5 (by rfl) ?_
                exact ih5 _ _ _ _ _ hJ9 (oz14 p5_0 s10 kn1) (kj_meas (oz372 s10 kn1) (oz562 c8 kn5) hm5)
          exact lp5 _ _ _ _ _ _ (kG_self _ hG4.I hG4.R) (oz46 kn0) (Nat.lt_succ_self _)
        ·
          have c11 : l1_2.toInt < (31 : Int32).toInt := kd_leF c; clear c
          refine ft_go mi_k207 2 21 [(1, .int l1_2), (0, .ref 116)] [.int 8, .int l1_2] i2 a2 q2 r2 (by rfl) ?_
          refine ft_if mi_k207 (decide (8 ≤ l1_2)) 32 24 [(1, .int l1_2), (0, .ref 116)] [] (by rfl) (fun c => ?_) (fun c => ?_)
          ·
            have c12 : (8 : Int32).toInt ≤ l1_2.toInt := kd_le c; clear c
            have fi2_7449 : ((0 : Int) ≤ (i2 7449).toInt) ∧ ((i2 7449).toInt ≤ 8) := hL2.I.1 7449
            have fi_7449 : ((0 : Int) ≤ (i 7449).toInt) ∧ ((i 7449).toInt ≤ 8) := hG.I.1 7449
            have efi2_7449 : (i2 7449).toInt = (i 7449).toInt := hL2.ti 7449 rfl
            have s13 : (10 + (i2 7449)).toInt = (10 : Int32).toInt + (i2 7449).toInt := kd_add (oz251 fi2_7449.1 kn10) (oz563 fi2_7449.2 kn10)
            refine ft_go mi_k207 5 40 [(1, .int l1_2), (0, .ref 116)] [.int (10 + (i2 7449)), .int l1_2] i2 a2 q2 r2 (by rfl) ?_
            refine ft_if mi_k207 (decide (l1_2 < (10 + (i2 7449)))) 53 43 [(1, .int l1_2), (0, .ref 116)] [] (by rfl) (fun c => ?_) (fun c => ?_)
            ·
              have c14 : l1_2.toInt < (10 + (i2 7449)).toInt := kd_lt c; clear c
              refine ft_go mi_k207 10 69 [(2, .int 0), (1, .int l1_2), (0, .ref 116)] [.int l1_2, .ref 131, .int l1_2, .ref 118] i2 a2 q2 r2 (by rfl) ?_
              refine ko_iald3 mi_k207.1 (n := 31) (c := 31) (ax := (0, 0, 0, 0, 0)) (mi_k207.2 _ _ (by rfl)) (by rfl) (ksG131 _ _ _ _) (hL2.I.2.1 131) rfl (oz3 p2_0) (oz228 c11 kn31) ?_
              have r15 : ((l1_2.toInt = 18 → (0 : Int) ≤ ((a2 131).getD l1_2.toNatClampNeg 0).toInt ∧ ((a2 131).getD l1_2.toNatClampNeg 0).toInt ≤ 5)) ∧ ((19 ≤ l1_2.toInt → l1_2.toInt ≤ 24 → (0 : Int) ≤ ((a2 131).getD l1_2.toNatClampNeg 0).toInt ∧ ((a2 131).getD l1_2.toNatClampNeg 0).toInt ≤ 7)) := kE_ncond (p := 131) hL2.I (by decide) (j := l1_2) (oz3 p2_0)
              refine ko_iast3 mi_k207.1 (n := 31) (c := 31) (ax := (0, 0, 0, 0, 0)) (mi_k207.2 _ _ (by rfl)) (by rfl) (ksG118 _ _ _ _) (ksA118 _ _ _ _) (hL2.I.2.1 118) rfl (oz3 p2_0) (oz228 c11 kn31) ?_
              intro a16 ea16 fa16
              have hJ16 := kG_a3 hL2 118 rfl ea16 fa16 (kE_nset (p := 118) (by decide) (oz3 p2_0) (oz564 c14 fi2_7449.2 s13 kn10) (oz565 c14 fi2_7449.2 s13 kn10))
              have s17 : (l1_2 + 1).toInt = l1_2.toInt + (1 : Int32).toInt := kd_add (oz12 p2_0 kn1) (oz233 c11 kn31 kn1)
              refine ft_go mi_k207 2 12 [(1, .int (l1_2 + 1)), (2, .int 0), (0, .ref 116)] [] i2 a16 q2 r2 (by rfl) ?_
              refine ko_perm [(1, .int (l1_2 + 1)), (0, .ref 116)] (List.forall_mem_cons.mpr ⟨(List.Mem.head _), (List.forall_mem_cons.mpr ⟨(List.Mem.tail _ (List.Mem.tail _ (List.Mem.head _))), (fun _ h => absurd h List.not_mem_nil)⟩)⟩) ?_
              exact ih2 _ _ _ _ _ hJ16 (oz14 p2_0 s17 kn1) (kj_meas (oz234 s17 kn1) (oz235 c11 kn31) hm2)
            ·
              have c18 : (10 + (i2 7449)).toInt ≤ l1_2.toInt := kd_ltF c; clear c
              refine ft_go mi_k207 2 46 [(1, .int l1_2), (0, .ref 116)] [.int 18, .int l1_2] i2 a2 q2 r2 (by rfl) ?_
              refine ft_if mi_k207 (decide (18 ≤ l1_2)) 53 49 [(1, .int l1_2), (0, .ref 116)] [] (by rfl) (fun c => ?_) (fun c => ?_)
              ·
                have c19 : (18 : Int32).toInt ≤ l1_2.toInt := kd_le c; clear c
                refine ft_go mi_k207 10 69 [(2, .int 0), (1, .int l1_2), (0, .ref 116)] [.int l1_2, .ref 131, .int l1_2, .ref 118] i2 a2 q2 r2 (by rfl) ?_
                refine ko_iald3 mi_k207.1 (n := 31) (c := 31) (ax := (0, 0, 0, 0, 0)) (mi_k207.2 _ _ (by rfl)) (by rfl) (ksG131 _ _ _ _) (hL2.I.2.1 131) rfl (oz566 c19 kn18) (oz228 c11 kn31) ?_
                have r20 : ((l1_2.toInt = 18 → (0 : Int) ≤ ((a2 131).getD l1_2.toNatClampNeg 0).toInt ∧ ((a2 131).getD l1_2.toNatClampNeg 0).toInt ≤ 5)) ∧ ((19 ≤ l1_2.toInt → l1_2.toInt ≤ 24 → (0 : Int) ≤ ((a2 131).getD l1_2.toNatClampNeg 0).toInt ∧ ((a2 131).getD l1_2.toNatClampNeg 0).toInt ≤ 7)) := kE_ncond (p := 131) hL2.I (by decide) (j := l1_2) (oz566 c19 kn18)
                refine ko_iast3 mi_k207.1 (n := 31) (c := 31) (ax := (0, 0, 0, 0, 0)) (mi_k207.2 _ _ (by rfl)) (by rfl) (ksG118 _ _ _ _) (ksA118 _ _ _ _) (hL2.I.2.1 118) rfl (oz566 c19 kn18) (oz228 c11 kn31) ?_
                intro a21 ea21 fa21
                have hJ21 := kG_a3 hL2 118 rfl ea21 fa21 (kE_nset (p := 118) (by decide) (oz566 c19 kn18) (oz567 c19 r20.1 kn18) (oz568 r20.2))
                have s22 : (l1_2 + 1).toInt = l1_2.toInt + (1 : Int32).toInt := kd_add (oz569 c19 kn18 kn1) (oz233 c11 kn31 kn1)
                refine ft_go mi_k207 2 12 [(1, .int (l1_2 + 1)), (2, .int 0), (0, .ref 116)] [] i2 a21 q2 r2 (by rfl) ?_
                refine ko_perm [(1, .int (l1_2 + 1)), (0, .ref 116)] (List.forall_mem_cons.mpr ⟨(List.Mem.head _), (List.forall_mem_cons.mpr ⟨(List.Mem.tail _ (List.Mem.tail _ (List.Mem.head _))), (fun _ h => absurd h List.not_mem_nil)⟩)⟩) ?_
                exact ih2 _ _ _ _ _ hJ21 (oz570 c19 s22 kn18 kn1) (kj_meas (oz234 s22 kn1) (oz235 c11 kn31) hm2)
              ·
                have c23 : l1_2.toInt < (18 : Int32).toInt := kd_leF c; clear c
                have s24 : (l1_2 + 1).toInt = l1_2.toInt + (1 : Int32).toInt := kd_add (oz571 c18 fi2_7449.1 s13 kn10 kn1) (oz233 c11 kn31 kn1)
                refine ft_go mi_k207 7 12 [(1, .int (l1_2 + 1)), (2, .int 1), (0, .ref 116)] [] i2 a2 q2 r2 (by rfl) ?_
                refine ko_perm [(1, .int (l1_2 + 1)), (0, .ref 116)] (List.forall_mem_cons.mpr ⟨(List.Mem.head _), (List.forall_mem_cons.mpr ⟨(List.Mem.tail _ (List.Mem.tail _ (List.Mem.head _))), (fun _ h => absurd h List.not_mem_nil)⟩)⟩) ?_
                exact ih2 _ _ _ _ _ hL2 (oz572 c18 fi2_7449.1 s13 s24 kn10 kn1) (kj_meas (oz234 s24 kn1) (oz235 c11 kn31) hm2)
          ·
            have c25 : l1_2.toInt < (8 : Int32).toInt := kd_leF c; clear c
            have fi2_7449 : ((0 : Int) ≤ (i2 7449).toInt) ∧ ((i2 7449).toInt ≤ 8) := hL2.I.1 7449
            have fi_7449 : ((0 : Int) ≤ (i 7449).toInt) ∧ ((i 7449).toInt ≤ 8) := hG.I.1 7449
            have efi2_7449 : (i2 7449).toInt = (i 7449).toInt := hL2.ti 7449 rfl
            refine ft_go mi_k207 3 29 [(1, .int l1_2), (0, .ref 116)] [.int (i2 7449), .int l1_2] i2 a2 q2 r2 (by rfl) ?_
            refine ft_if mi_k207 (decide ((i2 7449) ≤ l1_2)) 49 32 [(1, .int l1_2), (0, .ref 116)] [] (by rfl) (fun c => ?_) (fun c => ?_)
            ·
              have c26 : (i2 7449).toInt ≤ l1_2.toInt := kd_le c; clear c
              have s27 : (l1_2 + 1).toInt = l1_2.toInt + (1 : Int32).toInt := kd_add (oz12 p2_0 kn1) (oz233 c11 kn31 kn1)
              refine ft_go mi_k207 7 12 [(1, .int (l1_2 + 1)), (2, .int 1), (0, .ref 116)] [] i2 a2 q2 r2 (by rfl) ?_
              refine ko_perm [(1, .int (l1_2 + 1)), (0, .ref 116)] (List.forall_mem_cons.mpr ⟨(List.Mem.head _), (List.forall_mem_cons.mpr ⟨(List.Mem.tail _ (List.Mem.tail _ (List.Mem.head _))), (fun _ h => absurd h List.not_mem_nil)⟩)⟩) ?_
              exact ih2 _ _ _ _ _ hL2 (oz14 p2_0 s27 kn1) (kj_meas (oz234 s27 kn1) (oz235 c11 kn31) hm2)
            ·
              have c28 : l1_2.toInt < (i2 7449).toInt := kd_leF c; clear c
              have s29 : (10 + (i2 7449)).toInt = (10 : Int32).toInt + (i2 7449).toInt := kd_add (oz251 fi2_7449.1 kn10) (oz563 fi2_7449.2 kn10)
              refine ft_go mi_k207 5 40 [(1, .int l1_2), (0, .ref 116)] [.int (10 + (i2 7449)), .int l1_2] i2 a2 q2 r2 (by rfl) ?_
              refine ft_if mi_k207 (decide (l1_2 < (10 + (i2 7449)))) 53 43 [(1, .int l1_2), (0, .ref 116)] [] (by rfl) (fun c => ?_) (fun c => ?_)
              ·
                have c30 : l1_2.toInt < (10 + (i2 7449)).toInt := kd_lt c; clear c
                refine ft_go mi_k207 10 69 [(2, .int 0), (1, .int l1_2), (0, .ref 116)] [.int l1_2, .ref 131, .int l1_2, .ref 118] i2 a2 q2 r2 (by rfl) ?_
                refine ko_iald3 mi_k207.1 (n := 31) (c := 31) (ax := (0, 0, 0, 0, 0)) (mi_k207.2 _ _ (by rfl)) (by rfl) (ksG131 _ _ _ _) (hL2.I.2.1 131) rfl (oz3 p2_0) (oz228 c11 kn31) ?_
                have r31 : ((l1_2.toInt = 18 → (0 : Int) ≤ ((a2 131).getD l1_2.toNatClampNeg 0).toInt ∧ ((a2 131).getD l1_2.toNatClampNeg 0).toInt ≤ 5)) ∧ ((19 ≤ l1_2.toInt → l1_2.toInt ≤ 24 → (0 : Int) ≤ ((a2 131).getD l1_2.toNatClampNeg 0).toInt ∧ ((a2 131).getD l1_2.toNatClampNeg 0).toInt ≤ 7)) := kE_ncond (p := 131) hL2.I (by decide) (j := l1_2) (oz3 p2_0)
                refine ko_iast3 mi_k207.1 (n := 31) (c := 31) (ax := (0, 0, 0, 0, 0)) (mi_k207.2 _ _ (by rfl)) (by rfl) (ksG118 _ _ _ _) (ksA118 _ _ _ _) (hL2.I.2.1 118) rfl (oz3 p2_0) (oz228 c11 kn31) ?_
                intro a32 ea32 fa32
                have hJ32 := kG_a3 hL2 118 rfl ea32 fa32 (kE_nset (p := 118) (by decide) (oz3 p2_0) (oz573 c25 kn8) (oz574 c25 kn8))
                have s33 : (l1_2 + 1).toInt = l1_2.toInt + (1 : Int32).toInt := kd_add (oz12 p2_0 kn1) (oz233 c11 kn31 kn1)
                refine ft_go mi_k207 2 12 [(1, .int (l1_2 + 1)), (2, .int 0), (0, .ref 116)] [] i2 a32 q2 r2 (by rfl) ?_
                refine ko_perm [(1, .int (l1_2 + 1)), (0, .ref 116)] (List.forall_mem_cons.mpr ⟨(List.Mem.head _), (List.forall_mem_cons.mpr ⟨(List.Mem.tail _ (List.Mem.tail _ (List.Mem.head _))), (fun _ h => absurd h List.not_mem_nil)⟩)⟩) ?_
                exact ih2 _ _ _ _ _ hJ32 (oz14 p2_0 s33 kn1) (kj_meas (oz234 s33 kn1) (oz235 c11 kn31) hm2)
              ·
                have c34 : (10 + (i2 7449)).toInt ≤ l1_2.toInt := kd_ltF c; clear c
                exact (oz575 c28 c34 s29 kn10).elim
    exact lp2 _ _ _ _ _ _ (kG_self _ hG.I hG.R) (oz46 kn0) (Nat.lt_succ_self _)
  ·
    have c35 : (i 7448).toInt = (0 : Int32).toInt := kd_neF c; clear c
    refine ft_go mi_k207 1 9 [(0, .ref 116)] [.int (-5)] i a q r (by rfl) ?_
    exact ft_ret mi_k207 (by rfl) (hP (-5) _ _ _ _ hG trivial)
set_option maxRecDepth 100000 in
theorem kc216_116 {i : Nat → Int32} {a : Nat → List Int32} {q : Nat → List Int64} {r : Nat → Nat} (hI : kI i a q) (hr : kr r) (x1 : Int32) : km 3 216 [.ref 116, .int x1] (ks i a q r) (kPI (ks i a q r) (fun v => True)) := by
  have hG := kG_self kW0 hI hr
  refine km_ofPI (q := (mi_h216, mi_c216)) rfl (by decide) (Nat.le_of_ble_eq_true rfl) ?_
  intro P hP
  have fi_7457 : ((0 : Int) ≤ (i 7457).toInt) ∧ ((i 7457).toInt ≤ 1000) := hG.I.1 7457
  refine ft_go mi_k216 5 8 [(0, .ref 116), (1, .int x1)] [.int (i 7457), .int 24, .int 0, .int x1] i a q r (by rfl) ?_
  have m2 : (((bif decide ((i 7457) < 24) then (i 7457) else 24).toInt ≤ (24 : Int32).toInt) ∧ ((bif decide ((i 7457) < 24) then (i 7457) else 24).toInt ≤ (i 7457).toInt)) ∧ ((bif decide ((i 7457) < 24) then (i 7457) else 24).toInt = (24 : Int32).toInt ∨ (bif decide ((i 7457) < 24) then (i 7457) else 24).toInt = (i 7457).toInt) := kd_min
  refine ft_go mi_k216 1 11 [(0, .ref 116), (1, .int x1)] [.int (bif decide ((i 7457) < 24) then (i 7457) else 24), .int 0, .int x1] i a q r (by rfl) ?_
  generalize (bif decide ((i 7457) < 24) then (i 7457) else 24) = m1 at m2 ⊢
  have s3 : (m1 - 1).toInt = m1.toInt - (1 : Int32).toInt := kd_sub (oz580 fi_7457.1 m2.2 kn24 kn1) (oz581 m2.1.1 kn24 kn1)
  refine ft_go mi_k216 2 13 [(0, .ref 116), (1, .int x1)] [.int (m1 - 1), .int 0, .int x1] i a q r (by rfl) ?_
  refine ko_callPI mi_k216.1 (pc := 13) (ls := [(0, .ref 116), (1, .int x1)]) (st := [.int (m1 - 1), .int 0, .int x1]) (h := ks i a q r) (i := (.invokestatic 119, 3, 131, 0, 9, 0, 379)) (mi_k216.2 _ _ (by rfl)) (ft_invS mi_pq131 (by rfl)) (cy := mi_c131) mi_pq131 rfl (kc131 hG.I hG.R x1 0 (m1 - 1)) (by decide) ?_
  intro vg4 hg4
  rcases hg4 with ⟨eg4, hg4⟩ | ⟨eg4, hg4⟩
  ·
    subst eg4
    have z5 : ((0 : Int32).toInt ≤ x1.toInt) ∧ (x1.toInt ≤ (m1 - 1).toInt) := hg4
    refine ft_go mi_k216 4 24 [(0, .ref 116), (1, .int x1)] [.int x1, .ref 135] i a q r (by rfl) ?_
    refine ko_iald3 mi_k216.1 (n := 24) (c := 24) (ax := (0, 0, 0, 0, 0)) (mi_k216.2 _ _ (by rfl)) (by rfl) (ksG135 _ _ _ _) (hG.I.2.1 135) rfl (oz389 z5.1 kn0) (oz582 m2.1.1 s3 z5.2 kn24 kn1) ?_
    refine ft_go mi_k216 1 29 [(0, .ref 116), (1, .int x1)] [.int ((a 135).getD x1.toNatClampNeg 0)] i a q r (by rfl) ?_
    exact ft_ret mi_k216 (by rfl) (hP ((a 135).getD x1.toNatClampNeg 0) trivial)
  ·
    subst eg4
    have z6 : ¬ (((0 : Int32).toInt ≤ x1.toInt) ∧ (x1.toInt ≤ (m1 - 1).toInt)) := hg4
    refine ft_go mi_k216 2 29 [(0, .ref 116), (1, .int x1)] [.int (-1)] i a q r (by rfl) ?_
    exact ft_ret mi_k216 (by rfl) (hP (-1) trivial)
set_option maxRecDepth 100000 in
theorem kc219_116 {i : Nat → Int32} {a : Nat → List Int32} {q : Nat → List Int64} {r : Nat → Nat} (hI : kI i a q) (hr : kr r) (x1 : Int32) (hp0 : ((0 : Int) ≤ x1.toInt) ∧ (x1.toInt ≤ 5)) : km 3 219 [.ref 116, .int x1] (ks i a q r) (kPI (ks i a q r) (fun v => (v = 1 ∧ (((0 : Int) ≤ ((a 136).getD x1.toNatClampNeg 0).toInt) ∧ (((a 136).getD x1.toNatClampNeg 0).toInt ≤ 4))) ∨ (v = 0 ∧ (¬ (((0 : Int) ≤ ((a 136).getD x1.toNatClampNeg 0).toInt) ∧ (((a 136).getD x1.toNatClampNeg 0).toInt ≤ 4)))))) := by
  have hG := kG_self kW0 hI hr
  refine km_ofPI (q := (mi_h219, mi_c219)) rfl (by decide) (Nat.le_of_ble_eq_true rfl) ?_
  intro P hP
  refine ft_go mi_k219 3 5 [(0, .ref 116), (1, .int x1)] [.int x1, .ref 136] i a q r (by rfl) ?_
  refine ko_iald3 mi_k219.1 (n := 6) (c := 6) (ax := (0, 0, 0, 0, 0)) (mi_k219.2 _ _ (by rfl)) (by rfl) (ksG136 _ _ _ _) (hG.I.2.1 136) rfl (oz3 hp0.1) (oz19 hp0.2) ?_
  have r1 : ((-1 : Int) ≤ ((a 136).getD x1.toNatClampNeg 0).toInt) ∧ (((a 136).getD x1.toNatClampNeg 0).toInt ≤ 59) := hG.I.2.2.1 136 (x1.toNatClampNeg)
  refine ft_go mi_k219 2 8 [(0, .ref 116), (1, .int x1)] [.int 4, .int 0, .int ((a 136).getD x1.toNatClampNeg 0)] i a q r (by rfl) ?_
  refine ko_callPI mi_k219.1 (pc := 8) (ls := [(0, .ref 116), (1, .int x1)]) (st := [.int 4, .int 0, .int ((a 136).getD x1.toNatClampNeg 0)]) (h := ks i a q r) (i := (.invokestatic 119, 3, 131, 0, 9, 0, 379)) (mi_k219.2 _ _ (by rfl)) (ft_invS mi_pq131 (by rfl)) (cy := mi_c131) mi_pq131 rfl (kc131 hG.I hG.R ((a 136).getD x1.toNatClampNeg 0) 0 4) (by decide) ?_
  intro vg2 hg2
  rcases hg2 with ⟨eg2, hg2⟩ | ⟨eg2, hg2⟩
  ·
    subst eg2
    have z3 : ((0 : Int32).toInt ≤ ((a 136).getD x1.toNatClampNeg 0).toInt) ∧ (((a 136).getD x1.toNatClampNeg 0).toInt ≤ (4 : Int32).toInt) := hg2
    exact ft_ret mi_k219 (by rfl) (hP 1 (Or.inl ⟨rfl, (oz600 z3.1 z3.2 kn0 kn4)⟩))
  ·
    subst eg2
    have z4 : ¬ (((0 : Int32).toInt ≤ ((a 136).getD x1.toNatClampNeg 0).toInt) ∧ (((a 136).getD x1.toNatClampNeg 0).toInt ≤ (4 : Int32).toInt)) := hg2
    exact ft_ret mi_k219 (by rfl) (hP 0 (Or.inr ⟨rfl, (oz601 z4 kn0 kn4)⟩))
set_option maxRecDepth 100000 in
theorem kc222_116 {i : Nat → Int32} {a : Nat → List Int32} {q : Nat → List Int64} {r : Nat → Nat} (hI : kI i a q) (hr : kr r) (x1 : Int32) (x2 : Int32) : km 5 222 [.ref 116, .int x1, .int x2] (ks i a q r) (kPL (ks i a q r) (fun v => True)) := by
  have hG := kG_self kW0 hI hr
  refine km_ofPL (q := (mi_h222, mi_c222)) rfl (by decide) (Nat.le_of_ble_eq_true rfl) ?_
  intro P hP
  refine ft_go mi_k222 1 1 [(0, .ref 116), (1, .int x1), (2, .int x2)] [.int x1] i a q r (by rfl) ?_
  refine ko_callPI mi_k222.1 (pc := 1) (ls := [(0, .ref 116), (1, .int x1), (2, .int x2)]) (st := [.int x1]) (h := ks i a q r) (i := (.invokestatic 127, 3, 133, 0, 9, 0, 382)) (mi_k222.2 _ _ (by rfl)) (ft_invS mi_pq133 (by rfl)) (cy := mi_c133) mi_pq133 rfl (kc133 hG.I hG.R x1) (by decide) ?_
  intro vg1 hg1
  rcases hg1 with ⟨eg1, hg1⟩ | ⟨eg1, hg1⟩
  ·
    subst eg1
    have z2 : ((0 : Int) ≤ x1.toInt) ∧ (x1.toInt ≤ 5) := hg1
    refine ft_go mi_k222 3 9 [(0, .ref 116), (1, .int x1), (2, .int x2)] [.int x1, .ref 116] i a q r (by rfl) ?_
    refine ko_callPI mi_k222.1 (pc := 9) (ls := [(0, .ref 116), (1, .int x1), (2, .int x2)]) (st := [.int x1, .ref 116]) (h := ks i a q r) (i := (.invokevirtual 372, 3, 219, 0, 9, 0, 473)) (mi_k222.2 _ _ (by rfl)) (ft_invS mi_pq219 (by rfl)) (cy := mi_c219) mi_pq219 rfl (kc219_116 hG.I hG.R x1 (oz35 z2.1 z2.2)) (by decide) ?_
    intro vg3 hg3
    rcases hg3 with ⟨eg3, hg3⟩ | ⟨eg3, hg3⟩
    ·
      subst eg3
      have r4 : ((-1 : Int) ≤ ((a 136).getD x1.toNatClampNeg 0).toInt) ∧ (((a 136).getD x1.toNatClampNeg 0).toInt ≤ 59) := hG.I.2.2.1 136 (x1.toNatClampNeg)
      have z5 : ((0 : Int) ≤ ((a 136).getD x1.toNatClampNeg 0).toInt) ∧ (((a 136).getD x1.toNatClampNeg 0).toInt ≤ 4) := hg3
      refine ft_go mi_k222 6 22 [(0, .ref 116), (1, .int x1), (2, .int x2)] [.int x1, .ref 137, .int 0, .int x2] i a q r (by rfl) ?_
      refine ko_iald3 mi_k222.1 (n := 6) (c := 6) (ax := (0, 0, 0, 0, 0)) (mi_k222.2 _ _ (by rfl)) (by rfl) (ksG137 _ _ _ _) (hG.I.2.1 137) rfl (oz3 z2.1) (oz19 z2.2) ?_
      have r6 : ((0 : Int) ≤ ((a 137).getD x1.toNatClampNeg 0).toInt) ∧ (((a 137).getD x1.toNatClampNeg 0).toInt ≤ 60) := hG.I.2.2.1 137 (x1.toNatClampNeg)
      have s7 : (((a 137).getD x1.toNatClampNeg 0) - 1).toInt = ((a 137).getD x1.toNatClampNeg 0).toInt - (1 : Int32).toInt := kd_sub (oz47 r6.1 kn1) (oz602 r6.2 kn1)
      refine ft_go mi_k222 2 25 [(0, .ref 116), (1, .int x1), (2, .int x2)] [.int (((a 137).getD x1.toNatClampNeg 0) - 1), .int 0, .int x2] i a q r (by rfl) ?_
      refine ko_callPI mi_k222.1 (pc := 25) (ls := [(0, .ref 116), (1, .int x1), (2, .int x2)]) (st := [.int (((a 137).getD x1.toNatClampNeg 0) - 1), .int 0, .int x2]) (h := ks i a q r) (i := (.invokestatic 119, 3, 131, 0, 9, 0, 379)) (mi_k222.2 _ _ (by rfl)) (ft_invS mi_pq131 (by rfl)) (cy := mi_c131) mi_pq131 rfl (kc131 hG.I hG.R x2 0 (((a 137).getD x1.toNatClampNeg 0) - 1)) (by decide) ?_
      intro vg8 hg8
      rcases hg8 with ⟨eg8, hg8⟩ | ⟨eg8, hg8⟩
      ·
        subst eg8
        have z9 : ((0 : Int32).toInt ≤ x2.toInt) ∧ (x2.toInt ≤ (((a 137).getD x1.toNatClampNeg 0) - 1).toInt) := hg8
        have s10 : (60 * x1).toInt = 60 * x1.toInt := kd_cmul 60 kn60 (oz28 z2.1) (oz29 z2.2)
        have s11 : ((60 * x1) + x2).toInt = (60 * x1).toInt + x2.toInt := kd_add (oz608 s10 z2.1 z9.1 kn0) (oz609 r6.2 s10 s7 z2.2 z9.2 kn1)
        refine ft_go mi_k222 8 41 [(0, .ref 116), (1, .int x1), (2, .int x2)] [.int ((60 * x1) + x2), .ref 138] i a q r (by rfl) ?_
        refine ko_lald2 mi_k222.1 (l := q 138) (n := 360) (c := 360) (ax := (0, 0, 0, 0, 0)) (mi_k222.2 _ _ (by rfl)) (by rfl) (by rfl) (hG.I.2.2.2 138) rfl (oz610 s10 s11 z2.1 z9.1 kn0) (oz611 r6.2 s10 s11 s7 z2.2 z9.2 kn1) ?_
        refine ft_go mi_k222 1 48 [(0, .ref 116), (1, .int x1), (2, .int x2)] [.long ((q 138).getD ((60 * x1) + x2).toNatClampNeg 0)] i a q r (by rfl) ?_
        exact ft_ret mi_k222 (by rfl) (hP ((q 138).getD ((60 * x1) + x2).toNatClampNeg 0) trivial)
      ·
        subst eg8
        have z12 : ¬ (((0 : Int32).toInt ≤ x2.toInt) ∧ (x2.toInt ≤ (((a 137).getD x1.toNatClampNeg 0) - 1).toInt)) := hg8
        refine ft_go mi_k222 2 48 [(0, .ref 116), (1, .int x1), (2, .int x2)] [.long (-9223372036854775808)] i a q r (by rfl) ?_
        exact ft_ret mi_k222 (by rfl) (hP (-9223372036854775808) trivial)
    ·
      subst eg3
      have r13 : ((-1 : Int) ≤ ((a 136).getD x1.toNatClampNeg 0).toInt) ∧ (((a 136).getD x1.toNatClampNeg 0).toInt ≤ 59) := hG.I.2.2.1 136 (x1.toNatClampNeg)
      have z14 : ¬ (((0 : Int) ≤ ((a 136).getD x1.toNatClampNeg 0).toInt) ∧ (((a 136).getD x1.toNatClampNeg 0).toInt ≤ 4)) := hg3
      refine ft_go mi_k222 2 48 [(0, .ref 116), (1, .int x1), (2, .int x2)] [.long (-9223372036854775808)] i a q r (by rfl) ?_
      exact ft_ret mi_k222 (by rfl) (hP (-9223372036854775808) trivial)
  ·
    subst eg1
    have z15 : ¬ (((0 : Int) ≤ x1.toInt) ∧ (x1.toInt ≤ 5)) := hg1
    refine ft_go mi_k222 2 48 [(0, .ref 116), (1, .int x1), (2, .int x2)] [.long (-9223372036854775808)] i a q r (by rfl) ?_
    exact ft_ret mi_k222 (by rfl) (hP (-9223372036854775808) trivial)
set_option maxRecDepth 100000 in
theorem kc225_116 {i : Nat → Int32} {a : Nat → List Int32} {q : Nat → List Int64} {r : Nat → Nat} (hI : kI i a q) (hr : kr r) (x1 : Int32) : km 1 225 [.ref 116, .int x1] (ks i a q r) (kPI (ks i a q r) (fun v => True)) := by
  have hG := kG_self kW0 hI hr
  refine km_ofPI (q := (mi_h225, mi_c225)) rfl (by decide) (Nat.le_of_ble_eq_true rfl) ?_
  intro P hP
  refine ft_go mi_k225 1 1 [(0, .ref 116), (1, .int x1)] [.int x1] i a q r (by rfl) ?_
  by_cases w1 : x1.toInt = 0
  ·
    refine ko_eq (x1 := (1, [(0, .ref 116), (1, .int x1)], [.int 0], (0, 0), ks i a q r)) (by rw [(kj_eq w1 (by decide) : x1 = 0)]) ?_
    have fi_7424 : ((0 : Int) ≤ (i 7424).toInt) ∧ ((i 7424).toInt ≤ 8) := hG.I.1 7424
    refine ft_go mi_k225 3 44 [(0, .ref 116), (1, .int x1)] [.int (i 7424)] i a q r (by rfl) ?_
    exact ft_ret mi_k225 (by rfl) (hP (i 7424) trivial)
  by_cases w2 : x1.toInt = 1
  ·
    refine ko_eq (x1 := (1, [(0, .ref 116), (1, .int x1)], [.int 1], (0, 0), ks i a q r)) (by rw [(kj_eq w2 (by decide) : x1 = 1)]) ?_
    refine ft_go mi_k225 4 51 [(0, .ref 116), (1, .int x1)] [.int 18, .ref 118] i a q r (by rfl) ?_
    refine ko_iald3 mi_k225.1 (n := 31) (c := 31) (ax := (0, 0, 0, 0, 0)) (mi_k225.2 _ _ (by rfl)) (by rfl) (ksG118 _ _ _ _) (hG.I.2.1 118) rfl (oz195 kn18) (oz196 kn18) ?_
    have r3 : ((0 : Int) ≤ ((a 118).getD (18 : Int32).toNatClampNeg 0).toInt) ∧ (((a 118).getD (18 : Int32).toNatClampNeg 0).toInt ≤ 5) := kE_n18 (p := 118) hG.I (by decide)
    exact ft_ret mi_k225 (by rfl) (hP ((a 118).getD (18 : Int32).toNatClampNeg 0) trivial)
  by_cases w4 : x1.toInt = 2
  ·
    refine ko_eq (x1 := (1, [(0, .ref 116), (1, .int x1)], [.int 2], (0, 0), ks i a q r)) (by rw [(kj_eq w4 (by decide) : x1 = 2)]) ?_
    have fi_7429 : ((0 : Int) ≤ (i 7429).toInt) ∧ ((i 7429).toInt ≤ 120) := hG.I.1 7429
    refine ft_go mi_k225 3 57 [(0, .ref 116), (1, .int x1)] [.int (i 7429)] i a q r (by rfl) ?_
    exact ft_ret mi_k225 (by rfl) (hP (i 7429) trivial)
  by_cases w5 : x1.toInt = 3
  ·
    refine ko_eq (x1 := (1, [(0, .ref 116), (1, .int x1)], [.int 3], (0, 0), ks i a q r)) (by rw [(kj_eq w5 (by decide) : x1 = 3)]) ?_
    have fi_7453 : ((0 : Int) ≤ (i 7453).toInt) ∧ ((i 7453).toInt ≤ 40) := hG.I.1 7453
    refine ft_go mi_k225 3 62 [(0, .ref 116), (1, .int x1)] [.int (i 7453)] i a q r (by rfl) ?_
    exact ft_ret mi_k225 (by rfl) (hP (i 7453) trivial)
  by_cases w6 : x1.toInt = 4
  ·
    refine ko_eq (x1 := (1, [(0, .ref 116), (1, .int x1)], [.int 4], (0, 0), ks i a q r)) (by rw [(kj_eq w6 (by decide) : x1 = 4)]) ?_
    have fi_7455 : ((0 : Int) ≤ (i 7455).toInt) ∧ ((i 7455).toInt ≤ 50) := hG.I.1 7455
    refine ft_go mi_k225 3 67 [(0, .ref 116), (1, .int x1)] [.int (i 7455)] i a q r (by rfl) ?_
    exact ft_ret mi_k225 (by rfl) (hP (i 7455) trivial)
  by_cases w7 : x1.toInt = 5
  ·
    refine ko_eq (x1 := (1, [(0, .ref 116), (1, .int x1)], [.int 5], (0, 0), ks i a q r)) (by rw [(kj_eq w7 (by decide) : x1 = 5)]) ?_
    have fi_7457 : ((0 : Int) ≤ (i 7457).toInt) ∧ ((i 7457).toInt ≤ 1000) := hG.I.1 7457
    refine ft_go mi_k225 3 72 [(0, .ref 116), (1, .int x1)] [.int (i 7457)] i a q r (by rfl) ?_
    exact ft_ret mi_k225 (by rfl) (hP (i 7457) trivial)
  refine ko_sw (ls := [(0, .ref 116), (1, .int x1)]) (r := []) (h := ks i a q r) mi_in225 (v := x1) (i := (.tableswitch 72 0 5 #[39, 44, 52, 57, 62, 67], 39, 0, 0, 0, 0, 0)) (by rfl) rfl (oz660 w1 w2 w4 w5 w6 w7) 73 (by rfl) ?_
  refine ft_go mi_k225 1 74 [(0, .ref 116), (1, .int x1)] [.int (-1)] i a q r (by rfl) ?_
  exact ft_ret mi_k225 (by rfl) (hP (-1) trivial)
def wO : kW := ([7464, 7465, 7466, 7467, 7469, 7476], [118, 128, 129, 139, 141, 142, 143, 144, 145, 146, 147], [], [])
def w184_116_L94 : kW := ([7464, 7465, 7466, 7467, 7469, 7476], [118, 128, 129, 139, 141, 142, 143, 144, 145, 146, 147], [], [])
def w184_116_L12 : kW := ([], [142], [], [])
def w184_116_L64 : kW := ([], [147], [], [])
def kLO_184 (n : Nat) : Prop := ∀ (i : Nat → Int32) (a : Nat → List Int32) (q : Nat → List Int64) (r : Nat → Nat), kI i a q → kr r → ∀ (x1 : Int32) (x2 : Int32) (x3 : Int32), (0 : Int) ≤ x1.toInt → ((0 : Int) ≤ x2.toInt) ∧ (x2.toInt ≤ 255) → ((0 : Int) ≤ x3.toInt) ∧ (x3.toInt ≤ 7) → (x1.toInt + (kbc x2).toInt) ≤ 5 → (kbc x2).toInt = (n : Int) → kCode i a → km (6 * n + 30) 184 [.ref 116, .int x1, .int x2, .int x3] (ks i a q r) (kVN wO i a q r (fun i1 a1 q1 r1 => True))
set_option maxRecDepth 100000 in
theorem kLsO_184 (n : Nat)  (ih : ∀ m, n = m + 1 → kLO_184 m) : kLO_184 n := by
  intro i a q r hI hr x1 x2 x3 hp0 hp1 hp2 hp3 hp4 hE_code
  have hG := kG_self wO hI hr
  refine km_ofN (q := (mi_h184, mi_c184)) rfl (by decide) (Nat.le_of_ble_eq_true rfl) ?_
  intro P hP
  have hn0 : (0 : Int) ≤ (n : Int) := Int.natCast_nonneg n
  refine ft_go mi_k184 1 1 [(0, .ref 116), (1, .int x1), (2, .int x2), (3, .int x3)] [.int x2] i a q r (by rfl) ?_
  refine ft_if mi_k184 (x2 != 0) 91 4 [(0, .ref 116), (1, .int x1), (2, .int x2), (3, .int x3)] [] (by rfl) (fun c => ?_) (fun c => ?_)
  ·
    have c1 : x2.toInt ≠ (0 : Int32).toInt := kd_ne c; clear c
    have kb2 : (1 : Int) ≤ (kbc x2).toInt := kbc_pos (oz3 hp1.1) (oz661 hp1.2) (oz662 c1 hp1.1 kn0)
    refine ft_go mi_k184 2 94 [(4, .int 0), (0, .ref 116), (1, .int x1), (2, .int x2), (3, .int x3)] [] i a q r (by rfl) ?_
    have lp3 : ∀ (nz : Nat) (i3 : Nat → Int32) (a3 : Nat → List Int32) (q3 : Nat → List Int64) (r3 : Nat → Nat) (l4_3 : Int32), kG w184_116_L94 i a q r i3 a3 q3 r3 → (0 : Int) ≤ l4_3.toInt → (((i3 7424).toInt - l4_3.toInt)).toNat < nz → ko (6 * n + 30) (mi_h184, mi_c184) P (94, [(4, .int l4_3), (0, .ref 116), (1, .int x1), (2, .int x2), (3, .int x3)], [], (0, 0), ks i3 a3 q3 r3) := by
      intro nz
      induction nz with
      | zero =>
        intro _ _ _ _ _ _ _ hm
        exact absurd hm (Nat.not_lt_zero _)
      | succ nz ih3 =>
        intro i3 a3 q3 r3 l4_3 hL3 p3_0 hm3
        have fi3_7424 : ((0 : Int) ≤ (i3 7424).toInt) ∧ ((i3 7424).toInt ≤ 8) := hL3.I.1 7424
        have fi_7424 : ((0 : Int) ≤ (i 7424).toInt) ∧ ((i 7424).toInt ≤ 8) := hG.I.1 7424
        have efi3_7424 : (i3 7424).toInt = (i 7424).toInt := hL3.ti 7424 rfl
        refine ft_go mi_k184 3 100 [(4, .int l4_3), (0, .ref 116), (1, .int x1), (2, .int x2), (3, .int x3)] [.int (i3 7424), .int l4_3] i3 a3 q3 r3 (by rfl) ?_
        refine ft_if mi_k184 (decide ((i3 7424) ≤ l4_3)) 145 103 [(4, .int l4_3), (0, .ref 116), (1, .int x1), (2, .int x2), (3, .int x3)] [] (by rfl) (fun c => ?_) (fun c => ?_)
        ·
          have c4 : (i3 7424).toInt ≤ l4_3.toInt := kd_le c; clear c
          have hG5 := kG_call hG hL3 (by decide +kernel)
          exact ft_ret mi_k184 (by rfl) (hP  _ _ _ _ hG5 trivial)
        ·
          have c6 : l4_3.toInt < (i3 7424).toInt := kd_leF c; clear c
          refine ft_go mi_k184 5 109 [(4, .int l4_3), (0, .ref 116), (1, .int x1), (2, .int x2), (3, .int x3)] [.int ((x2 >>> (l4_3 &&& 31)) &&& 1)] i3 a3 q3 r3 (by rfl) ?_
          refine ft_if mi_k184 (((x2 >>> (l4_3 &&& 31)) &&& 1) != 0) 115 112 [(4, .int l4_3), (0, .ref 116), (1, .int x1), (2, .int x2), (3, .int x3)] [] (by rfl) (fun c => ?_) (fun c => ?_)
          ·
            have c7 : ((x2 >>> (l4_3 &&& 31)) &&& 1).toInt ≠ (0 : Int32).toInt := kd_ne c; clear c
            have ks8 : ((kbc (x2 &&& ((1 <<< (l4_3 &&& 31)) ^^^ (-1)))).toInt = (kbc x2).toInt - 1) ∧ ((0 : Int) ≤ (x2 &&& ((1 <<< (l4_3 &&& 31)) ^^^ (-1))).toInt) ∧ ((x2 &&& ((1 <<< (l4_3 &&& 31)) ^^^ (-1))).toInt ≤ 255) := kbc_step (oz3 hp1.1) (oz661 hp1.2) (oz3 p3_0) (oz512 c6 fi3_7424.2) (oz295 c7 kn0)
            refine ft_go mi_k184 4 122 [(4, .int l4_3), (0, .ref 116), (1, .int x1), (2, .int x2), (3, .int x3)] [.int l4_3, .int x1, .ref 146] i3 a3 q3 r3 (by rfl) ?_
            refine ko_iast3 mi_k184.1 (n := 5) (c := 5) (ax := (0, 0, 0, 0, 0)) (mi_k184.2 _ _ (by rfl)) (by rfl) (ksG146 _ _ _ _) (ksA146 _ _ _ _) (hL3.I.2.1 146) rfl (oz3 hp0) (oz663 hp3 kb2) ?_
            intro a9 ea9 fa9
            have hJ9 := kG_a3 hL3 146 rfl ea9 fa9 ⟨(oz3 p3_0), (oz512 c6 fi3_7424.2)⟩
            have s10 : (x1 + 1).toInt = x1.toInt + (1 : Int32).toInt := kd_add (oz12 hp0 kn1) (oz664 hp3 kb2 kn1)
            have s11 : ((1 : Int) ≤ (1 <<< (l4_3 &&& 31)).toInt) ∧ ((1 <<< (l4_3 &&& 31)).toInt ≤ 256) := kd_shl1 (oz3 p3_0) (oz513 c6 fi3_7424.2)
            refine ft_go mi_k184 12 136 [(4, .int l4_3), (0, .ref 116), (1, .int x1), (2, .int x2), (3, .int x3)] [.int x3, .int (x2 &&& ((1 <<< (l4_3 &&& 31)) ^^^ (-1))), .int (x1 + 1), .ref 116] i3 a9 q3 r3 (by rfl) ?_
            obtain ⟨m, hm, hmI⟩ := kj_pred (oz665 hp4 kb2)
            have hG12 := kG_call hG hJ9 (by decide +kernel)
            refine ko_callN mi_k184.1 (pc := 136) (ls := [(4, .int l4_3), (0, .ref 116), (1, .int x1), (2, .int x2), (3, .int x3)]) (st := [.int x3, .int (x2 &&& ((1 <<< (l4_3 &&& 31)) ^^^ (-1))), .int (x1 + 1), .ref 116]) (h := ks i3 a9 q3 r3) (i := (.invokevirtual 300, 3, 184, 0, 9, 0, 436)) (mi_k184.2 _ _ (by rfl)) (ft_invS mi_pq184 (by rfl)) (cy := mi_c184) mi_pq184 rfl ((ih m hm) _ _ _ _ hJ9.I hJ9.R (x1 + 1) (x2 &&& ((1 <<< (l4_3 &&& 31)) ^^^ (-1))) x3 (oz14 hp0 s10 kn1) (oz666 ks8.2.1 ks8.2.2) (oz181 hp2.1 hp2.2) (oz667 hp3 ks8.1 s10 kn1) (oz668 hmI hp4 ks8.1) (kCode_of (i1 := i3) hE_code (hG12.fi 7432 rfl) (hG12.fa 120 rfl) (hG12.fa 121 rfl) (hG12.fa 122 rfl) (hG12.fa 123 rfl))) (kj_d2 (n := n) (m := m) (o := 30) (o1 := 30) hm (by decide)) ?_
            intro ig13 ag13 qg13 rg13 kg13 hg13
            have hGg13 := kG_call hJ9 kg13 (by decide +kernel)
            have s14 : (l4_3 + 1).toInt = l4_3.toInt + (1 : Int32).toInt := kd_add (oz12 p3_0 kn1) (oz442 c6 fi3_7424.2 kn1)
            refine ft_go mi_k184 2 94 [(4, .int (l4_3 + 1)), (0, .ref 116), (1, .int x1), (2, .int x2), (3, .int x3)] [] ig13 ag13 qg13 rg13 (by rfl) ?_
            have fig13_7424 : ((0 : Int) ≤ (ig13 7424).toInt) ∧ ((ig13 7424).toInt ≤ 8) := hGg13.I.1 7424
            have efig13_7424 : (ig13 7424).toInt = (i3 7424).toInt := kg13.ti 7424 rfl
            exact ih3 _ _ _ _ _ hGg13 (oz14 p3_0 s14 kn1) (kj_meas (oz308 efig13_7424 s14 kn1) (oz45 c6) hm3)
          ·
            have c15 : ((x2 >>> (l4_3 &&& 31)) &&& 1).toInt = (0 : Int32).toInt := kd_neF c; clear c
            have s16 : (l4_3 + 1).toInt = l4_3.toInt + (1 : Int32).toInt := kd_add (oz12 p3_0 kn1) (oz442 c6 fi3_7424.2 kn1)
            refine ft_go mi_k184 3 94 [(4, .int (l4_3 + 1)), (0, .ref 116), (1, .int x1), (2, .int x2), (3, .int x3)] [] i3 a3 q3 r3 (by rfl) ?_
            exact ih3 _ _ _ _ _ hL3 (oz14 p3_0 s16 kn1) (kj_meas (oz44 s16 kn1) (oz45 c6) hm3)
    exact lp3 _ _ _ _ _ _ (kG_self _ hG.I hG.R) (oz46 kn0) (Nat.lt_succ_self _)
  ·
    have c17 : x2.toInt = (0 : Int32).toInt := kd_neF c; clear c
    have hJ18 := kG_i hG 7469 rfl (v := x1) ⟨(oz3 hp0), (oz669 hn0 hp3 hp4)⟩
    refine ft_go mi_k184 5 12 [(4, .int 0), (0, .ref 116), (1, .int x1), (2, .int x2), (3, .int x3)] [] (ku i 7469 x1) a q r (by rfl) ?_
    have lp19 : ∀ (nz : Nat) (i19 : Nat → Int32) (a19 : Nat → List Int32) (q19 : Nat → List Int64) (r19 : Nat → Nat) (l4_19 : Int32), kG w184_116_L12 (ku i 7469 x1) a q r i19 a19 q19 r19 → (0 : Int) ≤ l4_19.toInt → ((x1.toInt - l4_19.toInt)).toNat < nz → ko (6 * n + 30) (mi_h184, mi_c184) P (12, [(4, .int l4_19), (0, .ref 116), (1, .int x1), (2, .int x2), (3, .int x3)], [], (0, 0), ks i19 a19 q19 r19) := by
      intro nz
      induction nz with
      | zero =>
        intro _ _ _ _ _ _ _ hm
        exact absurd hm (Nat.not_lt_zero _)
      | succ nz ih19 =>
        intro i19 a19 q19 r19 l4_19 hL19 p19_0 hm19
        refine ft_go mi_k184 2 15 [(4, .int l4_19), (0, .ref 116), (1, .int x1), (2, .int x2), (3, .int x3)] [.int x1, .int l4_19] i19 a19 q19 r19 (by rfl) ?_
        refine ft_if mi_k184 (decide (x1 ≤ l4_19)) 38 18 [(4, .int l4_19), (0, .ref 116), (1, .int x1), (2, .int x2), (3, .int x3)] [] (by rfl) (fun c => ?_) (fun c => ?_)
        ·
          have c20 : x1.toInt ≤ l4_19.toInt := kd_le c; clear c
          have hG21 := kG_call hJ18 hL19 (by decide +kernel)
          refine ft_go mi_k184 2 40 [(4, .int l4_19), (0, .ref 116), (1, .int x1), (2, .int x2), (3, .int x3)] [.int x3, .ref 116] i19 a19 q19 r19 (by rfl) ?_
          refine ko_callI mi_k184.1 (pc := 40) (ls := [(4, .int l4_19), (0, .ref 116), (1, .int x1), (2, .int x2), (3, .int x3)]) (st := [.int x3, .ref 116]) (h := ks i19 a19 q19 r19) (i := (.invokevirtual 288, 3, 172, 0, 9, 0, 429)) (mi_k184.2 _ _ (by rfl)) (ft_invS mi_pq172 (by rfl)) (cy := mi_c172) mi_pq172 rfl (kc172_116 hG21.I hG21.R x3 (oz181 hp2.1 hp2.2) (kCode_of (i1 := i19) hE_code (hG21.fi 7432 rfl) (hG21.fa 120 rfl) (hG21.fa 121 rfl) (hG21.fa 122 rfl) (hG21.fa 123 rfl))) (kj_d3 (n := n) (c := 13) (o1 := 30) (by decide)) ?_
          intro vg22 ig22 ag22 qg22 rg22 kg22 hg22
          have hGg22 := kG_call hG21 kg22 (by decide +kernel)
          have efi19_7476 : (i19 7476).toInt = (i 7476).toInt := hL19.ti 7476 rfl
          have efig22_7476 : (ig22 7476).toInt = (i19 7476).toInt := kg22.ti 7476 rfl
          refine ft_go mi_k184 4 51 [(4, .int vg22), (0, .ref 116), (1, .int x1), (2, .int x2), (3, .int x3)] [.int (ig22 7476), .int vg22] ig22 ag22 qg22 rg22 (by rfl) ?_
          refine ft_if mi_k184 (decide ((ig22 7476) < vg22)) 55 54 [(4, .int vg22), (0, .ref 116), (1, .int x1), (2, .int x2), (3, .int x3)] [] (by rfl) (fun c => ?_) (fun c => ?_)
          ·
            have c23 : (ig22 7476).toInt < vg22.toInt := kd_lt c; clear c
            have hJ24 := kG_i hGg22 7476 rfl (v := vg22) (kd_bd _)
            refine ft_go mi_k184 5 64 [(5, .int 0), (4, .int vg22), (0, .ref 116), (1, .int x1), (2, .int x2), (3, .int x3)] [] (ku ig22 7476 vg22) ag22 qg22 rg22 (by rfl) ?_
            have lp25 : ∀ (nz : Nat) (i25 : Nat → Int32) (a25 : Nat → List Int32) (q25 : Nat → List Int64) (r25 : Nat → Nat) (l5_25 : Int32), kG w184_116_L64 (ku ig22 7476 vg22) ag22 qg22 rg22 i25 a25 q25 r25 → (0 : Int) ≤ l5_25.toInt → ((x1.toInt - l5_25.toInt)).toNat < nz → ko (6 * n + 30) (mi_h184, mi_c184) P (64, [(5, .int l5_25), (4, .int vg22), (0, .ref 116), (1, .int x1), (2, .int x2), (3, .int x3)], [], (0, 0), ks i25 a25 q25 r25) := by
              intro nz
              induction nz with
              | zero =>
                intro _ _ _ _ _ _ _ hm
                exact absurd hm (Nat.not_lt_zero _)
              | succ nz ih25 =>
                intro i25 a25 q25 r25 l5_25 hL25 p25_0 hm25
                refine ft_go mi_k184 2 67 [(5, .int l5_25), (4, .int vg22), (0, .ref 116), (1, .int x1), (2, .int x2), (3, .int x3)] [.int x1, .int l5_25] i25 a25 q25 r25 (by rfl) ?_
                refine ft_if mi_k184 (decide (x1 ≤ l5_25)) 90 70 [(5, .int l5_25), (4, .int vg22), (0, .ref 116), (1, .int x1), (2, .int x2), (3, .int x3)] [] (by rfl) (fun c => ?_) (fun c => ?_)
                ·
                  have c26 : x1.toInt ≤ l5_25.toInt := kd_le c; clear c
                  have hG27 := kG_call hJ24 hL25 (by decide +kernel)
                  exact ft_ret mi_k184 (by rfl) (hP  _ _ _ _ hG27 trivial)
                ·
                  have c28 : l5_25.toInt < x1.toInt := kd_leF c; clear c
                  refine ft_go mi_k184 6 82 [(5, .int l5_25), (4, .int vg22), (0, .ref 116), (1, .int x1), (2, .int x2), (3, .int x3)] [.int l5_25, .ref 146, .int l5_25, .ref 147] i25 a25 q25 r25 (by rfl) ?_
                  refine ko_iald3 mi_k184.1 (n := 5) (c := 5) (ax := (0, 0, 0, 0, 0)) (mi_k184.2 _ _ (by rfl)) (by rfl) (ksG146 _ _ _ _) (hL25.I.2.1 146) rfl (oz3 p25_0) (oz670 c28 hn0 hp3 hp4) ?_
                  have r29 : ((0 : Int) ≤ ((a25 146).getD l5_25.toNatClampNeg 0).toInt) ∧ (((a25 146).getD l5_25.toNatClampNeg 0).toInt ≤ 7) := hL25.I.2.2.1 146 (l5_25.toNatClampNeg)
                  refine ko_iast3 mi_k184.1 (n := 5) (c := 5) (ax := (0, 0, 0, 0, 0)) (mi_k184.2 _ _ (by rfl)) (by rfl) (ksG147 _ _ _ _) (ksA147 _ _ _ _) (hL25.I.2.1 147) rfl (oz3 p25_0) (oz670 c28 hn0 hp3 hp4) ?_
                  intro a30 ea30 fa30
                  have hJ30 := kG_a3 hL25 147 rfl ea30 fa30 (kd_bd _)
                  have s31 : (l5_25 + 1).toInt = l5_25.toInt + (1 : Int32).toInt := kd_add (oz12 p25_0 kn1) (oz671 c28 hn0 hp3 hp4 kn1)
                  refine ft_go mi_k184 2 64 [(5, .int (l5_25 + 1)), (4, .int vg22), (0, .ref 116), (1, .int x1), (2, .int x2), (3, .int x3)] [] i25 a30 q25 r25 (by rfl) ?_
                  exact ih25 _ _ _ _ _ hJ30 (oz14 p25_0 s31 kn1) (kj_meas (oz44 s31 kn1) (oz45 c28) hm25)
            exact lp25 _ _ _ _ _ _ (kG_self _ hJ24.I hJ24.R) (oz46 kn0) (Nat.lt_succ_self _)
          ·
            have c32 : vg22.toInt ≤ (ig22 7476).toInt := kd_ltF c; clear c
            exact ft_ret mi_k184 (by rfl) (hP  _ _ _ _ hGg22 trivial)
        ·
          have c33 : l4_19.toInt < x1.toInt := kd_leF c; clear c
          refine ft_go mi_k184 6 30 [(4, .int l4_19), (0, .ref 116), (1, .int x1), (2, .int x2), (3, .int x3)] [.int l4_19, .ref 146, .int l4_19, .ref 142] i19 a19 q19 r19 (by rfl) ?_
          refine ko_iald3 mi_k184.1 (n := 5) (c := 5) (ax := (0, 0, 0, 0, 0)) (mi_k184.2 _ _ (by rfl)) (by rfl) (ksG146 _ _ _ _) (hL19.I.2.1 146) rfl (oz3 p19_0) (oz670 c33 hn0 hp3 hp4) ?_
          have r34 : ((0 : Int) ≤ ((a19 146).getD l4_19.toNatClampNeg 0).toInt) ∧ (((a19 146).getD l4_19.toNatClampNeg 0).toInt ≤ 7) := hL19.I.2.2.1 146 (l4_19.toNatClampNeg)
          refine ko_iast3 mi_k184.1 (n := 21) (c := 21) (ax := (0, 0, 0, 0, 0)) (mi_k184.2 _ _ (by rfl)) (by rfl) (ksG142 _ _ _ _) (ksA142 _ _ _ _) (hL19.I.2.1 142) rfl (oz3 p19_0) (oz672 c33 hn0 hp3 hp4) ?_
          intro a35 ea35 fa35
          have hJ35 := kG_a3 hL19 142 rfl ea35 fa35 ⟨(oz3 r34.1), (oz407 r34.2)⟩
          have s36 : (l4_19 + 1).toInt = l4_19.toInt + (1 : Int32).toInt := kd_add (oz12 p19_0 kn1) (oz671 c33 hn0 hp3 hp4 kn1)
          refine ft_go mi_k184 2 12 [(4, .int (l4_19 + 1)), (0, .ref 116), (1, .int x1), (2, .int x2), (3, .int x3)] [] i19 a35 q19 r19 (by rfl) ?_
          exact ih19 _ _ _ _ _ hJ35 (oz14 p19_0 s36 kn1) (kj_meas (oz44 s36 kn1) (oz45 c33) hm19)
    exact lp19 _ _ _ _ _ _ (kG_self _ hJ18.I hJ18.R) (oz46 kn0) (Nat.lt_succ_self _)
theorem kLallO : ∀ n : Nat, kLO_184 n
  | 0 => by
    have ih : ∀ m, 0 = m + 1 → kLO_184 m := fun m h => by omega
    have h184 := kLsO_184 0  ih
    exact h184
  | n + 1 => by
    have ih : ∀ m, n + 1 = m + 1 → kLO_184 m := fun m h => by
      have e : n = m := by omega
      subst e
      exact kLallO n
    have h184 := kLsO_184 (n + 1)  ih
    exact h184
def w168_116_140 : kW := ([], [140], [], [])
def w168_116_140_L2 : kW := ([], [140], [], [])
set_option maxRecDepth 100000 in
theorem kc168_116_140 {i : Nat → Int32} {a : Nat → List Int32} {q : Nat → List Int64} {r : Nat → Nat} (hI : kI i a q) (hr : kr r) (x2 : Int32) (hp0 : ((0 : Int) ≤ x2.toInt) ∧ (x2.toInt ≤ 124)) (hp1 : (x2.toInt % 31) = 0) : km 1 168 [.ref 116, .ref 140, .int x2] (ks i a q r) (kVN w168_116_140 i a q r (fun i1 a1 q1 r1 => True)) := by
  have hG := kG_self w168_116_140 hI hr
  refine km_ofN (q := (mi_h168, mi_c168)) rfl (by decide) (Nat.le_of_ble_eq_true rfl) ?_
  intro P hP
  refine ft_go mi_k168 2 2 [(3, .int 0), (0, .ref 116), (1, .ref 140), (2, .int x2)] [] i a q r (by rfl) ?_
  have lp1 : ∀ (nz : Nat) (i1 : Nat → Int32) (a1 : Nat → List Int32) (q1 : Nat → List Int64) (r1 : Nat → Nat) (l3_1 : Int32), kG w168_116_140_L2 i a q r i1 a1 q1 r1 → (0 : Int) ≤ l3_1.toInt → ((31 - l3_1.toInt)).toNat < nz → ko 1 (mi_h168, mi_c168) P (2, [(3, .int l3_1), (0, .ref 116), (1, .ref 140), (2, .int x2)], [], (0, 0), ks i1 a1 q1 r1) := by
    intro nz
    induction nz with
    | zero =>
      intro _ _ _ _ _ _ _ hm
      exact absurd hm (Nat.not_lt_zero _)
    | succ nz ih1 =>
      intro i1 a1 q1 r1 l3_1 hL1 p1_0 hm1
      refine ft_go mi_k168 2 5 [(3, .int l3_1), (0, .ref 116), (1, .ref 140), (2, .int x2)] [.int 31, .int l3_1] i1 a1 q1 r1 (by rfl) ?_
      refine ft_if mi_k168 (decide (31 ≤ l3_1)) 25 8 [(3, .int l3_1), (0, .ref 116), (1, .ref 140), (2, .int x2)] [] (by rfl) (fun c => ?_) (fun c => ?_)
      ·
        have c2 : (31 : Int32).toInt ≤ l3_1.toInt := kd_le c; clear c
        have hG3 := kG_call hG hL1 (by decide +kernel)
        exact ft_ret mi_k168 (by rfl) (hP  _ _ _ _ hG3 trivial)
      ·
        have c4 : l3_1.toInt < (31 : Int32).toInt := kd_leF c; clear c
        have s5 : (x2 + l3_1).toInt = x2.toInt + l3_1.toInt := kd_add (oz675 hp0.1 p1_0) (oz676 c4 hp0.2 kn31)
        refine ft_go mi_k168 7 17 [(3, .int l3_1), (0, .ref 116), (1, .ref 140), (2, .int x2)] [.int l3_1, .ref 118, .int (x2 + l3_1), .ref 140] i1 a1 q1 r1 (by rfl) ?_
        refine ko_iald3 mi_k168.1 (n := 31) (c := 31) (ax := (0, 0, 0, 0, 0)) (mi_k168.2 _ _ (by rfl)) (by rfl) (ksG118 _ _ _ _) (hL1.I.2.1 118) rfl (oz3 p1_0) (oz228 c4 kn31) ?_
        have r6 : ((l3_1.toInt = 18 → (0 : Int) ≤ ((a1 118).getD l3_1.toNatClampNeg 0).toInt ∧ ((a1 118).getD l3_1.toNatClampNeg 0).toInt ≤ 5)) ∧ ((19 ≤ l3_1.toInt → l3_1.toInt ≤ 24 → (0 : Int) ≤ ((a1 118).getD l3_1.toNatClampNeg 0).toInt ∧ ((a1 118).getD l3_1.toNatClampNeg 0).toInt ≤ 7)) := kE_ncond (p := 118) hL1.I (by decide) (j := l3_1) (oz3 p1_0)
        have u7 : ((a1 118).getD l3_1.toNatClampNeg 0).toInt = ((a 118).getD l3_1.toNatClampNeg 0).toInt := congrArg (fun z : List Int32 => (z.getD l3_1.toNatClampNeg 0).toInt) (hL1.fa 118 rfl)
        refine ko_iast3 mi_k168.1 (n := 155) (c := 155) (ax := (0, 0, 0, 0, 0)) (mi_k168.2 _ _ (by rfl)) (by rfl) (ksG140 _ _ _ _) (ksA140 _ _ _ _) (hL1.I.2.1 140) rfl (oz677 hp0.1 p1_0 s5) (oz678 c4 hp0.2 s5 kn31) ?_
        intro a8 ea8 fa8
        have hJ8 := kG_a3 hL1 140 rfl ea8 fa8 (kE_tset (oz677 hp0.1 p1_0 s5) (by have := kn31; omega) (by have := kn31; omega))
        have s9 : (l3_1 + 1).toInt = l3_1.toInt + (1 : Int32).toInt := kd_add (oz12 p1_0 kn1) (oz233 c4 kn31 kn1)
        refine ft_go mi_k168 2 2 [(3, .int (l3_1 + 1)), (0, .ref 116), (1, .ref 140), (2, .int x2)] [] i1 a8 q1 r1 (by rfl) ?_
        exact ih1 _ _ _ _ _ hJ8 (oz14 p1_0 s9 kn1) (kj_meas (oz234 s9 kn1) (oz235 c4 kn31) hm1)
  exact lp1 _ _ _ _ _ _ (kG_self _ hG.I hG.R) (oz46 kn0) (Nat.lt_succ_self _)
def w169_116_140 : kW := ([], [118], [], [])
def w169_116_140_L2 : kW := ([], [118], [], [])
set_option maxRecDepth 100000 in
theorem kc169_116_140 {i : Nat → Int32} {a : Nat → List Int32} {q : Nat → List Int64} {r : Nat → Nat} (hI : kI i a q) (hr : kr r) (x2 : Int32) (hp0 : ((0 : Int) ≤ x2.toInt) ∧ (x2.toInt ≤ 124)) (hp1 : (x2.toInt % 31) = 0) : km 1 169 [.ref 116, .ref 140, .int x2] (ks i a q r) (kVN w169_116_140 i a q r (fun i1 a1 q1 r1 => True)) := by
  have hG := kG_self w169_116_140 hI hr
  refine km_ofN (q := (mi_h169, mi_c169)) rfl (by decide) (Nat.le_of_ble_eq_true rfl) ?_
  intro P hP
  refine ft_go mi_k169 2 2 [(3, .int 0), (0, .ref 116), (1, .ref 140), (2, .int x2)] [] i a q r (by rfl) ?_
  have lp1 : ∀ (nz : Nat) (i1 : Nat → Int32) (a1 : Nat → List Int32) (q1 : Nat → List Int64) (r1 : Nat → Nat) (l3_1 : Int32), kG w169_116_140_L2 i a q r i1 a1 q1 r1 → (0 : Int) ≤ l3_1.toInt → ((31 - l3_1.toInt)).toNat < nz → ko 1 (mi_h169, mi_c169) P (2, [(3, .int l3_1), (0, .ref 116), (1, .ref 140), (2, .int x2)], [], (0, 0), ks i1 a1 q1 r1) := by
    intro nz
    induction nz with
    | zero =>
      intro _ _ _ _ _ _ _ hm
      exact absurd hm (Nat.not_lt_zero _)
    | succ nz ih1 =>
      intro i1 a1 q1 r1 l3_1 hL1 p1_0 hm1
      refine ft_go mi_k169 2 5 [(3, .int l3_1), (0, .ref 116), (1, .ref 140), (2, .int x2)] [.int 31, .int l3_1] i1 a1 q1 r1 (by rfl) ?_
      refine ft_if mi_k169 (decide (31 ≤ l3_1)) 25 8 [(3, .int l3_1), (0, .ref 116), (1, .ref 140), (2, .int x2)] [] (by rfl) (fun c => ?_) (fun c => ?_)
      ·
        have c2 : (31 : Int32).toInt ≤ l3_1.toInt := kd_le c; clear c
        have hG3 := kG_call hG hL1 (by decide +kernel)
        exact ft_ret mi_k169 (by rfl) (hP  _ _ _ _ hG3 trivial)
      ·
        have c4 : l3_1.toInt < (31 : Int32).toInt := kd_leF c; clear c
        have s5 : (x2 + l3_1).toInt = x2.toInt + l3_1.toInt := kd_add (oz675 hp0.1 p1_0) (oz676 c4 hp0.2 kn31)
        refine ft_go mi_k169 7 17 [(3, .int l3_1), (0, .ref 116), (1, .ref 140), (2, .int x2)] [.int (x2 + l3_1), .ref 140, .int l3_1, .ref 118] i1 a1 q1 r1 (by rfl) ?_
        refine ko_iald3 mi_k169.1 (n := 155) (c := 155) (ax := (0, 0, 0, 0, 0)) (mi_k169.2 _ _ (by rfl)) (by rfl) (ksG140 _ _ _ _) (hL1.I.2.1 140) rfl (oz677 hp0.1 p1_0 s5) (oz678 c4 hp0.2 s5 kn31) ?_
        have r6 : ((((x2 + l3_1).toInt % 31) = 18 → (0 : Int) ≤ ((a1 140).getD (x2 + l3_1).toNatClampNeg 0).toInt ∧ ((a1 140).getD (x2 + l3_1).toNatClampNeg 0).toInt ≤ 5)) ∧ ((19 ≤ ((x2 + l3_1).toInt % 31) → ((x2 + l3_1).toInt % 31) ≤ 24 → (0 : Int) ≤ ((a1 140).getD (x2 + l3_1).toNatClampNeg 0).toInt ∧ ((a1 140).getD (x2 + l3_1).toNatClampNeg 0).toInt ≤ 7)) := kE_tcond hL1.I (j := (x2 + l3_1)) (oz677 hp0.1 p1_0 s5)
        refine ko_iast3 mi_k169.1 (n := 31) (c := 31) (ax := (0, 0, 0, 0, 0)) (mi_k169.2 _ _ (by rfl)) (by rfl) (ksG118 _ _ _ _) (ksA118 _ _ _ _) (hL1.I.2.1 118) rfl (oz3 p1_0) (oz228 c4 kn31) ?_
        intro a7 ea7 fa7
        have hJ7 := kG_a3 hL1 118 rfl ea7 fa7 (kE_nset (p := 118) (by decide) (oz3 p1_0) (by have := kn31; omega) (by have := kn31; omega))
        have s8 : (l3_1 + 1).toInt = l3_1.toInt + (1 : Int32).toInt := kd_add (oz12 p1_0 kn1) (oz233 c4 kn31 kn1)
        refine ft_go mi_k169 2 2 [(3, .int (l3_1 + 1)), (0, .ref 116), (1, .ref 140), (2, .int x2)] [] i1 a7 q1 r1 (by rfl) ?_
        exact ih1 _ _ _ _ _ hJ7 (oz14 p1_0 s8 kn1) (kj_meas (oz234 s8 kn1) (oz235 c4 kn31) hm1)
  exact lp1 _ _ _ _ _ _ (kG_self _ hG.I hG.R) (oz46 kn0) (Nat.lt_succ_self _)
def wU : kW := ([7464, 7465, 7466, 7467], [118, 128, 129, 140, 141], [], [])
def kLU_198 (n : Nat) : Prop := ∀ (i : Nat → Int32) (a : Nat → List Int32) (q : Nat → List Int64) (r : Nat → Nat), kI i a q → kr r → ∀ (x1 : Int32) (x2 : Int32) (x3 : Int32) (x4 : Int32), ((0 : Int) ≤ x1.toInt) ∧ (x1.toInt ≤ x2.toInt) ∧ (x2.toInt ≤ 5) → (x2.toInt - x1.toInt) = (n : Int) → ((0 : Int) ≤ x3.toInt) ∧ (x3.toInt ≤ 7) → ((0 : Int) ≤ x4.toInt) ∧ (x4.toInt ≤ 7) → (x1.toInt + 1) ≤ x2.toInt → kCode i a → km (6 * n + 30) 198 [.ref 116, .int x1, .int x2, .int x3, .int x4] (ks i a q r) (kVI wU i a q r (fun v i1 a1 q1 r1 => True))
def kLU_199 (n : Nat) : Prop := ∀ (i : Nat → Int32) (a : Nat → List Int32) (q : Nat → List Int64) (r : Nat → Nat), kI i a q → kr r → ∀ (x1 : Int32) (x2 : Int32) (x3 : Int32) (x4 : Int32), ((0 : Int) ≤ x1.toInt) ∧ (x1.toInt ≤ x2.toInt) ∧ (x2.toInt ≤ 5) → (x2.toInt - x1.toInt) = (n : Int) → ((0 : Int) ≤ x3.toInt) ∧ (x3.toInt ≤ 7) → ((0 : Int) ≤ x4.toInt) ∧ (x4.toInt ≤ 7) → kCode i a → km (6 * n + 31) 199 [.ref 116, .int x1, .int x2, .int x3, .int x4] (ks i a q r) (kVI wU i a q r (fun v i1 a1 q1 r1 => True))
set_option maxRecDepth 100000 in
theorem kLsU_198 (n : Nat)  (ih : ∀ m, n = m + 1 → kLU_199 m ∧ kLU_198 m) : kLU_198 n := by
  intro i a q r hI hr x1 x2 x3 x4 hp0 hp1 hp2 hp3 hp4 hE_code
  have hG := kG_self wU hI hr
  refine km_ofI (q := (mi_h198, mi_c198)) rfl (by decide) (Nat.le_of_ble_eq_true rfl) ?_
  intro P hP
  have hn0 : (0 : Int) ≤ (n : Int) := Int.natCast_nonneg n
  have s1 : (31 * x1).toInt = 31 * x1.toInt := kd_cmul 31 kn31 (oz673 hp0.1) (oz674 hp0.2.2 hp4)
  refine ft_go mi_k198 6 9 [(0, .ref 116), (1, .int x1), (2, .int x2), (3, .int x3), (4, .int x4)] [.int (31 * x1), .ref 140, .ref 116] i a q r (by rfl) ?_
  refine ko_callN mi_k198.1 (pc := 9) (ls := [(0, .ref 116), (1, .int x1), (2, .int x2), (3, .int x3), (4, .int x4)]) (st := [.int (31 * x1), .ref 140, .ref 116]) (h := ks i a q r) (i := (.invokevirtual 263, 3, 168, 0, 9, 0, 413)) (mi_k198.2 _ _ (by rfl)) (ft_invS mi_pq168 (by rfl)) (cy := mi_c168) mi_pq168 rfl (kc168_116_140 hG.I hG.R (31 * x1) (oz679 hp0.1 hp0.2.2 hp4 s1) (by omega)) (kj_d3 (n := n) (c := 1) (o1 := 30) (by decide)) ?_
  intro ig2 ag2 qg2 rg2 kg2 hg2
  have hGg2 := kG_call hG kg2 (by decide +kernel)
  have s3 : (x1 - x1 / 2 * 2).toInt = (x1.toInt % 2) := kd_rem 2 kn2 (by decide) (oz3 hp0.1)
  refine ft_go mi_k198 4 16 [(0, .ref 116), (1, .int x1), (2, .int x2), (3, .int x3), (4, .int x4)] [.int (x1 - x1 / 2 * 2), .ref 116] ig2 ag2 qg2 rg2 (by rfl) ?_
  refine ft_if mi_k198 ((x1 - x1 / 2 * 2) != 0) 23 19 [(0, .ref 116), (1, .int x1), (2, .int x2), (3, .int x3), (4, .int x4)] [.ref 116] (by rfl) (fun c => ?_) (fun c => ?_)
  ·
    have c4 : (x1 - x1 / 2 * 2).toInt ≠ (0 : Int32).toInt := kd_ne c; clear c
    refine ft_go mi_k198 1 25 [(0, .ref 116), (1, .int x1), (2, .int x2), (3, .int x3), (4, .int x4)] [.int x4, .ref 116] ig2 ag2 qg2 rg2 (by rfl) ?_
    refine ko_callI mi_k198.1 (pc := 25) (ls := [(0, .ref 116), (1, .int x1), (2, .int x2), (3, .int x3), (4, .int x4)]) (st := [.int x4, .ref 116]) (h := ks ig2 ag2 qg2 rg2) (i := (.invokevirtual 260, 3, 166, 0, 9, 0, 415)) (mi_k198.2 _ _ (by rfl)) (ft_invS mi_pq166 (by rfl)) (cy := mi_c166) mi_pq166 rfl (kc166_116 hGg2.I hGg2.R x4 (oz181 hp3.1 hp3.2) (kCode_of (i1 := ig2) hE_code (hGg2.fi 7432 rfl) (hGg2.fa 120 rfl) (hGg2.fa 121 rfl) (hGg2.fa 122 rfl) (hGg2.fa 123 rfl))) (kj_d3 (n := n) (c := 9) (o1 := 30) (by decide)) ?_
    intro vg5 ig5 ag5 qg5 rg5 kg5 hg5
    have hGg5 := kG_call hGg2 kg5 (by decide +kernel)
    rcases hg5 with ⟨eg5, hg5⟩ | ⟨eg5, hg5⟩
    ·
      subst eg5
      have s6 : (x1 + 1).toInt = x1.toInt + (1 : Int32).toInt := kd_add (oz12 hp0.1 kn1) (oz680 hp0.2.2 hp4 kn1)
      refine ft_go mi_k198 8 37 [(0, .ref 116), (1, .int x1), (2, .int x2), (3, .int x3), (4, .int x4)] [.int x4, .int x3, .int x2, .int (x1 + 1), .ref 116] ig5 ag5 qg5 rg5 (by rfl) ?_
      obtain ⟨m, hm, hmI⟩ := kj_pred (oz681 hp1 hp4)
      refine ko_callI mi_k198.1 (pc := 37) (ls := [(0, .ref 116), (1, .int x1), (2, .int x2), (3, .int x3), (4, .int x4)]) (st := [.int x4, .int x3, .int x2, .int (x1 + 1), .ref 116]) (h := ks ig5 ag5 qg5 rg5) (i := (.invokevirtual 333, 3, 199, 0, 9, 0, 451)) (mi_k198.2 _ _ (by rfl)) (ft_invS mi_pq199 (by rfl)) (cy := mi_c199) mi_pq199 rfl ((ih m hm).1 _ _ _ _ hGg5.I hGg5.R (x1 + 1) x2 x3 x4 (oz682 hp0.1 hp0.2.2 hp4 s6 kn1) (oz683 hmI hp1 s6 kn1) (oz181 hp2.1 hp2.2) (oz181 hp3.1 hp3.2) (kCode_of (i1 := ig5) hE_code (hGg5.fi 7432 rfl) (hGg5.fa 120 rfl) (hGg5.fa 121 rfl) (hGg5.fa 122 rfl) (hGg5.fa 123 rfl))) (kj_d2 (n := n) (m := m) (o := 31) (o1 := 30) hm (by decide)) ?_
      intro vg7 ig7 ag7 qg7 rg7 kg7 hg7
      have hGg7 := kG_call hGg5 kg7 (by decide +kernel)
      refine ft_go mi_k198 7 51 [(5, .int vg7), (0, .ref 116), (1, .int x1), (2, .int x2), (3, .int x3), (4, .int x4)] [.int (31 * x1), .ref 140, .ref 116] ig7 ag7 qg7 rg7 (by rfl) ?_
      refine ko_callN mi_k198.1 (pc := 51) (ls := [(5, .int vg7), (0, .ref 116), (1, .int x1), (2, .int x2), (3, .int x3), (4, .int x4)]) (st := [.int (31 * x1), .ref 140, .ref 116]) (h := ks ig7 ag7 qg7 rg7) (i := (.invokevirtual 273, 3, 169, 0, 9, 0, 423)) (mi_k198.2 _ _ (by rfl)) (ft_invS mi_pq169 (by rfl)) (cy := mi_c169) mi_pq169 rfl (kc169_116_140 hGg7.I hGg7.R (31 * x1) (oz679 hp0.1 hp0.2.2 hp4 s1) (by have := kn0; have := kn1; omega)) (kj_d3 (n := n) (c := 1) (o1 := 30) (by decide)) ?_
      intro ig8 ag8 qg8 rg8 kg8 hg8
      have hGg8 := kG_call hGg7 kg8 (by decide +kernel)
      refine ft_go mi_k198 1 56 [(5, .int vg7), (0, .ref 116), (1, .int x1), (2, .int x2), (3, .int x3), (4, .int x4)] [.int vg7] ig8 ag8 qg8 rg8 (by rfl) ?_
      exact ft_ret mi_k198 (by rfl) (hP vg7 _ _ _ _ hGg8 trivial)
    ·
      subst eg5
      have s9 : (x1 + 1).toInt = x1.toInt + (1 : Int32).toInt := kd_add (oz12 hp0.1 kn1) (oz680 hp0.2.2 hp4 kn1)
      refine ft_go mi_k198 8 37 [(0, .ref 116), (1, .int x1), (2, .int x2), (3, .int x3), (4, .int x4)] [.int x4, .int x3, .int x2, .int (x1 + 1), .ref 116] ig5 ag5 qg5 rg5 (by rfl) ?_
      obtain ⟨m, hm, hmI⟩ := kj_pred (oz681 hp1 hp4)
      refine ko_callI mi_k198.1 (pc := 37) (ls := [(0, .ref 116), (1, .int x1), (2, .int x2), (3, .int x3), (4, .int x4)]) (st := [.int x4, .int x3, .int x2, .int (x1 + 1), .ref 116]) (h := ks ig5 ag5 qg5 rg5) (i := (.invokevirtual 333, 3, 199, 0, 9, 0, 451)) (mi_k198.2 _ _ (by rfl)) (ft_invS mi_pq199 (by rfl)) (cy := mi_c199) mi_pq199 rfl ((ih m hm).1 _ _ _ _ hGg5.I hGg5.R (x1 + 1) x2 x3 x4 (oz682 hp0.1 hp0.2.2 hp4 s9 kn1) (oz683 hmI hp1 s9 kn1) (oz181 hp2.1 hp2.2) (oz181 hp3.1 hp3.2) (kCode_of (i1 := ig5) hE_code (hGg5.fi 7432 rfl) (hGg5.fa 120 rfl) (hGg5.fa 121 rfl) (hGg5.fa 122 rfl) (hGg5.fa 123 rfl))) (kj_d2 (n := n) (m := m) (o := 31) (o1 := 30) hm (by decide)) ?_
      intro vg10 ig10 ag10 qg10 rg10 kg10 hg10
      have hGg10 := kG_call hGg5 kg10 (by decide +kernel)
      refine ft_go mi_k198 7 51 [(5, .int vg10), (0, .ref 116), (1, .int x1), (2, .int x2), (3, .int x3), (4, .int x4)] [.int (31 * x1), .ref 140, .ref 116] ig10 ag10 qg10 rg10 (by rfl) ?_
      refine ko_callN mi_k198.1 (pc := 51) (ls := [(5, .int vg10), (0, .ref 116), (1, .int x1), (2, .int x2), (3, .int x3), (4, .int x4)]) (st := [.int (31 * x1), .ref 140, .ref 116]) (h := ks ig10 ag10 qg10 rg10) (i := (.invokevirtual 273, 3, 169, 0, 9, 0, 423)) (mi_k198.2 _ _ (by rfl)) (ft_invS mi_pq169 (by rfl)) (cy := mi_c169) mi_pq169 rfl (kc169_116_140 hGg10.I hGg10.R (31 * x1) (oz679 hp0.1 hp0.2.2 hp4 s1) (by have := kn0; have := kn1; omega)) (kj_d3 (n := n) (c := 1) (o1 := 30) (by decide)) ?_
      intro ig11 ag11 qg11 rg11 kg11 hg11
      have hGg11 := kG_call hGg10 kg11 (by decide +kernel)
      refine ft_go mi_k198 1 56 [(5, .int vg10), (0, .ref 116), (1, .int x1), (2, .int x2), (3, .int x3), (4, .int x4)] [.int vg10] ig11 ag11 qg11 rg11 (by rfl) ?_
      exact ft_ret mi_k198 (by rfl) (hP vg10 _ _ _ _ hGg11 trivial)
  ·
    have c12 : (x1 - x1 / 2 * 2).toInt = (0 : Int32).toInt := kd_neF c; clear c
    refine ft_go mi_k198 2 25 [(0, .ref 116), (1, .int x1), (2, .int x2), (3, .int x3), (4, .int x4)] [.int x3, .ref 116] ig2 ag2 qg2 rg2 (by rfl) ?_
    refine ko_callI mi_k198.1 (pc := 25) (ls := [(0, .ref 116), (1, .int x1), (2, .int x2), (3, .int x3), (4, .int x4)]) (st := [.int x3, .ref 116]) (h := ks ig2 ag2 qg2 rg2) (i := (.invokevirtual 260, 3, 166, 0, 9, 0, 415)) (mi_k198.2 _ _ (by rfl)) (ft_invS mi_pq166 (by rfl)) (cy := mi_c166) mi_pq166 rfl (kc166_116 hGg2.I hGg2.R x3 (oz181 hp2.1 hp2.2) (kCode_of (i1 := ig2) hE_code (hGg2.fi 7432 rfl) (hGg2.fa 120 rfl) (hGg2.fa 121 rfl) (hGg2.fa 122 rfl) (hGg2.fa 123 rfl))) (kj_d3 (n := n) (c := 9) (o1 := 30) (by decide)) ?_
    intro vg13 ig13 ag13 qg13 rg13 kg13 hg13
    have hGg13 := kG_call hGg2 kg13 (by decide +kernel)
    rcases hg13 with ⟨eg13, hg13⟩ | ⟨eg13, hg13⟩
    ·
      subst eg13
      have s14 : (x1 + 1).toInt = x1.toInt + (1 : Int32).toInt := kd_add (oz12 hp0.1 kn1) (oz680 hp0.2.2 hp4 kn1)
      refine ft_go mi_k198 8 37 [(0, .ref 116), (1, .int x1), (2, .int x2), (3, .int x3), (4, .int x4)] [.int x4, .int x3, .int x2, .int (x1 + 1), .ref 116] ig13 ag13 qg13 rg13 (by rfl) ?_
      obtain ⟨m, hm, hmI⟩ := kj_pred (oz681 hp1 hp4)
      refine ko_callI mi_k198.1 (pc := 37) (ls := [(0, .ref 116), (1, .int x1), (2, .int x2), (3, .int x3), (4, .int x4)]) (st := [.int x4, .int x3, .int x2, .int (x1 + 1), .ref 116]) (h := ks ig13 ag13 qg13 rg13) (i := (.invokevirtual 333, 3, 199, 0, 9, 0, 451)) (mi_k198.2 _ _ (by rfl)) (ft_invS mi_pq199 (by rfl)) (cy := mi_c199) mi_pq199 rfl ((ih m hm).1 _ _ _ _ hGg13.I hGg13.R (x1 + 1) x2 x3 x4 (oz682 hp0.1 hp0.2.2 hp4 s14 kn1) (oz683 hmI hp1 s14 kn1) (oz181 hp2.1 hp2.2) (oz181 hp3.1 hp3.2) (kCode_of (i1 := ig13) hE_code (hGg13.fi 7432 rfl) (hGg13.fa 120 rfl) (hGg13.fa 121 rfl) (hGg13.fa 122 rfl) (hGg13.fa 123 rfl))) (kj_d2 (n := n) (m := m) (o := 31) (o1 := 30) hm (by decide)) ?_
      intro vg15 ig15 ag15 qg15 rg15 kg15 hg15
      have hGg15 := kG_call hGg13 kg15 (by decide +kernel)
      refine ft_go mi_k198 7 51 [(5, .int vg15), (0, .ref 116), (1, .int x1), (2, .int x2), (3, .int x3), (4, .int x4)] [.int (31 * x1), .ref 140, .ref 116] ig15 ag15 qg15 rg15 (by rfl) ?_
      refine ko_callN mi_k198.1 (pc := 51) (ls := [(5, .int vg15), (0, .ref 116), (1, .int x1), (2, .int x2), (3, .int x3), (4, .int x4)]) (st := [.int (31 * x1), .ref 140, .ref 116]) (h := ks ig15 ag15 qg15 rg15) (i := (.invokevirtual 273, 3, 169, 0, 9, 0, 423)) (mi_k198.2 _ _ (by rfl)) (ft_invS mi_pq169 (by rfl)) (cy := mi_c169) mi_pq169 rfl (kc169_116_140 hGg15.I hGg15.R (31 * x1) (oz679 hp0.1 hp0.2.2 hp4 s1) (by have := kn0; have := kn1; omega)) (kj_d3 (n := n) (c := 1) (o1 := 30) (by decide)) ?_
      intro ig16 ag16 qg16 rg16 kg16 hg16
      have hGg16 := kG_call hGg15 kg16 (by decide +kernel)
      refine ft_go mi_k198 1 56 [(5, .int vg15), (0, .ref 116), (1, .int x1), (2, .int x2), (3, .int x3), (4, .int x4)] [.int vg15] ig16 ag16 qg16 rg16 (by rfl) ?_
      exact ft_ret mi_k198 (by rfl) (hP vg15 _ _ _ _ hGg16 trivial)
    ·
      subst eg13
      have s17 : (x1 + 1).toInt = x1.toInt + (1 : Int32).toInt := kd_add (oz12 hp0.1 kn1) (oz680 hp0.2.2 hp4 kn1)
      refine ft_go mi_k198 8 37 [(0, .ref 116), (1, .int x1), (2, .int x2), (3, .int x3), (4, .int x4)] [.int x4, .int x3, .int x2, .int (x1 + 1), .ref 116] ig13 ag13 qg13 rg13 (by rfl) ?_
      obtain ⟨m, hm, hmI⟩ := kj_pred (oz681 hp1 hp4)
      refine ko_callI mi_k198.1 (pc := 37) (ls := [(0, .ref 116), (1, .int x1), (2, .int x2), (3, .int x3), (4, .int x4)]) (st := [.int x4, .int x3, .int x2, .int (x1 + 1), .ref 116]) (h := ks ig13 ag13 qg13 rg13) (i := (.invokevirtual 333, 3, 199, 0, 9, 0, 451)) (mi_k198.2 _ _ (by rfl)) (ft_invS mi_pq199 (by rfl)) (cy := mi_c199) mi_pq199 rfl ((ih m hm).1 _ _ _ _ hGg13.I hGg13.R (x1 + 1) x2 x3 x4 (oz682 hp0.1 hp0.2.2 hp4 s17 kn1) (oz683 hmI hp1 s17 kn1) (oz181 hp2.1 hp2.2) (oz181 hp3.1 hp3.2) (kCode_of (i1 := ig13) hE_code (hGg13.fi 7432 rfl) (hGg13.fa 120 rfl) (hGg13.fa 121 rfl) (hGg13.fa 122 rfl) (hGg13.fa 123 rfl))) (kj_d2 (n := n) (m := m) (o := 31) (o1 := 30) hm (by decide)) ?_
      intro vg18 ig18 ag18 qg18 rg18 kg18 hg18
      have hGg18 := kG_call hGg13 kg18 (by decide +kernel)
      refine ft_go mi_k198 7 51 [(5, .int vg18), (0, .ref 116), (1, .int x1), (2, .int x2), (3, .int x3), (4, .int x4)] [.int (31 * x1), .ref 140, .ref 116] ig18 ag18 qg18 rg18 (by rfl) ?_
      refine ko_callN mi_k198.1 (pc := 51) (ls := [(5, .int vg18), (0, .ref 116), (1, .int x1), (2, .int x2), (3, .int x3), (4, .int x4)]) (st := [.int (31 * x1), .ref 140, .ref 116]) (h := ks ig18 ag18 qg18 rg18) (i := (.invokevirtual 273, 3, 169, 0, 9, 0, 423)) (mi_k198.2 _ _ (by rfl)) (ft_invS mi_pq169 (by rfl)) (cy := mi_c169) mi_pq169 rfl (kc169_116_140 hGg18.I hGg18.R (31 * x1) (oz679 hp0.1 hp0.2.2 hp4 s1) (by have := kn0; have := kn1; omega)) (kj_d3 (n := n) (c := 1) (o1 := 30) (by decide)) ?_
      intro ig19 ag19 qg19 rg19 kg19 hg19
      have hGg19 := kG_call hGg18 kg19 (by decide +kernel)
      refine ft_go mi_k198 1 56 [(5, .int vg18), (0, .ref 116), (1, .int x1), (2, .int x2), (3, .int x3), (4, .int x4)] [.int vg18] ig19 ag19 qg19 rg19 (by rfl) ?_
      exact ft_ret mi_k198 (by rfl) (hP vg18 _ _ _ _ hGg19 trivial)
set_option maxRecDepth 100000 in
theorem kLsU_199 (n : Nat) (h198 : kLU_198 n) (ih : ∀ m, n = m + 1 → kLU_199 m ∧ kLU_198 m) : kLU_199 n := by
  intro i a q r hI hr x1 x2 x3 x4 hp0 hp1 hp2 hp3 hE_code
  have hG := kG_self wU hI hr
  refine km_ofI (q := (mi_h199, mi_c199)) rfl (by decide) (Nat.le_of_ble_eq_true rfl) ?_
  intro P hP
  have hn0 : (0 : Int) ≤ (n : Int) := Int.natCast_nonneg n
  refine ft_go mi_k199 2 2 [(0, .ref 116), (1, .int x1), (2, .int x2), (3, .int x3), (4, .int x4)] [.int x2, .int x1] i a q r (by rfl) ?_
  refine ft_if mi_k199 (x1 != x2) 20 5 [(0, .ref 116), (1, .int x1), (2, .int x2), (3, .int x3), (4, .int x4)] [] (by rfl) (fun c => ?_) (fun c => ?_)
  ·
    have c1 : x1.toInt ≠ x2.toInt := kd_ne c; clear c
    have s2 : (x1 + 1).toInt = x1.toInt + (1 : Int32).toInt := kd_add (oz12 hp0.1 kn1) (oz684 hp0.2.1 hp0.2.2 kn1)
    refine ft_go mi_k199 7 28 [(0, .ref 116), (1, .int x1), (2, .int x2), (3, .int x3), (4, .int x4)] [.int x4, .int x3, .int x2, .int (x1 + 1), .ref 116] i a q r (by rfl) ?_
    obtain ⟨m, hm, hmI⟩ := kj_pred (oz685 c1 hn0 hp1)
    refine ko_callI mi_k199.1 (pc := 28) (ls := [(0, .ref 116), (1, .int x1), (2, .int x2), (3, .int x3), (4, .int x4)]) (st := [.int x4, .int x3, .int x2, .int (x1 + 1), .ref 116]) (h := ks i a q r) (i := (.invokevirtual 333, 3, 199, 0, 9, 0, 451)) (mi_k199.2 _ _ (by rfl)) (ft_invS mi_pq199 (by rfl)) (cy := mi_c199) mi_pq199 rfl ((ih m hm).1 _ _ _ _ hG.I hG.R (x1 + 1) x2 x3 x4 (oz686 c1 hp0.1 hp0.2.1 hp0.2.2 s2 kn1) (oz683 hmI hp1 s2 kn1) (oz181 hp2.1 hp2.2) (oz181 hp3.1 hp3.2) (kCode_of (i1 := i) hE_code (hG.fi 7432 rfl) (hG.fa 120 rfl) (hG.fa 121 rfl) (hG.fa 122 rfl) (hG.fa 123 rfl))) (kj_d2 (n := n) (m := m) (o := 31) (o1 := 31) hm (by decide)) ?_
    intro vg3 ig3 ag3 qg3 rg3 kg3 hg3
    have hGg3 := kG_call hG kg3 (by decide +kernel)
    refine ft_go mi_k199 6 39 [(5, .int vg3), (0, .ref 116), (1, .int x1), (2, .int x2), (3, .int x3), (4, .int x4)] [.int x4, .int x3, .int x2, .int x1, .ref 116] ig3 ag3 qg3 rg3 (by rfl) ?_
    refine ko_callI mi_k199.1 (pc := 39) (ls := [(5, .int vg3), (0, .ref 116), (1, .int x1), (2, .int x2), (3, .int x3), (4, .int x4)]) (st := [.int x4, .int x3, .int x2, .int x1, .ref 116]) (h := ks ig3 ag3 qg3 rg3) (i := (.invokevirtual 337, 3, 198, 0, 9, 0, 452)) (mi_k199.2 _ _ (by rfl)) (ft_invS mi_pq198 (by rfl)) (cy := mi_c198) mi_pq198 rfl (h198 _ _ _ _ hGg3.I hGg3.R x1 x2 x3 x4 (oz687 hp0.1 hp0.2.1 hp0.2.2) (oz688 hp1) (oz181 hp2.1 hp2.2) (oz181 hp3.1 hp3.2) (oz689 c1 hp0.2.1) (kCode_of (i1 := ig3) hE_code (hGg3.fi 7432 rfl) (hGg3.fa 120 rfl) (hGg3.fa 121 rfl) (hGg3.fa 122 rfl) (hGg3.fa 123 rfl))) (kj_d1 (n := n) (o := 30) (o1 := 31) (by decide)) ?_
    intro vg4 ig4 ag4 qg4 rg4 kg4 hg4
    have hGg4 := kG_call hGg3 kg4 (by decide +kernel)
    have s5 : (x1 - x1 / 2 * 2).toInt = (x1.toInt % 2) := kd_rem 2 kn2 (by decide) (oz3 hp0.1)
    refine ft_go mi_k199 4 47 [(6, .int vg4), (5, .int vg3), (0, .ref 116), (1, .int x1), (2, .int x2), (3, .int x3), (4, .int x4)] [.int (x1 - x1 / 2 * 2)] ig4 ag4 qg4 rg4 (by rfl) ?_
    refine ft_if mi_k199 ((x1 - x1 / 2 * 2) != 0) 60 50 [(6, .int vg4), (5, .int vg3), (0, .ref 116), (1, .int x1), (2, .int x2), (3, .int x3), (4, .int x4)] [] (by rfl) (fun c => ?_) (fun c => ?_)
    ·
      have c6 : (x1 - x1 / 2 * 2).toInt ≠ (0 : Int32).toInt := kd_ne c; clear c
      refine ft_go mi_k199 2 64 [(6, .int vg4), (5, .int vg3), (0, .ref 116), (1, .int x1), (2, .int x2), (3, .int x3), (4, .int x4)] [.int vg4, .int vg3] ig4 ag4 qg4 rg4 (by rfl) ?_
      have m8 : (((bif decide (vg4 < vg3) then vg4 else vg3).toInt ≤ vg3.toInt) ∧ ((bif decide (vg4 < vg3) then vg4 else vg3).toInt ≤ vg4.toInt)) ∧ ((bif decide (vg4 < vg3) then vg4 else vg3).toInt = vg3.toInt ∨ (bif decide (vg4 < vg3) then vg4 else vg3).toInt = vg4.toInt) := kd_min
      refine ft_go mi_k199 1 67 [(6, .int vg4), (5, .int vg3), (0, .ref 116), (1, .int x1), (2, .int x2), (3, .int x3), (4, .int x4)] [.int (bif decide (vg4 < vg3) then vg4 else vg3)] ig4 ag4 qg4 rg4 (by rfl) ?_
      generalize (bif decide (vg4 < vg3) then vg4 else vg3) = m7 at m8 ⊢
      exact ft_ret mi_k199 (by rfl) (hP m7 _ _ _ _ hGg4 trivial)
    ·
      have c9 : (x1 - x1 / 2 * 2).toInt = (0 : Int32).toInt := kd_neF c; clear c
      refine ft_go mi_k199 2 54 [(6, .int vg4), (5, .int vg3), (0, .ref 116), (1, .int x1), (2, .int x2), (3, .int x3), (4, .int x4)] [.int vg4, .int vg3] ig4 ag4 qg4 rg4 (by rfl) ?_
      have m11 : ((vg3.toInt ≤ (bif decide (vg3 < vg4) then vg4 else vg3).toInt) ∧ (vg4.toInt ≤ (bif decide (vg3 < vg4) then vg4 else vg3).toInt)) ∧ ((bif decide (vg3 < vg4) then vg4 else vg3).toInt = vg3.toInt ∨ (bif decide (vg3 < vg4) then vg4 else vg3).toInt = vg4.toInt) := kd_max
      refine ft_go mi_k199 1 57 [(6, .int vg4), (5, .int vg3), (0, .ref 116), (1, .int x1), (2, .int x2), (3, .int x3), (4, .int x4)] [.int (bif decide (vg3 < vg4) then vg4 else vg3)] ig4 ag4 qg4 rg4 (by rfl) ?_
      generalize (bif decide (vg3 < vg4) then vg4 else vg3) = m10 at m11 ⊢
      refine ft_go mi_k199 1 67 [(6, .int vg4), (5, .int vg3), (0, .ref 116), (1, .int x1), (2, .int x2), (3, .int x3), (4, .int x4)] [.int m10] ig4 ag4 qg4 rg4 (by rfl) ?_
      exact ft_ret mi_k199 (by rfl) (hP m10 _ _ _ _ hGg4 trivial)
  ·
    have c12 : x1.toInt = x2.toInt := kd_neF c; clear c
    refine ft_go mi_k199 3 10 [(0, .ref 116), (1, .int x1), (2, .int x2), (3, .int x3), (4, .int x4)] [.int x3, .ref 118] i a q r (by rfl) ?_
    refine ko_iald3 mi_k199.1 (n := 31) (c := 31) (ax := (0, 0, 0, 0, 0)) (mi_k199.2 _ _ (by rfl)) (by rfl) (ksG118 _ _ _ _) (hG.I.2.1 118) rfl (oz3 hp2.1) (oz65 hp2.2) ?_
    have r13 : ((x3.toInt = 18 → (0 : Int) ≤ ((a 118).getD x3.toNatClampNeg 0).toInt ∧ ((a 118).getD x3.toNatClampNeg 0).toInt ≤ 5)) ∧ ((19 ≤ x3.toInt → x3.toInt ≤ 24 → (0 : Int) ≤ ((a 118).getD x3.toNatClampNeg 0).toInt ∧ ((a 118).getD x3.toNatClampNeg 0).toInt ≤ 7)) := kE_ncond (p := 118) hG.I (by decide) (j := x3) (oz3 hp2.1)
    refine ft_go mi_k199 3 17 [(0, .ref 116), (1, .int x1), (2, .int x2), (3, .int x3), (4, .int x4)] [.int x4, .ref 118, .int ((a 118).getD x3.toNatClampNeg 0)] i a q r (by rfl) ?_
    refine ko_iald3 mi_k199.1 (n := 31) (c := 31) (ax := (0, 0, 0, 0, 0)) (mi_k199.2 _ _ (by rfl)) (by rfl) (ksG118 _ _ _ _) (hG.I.2.1 118) rfl (oz3 hp3.1) (oz65 hp3.2) ?_
    have r14 : ((x4.toInt = 18 → (0 : Int) ≤ ((a 118).getD x4.toNatClampNeg 0).toInt ∧ ((a 118).getD x4.toNatClampNeg 0).toInt ≤ 5)) ∧ ((19 ≤ x4.toInt → x4.toInt ≤ 24 → (0 : Int) ≤ ((a 118).getD x4.toNatClampNeg 0).toInt ∧ ((a 118).getD x4.toNatClampNeg 0).toInt ≤ 7)) := kE_ncond (p := 118) hG.I (by decide) (j := x4) (oz3 hp3.1)
    have b15 : ((-2147483648 : Int) ≤ ((a 118).getD x3.toNatClampNeg 0).toInt) ∧ (((a 118).getD x3.toNatClampNeg 0).toInt ≤ 2147483647) := kd_bd ((a 118).getD x3.toNatClampNeg 0)
    have b16 : ((-2147483648 : Int) ≤ ((a 118).getD x4.toNatClampNeg 0).toInt) ∧ (((a 118).getD x4.toNatClampNeg 0).toInt ≤ 2147483647) := kd_bd ((a 118).getD x4.toNatClampNeg 0)
    refine ft_go mi_k199 1 19 [(0, .ref 116), (1, .int x1), (2, .int x2), (3, .int x3), (4, .int x4)] [.int (((a 118).getD x3.toNatClampNeg 0) - ((a 118).getD x4.toNatClampNeg 0))] i a q r (by rfl) ?_
    exact ft_ret mi_k199 (by rfl) (hP (((a 118).getD x3.toNatClampNeg 0) - ((a 118).getD x4.toNatClampNeg 0)) _ _ _ _ hG trivial)
theorem kLallU : ∀ n : Nat, kLU_199 n ∧ kLU_198 n
  | 0 => by
    have ih : ∀ m, 0 = m + 1 → kLU_199 m ∧ kLU_198 m := fun m h => by omega
    have h198 := kLsU_198 0  ih
    have h199 := kLsU_199 0 h198 ih
    exact ⟨h199, h198⟩
  | n + 1 => by
    have ih : ∀ m, n + 1 = m + 1 → kLU_199 m ∧ kLU_198 m := fun m h => by
      have e : n = m := by omega
      subst e
      exact kLallU n
    have h198 := kLsU_198 (n + 1)  ih
    have h199 := kLsU_199 (n + 1) h198 ih
    exact ⟨h199, h198⟩
set_option maxRecDepth 100000 in
theorem kc226 {i : Nat → Int32} {a : Nat → List Int32} {q : Nat → List Int64} {r : Nat → Nat} (hI : kI i a q) (hr : kr r) (x1 : Int32) : km 1 226 [.int x1] (ks i a q r) (kPI (ks i a q r) (fun v => v.toInt = (kbc x1).toInt)) := by
  refine km_ofPI (q := (mi_h226, mi_c226)) rfl (by decide) (Nat.le_of_ble_eq_true rfl) ?_
  intro P hP
  refine ft_go mi_k226 8 10 [(0, .int (kb1 x1))] [] i a q r (by rfl) ?_
  refine ft_go mi_k226 10 24 [(0, .int (kb2 (kb1 x1)))] [] i a q r (by rfl) ?_
  refine ft_go mi_k226 8 34 [(0, .int (kb3 (kb2 (kb1 x1))))] [] i a q r (by rfl) ?_
  refine ft_go mi_k226 6 41 [(0, .int (kb4 (kb3 (kb2 (kb1 x1)))))] [] i a q r (by rfl) ?_
  refine ft_go mi_k226 6 48 [(0, .int (kb5 (kb4 (kb3 (kb2 (kb1 x1))))))] [] i a q r (by rfl) ?_
  refine ft_go mi_k226 3 52 [(0, .int (kb5 (kb4 (kb3 (kb2 (kb1 x1))))))] [.int (kbc x1)] i a q r (by rfl) ?_
  exact ft_ret mi_k226 (by rfl) (hP (kbc x1) rfl)
def w185_116 : kW := ([7464, 7465, 7466, 7467, 7469, 7476], [118, 128, 129, 139, 141, 142, 143, 144, 145, 146, 147], [], [])
set_option maxRecDepth 100000 in
theorem kc185_116 {i : Nat → Int32} {a : Nat → List Int32} {q : Nat → List Int64} {r : Nat → Nat} (hI : kI i a q) (hr : kr r) (x1 : Int32) (x2 : Int32) (x3 : Int32) (hE_code : kCode i a) : km 63 185 [.ref 116, .int x1, .int x2, .int x3] (ks i a q r) (kVI w185_116 i a q r (fun v i1 a1 q1 r1 => True)) := by
  have hG := kG_self w185_116 hI hr
  refine km_ofI (q := (mi_h185, mi_c185)) rfl (by decide) (Nat.le_of_ble_eq_true rfl) ?_
  intro P hP
  have fi_7424 : ((0 : Int) ≤ (i 7424).toInt) ∧ ((i 7424).toInt ≤ 8) := hG.I.1 7424
  have s1 : ((1 : Int) ≤ (1 <<< ((i 7424) &&& 31)).toInt) ∧ ((1 <<< ((i 7424) &&& 31)).toInt ≤ 256) := kd_shl1 (oz3 fi_7424.1) (oz559 fi_7424.2)
  have s2 : ((1 <<< ((i 7424) &&& 31)) - 1).toInt = (1 <<< ((i 7424) &&& 31)).toInt - (1 : Int32).toInt := kd_sub (oz341 s1.1 kn1) (oz690 s1.2 kn1)
  refine ft_go mi_k185 8 10 [(0, .ref 116), (1, .int x1), (2, .int x2), (3, .int x3)] [.int ((1 <<< ((i 7424) &&& 31)) - 1), .int 0, .int x1] i a q r (by rfl) ?_
  refine ko_callPI mi_k185.1 (pc := 10) (ls := [(0, .ref 116), (1, .int x1), (2, .int x2), (3, .int x3)]) (st := [.int ((1 <<< ((i 7424) &&& 31)) - 1), .int 0, .int x1]) (h := ks i a q r) (i := (.invokestatic 119, 3, 131, 0, 9, 0, 379)) (mi_k185.2 _ _ (by rfl)) (ft_invS mi_pq131 (by rfl)) (cy := mi_c131) mi_pq131 rfl (kc131 hG.I hG.R x1 0 ((1 <<< ((i 7424) &&& 31)) - 1)) (by decide) ?_
  intro vg3 hg3
  rcases hg3 with ⟨eg3, hg3⟩ | ⟨eg3, hg3⟩
  ·
    subst eg3
    have z4 : ((0 : Int32).toInt ≤ x1.toInt) ∧ (x1.toInt ≤ ((1 <<< ((i 7424) &&& 31)) - 1).toInt) := hg3
    refine ft_go mi_k185 3 18 [(0, .ref 116), (1, .int x1), (2, .int x2), (3, .int x3)] [.int x2, .ref 116] i a q r (by rfl) ?_
    refine ko_callPI mi_k185.1 (pc := 18) (ls := [(0, .ref 116), (1, .int x1), (2, .int x2), (3, .int x3)]) (st := [.int x2, .ref 116]) (h := ks i a q r) (i := (.invokevirtual 137, 3, 132, 0, 9, 0, 387)) (mi_k185.2 _ _ (by rfl)) (ft_invS mi_pq132 (by rfl)) (cy := mi_c132) mi_pq132 rfl (kc132_116 hG.I hG.R x2) (by decide) ?_
    intro vg5 hg5
    rcases hg5 with ⟨eg5, hg5⟩ | ⟨eg5, hg5⟩
    ·
      subst eg5
      have z6 : ((0 : Int) ≤ x2.toInt) ∧ (x2.toInt < (i 7424).toInt) := hg5
      refine ft_go mi_k185 3 26 [(0, .ref 116), (1, .int x1), (2, .int x2), (3, .int x3)] [.int (-1), .int x3] i a q r (by rfl) ?_
      refine ft_if mi_k185 (decide ((-1) ≤ x3)) 31 29 [(0, .ref 116), (1, .int x1), (2, .int x2), (3, .int x3)] [] (by rfl) (fun c => ?_) (fun c => ?_)
      ·
        have c7 : ((-1) : Int32).toInt ≤ x3.toInt := kd_le c; clear c
        have kb8 : (0 : Int) ≤ (kbc x1).toInt := kbc_nn (oz389 z4.1 kn0) (oz691 s1.2 s2 z4.2 kn1)
        refine ft_go mi_k185 1 32 [(0, .ref 116), (1, .int x1), (2, .int x2), (3, .int x3)] [.int x1] i a q r (by rfl) ?_
        refine ko_callPI mi_k185.1 (pc := 32) (ls := [(0, .ref 116), (1, .int x1), (2, .int x2), (3, .int x3)]) (st := [.int x1]) (h := ks i a q r) (i := (.invokestatic 303, 3, 226, 0, 9, 0, 435)) (mi_k185.2 _ _ (by rfl)) (ft_invS mi_pq226 (by rfl)) (cy := mi_c226) mi_pq226 rfl (kc226 hG.I hG.R x1) (by decide) ?_
        intro vg9 hg9
        have z10 : vg9.toInt = (kbc x1).toInt := hg9
        refine ft_go mi_k185 1 36 [(0, .ref 116), (1, .int x1), (2, .int x2), (3, .int x3)] [.int 5, .int vg9] i a q r (by rfl) ?_
        refine ft_if mi_k185 (decide (vg9 ≤ 5)) 42 39 [(0, .ref 116), (1, .int x1), (2, .int x2), (3, .int x3)] [] (by rfl) (fun c => ?_) (fun c => ?_)
        ·
          have c11 : vg9.toInt ≤ (5 : Int32).toInt := kd_le c; clear c
          refine ft_go mi_k185 2 44 [(0, .ref 116), (1, .int x1), (2, .int x2), (3, .int x3)] [.int x1, .int x3] i a q r (by rfl) ?_
          refine ko_callPI mi_k185.1 (pc := 44) (ls := [(0, .ref 116), (1, .int x1), (2, .int x2), (3, .int x3)]) (st := [.int x1, .int x3]) (h := ks i a q r) (i := (.invokestatic 303, 3, 226, 0, 9, 0, 435)) (mi_k185.2 _ _ (by rfl)) (ft_invS mi_pq226 (by rfl)) (cy := mi_c226) mi_pq226 rfl (kc226 hG.I hG.R x1) (by decide) ?_
          intro vg12 hg12
          have z13 : vg12.toInt = (kbc x1).toInt := hg12
          refine ft_if mi_k185 (decide (x3 < vg12)) 53 50 [(0, .ref 116), (1, .int x1), (2, .int x2), (3, .int x3)] [] (by rfl) (fun c => ?_) (fun c => ?_)
          ·
            have c14 : x3.toInt < vg12.toInt := kd_lt c; clear c
            have hJ15 := kG_i hG 7476 rfl (v := (-1)) (kd_bd _)
            refine ft_go mi_k185 7 62 [(0, .ref 116), (1, .int x1), (2, .int x2), (3, .int x3)] [.int x2, .int x1, .int 0, .ref 116] (ku i 7476 (-1)) a q r (by rfl) ?_
            have nn0 := kn0
            have nn0 := kn0
            refine ko_callN mi_k185.1 (pc := 62) (ls := [(0, .ref 116), (1, .int x1), (2, .int x2), (3, .int x3)]) (st := [.int x2, .int x1, .int 0, .ref 116]) (h := ks (ku i 7476 (-1)) a q r) (i := (.invokevirtual 300, 3, 184, 0, 9, 0, 436)) (mi_k185.2 _ _ (by rfl)) (ft_invS mi_pq184 (by rfl)) (cy := mi_c184) mi_pq184 rfl ((kLallO ((kbc x1).toInt.toNat)) _ _ _ _ hJ15.I hJ15.R 0 x1 x2 (oz46 kn0) (oz692 s1.2 s2 z4.1 z4.2 kn1 kn0) (oz423 fi_7424.2 z6.1 z6.2) (oz693 c11 z10 kn5 kn0) (by have := knm1; have := kn0; have := kn1; have := kn5; omega) (kCode_of (i1 := ku i 7476 (-1)) hE_code (hJ15.fi 7432 rfl) (hJ15.fa 120 rfl) (hJ15.fa 121 rfl) (hJ15.fa 122 rfl) (hJ15.fa 123 rfl))) (by have := kn0; have := kn1; have := kn5; omega) ?_
            intro ig16 ag16 qg16 rg16 kg16 hg16
            have hGg16 := kG_call hJ15 kg16 (by decide +kernel)
            refine ft_go mi_k185 2 67 [(0, .ref 116), (1, .int x1), (2, .int x2), (3, .int x3)] [.int (-1), .int x3] ig16 ag16 qg16 rg16 (by rfl) ?_
            refine ft_if mi_k185 (x3 != (-1)) 77 70 [(0, .ref 116), (1, .int x1), (2, .int x2), (3, .int x3)] [] (by rfl) (fun c => ?_) (fun c => ?_)
            ·
              have c17 : x3.toInt ≠ ((-1) : Int32).toInt := kd_ne c; clear c
              refine ft_go mi_k185 3 82 [(0, .ref 116), (1, .int x1), (2, .int x2), (3, .int x3)] [.int x3, .ref 147] ig16 ag16 qg16 rg16 (by rfl) ?_
              refine ko_iald3 mi_k185.1 (n := 5) (c := 5) (ax := (0, 0, 0, 0, 0)) (mi_k185.2 _ _ (by rfl)) (by rfl) (ksG147 _ _ _ _) (hGg16.I.2.1 147) rfl (oz694 c17 c7 knm1) (oz695 c11 c14 z10 z13 kn5) ?_
              exact ft_ret mi_k185 (by rfl) (hP ((ag16 147).getD x3.toNatClampNeg 0) _ _ _ _ hGg16 trivial)
            ·
              have c18 : x3.toInt = ((-1) : Int32).toInt := kd_neF c; clear c
              refine ft_go mi_k185 3 83 [(0, .ref 116), (1, .int x1), (2, .int x2), (3, .int x3)] [.int (ig16 7476)] ig16 ag16 qg16 rg16 (by rfl) ?_
              exact ft_ret mi_k185 (by rfl) (hP (ig16 7476) _ _ _ _ hGg16 trivial)
          ·
            have c19 : vg12.toInt ≤ x3.toInt := kd_ltF c; clear c
            refine ft_go mi_k185 1 52 [(0, .ref 116), (1, .int x1), (2, .int x2), (3, .int x3)] [.int (-2)] i a q r (by rfl) ?_
            exact ft_ret mi_k185 (by rfl) (hP (-2) _ _ _ _ hG trivial)
        ·
          have c20 : (5 : Int32).toInt < vg9.toInt := kd_leF c; clear c
          refine ft_go mi_k185 1 41 [(0, .ref 116), (1, .int x1), (2, .int x2), (3, .int x3)] [.int (-5)] i a q r (by rfl) ?_
          exact ft_ret mi_k185 (by rfl) (hP (-5) _ _ _ _ hG trivial)
      ·
        have c21 : x3.toInt < ((-1) : Int32).toInt := kd_leF c; clear c
        refine ft_go mi_k185 1 30 [(0, .ref 116), (1, .int x1), (2, .int x2), (3, .int x3)] [.int (-1)] i a q r (by rfl) ?_
        exact ft_ret mi_k185 (by rfl) (hP (-1) _ _ _ _ hG trivial)
    ·
      subst eg5
      have z22 : ¬ (((0 : Int) ≤ x2.toInt) ∧ (x2.toInt < (i 7424).toInt)) := hg5
      refine ft_go mi_k185 2 30 [(0, .ref 116), (1, .int x1), (2, .int x2), (3, .int x3)] [.int (-1)] i a q r (by rfl) ?_
      exact ft_ret mi_k185 (by rfl) (hP (-1) _ _ _ _ hG trivial)
  ·
    subst eg3
    have z23 : ¬ (((0 : Int32).toInt ≤ x1.toInt) ∧ (x1.toInt ≤ ((1 <<< ((i 7424) &&& 31)) - 1).toInt)) := hg3
    refine ft_go mi_k185 2 30 [(0, .ref 116), (1, .int x1), (2, .int x2), (3, .int x3)] [.int (-1)] i a q r (by rfl) ?_
    exact ft_ret mi_k185 (by rfl) (hP (-1) _ _ _ _ hG trivial)
def w200_116 : kW := ([7464, 7465, 7466, 7467], [118, 128, 129, 140, 141], [], [])
set_option maxRecDepth 100000 in
theorem kc200_116 {i : Nat → Int32} {a : Nat → List Int32} {q : Nat → List Int64} {r : Nat → Nat} (hI : kI i a q) (hr : kr r) (x1 : Int32) (x2 : Int32) (x3 : Int32) (hE_code : kCode i a) : km 64 200 [.ref 116, .int x1, .int x2, .int x3] (ks i a q r) (kVI w200_116 i a q r (fun v i1 a1 q1 r1 => True)) := by
  have hG := kG_self w200_116 hI hr
  refine km_ofI (q := (mi_h200, mi_c200)) rfl (by decide) (Nat.le_of_ble_eq_true rfl) ?_
  intro P hP
  refine ft_go mi_k200 2 2 [(0, .ref 116), (1, .int x1), (2, .int x2), (3, .int x3)] [.int x1, .ref 116] i a q r (by rfl) ?_
  refine ko_callPI mi_k200.1 (pc := 2) (ls := [(0, .ref 116), (1, .int x1), (2, .int x2), (3, .int x3)]) (st := [.int x1, .ref 116]) (h := ks i a q r) (i := (.invokevirtual 308, 3, 186, 0, 9, 0, 438)) (mi_k200.2 _ _ (by rfl)) (ft_invS mi_pq186 (by rfl)) (cy := mi_c186) mi_pq186 rfl (kc186_116 hG.I hG.R x1) (by decide) ?_
  intro vg1 hg1
  rcases hg1 with ⟨eg1, hg1⟩ | ⟨eg1, hg1⟩
  ·
    subst eg1
    have fi_7424 : ((0 : Int) ≤ (i 7424).toInt) ∧ ((i 7424).toInt ≤ 8) := hG.I.1 7424
    have z2 : ((0 : Int) ≤ x1.toInt) ∧ (((x1.toInt / 10) < (i 7424).toInt) ∧ ((x1.toInt % 10) < (i 7424).toInt)) ∧ ((x1.toInt / 10) ≠ (x1.toInt % 10)) := hg1
    refine ft_go mi_k200 4 11 [(0, .ref 116), (1, .int x1), (2, .int x2), (3, .int x3)] [.int 5, .int 1, .int x2] i a q r (by rfl) ?_
    refine ko_callPI mi_k200.1 (pc := 11) (ls := [(0, .ref 116), (1, .int x1), (2, .int x2), (3, .int x3)]) (st := [.int 5, .int 1, .int x2]) (h := ks i a q r) (i := (.invokestatic 119, 3, 131, 0, 9, 0, 379)) (mi_k200.2 _ _ (by rfl)) (ft_invS mi_pq131 (by rfl)) (cy := mi_c131) mi_pq131 rfl (kc131 hG.I hG.R x2 1 5) (by decide) ?_
    intro vg3 hg3
    rcases hg3 with ⟨eg3, hg3⟩ | ⟨eg3, hg3⟩
    ·
      subst eg3
      have z4 : ((1 : Int32).toInt ≤ x2.toInt) ∧ (x2.toInt ≤ (5 : Int32).toInt) := hg3
      refine ft_go mi_k200 4 20 [(0, .ref 116), (1, .int x1), (2, .int x2), (3, .int x3)] [.int 1, .int 0, .int x3] i a q r (by rfl) ?_
      refine ko_callPI mi_k200.1 (pc := 20) (ls := [(0, .ref 116), (1, .int x1), (2, .int x2), (3, .int x3)]) (st := [.int 1, .int 0, .int x3]) (h := ks i a q r) (i := (.invokestatic 119, 3, 131, 0, 9, 0, 379)) (mi_k200.2 _ _ (by rfl)) (ft_invS mi_pq131 (by rfl)) (cy := mi_c131) mi_pq131 rfl (kc131 hG.I hG.R x3 0 1) (by decide) ?_
      intro vg5 hg5
      rcases hg5 with ⟨eg5, hg5⟩ | ⟨eg5, hg5⟩
      ·
        subst eg5
        have z6 : ((0 : Int32).toInt ≤ x3.toInt) ∧ (x3.toInt ≤ (1 : Int32).toInt) := hg5
        have s7 : (x1 / 10).toInt = (x1.toInt / 10) := kd_div 10 kn10 (by decide) (oz3 z2.1)
        have s8 : (x1 - x1 / 10 * 10).toInt = (x1.toInt % 10) := kd_rem 10 kn10 (by decide) (oz3 z2.1)
        refine ft_go mi_k200 10 41 [(0, .ref 116), (1, .int x1), (2, .int x2), (3, .int x3)] [.int (x1 - x1 / 10 * 10), .int (x1 / 10), .int x2, .int 1, .ref 116] i a q r (by rfl) ?_
        have nn1 := kn1
        have nn0 := kn0
        refine ko_callI mi_k200.1 (pc := 41) (ls := [(0, .ref 116), (1, .int x1), (2, .int x2), (3, .int x3)]) (st := [.int (x1 - x1 / 10 * 10), .int (x1 / 10), .int x2, .int 1, .ref 116]) (h := ks i a q r) (i := (.invokevirtual 333, 3, 199, 0, 9, 0, 451)) (mi_k200.2 _ _ (by rfl)) (ft_invS mi_pq199 (by rfl)) (cy := mi_c199) mi_pq199 rfl ((kLallU ((x2.toInt - (1 : Int32).toInt).toNat)).1 _ _ _ _ hG.I hG.R 1 x2 (x1 / 10) (x1 - x1 / 10 * 10) (oz696 z4.1 z4.2 kn1 kn5) (by have := kn0; have := kn1; have := kn5; omega) (oz697 fi_7424.2 s7 z2.1 z2.2.1.1 z2.2.1.2 z2.2.2) (oz698 fi_7424.2 s8 z2.2.1.2) (kCode_of (i1 := i) hE_code (hG.fi 7432 rfl) (hG.fa 120 rfl) (hG.fa 121 rfl) (hG.fa 122 rfl) (hG.fa 123 rfl))) (by have := kn0; have := kn1; have := kn5; omega) ?_
        intro vg9 ig9 ag9 qg9 rg9 kg9 hg9
        have hGg9 := kG_call hG kg9 (by decide +kernel)
        refine ft_go mi_k200 10 57 [(4, .int vg9), (0, .ref 116), (1, .int x1), (2, .int x2), (3, .int x3)] [.int (x1 - x1 / 10 * 10), .int (x1 / 10), .int x2, .int 0, .ref 116] ig9 ag9 qg9 rg9 (by rfl) ?_
        have nn0 := kn0
        have nn0 := kn0
        refine ko_callI mi_k200.1 (pc := 57) (ls := [(4, .int vg9), (0, .ref 116), (1, .int x1), (2, .int x2), (3, .int x3)]) (st := [.int (x1 - x1 / 10 * 10), .int (x1 / 10), .int x2, .int 0, .ref 116]) (h := ks ig9 ag9 qg9 rg9) (i := (.invokevirtual 337, 3, 198, 0, 9, 0, 452)) (mi_k200.2 _ _ (by rfl)) (ft_invS mi_pq198 (by rfl)) (cy := mi_c198) mi_pq198 rfl ((kLallU ((x2.toInt - (0 : Int32).toInt).toNat)).2 _ _ _ _ hGg9.I hGg9.R 0 x2 (x1 / 10) (x1 - x1 / 10 * 10) (oz699 z4.1 z4.2 kn1 kn5 kn0) (by have := kn0; have := kn1; have := kn5; omega) (oz697 fi_7424.2 s7 z2.1 z2.2.1.1 z2.2.1.2 z2.2.2) (oz698 fi_7424.2 s8 z2.2.1.2) (oz700 z4.1 kn1 kn0) (kCode_of (i1 := ig9) hE_code (hGg9.fi 7432 rfl) (hGg9.fa 120 rfl) (hGg9.fa 121 rfl) (hGg9.fa 122 rfl) (hGg9.fa 123 rfl))) (by have := kn0; have := kn1; have := kn5; omega) ?_
        intro vg10 ig10 ag10 qg10 rg10 kg10 hg10
        have hGg10 := kG_call hGg9 kg10 (by decide +kernel)
        refine ft_go mi_k200 2 63 [(5, .int vg10), (4, .int vg9), (0, .ref 116), (1, .int x1), (2, .int x2), (3, .int x3)] [.int x3] ig10 ag10 qg10 rg10 (by rfl) ?_
        refine ft_if mi_k200 (x3 != 0) 76 66 [(5, .int vg10), (4, .int vg9), (0, .ref 116), (1, .int x1), (2, .int x2), (3, .int x3)] [] (by rfl) (fun c => ?_) (fun c => ?_)
        ·
          have c11 : x3.toInt ≠ (0 : Int32).toInt := kd_ne c; clear c
          refine ft_go mi_k200 2 80 [(5, .int vg10), (4, .int vg9), (0, .ref 116), (1, .int x1), (2, .int x2), (3, .int x3)] [.int vg9, .int vg10] ig10 ag10 qg10 rg10 (by rfl) ?_
          refine ft_if mi_k200 (decide (vg10 ≤ vg9)) 87 83 [(5, .int vg10), (4, .int vg9), (0, .ref 116), (1, .int x1), (2, .int x2), (3, .int x3)] [] (by rfl) (fun c => ?_) (fun c => ?_)
          ·
            have c12 : vg10.toInt ≤ vg9.toInt := kd_le c; clear c
            refine ft_go mi_k200 1 88 [(5, .int vg10), (4, .int vg9), (0, .ref 116), (1, .int x1), (2, .int x2), (3, .int x3)] [.int 0] ig10 ag10 qg10 rg10 (by rfl) ?_
            exact ft_ret mi_k200 (by rfl) (hP 0 _ _ _ _ hGg10 trivial)
          ·
            have c13 : vg9.toInt < vg10.toInt := kd_leF c; clear c
            refine ft_go mi_k200 2 88 [(5, .int vg10), (4, .int vg9), (0, .ref 116), (1, .int x1), (2, .int x2), (3, .int x3)] [.int 1] ig10 ag10 qg10 rg10 (by rfl) ?_
            exact ft_ret mi_k200 (by rfl) (hP 1 _ _ _ _ hGg10 trivial)
        ·
          have c14 : x3.toInt = (0 : Int32).toInt := kd_neF c; clear c
          refine ft_go mi_k200 2 70 [(5, .int vg10), (4, .int vg9), (0, .ref 116), (1, .int x1), (2, .int x2), (3, .int x3)] [.int vg10, .int vg9] ig10 ag10 qg10 rg10 (by rfl) ?_
          have m16 : ((vg9.toInt ≤ (bif decide (vg9 < vg10) then vg10 else vg9).toInt) ∧ (vg10.toInt ≤ (bif decide (vg9 < vg10) then vg10 else vg9).toInt)) ∧ ((bif decide (vg9 < vg10) then vg10 else vg9).toInt = vg9.toInt ∨ (bif decide (vg9 < vg10) then vg10 else vg9).toInt = vg10.toInt) := kd_max
          refine ft_go mi_k200 1 73 [(5, .int vg10), (4, .int vg9), (0, .ref 116), (1, .int x1), (2, .int x2), (3, .int x3)] [.int (bif decide (vg9 < vg10) then vg10 else vg9)] ig10 ag10 qg10 rg10 (by rfl) ?_
          generalize (bif decide (vg9 < vg10) then vg10 else vg9) = m15 at m16 ⊢
          refine ft_go mi_k200 1 88 [(5, .int vg10), (4, .int vg9), (0, .ref 116), (1, .int x1), (2, .int x2), (3, .int x3)] [.int m15] ig10 ag10 qg10 rg10 (by rfl) ?_
          exact ft_ret mi_k200 (by rfl) (hP m15 _ _ _ _ hGg10 trivial)
      ·
        subst eg5
        have z17 : ¬ (((0 : Int32).toInt ≤ x3.toInt) ∧ (x3.toInt ≤ (1 : Int32).toInt)) := hg5
        refine ft_go mi_k200 2 29 [(0, .ref 116), (1, .int x1), (2, .int x2), (3, .int x3)] [.int (-2000000000)] i a q r (by rfl) ?_
        exact ft_ret mi_k200 (by rfl) (hP (-2000000000) _ _ _ _ hG trivial)
    ·
      subst eg3
      have z18 : ¬ (((1 : Int32).toInt ≤ x2.toInt) ∧ (x2.toInt ≤ (5 : Int32).toInt)) := hg3
      refine ft_go mi_k200 2 29 [(0, .ref 116), (1, .int x1), (2, .int x2), (3, .int x3)] [.int (-2000000000)] i a q r (by rfl) ?_
      exact ft_ret mi_k200 (by rfl) (hP (-2000000000) _ _ _ _ hG trivial)
  ·
    subst eg1
    have fi_7424 : ((0 : Int) ≤ (i 7424).toInt) ∧ ((i 7424).toInt ≤ 8) := hG.I.1 7424
    have z19 : ¬ (((0 : Int) ≤ x1.toInt) ∧ (((x1.toInt / 10) < (i 7424).toInt) ∧ ((x1.toInt % 10) < (i 7424).toInt)) ∧ ((x1.toInt / 10) ≠ (x1.toInt % 10))) := hg1
    refine ft_go mi_k200 2 29 [(0, .ref 116), (1, .int x1), (2, .int x2), (3, .int x3)] [.int (-2000000000)] i a q r (by rfl) ?_
    exact ft_ret mi_k200 (by rfl) (hP (-2000000000) _ _ _ _ hG trivial)
set_option maxRecDepth 100000 in
theorem kc147_116 {i : Nat → Int32} {a : Nat → List Int32} {q : Nat → List Int64} {r : Nat → Nat} (hI : kI i a q) (hr : kr r)  : km 1 147 [.ref 116] (ks i a q r) (kPI (ks i a q r) (fun v => ((v.toInt = (-1)) ∧ ((i 7429).toInt ≤ (i 7437).toInt)) ∨ (((i 7437).toInt < (i 7429).toInt) ∧ (v.toInt = ((a 119).getD (i 7437).toNatClampNeg 0).toInt)))) := by
  have hG := kG_self kW0 hI hr
  refine km_ofPI (q := (mi_h147, mi_c147)) rfl (by decide) (Nat.le_of_ble_eq_true rfl) ?_
  intro P hP
  have fi_7437 : ((0 : Int) ≤ (i 7437).toInt) ∧ ((i 7437).toInt ≤ 120) := hG.I.1 7437
  have fi_7429 : ((0 : Int) ≤ (i 7429).toInt) ∧ ((i 7429).toInt ≤ 120) := hG.I.1 7429
  refine ft_go mi_k147 4 8 [(0, .ref 116)] [.int (i 7429), .int (i 7437)] i a q r (by rfl) ?_
  refine ft_if mi_k147 (decide ((i 7429) ≤ (i 7437))) 23 11 [(0, .ref 116)] [] (by rfl) (fun c => ?_) (fun c => ?_)
  ·
    have c1 : (i 7429).toInt ≤ (i 7437).toInt := kd_le c; clear c
    refine ft_go mi_k147 1 24 [(0, .ref 116)] [.int (-1)] i a q r (by rfl) ?_
    exact ft_ret mi_k147 (by rfl) (hP (-1) (oz701 c1 knm1))
  ·
    have c2 : (i 7437).toInt < (i 7429).toInt := kd_leF c; clear c
    refine ft_go mi_k147 4 19 [(0, .ref 116)] [.int (i 7437), .ref 119] i a q r (by rfl) ?_
    refine ko_iald3 mi_k147.1 (n := 120) (c := 120) (ax := (0, 0, 0, 0, 0)) (mi_k147.2 _ _ (by rfl)) (by rfl) (ksG119 _ _ _ _) (hG.I.2.1 119) rfl (oz3 fi_7437.1) (oz702 c2 fi_7429.2) ?_
    refine ft_go mi_k147 1 24 [(0, .ref 116)] [.int ((a 119).getD (i 7437).toNatClampNeg 0)] i a q r (by rfl) ?_
    exact ft_ret mi_k147 (by rfl) (hP ((a 119).getD (i 7437).toNatClampNeg 0) (oz703 c2))
set_option maxRecDepth 100000 in
theorem kc150_116 {i : Nat → Int32} {a : Nat → List Int32} {q : Nat → List Int64} {r : Nat → Nat} (hI : kI i a q) (hr : kr r)  : km 3 150 [.ref 116] (ks i a q r) (kPI (ks i a q r) (fun v => (v = 1 ∧ (((i 7437).toInt < (i 7429).toInt) ∧ ((48 : Int) ≤ ((a 119).getD (i 7437).toNatClampNeg 0).toInt) ∧ (((a 119).getD (i 7437).toNatClampNeg 0).toInt ≤ 57))) ∨ (v = 0 ∧ (¬ (((i 7437).toInt < (i 7429).toInt) ∧ ((48 : Int) ≤ ((a 119).getD (i 7437).toNatClampNeg 0).toInt) ∧ (((a 119).getD (i 7437).toNatClampNeg 0).toInt ≤ 57)))))) := by
  have hG := kG_self kW0 hI hr
  refine km_ofPI (q := (mi_h150, mi_c150)) rfl (by decide) (Nat.le_of_ble_eq_true rfl) ?_
  intro P hP
  refine ft_go mi_k150 1 1 [(0, .ref 116)] [.ref 116] i a q r (by rfl) ?_
  refine ko_callPI mi_k150.1 (pc := 1) (ls := [(0, .ref 116)]) (st := [.ref 116]) (h := ks i a q r) (i := (.invokevirtual 166, 3, 147, 0, 9, 0, 404)) (mi_k150.2 _ _ (by rfl)) (ft_invS mi_pq147 (by rfl)) (cy := mi_c147) mi_pq147 rfl (kc147_116 hG.I hG.R ) (by decide) ?_
  intro vg1 hg1
  have fi_7429 : ((0 : Int) ≤ (i 7429).toInt) ∧ ((i 7429).toInt ≤ 120) := hG.I.1 7429
  have fi_7437 : ((0 : Int) ≤ (i 7437).toInt) ∧ ((i 7437).toInt ≤ 120) := hG.I.1 7437
  have z2 : ((vg1.toInt = (-1)) ∧ ((i 7429).toInt ≤ (i 7437).toInt)) ∨ (((i 7437).toInt < (i 7429).toInt) ∧ (vg1.toInt = ((a 119).getD (i 7437).toNatClampNeg 0).toInt)) := hg1
  refine ft_go mi_k150 1 6 [(0, .ref 116)] [.int 48, .int vg1] i a q r (by rfl) ?_
  refine ft_if mi_k150 (decide (vg1 < 48)) 22 9 [(0, .ref 116)] [] (by rfl) (fun c => ?_) (fun c => ?_)
  ·
    have c3 : vg1.toInt < (48 : Int32).toInt := kd_lt c; clear c
    refine ft_go mi_k150 1 23 [(0, .ref 116)] [.int 0] i a q r (by rfl) ?_
    exact ft_ret mi_k150 (by rfl) (hP 0 (Or.inr ⟨rfl, (oz704 c3 z2 kn48)⟩))
  ·
    have c4 : (48 : Int32).toInt ≤ vg1.toInt := kd_ltF c; clear c
    refine ft_go mi_k150 1 10 [(0, .ref 116)] [.ref 116] i a q r (by rfl) ?_
    refine ko_callPI mi_k150.1 (pc := 10) (ls := [(0, .ref 116)]) (st := [.ref 116]) (h := ks i a q r) (i := (.invokevirtual 166, 3, 147, 0, 9, 0, 404)) (mi_k150.2 _ _ (by rfl)) (ft_invS mi_pq147 (by rfl)) (cy := mi_c147) mi_pq147 rfl (kc147_116 hG.I hG.R ) (by decide) ?_
    intro vg5 hg5
    have z6 : ((vg5.toInt = (-1)) ∧ ((i 7429).toInt ≤ (i 7437).toInt)) ∨ (((i 7437).toInt < (i 7429).toInt) ∧ (vg5.toInt = ((a 119).getD (i 7437).toNatClampNeg 0).toInt)) := hg5
    refine ft_go mi_k150 1 15 [(0, .ref 116)] [.int 57, .int vg5] i a q r (by rfl) ?_
    refine ft_if mi_k150 (decide (57 < vg5)) 22 18 [(0, .ref 116)] [] (by rfl) (fun c => ?_) (fun c => ?_)
    ·
      have c7 : (57 : Int32).toInt < vg5.toInt := kd_lt c; clear c
      refine ft_go mi_k150 1 23 [(0, .ref 116)] [.int 0] i a q r (by rfl) ?_
      exact ft_ret mi_k150 (by rfl) (hP 0 (Or.inr ⟨rfl, (oz705 c7 z6 kn57)⟩))
    ·
      have c8 : vg5.toInt ≤ (57 : Int32).toInt := kd_ltF c; clear c
      refine ft_go mi_k150 2 23 [(0, .ref 116)] [.int 1] i a q r (by rfl) ?_
      exact ft_ret mi_k150 (by rfl) (hP 1 (Or.inl ⟨rfl, (oz706 c4 c8 z2 z6 kn48 kn57)⟩))
set_option maxRecDepth 100000 in
theorem kc151 {i : Nat → Int32} {a : Nat → List Int32} {q : Nat → List Int64} {r : Nat → Nat} (hI : kI i a q) (hr : kr r) (x1 : Int32) : km 1 151 [.int x1] (ks i a q r) (kPI (ks i a q r) (fun v => (((-1) : Int) ≤ v.toInt) ∧ (v.toInt ≤ 5) ∧ ((v.toInt = (-1)) ∨ ((100 : Int) ≤ x1.toInt)))) := by
  have hG := kG_self kW0 hI hr
  refine km_ofPI (q := (mi_h151, mi_c151)) rfl (by decide) (Nat.le_of_ble_eq_true rfl) ?_
  intro P hP
  refine ft_go mi_k151 1 1 [(0, .int x1)] [.int x1] i a q r (by rfl) ?_
  by_cases w1 : x1.toInt = 100
  ·
    refine ko_eq (x1 := (1, [(0, .int x1)], [.int 100], (0, 0), ks i a q r)) (by rw [(kj_eq w1 (by decide) : x1 = 100)]) ?_
    refine ft_go mi_k151 2 107 [(0, .int x1)] [.int 5] i a q r (by rfl) ?_
    exact ft_ret mi_k151 (by rfl) (hP 5 (oz730 w1 kn5))
  by_cases w2 : x1.toInt = 101
  ·
    refine ko_eq (x1 := (1, [(0, .int x1)], [.int 101], (0, 0), ks i a q r)) (by rw [(kj_eq w2 (by decide) : x1 = 101)]) ?_
    refine ft_go mi_k151 2 109 [(0, .int x1)] [.int (-1)] i a q r (by rfl) ?_
    exact ft_ret mi_k151 (by rfl) (hP (-1) (oz731 knm1))
  by_cases w3 : x1.toInt = 102
  ·
    refine ko_eq (x1 := (1, [(0, .int x1)], [.int 102], (0, 0), ks i a q r)) (by rw [(kj_eq w3 (by decide) : x1 = 102)]) ?_
    refine ft_go mi_k151 2 109 [(0, .int x1)] [.int (-1)] i a q r (by rfl) ?_
    exact ft_ret mi_k151 (by rfl) (hP (-1) (oz731 knm1))
  by_cases w4 : x1.toInt = 103
  ·
    refine ko_eq (x1 := (1, [(0, .int x1)], [.int 103], (0, 0), ks i a q r)) (by rw [(kj_eq w4 (by decide) : x1 = 103)]) ?_
    refine ft_go mi_k151 2 109 [(0, .int x1)] [.int (-1)] i a q r (by rfl) ?_
    exact ft_ret mi_k151 (by rfl) (hP (-1) (oz731 knm1))
  by_cases w5 : x1.toInt = 104
  ·
    refine ko_eq (x1 := (1, [(0, .int x1)], [.int 104], (0, 0), ks i a q r)) (by rw [(kj_eq w5 (by decide) : x1 = 104)]) ?_
    refine ft_go mi_k151 2 101 [(0, .int x1)] [.int 2] i a q r (by rfl) ?_
    exact ft_ret mi_k151 (by rfl) (hP 2 (oz732 w5 kn2))
  by_cases w6 : x1.toInt = 105
  ·
    refine ko_eq (x1 := (1, [(0, .int x1)], [.int 105], (0, 0), ks i a q r)) (by rw [(kj_eq w6 (by decide) : x1 = 105)]) ?_
    refine ft_go mi_k151 2 109 [(0, .int x1)] [.int (-1)] i a q r (by rfl) ?_
    exact ft_ret mi_k151 (by rfl) (hP (-1) (oz731 knm1))
  by_cases w7 : x1.toInt = 106
  ·
    refine ko_eq (x1 := (1, [(0, .int x1)], [.int 106], (0, 0), ks i a q r)) (by rw [(kj_eq w7 (by decide) : x1 = 106)]) ?_
    refine ft_go mi_k151 2 109 [(0, .int x1)] [.int (-1)] i a q r (by rfl) ?_
    exact ft_ret mi_k151 (by rfl) (hP (-1) (oz731 knm1))
  by_cases w8 : x1.toInt = 107
  ·
    refine ko_eq (x1 := (1, [(0, .int x1)], [.int 107], (0, 0), ks i a q r)) (by rw [(kj_eq w8 (by decide) : x1 = 107)]) ?_
    refine ft_go mi_k151 2 109 [(0, .int x1)] [.int (-1)] i a q r (by rfl) ?_
    exact ft_ret mi_k151 (by rfl) (hP (-1) (oz731 knm1))
  by_cases w9 : x1.toInt = 108
  ·
    refine ko_eq (x1 := (1, [(0, .int x1)], [.int 108], (0, 0), ks i a q r)) (by rw [(kj_eq w9 (by decide) : x1 = 108)]) ?_
    refine ft_go mi_k151 2 109 [(0, .int x1)] [.int (-1)] i a q r (by rfl) ?_
    exact ft_ret mi_k151 (by rfl) (hP (-1) (oz731 knm1))
  by_cases w10 : x1.toInt = 109
  ·
    refine ko_eq (x1 := (1, [(0, .int x1)], [.int 109], (0, 0), ks i a q r)) (by rw [(kj_eq w10 (by decide) : x1 = 109)]) ?_
    refine ft_go mi_k151 2 109 [(0, .int x1)] [.int (-1)] i a q r (by rfl) ?_
    exact ft_ret mi_k151 (by rfl) (hP (-1) (oz731 knm1))
  by_cases w11 : x1.toInt = 110
  ·
    refine ko_eq (x1 := (1, [(0, .int x1)], [.int 110], (0, 0), ks i a q r)) (by rw [(kj_eq w11 (by decide) : x1 = 110)]) ?_
    refine ft_go mi_k151 2 103 [(0, .int x1)] [.int 3] i a q r (by rfl) ?_
    exact ft_ret mi_k151 (by rfl) (hP 3 (oz733 w11 kn3))
  by_cases w12 : x1.toInt = 111
  ·
    refine ko_eq (x1 := (1, [(0, .int x1)], [.int 111], (0, 0), ks i a q r)) (by rw [(kj_eq w12 (by decide) : x1 = 111)]) ?_
    refine ft_go mi_k151 2 105 [(0, .int x1)] [.int 4] i a q r (by rfl) ?_
    exact ft_ret mi_k151 (by rfl) (hP 4 (oz734 w12 kn4))
  by_cases w13 : x1.toInt = 112
  ·
    refine ko_eq (x1 := (1, [(0, .int x1)], [.int 112], (0, 0), ks i a q r)) (by rw [(kj_eq w13 (by decide) : x1 = 112)]) ?_
    refine ft_go mi_k151 2 99 [(0, .int x1)] [.int 1] i a q r (by rfl) ?_
    exact ft_ret mi_k151 (by rfl) (hP 1 (oz735 w13 kn1))
  by_cases w14 : x1.toInt = 113
  ·
    refine ko_eq (x1 := (1, [(0, .int x1)], [.int 113], (0, 0), ks i a q r)) (by rw [(kj_eq w14 (by decide) : x1 = 113)]) ?_
    refine ft_go mi_k151 2 109 [(0, .int x1)] [.int (-1)] i a q r (by rfl) ?_
    exact ft_ret mi_k151 (by rfl) (hP (-1) (oz731 knm1))
  by_cases w15 : x1.toInt = 114
  ·
    refine ko_eq (x1 := (1, [(0, .int x1)], [.int 114], (0, 0), ks i a q r)) (by rw [(kj_eq w15 (by decide) : x1 = 114)]) ?_
    refine ft_go mi_k151 2 109 [(0, .int x1)] [.int (-1)] i a q r (by rfl) ?_
    exact ft_ret mi_k151 (by rfl) (hP (-1) (oz731 knm1))
  by_cases w16 : x1.toInt = 115
  ·
    refine ko_eq (x1 := (1, [(0, .int x1)], [.int 115], (0, 0), ks i a q r)) (by rw [(kj_eq w16 (by decide) : x1 = 115)]) ?_
    refine ft_go mi_k151 2 109 [(0, .int x1)] [.int (-1)] i a q r (by rfl) ?_
    exact ft_ret mi_k151 (by rfl) (hP (-1) (oz731 knm1))
  by_cases w17 : x1.toInt = 116
  ·
    refine ko_eq (x1 := (1, [(0, .int x1)], [.int 116], (0, 0), ks i a q r)) (by rw [(kj_eq w17 (by decide) : x1 = 116)]) ?_
    refine ft_go mi_k151 2 109 [(0, .int x1)] [.int (-1)] i a q r (by rfl) ?_
    exact ft_ret mi_k151 (by rfl) (hP (-1) (oz731 knm1))
  by_cases w18 : x1.toInt = 117
  ·
    refine ko_eq (x1 := (1, [(0, .int x1)], [.int 117], (0, 0), ks i a q r)) (by rw [(kj_eq w18 (by decide) : x1 = 117)]) ?_
    refine ft_go mi_k151 2 109 [(0, .int x1)] [.int (-1)] i a q r (by rfl) ?_
    exact ft_ret mi_k151 (by rfl) (hP (-1) (oz731 knm1))
  by_cases w19 : x1.toInt = 118
  ·
    refine ko_eq (x1 := (1, [(0, .int x1)], [.int 118], (0, 0), ks i a q r)) (by rw [(kj_eq w19 (by decide) : x1 = 118)]) ?_
    refine ft_go mi_k151 2 109 [(0, .int x1)] [.int (-1)] i a q r (by rfl) ?_
    exact ft_ret mi_k151 (by rfl) (hP (-1) (oz731 knm1))
  by_cases w20 : x1.toInt = 119
  ·
    refine ko_eq (x1 := (1, [(0, .int x1)], [.int 119], (0, 0), ks i a q r)) (by rw [(kj_eq w20 (by decide) : x1 = 119)]) ?_
    refine ft_go mi_k151 2 97 [(0, .int x1)] [.int 0] i a q r (by rfl) ?_
    exact ft_ret mi_k151 (by rfl) (hP 0 (oz736 w20 kn0))
  refine ko_sw (ls := [(0, .int x1)]) (r := []) (h := ks i a q r) mi_in151 (v := x1) (i := (.tableswitch 107 100 119 #[105, 107, 107, 107, 99, 107, 107, 107, 107, 107, 101, 103, 97, 107, 107, 107, 107, 107, 107, 95], 95, 0, 0, 0, 0, 0)) (by rfl) rfl (oz737 w1 w2 w3 w4 w5 w6 w7 w8 w9 w10 w11 w12 w13 w14 w15 w16 w17 w18 w19 w20) 108 (by rfl) ?_
  refine ft_go mi_k151 1 109 [(0, .int x1)] [.int (-1)] i a q r (by rfl) ?_
  exact ft_ret mi_k151 (by rfl) (hP (-1) (oz731 knm1))
def w148_116 : kW := ([7437], [], [], [])
set_option maxRecDepth 100000 in
theorem kc148_116 {i : Nat → Int32} {a : Nat → List Int32} {q : Nat → List Int64} {r : Nat → Nat} (hI : kI i a q) (hr : kr r) (x1 : Int32) (hp0 : (0 : Int) ≤ x1.toInt) : km 3 148 [.ref 116, .int x1] (ks i a q r) (kVI w148_116 i a q r (fun v i1 a1 q1 r1 => (v = 1 ∧ (((i1 7437).toInt = ((i 7437).toInt + 1)) ∧ ((i1 7437).toInt ≤ (i1 7429).toInt))) ∨ (v = 0 ∧ ((i1 7437).toInt = (i 7437).toInt)))) := by
  have hG := kG_self w148_116 hI hr
  refine km_ofI (q := (mi_h148, mi_c148)) rfl (by decide) (Nat.le_of_ble_eq_true rfl) ?_
  intro P hP
  refine ft_go mi_k148 1 1 [(0, .ref 116), (1, .int x1)] [.ref 116] i a q r (by rfl) ?_
  refine ko_callPI mi_k148.1 (pc := 1) (ls := [(0, .ref 116), (1, .int x1)]) (st := [.ref 116]) (h := ks i a q r) (i := (.invokevirtual 166, 3, 147, 0, 9, 0, 404)) (mi_k148.2 _ _ (by rfl)) (ft_invS mi_pq147 (by rfl)) (cy := mi_c147) mi_pq147 rfl (kc147_116 hG.I hG.R ) (by decide) ?_
  intro vg1 hg1
  have fi_7429 : ((0 : Int) ≤ (i 7429).toInt) ∧ ((i 7429).toInt ≤ 120) := hG.I.1 7429
  have fi_7437 : ((0 : Int) ≤ (i 7437).toInt) ∧ ((i 7437).toInt ≤ 120) := hG.I.1 7437
  have z2 : ((vg1.toInt = (-1)) ∧ ((i 7429).toInt ≤ (i 7437).toInt)) ∨ (((i 7437).toInt < (i 7429).toInt) ∧ (vg1.toInt = ((a 119).getD (i 7437).toNatClampNeg 0).toInt)) := hg1
  refine ft_go mi_k148 1 5 [(0, .ref 116), (1, .int x1)] [.int x1, .int vg1] i a q r (by rfl) ?_
  refine ft_if mi_k148 (vg1 == x1) 10 8 [(0, .ref 116), (1, .int x1)] [] (by rfl) (fun c => ?_) (fun c => ?_)
  ·
    have c3 : vg1.toInt = x1.toInt := kd_eq c; clear c
    have s4 : ((i 7437) + 1).toInt = (i 7437).toInt + (1 : Int32).toInt := kd_add (oz12 fi_7437.1 kn1) (oz192 fi_7437.2 kn1)
    have hJ5 := kG_i hG 7437 rfl (v := ((i 7437) + 1)) ⟨(oz14 fi_7437.1 s4 kn1), (oz740 c3 fi_7429.2 hp0 s4 z2 kn1)⟩
    refine ft_go mi_k148 7 21 [(0, .ref 116), (1, .int x1)] [.int 1] (ku i 7437 ((i 7437) + 1)) a q r (by rfl) ?_
    exact ft_ret mi_k148 (by rfl) (hP 1 _ _ _ _ hJ5 (Or.inl ⟨rfl, (oz741 c3 hp0 s4 z2 kn1)⟩))
  ·
    have c6 : vg1.toInt ≠ x1.toInt := kd_eqF c; clear c
    refine ft_go mi_k148 1 9 [(0, .ref 116), (1, .int x1)] [.int 0] i a q r (by rfl) ?_
    exact ft_ret mi_k148 (by rfl) (hP 0 _ _ _ _ hG (Or.inr ⟨rfl, oz34⟩))
def w149_116 : kW := ([7439], [127], [], [])
set_option maxRecDepth 100000 in
theorem kc149_116 {i : Nat → Int32} {a : Nat → List Int32} {q : Nat → List Int64} {r : Nat → Nat} (hI : kI i a q) (hr : kr r) (x1 : Int32) (hp0 : ((0 : Int) ≤ (i 7439).toInt) ∧ ((i 7439).toInt ≤ 199)) : km 1 149 [.ref 116, .int x1] (ks i a q r) (kVI w149_116 i a q r (fun v i1 a1 q1 r1 => (v = 1 ∧ (((i1 7439).toInt = ((i 7439).toInt + 1)) ∧ a1 127 = (a 127).set (i 7439).toNatClampNeg x1)) ∨ (v = 0 ∧ ((2 : Int) ≤ 1)))) := by
  have hG := kG_self w149_116 hI hr
  refine km_ofI (q := (mi_h149, mi_c149)) rfl (by decide) (Nat.le_of_ble_eq_true rfl) ?_
  intro P hP
  have fi_7439 : ((0 : Int) ≤ (i 7439).toInt) ∧ ((i 7439).toInt ≤ 200) := hG.I.1 7439
  have s1 : ((i 7439) + 1).toInt = (i 7439).toInt + (1 : Int32).toInt := kd_add (oz12 fi_7439.1 kn1) (oz271 fi_7439.2 kn1)
  have hJ2 := kG_i hG 7439 rfl (v := ((i 7439) + 1)) ⟨(oz14 fi_7439.1 s1 kn1), (oz746 hp0.2 s1 kn1)⟩
  refine ft_go mi_k149 10 16 [(0, .ref 116), (1, .int x1)] [.int x1, .int (i 7439), .ref 127] (ku i 7439 ((i 7439) + 1)) a q r (by rfl) ?_
  refine ko_iast3 mi_k149.1 (n := 200) (c := 200) (ax := (0, 0, 0, 0, 0)) (mi_k149.2 _ _ (by rfl)) (by rfl) (ksG127 _ _ _ _) (ksA127 _ _ _ _) (hJ2.I.2.1 127) rfl (oz3 fi_7439.1) (oz747 hp0.2) ?_
  intro a3 ea3 fa3
  have hJ3 := kG_a3 hJ2 127 rfl ea3 fa3 (kd_bd _)
  refine ft_go mi_k149 1 18 [(0, .ref 116), (1, .int x1)] [.int 1] (ku i 7439 ((i 7439) + 1)) a3 q r (by rfl) ?_
  exact ft_ret mi_k149 (by rfl) (hP 1 _ _ _ _ hJ3 (Or.inl ⟨rfl, ⟨(oz748 s1 kn1), ea3⟩⟩))
def wR : kW := ([7437, 7438, 7439], [127], [], [])
def w152_116_L11 : kW := ([7437], [], [], [])
def kLR_152 (n : Nat) : Prop := ∀ (i : Nat → Int32) (a : Nat → List Int32) (q : Nat → List Int64) (r : Nat → Nat), kI i a q → kr r → ((i 7438).toInt + (n : Int)) = 6 → (i 7439).toInt ≤ (i 7437).toInt → (i 7437).toInt ≤ (i 7429).toInt → km (6 * n + 10) 152 [.ref 116] (ks i a q r) (kVI wR i a q r (fun v i1 a1 q1 r1 => (v = 1 ∧ ((((i1 7438).toInt = (i 7438).toInt) ∧ ((i 7437).toInt ≤ (i1 7437).toInt) ∧ ((i1 7437).toInt ≤ (i1 7429).toInt) ∧ (((i1 7439).toInt - (i1 7437).toInt) ≤ ((i 7439).toInt - (i 7437).toInt)) ∧ ((i 7439).toInt ≤ (i1 7439).toInt) ∧ (((i 7437).toInt + 1) ≤ (i1 7437).toInt)) ∧ kRun (a 127) (a1 127) (i 7439).toInt.toNat (i1 7439).toInt.toNat 1)) ∨ (v = 0 ∧ (((i1 7438).toInt = (i 7438).toInt) ∧ ((i 7437).toInt ≤ (i1 7437).toInt) ∧ ((i1 7437).toInt ≤ (i1 7429).toInt) ∧ (((i1 7439).toInt - (i1 7437).toInt) ≤ ((i 7439).toInt - (i 7437).toInt)) ∧ ((i 7439).toInt ≤ (i1 7439).toInt)))))
def w153_116_L9 : kW := ([7437, 7438, 7439], [127], [], [])
def kLR_153 (n : Nat) : Prop := ∀ (i : Nat → Int32) (a : Nat → List Int32) (q : Nat → List Int64) (r : Nat → Nat), kI i a q → kr r → ((i 7438).toInt + (n : Int)) = 6 → (i 7439).toInt ≤ (i 7437).toInt → (i 7437).toInt ≤ (i 7429).toInt → km (6 * n + 11) 153 [.ref 116] (ks i a q r) (kVI wR i a q r (fun v i1 a1 q1 r1 => (v = 1 ∧ ((((i1 7438).toInt = (i 7438).toInt) ∧ ((i 7437).toInt ≤ (i1 7437).toInt) ∧ ((i1 7437).toInt ≤ (i1 7429).toInt) ∧ (((i1 7439).toInt - (i1 7437).toInt) ≤ ((i 7439).toInt - (i 7437).toInt)) ∧ ((i 7439).toInt ≤ (i1 7439).toInt) ∧ (((i 7437).toInt + 1) ≤ (i1 7437).toInt)) ∧ kRun (a 127) (a1 127) (i 7439).toInt.toNat (i1 7439).toInt.toNat 1)) ∨ (v = 0 ∧ (((i1 7438).toInt = (i 7438).toInt) ∧ ((i 7437).toInt ≤ (i1 7437).toInt) ∧ ((i1 7437).toInt ≤ (i1 7429).toInt) ∧ (((i1 7439).toInt - (i1 7437).toInt) ≤ ((i 7439).toInt - (i 7437).toInt)) ∧ ((i 7439).toInt ≤ (i1 7439).toInt)))))
def w154_116_L9 : kW := ([7437, 7438, 7439], [127], [], [])
def kLR_154 (n : Nat) : Prop := ∀ (i : Nat → Int32) (a : Nat → List Int32) (q : Nat → List Int64) (r : Nat → Nat), kI i a q → kr r → ((i 7438).toInt + (n : Int)) = 6 → (i 7439).toInt ≤ (i 7437).toInt → (i 7437).toInt ≤ (i 7429).toInt → km (6 * n + 12) 154 [.ref 116] (ks i a q r) (kVI wR i a q r (fun v i1 a1 q1 r1 => (v = 1 ∧ ((((i1 7438).toInt = (i 7438).toInt) ∧ ((i 7437).toInt ≤ (i1 7437).toInt) ∧ ((i1 7437).toInt ≤ (i1 7429).toInt) ∧ (((i1 7439).toInt - (i1 7437).toInt) ≤ ((i 7439).toInt - (i 7437).toInt)) ∧ ((i 7439).toInt ≤ (i1 7439).toInt) ∧ (((i 7437).toInt + 1) ≤ (i1 7437).toInt)) ∧ kRun (a 127) (a1 127) (i 7439).toInt.toNat (i1 7439).toInt.toNat 1)) ∨ (v = 0 ∧ (((i1 7438).toInt = (i 7438).toInt) ∧ ((i 7437).toInt ≤ (i1 7437).toInt) ∧ ((i1 7437).toInt ≤ (i1 7429).toInt) ∧ (((i1 7439).toInt - (i1 7437).toInt) ≤ ((i 7439).toInt - (i 7437).toInt)) ∧ ((i 7439).toInt ≤ (i1 7439).toInt)))))
def kLR_155 (n : Nat) : Prop := ∀ (i : Nat → Int32) (a : Nat → List Int32) (q : Nat → List Int64) (r : Nat → Nat), kI i a q → kr r → ((i 7438).toInt + (n : Int)) = 6 → (i 7439).toInt ≤ (i 7437).toInt → (i 7437).toInt ≤ (i 7429).toInt → km (6 * n + 13) 155 [.ref 116] (ks i a q r) (kVI wR i a q r (fun v i1 a1 q1 r1 => (v = 1 ∧ ((((i1 7438).toInt = (i 7438).toInt) ∧ ((i 7437).toInt ≤ (i1 7437).toInt) ∧ ((i1 7437).toInt ≤ (i1 7429).toInt) ∧ (((i1 7439).toInt - (i1 7437).toInt) ≤ ((i 7439).toInt - (i 7437).toInt)) ∧ ((i 7439).toInt ≤ (i1 7439).toInt) ∧ (((i 7437).toInt + 1) ≤ (i1 7437).toInt)) ∧ kRun (a 127) (a1 127) (i 7439).toInt.toNat (i1 7439).toInt.toNat 1)) ∨ (v = 0 ∧ (((i1 7438).toInt = (i 7438).toInt) ∧ ((i 7437).toInt ≤ (i1 7437).toInt) ∧ ((i1 7437).toInt ≤ (i1 7429).toInt) ∧ (((i1 7439).toInt - (i1 7437).toInt) ≤ ((i 7439).toInt - (i 7437).toInt)) ∧ ((i 7439).toInt ≤ (i1 7439).toInt)))))
def w156_116_L9 : kW := ([7437, 7438, 7439], [127], [], [])
def kLR_156 (n : Nat) : Prop := ∀ (i : Nat → Int32) (a : Nat → List Int32) (q : Nat → List Int64) (r : Nat → Nat), kI i a q → kr r → ((i 7438).toInt + (n : Int)) = 6 → (i 7439).toInt ≤ (i 7437).toInt → (i 7437).toInt ≤ (i 7429).toInt → km (6 * n + 14) 156 [.ref 116] (ks i a q r) (kVI wR i a q r (fun v i1 a1 q1 r1 => (v = 1 ∧ ((((i1 7438).toInt = (i 7438).toInt) ∧ ((i 7437).toInt ≤ (i1 7437).toInt) ∧ ((i1 7437).toInt ≤ (i1 7429).toInt) ∧ (((i1 7439).toInt - (i1 7437).toInt) ≤ ((i 7439).toInt - (i 7437).toInt)) ∧ ((i 7439).toInt ≤ (i1 7439).toInt) ∧ (((i 7437).toInt + 1) ≤ (i1 7437).toInt)) ∧ kRun (a 127) (a1 127) (i 7439).toInt.toNat (i1 7439).toInt.toNat 1)) ∨ (v = 0 ∧ (((i1 7438).toInt = (i 7438).toInt) ∧ ((i 7437).toInt ≤ (i1 7437).toInt) ∧ ((i1 7437).toInt ≤ (i1 7429).toInt) ∧ (((i1 7439).toInt - (i1 7437).toInt) ≤ ((i 7439).toInt - (i 7437).toInt)) ∧ ((i 7439).toInt ≤ (i1 7439).toInt)))))
def w157_116_L9 : kW := ([7437, 7438, 7439], [127], [], [])
def kLR_157 (n : Nat) : Prop := ∀ (i : Nat → Int32) (a : Nat → List Int32) (q : Nat → List Int64) (r : Nat → Nat), kI i a q → kr r → ((i 7438).toInt + (n : Int)) = 6 → (i 7439).toInt ≤ (i 7437).toInt → (i 7437).toInt ≤ (i 7429).toInt → km (6 * n + 15) 157 [.ref 116] (ks i a q r) (kVI wR i a q r (fun v i1 a1 q1 r1 => (v = 1 ∧ ((((i1 7438).toInt = (i 7438).toInt) ∧ ((i 7437).toInt ≤ (i1 7437).toInt) ∧ ((i1 7437).toInt ≤ (i1 7429).toInt) ∧ (((i1 7439).toInt - (i1 7437).toInt) ≤ ((i 7439).toInt - (i 7437).toInt)) ∧ ((i 7439).toInt ≤ (i1 7439).toInt) ∧ (((i 7437).toInt + 1) ≤ (i1 7437).toInt)) ∧ kRun (a 127) (a1 127) (i 7439).toInt.toNat (i1 7439).toInt.toNat 1)) ∨ (v = 0 ∧ (((i1 7438).toInt = (i 7438).toInt) ∧ ((i 7437).toInt ≤ (i1 7437).toInt) ∧ ((i1 7437).toInt ≤ (i1 7429).toInt) ∧ (((i1 7439).toInt - (i1 7437).toInt) ≤ ((i 7439).toInt - (i 7437).toInt)) ∧ ((i 7439).toInt ≤ (i1 7439).toInt)))))
set_option maxRecDepth 100000 in
theorem kLsR_152 (n : Nat)  (ih : ∀ m, n = m + 1 → kLR_157 m ∧ kLR_152 m) : kLR_152 n := by
  intro i a q r hI hr hp0 hp1 hp2
  have hG := kG_self wR hI hr
  refine km_ofI (q := (mi_h152, mi_c152)) rfl (by decide) (Nat.le_of_ble_eq_true rfl) ?_
  intro P hP
  have fi_7439 : ((0 : Int) ≤ (i 7439).toInt) ∧ ((i 7439).toInt ≤ 200) := hG.I.1 7439
  have fi_7437 : ((0 : Int) ≤ (i 7437).toInt) ∧ ((i 7437).toInt ≤ 120) := hG.I.1 7437
  have fi_7429 : ((0 : Int) ≤ (i 7429).toInt) ∧ ((i 7429).toInt ≤ 120) := hG.I.1 7429
  have hn0 : (0 : Int) ≤ (n : Int) := Int.natCast_nonneg n
  have hR0 := kRun_start (a 127) ((i 7439).toInt.toNat)
  refine ft_go mi_k152 1 1 [(0, .ref 116)] [.ref 116] i a q r (by rfl) ?_
  refine ko_callPI mi_k152.1 (pc := 1) (ls := [(0, .ref 116)]) (st := [.ref 116]) (h := ks i a q r) (i := (.invokevirtual 173, 3, 150, 0, 9, 0, 403)) (mi_k152.2 _ _ (by rfl)) (ft_invS mi_pq150 (by rfl)) (cy := mi_c150) mi_pq150 rfl (kc150_116 hG.I hG.R ) (kj_d3 (n := n) (c := 3) (o1 := 10) (by decide)) ?_
  intro vg1 hg1
  rcases hg1 with ⟨eg1, hg1⟩ | ⟨eg1, hg1⟩
  ·
    subst eg1
    have z2 : ((i 7437).toInt < (i 7429).toInt) ∧ ((48 : Int) ≤ ((a 119).getD (i 7437).toNatClampNeg 0).toInt) ∧ (((a 119).getD (i 7437).toNatClampNeg 0).toInt ≤ 57) := hg1
    refine ft_go mi_k152 5 11 [(2, .int 0), (1, .int 0), (0, .ref 116)] [] i a q r (by rfl) ?_
    have lp3 : ∀ (nz : Nat) (i3 : Nat → Int32) (a3 : Nat → List Int32) (q3 : Nat → List Int64) (r3 : Nat → Nat) (l2_3 : Int32) (l1_3 : Int32), kG w152_116_L11 i a q r i3 a3 q3 r3 → ((l2_3.toInt = 0) ∧ (l1_3.toInt = 0)) ∨ ((l2_3.toInt = 1) ∧ ((0 : Int) ≤ l1_3.toInt) ∧ (l1_3.toInt ≤ 9)) ∨ ((l2_3.toInt = 2) ∧ ((0 : Int) ≤ l1_3.toInt) ∧ (l1_3.toInt ≤ 99)) ∨ ((l2_3.toInt = 3) ∧ ((0 : Int) ≤ l1_3.toInt) ∧ (l1_3.toInt ≤ 999)) ∨ ((l2_3.toInt = 4) ∧ ((0 : Int) ≤ l1_3.toInt) ∧ (l1_3.toInt ≤ 9999)) → (i3 7438).toInt = (i 7438).toInt → ((i 7437).toInt + l2_3.toInt) ≤ (i3 7437).toInt → (i3 7437).toInt ≤ (i3 7429).toInt → ((1 : Int) ≤ l2_3.toInt) ∨ ((i3 7437).toInt = (i 7437).toInt) → ((4 - l2_3.toInt)).toNat < nz → ko (6 * n + 10) (mi_h152, mi_c152) P (11, [(2, .int l2_3), (1, .int l1_3), (0, .ref 116)], [], (0, 0), ks i3 a3 q3 r3) := by
      intro nz
      induction nz with
      | zero =>
        intro _ _ _ _ _ _ _ _ _ _ _ _ hm
        exact absurd hm (Nat.not_lt_zero _)
      | succ nz ih3 =>
        intro i3 a3 q3 r3 l2_3 l1_3 hL3 p3_0 p3_1 p3_2 p3_3 p3_4 hm3
        have efi3_7438 : (i3 7438).toInt = (i 7438).toInt := hL3.ti 7438 rfl
        have fi3_7437 : ((0 : Int) ≤ (i3 7437).toInt) ∧ ((i3 7437).toInt ≤ 120) := hL3.I.1 7437
        have fi3_7429 : ((0 : Int) ≤ (i3 7429).toInt) ∧ ((i3 7429).toInt ≤ 120) := hL3.I.1 7429
        have efi3_7429 : (i3 7429).toInt = (i 7429).toInt := hL3.ti 7429 rfl
        have q4 : ((i3 7437).toInt = (i 7437).toInt → ((a3 119).getD (i3 7437).toNatClampNeg 0).toInt = ((a 119).getD (i 7437).toNatClampNeg 0).toInt) := fun h => by rw [Int32.toInt_inj.mp h, hL3.fa 119 rfl]
        refine ft_go mi_k152 2 13 [(2, .int l2_3), (1, .int l1_3), (0, .ref 116)] [.int 4, .int l2_3] i3 a3 q3 r3 (by rfl) ?_
        refine ft_if mi_k152 (decide (4 ≤ l2_3)) 57 16 [(2, .int l2_3), (1, .int l1_3), (0, .ref 116)] [] (by rfl) (fun c => ?_) (fun c => ?_)
        ·
          have c5 : (4 : Int32).toInt ≤ l2_3.toInt := kd_le c; clear c
          have hG6 := kG_call hG hL3 (by decide +kernel)
          have s7 : (18 + l1_3).toInt = (18 : Int32).toInt + l1_3.toInt := kd_add (oz790 c5 p3_0 kn4 kn18) (oz791 c5 p3_0 kn4 kn18)
          refine ft_go mi_k152 4 62 [(2, .int l2_3), (1, .int l1_3), (0, .ref 116)] [.int (18 + l1_3), .ref 116] i3 a3 q3 r3 (by rfl) ?_
          have fi3_7439 : ((0 : Int) ≤ (i3 7439).toInt) ∧ ((i3 7439).toInt ≤ 200) := hG6.I.1 7439
          have efi3_7439 : (i3 7439).toInt = (i 7439).toInt := hL3.ti 7439 rfl
          refine ko_callI mi_k152.1 (pc := 62) (ls := [(2, .int l2_3), (1, .int l1_3), (0, .ref 116)]) (st := [.int (18 + l1_3), .ref 116]) (h := ks i3 a3 q3 r3) (i := (.invokevirtual 177, 3, 149, 0, 9, 0, 405)) (mi_k152.2 _ _ (by rfl)) (ft_invS mi_pq149 (by rfl)) (cy := mi_c149) mi_pq149 rfl (kc149_116 hG6.I hG6.R (18 + l1_3) (oz792 efi3_7439 fi3_7439.1 fi_7437.2 hp1)) (kj_d3 (n := n) (c := 1) (o1 := 10) (by decide)) ?_
          intro vg8 ig8 ag8 qg8 rg8 kg8 hg8
          have hGg8 := kG_call hG6 kg8 (by decide +kernel)
          rcases hg8 with ⟨eg8, hg8⟩ | ⟨eg8, hg8⟩
          ·
            subst eg8
            obtain ⟨hg8, og8⟩ := hg8
            have fig8_7439 : ((0 : Int) ≤ (ig8 7439).toInt) ∧ ((ig8 7439).toInt ≤ 200) := hGg8.I.1 7439
            have z9 : (ig8 7439).toInt = ((i3 7439).toInt + 1) := hg8
            have hR10 := kRun_code (x := (i3 7439)) (d := (ig8 7439).toInt.toNat) (kRun_cast hR0 (hL3.fa 127 rfl) (congrArg Int.toNat (oz719 efi3_7439))) rfl (kj_len (n := 200) (c := 200) (hG6.I.2.1 127) rfl (oz750 fig8_7439.2 z9) (by decide)) og8 (kEff_push 0 (Or.inl (oz793 c5 p3_0 s7 kn4 kn18))) (kj_tn (oz751 z9) (oz3 fi3_7439.1))
            have efig8_7438 : (ig8 7438).toInt = (i3 7438).toInt := kg8.ti 7438 rfl
            have fig8_7437 : ((0 : Int) ≤ (ig8 7437).toInt) ∧ ((ig8 7437).toInt ≤ 120) := hGg8.I.1 7437
            have efig8_7437 : (ig8 7437).toInt = (i3 7437).toInt := kg8.ti 7437 rfl
            have fig8_7429 : ((0 : Int) ≤ (ig8 7429).toInt) ∧ ((ig8 7429).toInt ≤ 120) := hGg8.I.1 7429
            have efig8_7429 : (ig8 7429).toInt = (i3 7429).toInt := kg8.ti 7429 rfl
            exact ft_ret mi_k152 (by rfl) (hP 1 _ _ _ _ hGg8 (Or.inl ⟨rfl, ⟨(oz794 c5 efi3_7438 efi3_7439 efig8_7429 efig8_7437 efig8_7438 p3_2 p3_3 z9 kn4), (kRun_cast hR10 rfl (congrArg Int.toNat oz34))⟩⟩))
          ·
            subst eg8
            have z11 : (2 : Int) ≤ 1 := hg8
            exact (oz755 z11).elim
        ·
          have c12 : l2_3.toInt < (4 : Int32).toInt := kd_leF c; clear c
          refine ft_go mi_k152 1 17 [(2, .int l2_3), (1, .int l1_3), (0, .ref 116)] [.ref 116] i3 a3 q3 r3 (by rfl) ?_
          refine ko_callPI mi_k152.1 (pc := 17) (ls := [(2, .int l2_3), (1, .int l1_3), (0, .ref 116)]) (st := [.ref 116]) (h := ks i3 a3 q3 r3) (i := (.invokevirtual 173, 3, 150, 0, 9, 0, 403)) (mi_k152.2 _ _ (by rfl)) (ft_invS mi_pq150 (by rfl)) (cy := mi_c150) mi_pq150 rfl (kc150_116 hL3.I hL3.R ) (kj_d3 (n := n) (c := 3) (o1 := 10) (by decide)) ?_
          intro vg13 hg13
          rcases hg13 with ⟨eg13, hg13⟩ | ⟨eg13, hg13⟩
          ·
            subst eg13
            have z14 : ((i3 7437).toInt < (i3 7429).toInt) ∧ ((48 : Int) ≤ ((a3 119).getD (i3 7437).toNatClampNeg 0).toInt) ∧ (((a3 119).getD (i3 7437).toNatClampNeg 0).toInt ≤ 57) := hg13
            have s15 : (10 * l1_3).toInt = 10 * l1_3.toInt := kd_cmul 10 kn10 (oz795 c12 p3_0 kn4) (oz796 c12 p3_0 kn4)
            refine ft_go mi_k152 8 35 [(2, .int l2_3), (1, .int l1_3), (0, .ref 116)] [.int (i3 7437), .ref 119, .int (10 * l1_3)] i3 a3 q3 r3 (by rfl) ?_
            refine ko_iald3 mi_k152.1 (n := 120) (c := 120) (ax := (0, 0, 0, 0, 0)) (mi_k152.2 _ _ (by rfl)) (by rfl) (ksG119 _ _ _ _) (hL3.I.2.1 119) rfl (oz3 fi3_7437.1) (oz710 fi3_7429.2 z14.1) ?_
            have s16 : ((10 * l1_3) + ((a3 119).getD (i3 7437).toNatClampNeg 0)).toInt = (10 * l1_3).toInt + ((a3 119).getD (i3 7437).toNatClampNeg 0).toInt := kd_add (oz797 c12 p3_0 s15 z14.2.1 kn4) (oz798 c12 p3_0 s15 z14.2.2 kn4)
            have s17 : (((10 * l1_3) + ((a3 119).getD (i3 7437).toNatClampNeg 0)) - 48).toInt = ((10 * l1_3) + ((a3 119).getD (i3 7437).toNatClampNeg 0)).toInt - (48 : Int32).toInt := kd_sub (oz799 c12 p3_0 s15 s16 z14.2.1 kn4 kn48) (oz800 c12 p3_0 s15 s16 z14.2.2 kn4 kn48)
            have s18 : ((i3 7437) + 1).toInt = (i3 7437).toInt + (1 : Int32).toInt := kd_add (oz12 fi3_7437.1 kn1) (oz192 fi3_7437.2 kn1)
            have hJ19 := kG_i hL3 7437 rfl (v := ((i3 7437) + 1)) ⟨(oz14 fi3_7437.1 s18 kn1), (oz715 fi3_7429.2 s18 z14.1 kn1)⟩
            have s20 : (l2_3 + 1).toInt = l2_3.toInt + (1 : Int32).toInt := kd_add (oz716 p3_0 kn1) (oz717 c12 kn4 kn1)
            refine ft_go mi_k152 12 11 [(2, .int (l2_3 + 1)), (1, .int (((10 * l1_3) + ((a3 119).getD (i3 7437).toNatClampNeg 0)) - 48)), (0, .ref 116)] [] (ku i3 7437 ((i3 7437) + 1)) a3 q3 r3 (by rfl) ?_
            exact ih3 _ _ _ _ _ _ hJ19 (oz801 c12 p3_0 s15 s16 s17 s20 z14.2.1 z14.2.2 kn4 kn48 kn1) (oz719 efi3_7438) (oz720 p3_2 s18 s20 kn1) (oz721 s18 z14.1 kn1) (oz722 p3_0 s20 kn1) (kj_meas (oz723 s20 kn1) (oz724 c12 kn4) hm3)
          ·
            subst eg13
            have z21 : ¬ (((i3 7437).toInt < (i3 7429).toInt) ∧ ((48 : Int) ≤ ((a3 119).getD (i3 7437).toNatClampNeg 0).toInt) ∧ (((a3 119).getD (i3 7437).toNatClampNeg 0).toInt ≤ 57)) := hg13
            refine ft_go mi_k152 1 57 [(2, .int l2_3), (1, .int l1_3), (0, .ref 116)] [] i3 a3 q3 r3 (by rfl) ?_
            have hG22 := kG_call hG hL3 (by decide +kernel)
            have s23 : (18 + l1_3).toInt = (18 : Int32).toInt + l1_3.toInt := kd_add (oz802 c12 p3_0 kn4 kn18) (oz803 c12 p3_0 kn4 kn18)
            refine ft_go mi_k152 4 62 [(2, .int l2_3), (1, .int l1_3), (0, .ref 116)] [.int (18 + l1_3), .ref 116] i3 a3 q3 r3 (by rfl) ?_
            have fi3_7439 : ((0 : Int) ≤ (i3 7439).toInt) ∧ ((i3 7439).toInt ≤ 200) := hG22.I.1 7439
            have efi3_7439 : (i3 7439).toInt = (i 7439).toInt := hL3.ti 7439 rfl
            refine ko_callI mi_k152.1 (pc := 62) (ls := [(2, .int l2_3), (1, .int l1_3), (0, .ref 116)]) (st := [.int (18 + l1_3), .ref 116]) (h := ks i3 a3 q3 r3) (i := (.invokevirtual 177, 3, 149, 0, 9, 0, 405)) (mi_k152.2 _ _ (by rfl)) (ft_invS mi_pq149 (by rfl)) (cy := mi_c149) mi_pq149 rfl (kc149_116 hG22.I hG22.R (18 + l1_3) (oz792 efi3_7439 fi3_7439.1 fi_7437.2 hp1)) (kj_d3 (n := n) (c := 1) (o1 := 10) (by decide)) ?_
            intro vg24 ig24 ag24 qg24 rg24 kg24 hg24
            have hGg24 := kG_call hG22 kg24 (by decide +kernel)
            rcases hg24 with ⟨eg24, hg24⟩ | ⟨eg24, hg24⟩
            ·
              subst eg24
              obtain ⟨hg24, og24⟩ := hg24
              have fig24_7439 : ((0 : Int) ≤ (ig24 7439).toInt) ∧ ((ig24 7439).toInt ≤ 200) := hGg24.I.1 7439
              have z25 : (ig24 7439).toInt = ((i3 7439).toInt + 1) := hg24
              have hR26 := kRun_code (x := (i3 7439)) (d := (ig24 7439).toInt.toNat) (kRun_cast hR0 (hL3.fa 127 rfl) (congrArg Int.toNat (oz719 efi3_7439))) rfl (kj_len (n := 200) (c := 200) (hG22.I.2.1 127) rfl (oz750 fig24_7439.2 z25) (by decide)) og24 (kEff_push 0 (Or.inl (oz804 c12 p3_0 s23 kn4 kn18))) (kj_tn (oz751 z25) (oz3 fi3_7439.1))
              have efig24_7438 : (ig24 7438).toInt = (i3 7438).toInt := kg24.ti 7438 rfl
              have fig24_7437 : ((0 : Int) ≤ (ig24 7437).toInt) ∧ ((ig24 7437).toInt ≤ 120) := hGg24.I.1 7437
              have efig24_7437 : (ig24 7437).toInt = (i3 7437).toInt := kg24.ti 7437 rfl
              have fig24_7429 : ((0 : Int) ≤ (ig24 7429).toInt) ∧ ((ig24 7429).toInt ≤ 120) := hGg24.I.1 7429
              have efig24_7429 : (ig24 7429).toInt = (i3 7429).toInt := kg24.ti 7429 rfl
              exact ft_ret mi_k152 (by rfl) (hP 1 _ _ _ _ hGg24 (Or.inl ⟨rfl, ⟨(oz805 efi3_7429 efi3_7438 efi3_7439 efig24_7429 efig24_7437 efig24_7438 p3_2 p3_3 p3_4 q4 z2.1 z2.2.1 z2.2.2 z21 z25), (kRun_cast hR26 rfl (congrArg Int.toNat oz34))⟩⟩))
            ·
              subst eg24
              have z27 : (2 : Int) ≤ 1 := hg24
              exact (oz755 z27).elim
    exact lp3 _ _ _ _ _ _ _ (kG_self _ hG.I hG.R) (oz726 kn0) oz34 (oz727 kn0) (oz728 z2.1) (oz729 kn0) (Nat.lt_succ_self _)
  ·
    subst eg1
    have z28 : ¬ (((i 7437).toInt < (i 7429).toInt) ∧ ((48 : Int) ≤ ((a 119).getD (i 7437).toNatClampNeg 0).toInt) ∧ (((a 119).getD (i 7437).toNatClampNeg 0).toInt ≤ 57)) := hg1
    refine ft_go mi_k152 2 67 [(0, .ref 116)] [.ref 116] i a q r (by rfl) ?_
    refine ko_callPI mi_k152.1 (pc := 67) (ls := [(0, .ref 116)]) (st := [.ref 116]) (h := ks i a q r) (i := (.invokevirtual 166, 3, 147, 0, 9, 0, 404)) (mi_k152.2 _ _ (by rfl)) (ft_invS mi_pq147 (by rfl)) (cy := mi_c147) mi_pq147 rfl (kc147_116 hG.I hG.R ) (kj_d3 (n := n) (c := 1) (o1 := 10) (by decide)) ?_
    intro vg29 hg29
    have z30 : ((vg29.toInt = (-1)) ∧ ((i 7429).toInt ≤ (i 7437).toInt)) ∨ (((i 7437).toInt < (i 7429).toInt) ∧ (vg29.toInt = ((a 119).getD (i 7437).toNatClampNeg 0).toInt)) := hg29
    refine ko_callPI mi_k152.1 (pc := 70) (ls := [(0, .ref 116)]) (st := [.int vg29]) (h := ks i a q r) (i := (.invokestatic 180, 3, 151, 0, 9, 0, 406)) (mi_k152.2 _ _ (by rfl)) (ft_invS mi_pq151 (by rfl)) (cy := mi_c151) mi_pq151 rfl (kc151 hG.I hG.R vg29) (kj_d3 (n := n) (c := 1) (o1 := 10) (by decide)) ?_
    intro vg31 hg31
    have z32 : (((-1) : Int) ≤ vg31.toInt) ∧ (vg31.toInt ≤ 5) ∧ ((vg31.toInt = (-1)) ∨ ((100 : Int) ≤ vg29.toInt)) := hg31
    refine ft_go mi_k152 2 75 [(1, .int vg31), (0, .ref 116)] [.int vg31] i a q r (by rfl) ?_
    refine ft_if mi_k152 (decide (vg31 < 0)) 94 78 [(1, .int vg31), (0, .ref 116)] [] (by rfl) (fun c => ?_) (fun c => ?_)
    ·
      have c33 : vg31.toInt < (0 : Int32).toInt := kd_lt c; clear c
      refine ft_go mi_k152 3 100 [(1, .int vg31), (0, .ref 116)] [.int 6, .int (i 7438)] i a q r (by rfl) ?_
      refine ft_if mi_k152 ((i 7438) != 6) 105 103 [(1, .int vg31), (0, .ref 116)] [] (by rfl) (fun c => ?_) (fun c => ?_)
      ·
        have c34 : (i 7438).toInt ≠ (6 : Int32).toInt := kd_ne c; clear c
        have b35 : ((-2147483648 : Int) ≤ (i 7438).toInt) ∧ ((i 7438).toInt ≤ 2147483647) := kd_bd (i 7438)
        have s36 : ((i 7438) + 1).toInt = (i 7438).toInt + (1 : Int32).toInt := kd_add (oz738 b35.1 kn1) (oz739 hn0 hp0 kn1)
        have hJ37 := kG_i hG 7438 rfl (v := ((i 7438) + 1)) (kd_bd _)
        refine ft_go mi_k152 8 118 [(1, .int vg31), (0, .ref 116)] [.int 33, .ref 116] (ku i 7438 ((i 7438) + 1)) a q r (by rfl) ?_
        refine ko_callI mi_k152.1 (pc := 118) (ls := [(1, .int vg31), (0, .ref 116)]) (st := [.int 33, .ref 116]) (h := ks (ku i 7438 ((i 7438) + 1)) a q r) (i := (.invokevirtual 187, 3, 148, 0, 9, 0, 407)) (mi_k152.2 _ _ (by rfl)) (ft_invS mi_pq148 (by rfl)) (cy := mi_c148) mi_pq148 rfl (kc148_116 hJ37.I hJ37.R 33 (oz742 kn33)) (kj_d3 (n := n) (c := 3) (o1 := 10) (by decide)) ?_
        intro vg38 ig38 ag38 qg38 rg38 kg38 hg38
        have hGg38 := kG_call hJ37 kg38 (by decide +kernel)
        rcases hg38 with ⟨eg38, hg38⟩ | ⟨eg38, hg38⟩
        ·
          subst eg38
          have fig38_7437 : ((0 : Int) ≤ (ig38 7437).toInt) ∧ ((ig38 7437).toInt ≤ 120) := hGg38.I.1 7437
          have fig38_7429 : ((0 : Int) ≤ (ig38 7429).toInt) ∧ ((ig38 7429).toInt ≤ 120) := hGg38.I.1 7429
          have efig38_7429 : (ig38 7429).toInt = (i 7429).toInt := kg38.ti 7429 rfl
          have z39 : ((ig38 7437).toInt = ((i 7437).toInt + 1)) ∧ ((ig38 7437).toInt ≤ (ig38 7429).toInt) := hg38
          refine ft_go mi_k152 2 125 [(1, .int vg31), (0, .ref 116)] [.ref 116] ig38 ag38 qg38 rg38 (by rfl) ?_
          obtain ⟨m, hm, hmI⟩ := kj_pred (oz743 c34 hn0 hp0 kn6)
          have efig38_7438 : (ig38 7438).toInt = ((i 7438) + 1).toInt := kg38.ti 7438 rfl
          have fig38_7439 : ((0 : Int) ≤ (ig38 7439).toInt) ∧ ((ig38 7439).toInt ≤ 200) := hGg38.I.1 7439
          have efig38_7439 : (ig38 7439).toInt = (i 7439).toInt := kg38.ti 7439 rfl
          refine ko_callI mi_k152.1 (pc := 125) (ls := [(1, .int vg31), (0, .ref 116)]) (st := [.ref 116]) (h := ks ig38 ag38 qg38 rg38) (i := (.invokevirtual 190, 3, 152, 0, 9, 0, 402)) (mi_k152.2 _ _ (by rfl)) (ft_invS mi_pq152 (by rfl)) (cy := mi_c152) mi_pq152 rfl ((ih m hm).2 _ _ _ _ hGg38.I hGg38.R (oz744 efig38_7438 hmI hp0 s36 kn1) (oz745 efig38_7439 hp1 z39.1) (oz173 z39.2)) (kj_d2 (n := n) (m := m) (o := 10) (o1 := 10) hm (by decide)) ?_
          intro vg40 ig40 ag40 qg40 rg40 kg40 hg40
          have hGg40 := kG_call hGg38 kg40 (by decide +kernel)
          rcases hg40 with ⟨eg40, hg40⟩ | ⟨eg40, hg40⟩
          ·
            subst eg40
            obtain ⟨hg40, og40⟩ := hg40
            have fig40_7437 : ((0 : Int) ≤ (ig40 7437).toInt) ∧ ((ig40 7437).toInt ≤ 120) := hGg40.I.1 7437
            have fig40_7429 : ((0 : Int) ≤ (ig40 7429).toInt) ∧ ((ig40 7429).toInt ≤ 120) := hGg40.I.1 7429
            have efig40_7429 : (ig40 7429).toInt = (ig38 7429).toInt := kg40.ti 7429 rfl
            have fig40_7439 : ((0 : Int) ≤ (ig40 7439).toInt) ∧ ((ig40 7439).toInt ≤ 200) := hGg40.I.1 7439
            have z41 : ((ig40 7438).toInt = (ig38 7438).toInt) ∧ ((ig38 7437).toInt ≤ (ig40 7437).toInt) ∧ ((ig40 7437).toInt ≤ (ig40 7429).toInt) ∧ (((ig40 7439).toInt - (ig40 7437).toInt) ≤ ((ig38 7439).toInt - (ig38 7437).toInt)) ∧ ((ig38 7439).toInt ≤ (ig40 7439).toInt) ∧ (((ig38 7437).toInt + 1) ≤ (ig40 7437).toInt) := hg40
            have hR42 := kRun_sub (kRun_cast hR0 (kg38.fa 127 rfl) (congrArg Int.toNat (oz719 efig38_7439))) og40
            refine ft_go mi_k152 3 134 [(1, .int vg31), (0, .ref 116)] [.int 16, .ref 116] ig40 ag40 qg40 rg40 (by rfl) ?_
            refine ko_callI mi_k152.1 (pc := 134) (ls := [(1, .int vg31), (0, .ref 116)]) (st := [.int 16, .ref 116]) (h := ks ig40 ag40 qg40 rg40) (i := (.invokevirtual 177, 3, 149, 0, 9, 0, 405)) (mi_k152.2 _ _ (by rfl)) (ft_invS mi_pq149 (by rfl)) (cy := mi_c149) mi_pq149 rfl (kc149_116 hGg40.I hGg40.R 16 (oz806 efig38_7439 fig40_7437.2 fig40_7439.1 hp1 z39.1 z41.2.2.2.1)) (kj_d3 (n := n) (c := 1) (o1 := 10) (by decide)) ?_
            intro vg43 ig43 ag43 qg43 rg43 kg43 hg43
            have hGg43 := kG_call hGg40 kg43 (by decide +kernel)
            rcases hg43 with ⟨eg43, hg43⟩ | ⟨eg43, hg43⟩
            ·
              subst eg43
              obtain ⟨hg43, og43⟩ := hg43
              have fig43_7439 : ((0 : Int) ≤ (ig43 7439).toInt) ∧ ((ig43 7439).toInt ≤ 200) := hGg43.I.1 7439
              have z44 : (ig43 7439).toInt = ((ig40 7439).toInt + 1) := hg43
              have hR45 := kRun_code (x := (ig40 7439)) (d := (ig43 7439).toInt.toNat) (kRun_cast hR42 rfl (congrArg Int.toNat oz34)) rfl (kj_len (n := 200) (c := 200) (hGg40.I.2.1 127) rfl (oz750 fig43_7439.2 z44) (by decide)) og43 (kEff_un (Or.inl kn16) (by decide)) (kj_tn (oz751 z44) (oz3 fig40_7439.1))
              have efig43_7438 : (ig43 7438).toInt = (ig40 7438).toInt := kg43.ti 7438 rfl
              have s46 : ((ig43 7438) - 1).toInt = (ig43 7438).toInt - (1 : Int32).toInt := kd_sub (oz752 b35.1 efig38_7438 efig43_7438 s36 z41.1 kn1) (oz753 efig38_7438 efig43_7438 hn0 hp0 s36 z41.1 kn1)
              have hJ47 := kG_i hGg43 7438 rfl (v := ((ig43 7438) - 1)) (kd_bd _)
              refine ft_go mi_k152 12 225 [(2, .int 1), (1, .int vg31), (0, .ref 116)] [.int 1] (ku ig43 7438 ((ig43 7438) - 1)) ag43 qg43 rg43 (by rfl) ?_
              have fig43_7437 : ((0 : Int) ≤ (ig43 7437).toInt) ∧ ((ig43 7437).toInt ≤ 120) := hJ47.I.1 7437
              have efig43_7437 : (ig43 7437).toInt = (ig40 7437).toInt := kg43.ti 7437 rfl
              have fig43_7429 : ((0 : Int) ≤ (ig43 7429).toInt) ∧ ((ig43 7429).toInt ≤ 120) := hJ47.I.1 7429
              have efig43_7429 : (ig43 7429).toInt = (ig40 7429).toInt := kg43.ti 7429 rfl
              exact ft_ret mi_k152 (by rfl) (hP 1 _ _ _ _ hJ47 (Or.inl ⟨rfl, ⟨(oz807 efig38_7438 efig38_7439 efig43_7429 efig43_7437 efig43_7438 s36 s46 z39.1 z41.1 z41.2.2.1 z41.2.2.2.1 z41.2.2.2.2.1 z41.2.2.2.2.2 z44 kn1), (kRun_cast hR45 rfl (congrArg Int.toNat oz34))⟩⟩))
            ·
              subst eg43
              have z48 : (2 : Int) ≤ 1 := hg43
              exact (oz755 z48).elim
          ·
            subst eg40
            have fig40_7437 : ((0 : Int) ≤ (ig40 7437).toInt) ∧ ((ig40 7437).toInt ≤ 120) := hGg40.I.1 7437
            have fig40_7429 : ((0 : Int) ≤ (ig40 7429).toInt) ∧ ((ig40 7429).toInt ≤ 120) := hGg40.I.1 7429
            have efig40_7429 : (ig40 7429).toInt = (ig38 7429).toInt := kg40.ti 7429 rfl
            have fig40_7439 : ((0 : Int) ≤ (ig40 7439).toInt) ∧ ((ig40 7439).toInt ≤ 200) := hGg40.I.1 7439
            have z49 : ((ig40 7438).toInt = (ig38 7438).toInt) ∧ ((ig38 7437).toInt ≤ (ig40 7437).toInt) ∧ ((ig40 7437).toInt ≤ (ig40 7429).toInt) ∧ (((ig40 7439).toInt - (ig40 7437).toInt) ≤ ((ig38 7439).toInt - (ig38 7437).toInt)) ∧ ((ig38 7439).toInt ≤ (ig40 7439).toInt) := hg40
            have s50 : ((ig40 7438) - 1).toInt = (ig40 7438).toInt - (1 : Int32).toInt := kd_sub (oz756 b35.1 efig38_7438 s36 z49.1 kn1) (oz757 efig38_7438 hn0 hp0 s36 z49.1 kn1)
            have hJ51 := kG_i hGg40 7438 rfl (v := ((ig40 7438) - 1)) (kd_bd _)
            refine ft_go mi_k152 11 225 [(2, .int 0), (1, .int vg31), (0, .ref 116)] [.int 0] (ku ig40 7438 ((ig40 7438) - 1)) ag40 qg40 rg40 (by rfl) ?_
            exact ft_ret mi_k152 (by rfl) (hP 0 _ _ _ _ hJ51 (Or.inr ⟨rfl, (oz758 efig38_7438 efig38_7439 s36 s50 z39.1 z49.1 z49.2.1 z49.2.2.1 z49.2.2.2.1 z49.2.2.2.2 kn1)⟩))
        ·
          subst eg38
          have fig38_7437 : ((0 : Int) ≤ (ig38 7437).toInt) ∧ ((ig38 7437).toInt ≤ 120) := hGg38.I.1 7437
          have z52 : (ig38 7437).toInt = (i 7437).toInt := hg38
          refine ft_go mi_k152 3 152 [(1, .int vg31), (0, .ref 116)] [.int 45, .ref 116] ig38 ag38 qg38 rg38 (by rfl) ?_
          refine ko_callI mi_k152.1 (pc := 152) (ls := [(1, .int vg31), (0, .ref 116)]) (st := [.int 45, .ref 116]) (h := ks ig38 ag38 qg38 rg38) (i := (.invokevirtual 187, 3, 148, 0, 9, 0, 407)) (mi_k152.2 _ _ (by rfl)) (ft_invS mi_pq148 (by rfl)) (cy := mi_c148) mi_pq148 rfl (kc148_116 hGg38.I hGg38.R 45 (oz759 kn45)) (kj_d3 (n := n) (c := 3) (o1 := 10) (by decide)) ?_
          intro vg53 ig53 ag53 qg53 rg53 kg53 hg53
          have hGg53 := kG_call hGg38 kg53 (by decide +kernel)
          rcases hg53 with ⟨eg53, hg53⟩ | ⟨eg53, hg53⟩
          ·
            subst eg53
            have fig53_7437 : ((0 : Int) ≤ (ig53 7437).toInt) ∧ ((ig53 7437).toInt ≤ 120) := hGg53.I.1 7437
            have fig53_7429 : ((0 : Int) ≤ (ig53 7429).toInt) ∧ ((ig53 7429).toInt ≤ 120) := hGg53.I.1 7429
            have fig38_7429 : ((0 : Int) ≤ (ig38 7429).toInt) ∧ ((ig38 7429).toInt ≤ 120) := hGg38.I.1 7429
            have efig38_7429 : (ig38 7429).toInt = (i 7429).toInt := kg38.ti 7429 rfl
            have efig53_7429 : (ig53 7429).toInt = (ig38 7429).toInt := kg53.ti 7429 rfl
            have z54 : ((ig53 7437).toInt = ((ig38 7437).toInt + 1)) ∧ ((ig53 7437).toInt ≤ (ig53 7429).toInt) := hg53
            refine ft_go mi_k152 2 159 [(1, .int vg31), (0, .ref 116)] [.ref 116] ig53 ag53 qg53 rg53 (by rfl) ?_
            obtain ⟨m, hm, hmI⟩ := kj_pred (oz743 c34 hn0 hp0 kn6)
            have efig38_7438 : (ig38 7438).toInt = ((i 7438) + 1).toInt := kg38.ti 7438 rfl
            have efig53_7438 : (ig53 7438).toInt = (ig38 7438).toInt := kg53.ti 7438 rfl
            have fig53_7439 : ((0 : Int) ≤ (ig53 7439).toInt) ∧ ((ig53 7439).toInt ≤ 200) := hGg53.I.1 7439
            have fig38_7439 : ((0 : Int) ≤ (ig38 7439).toInt) ∧ ((ig38 7439).toInt ≤ 200) := hGg38.I.1 7439
            have efig38_7439 : (ig38 7439).toInt = (i 7439).toInt := kg38.ti 7439 rfl
            have efig53_7439 : (ig53 7439).toInt = (ig38 7439).toInt := kg53.ti 7439 rfl
            refine ko_callI mi_k152.1 (pc := 159) (ls := [(1, .int vg31), (0, .ref 116)]) (st := [.ref 116]) (h := ks ig53 ag53 qg53 rg53) (i := (.invokevirtual 190, 3, 152, 0, 9, 0, 402)) (mi_k152.2 _ _ (by rfl)) (ft_invS mi_pq152 (by rfl)) (cy := mi_c152) mi_pq152 rfl ((ih m hm).2 _ _ _ _ hGg53.I hGg53.R (oz760 efig38_7438 efig53_7438 hmI hp0 s36 kn1) (oz761 efig38_7439 efig53_7439 hp1 z52 z54.1) (oz173 z54.2)) (kj_d2 (n := n) (m := m) (o := 10) (o1 := 10) hm (by decide)) ?_
            intro vg55 ig55 ag55 qg55 rg55 kg55 hg55
            have hGg55 := kG_call hGg53 kg55 (by decide +kernel)
            rcases hg55 with ⟨eg55, hg55⟩ | ⟨eg55, hg55⟩
            ·
              subst eg55
              obtain ⟨hg55, og55⟩ := hg55
              have fig55_7437 : ((0 : Int) ≤ (ig55 7437).toInt) ∧ ((ig55 7437).toInt ≤ 120) := hGg55.I.1 7437
              have fig55_7429 : ((0 : Int) ≤ (ig55 7429).toInt) ∧ ((ig55 7429).toInt ≤ 120) := hGg55.I.1 7429
              have efig55_7429 : (ig55 7429).toInt = (ig53 7429).toInt := kg55.ti 7429 rfl
              have fig55_7439 : ((0 : Int) ≤ (ig55 7439).toInt) ∧ ((ig55 7439).toInt ≤ 200) := hGg55.I.1 7439
              have z56 : ((ig55 7438).toInt = (ig53 7438).toInt) ∧ ((ig53 7437).toInt ≤ (ig55 7437).toInt) ∧ ((ig55 7437).toInt ≤ (ig55 7429).toInt) ∧ (((ig55 7439).toInt - (ig55 7437).toInt) ≤ ((ig53 7439).toInt - (ig53 7437).toInt)) ∧ ((ig53 7439).toInt ≤ (ig55 7439).toInt) ∧ (((ig53 7437).toInt + 1) ≤ (ig55 7437).toInt) := hg55
              have hR57 := kRun_sub (kRun_cast hR0 ((kg53.fa 127 rfl).trans (kg38.fa 127 rfl)) (congrArg Int.toNat (oz762 efig38_7439 efig53_7439))) og55
              refine ft_go mi_k152 3 168 [(1, .int vg31), (0, .ref 116)] [.int 17, .ref 116] ig55 ag55 qg55 rg55 (by rfl) ?_
              refine ko_callI mi_k152.1 (pc := 168) (ls := [(1, .int vg31), (0, .ref 116)]) (st := [.int 17, .ref 116]) (h := ks ig55 ag55 qg55 rg55) (i := (.invokevirtual 177, 3, 149, 0, 9, 0, 405)) (mi_k152.2 _ _ (by rfl)) (ft_invS mi_pq149 (by rfl)) (cy := mi_c149) mi_pq149 rfl (kc149_116 hGg55.I hGg55.R 17 (oz763 efig38_7439 efig53_7439 fig55_7437.2 fig55_7439.1 hp1 z52 z54.1 z56.2.2.2.1)) (kj_d3 (n := n) (c := 1) (o1 := 10) (by decide)) ?_
              intro vg58 ig58 ag58 qg58 rg58 kg58 hg58
              have hGg58 := kG_call hGg55 kg58 (by decide +kernel)
              rcases hg58 with ⟨eg58, hg58⟩ | ⟨eg58, hg58⟩
              ·
                subst eg58
                obtain ⟨hg58, og58⟩ := hg58
                have fig58_7439 : ((0 : Int) ≤ (ig58 7439).toInt) ∧ ((ig58 7439).toInt ≤ 200) := hGg58.I.1 7439
                have z59 : (ig58 7439).toInt = ((ig55 7439).toInt + 1) := hg58
                have hR60 := kRun_code (x := (ig55 7439)) (d := (ig58 7439).toInt.toNat) (kRun_cast hR57 rfl (congrArg Int.toNat oz34)) rfl (kj_len (n := 200) (c := 200) (hGg55.I.2.1 127) rfl (oz750 fig58_7439.2 z59) (by decide)) og58 (kEff_un (Or.inr kn17) (by decide)) (kj_tn (oz751 z59) (oz3 fig55_7439.1))
                have efig58_7438 : (ig58 7438).toInt = (ig55 7438).toInt := kg58.ti 7438 rfl
                have s61 : ((ig58 7438) - 1).toInt = (ig58 7438).toInt - (1 : Int32).toInt := kd_sub (oz764 b35.1 efig38_7438 efig53_7438 efig58_7438 s36 z56.1 kn1) (oz765 efig38_7438 efig53_7438 efig58_7438 hn0 hp0 s36 z56.1 kn1)
                have hJ62 := kG_i hGg58 7438 rfl (v := ((ig58 7438) - 1)) (kd_bd _)
                refine ft_go mi_k152 12 225 [(2, .int 1), (1, .int vg31), (0, .ref 116)] [.int 1] (ku ig58 7438 ((ig58 7438) - 1)) ag58 qg58 rg58 (by rfl) ?_
                have fig58_7437 : ((0 : Int) ≤ (ig58 7437).toInt) ∧ ((ig58 7437).toInt ≤ 120) := hJ62.I.1 7437
                have efig58_7437 : (ig58 7437).toInt = (ig55 7437).toInt := kg58.ti 7437 rfl
                have fig58_7429 : ((0 : Int) ≤ (ig58 7429).toInt) ∧ ((ig58 7429).toInt ≤ 120) := hJ62.I.1 7429
                have efig58_7429 : (ig58 7429).toInt = (ig55 7429).toInt := kg58.ti 7429 rfl
                exact ft_ret mi_k152 (by rfl) (hP 1 _ _ _ _ hJ62 (Or.inl ⟨rfl, ⟨(oz766 efig38_7438 efig38_7439 efig53_7438 efig53_7439 efig58_7429 efig58_7437 efig58_7438 s36 s61 z52 z54.1 z56.1 z56.2.2.1 z56.2.2.2.1 z56.2.2.2.2.1 z56.2.2.2.2.2 z59 kn1), (kRun_cast hR60 rfl (congrArg Int.toNat oz34))⟩⟩))
              ·
                subst eg58
                have z63 : (2 : Int) ≤ 1 := hg58
                exact (oz755 z63).elim
            ·
              subst eg55
              have fig55_7437 : ((0 : Int) ≤ (ig55 7437).toInt) ∧ ((ig55 7437).toInt ≤ 120) := hGg55.I.1 7437
              have fig55_7429 : ((0 : Int) ≤ (ig55 7429).toInt) ∧ ((ig55 7429).toInt ≤ 120) := hGg55.I.1 7429
              have efig55_7429 : (ig55 7429).toInt = (ig53 7429).toInt := kg55.ti 7429 rfl
              have fig55_7439 : ((0 : Int) ≤ (ig55 7439).toInt) ∧ ((ig55 7439).toInt ≤ 200) := hGg55.I.1 7439
              have z64 : ((ig55 7438).toInt = (ig53 7438).toInt) ∧ ((ig53 7437).toInt ≤ (ig55 7437).toInt) ∧ ((ig55 7437).toInt ≤ (ig55 7429).toInt) ∧ (((ig55 7439).toInt - (ig55 7437).toInt) ≤ ((ig53 7439).toInt - (ig53 7437).toInt)) ∧ ((ig53 7439).toInt ≤ (ig55 7439).toInt) := hg55
              have s65 : ((ig55 7438) - 1).toInt = (ig55 7438).toInt - (1 : Int32).toInt := kd_sub (oz767 b35.1 efig38_7438 efig53_7438 s36 z64.1 kn1) (oz768 efig38_7438 efig53_7438 hn0 hp0 s36 z64.1 kn1)
              have hJ66 := kG_i hGg55 7438 rfl (v := ((ig55 7438) - 1)) (kd_bd _)
              refine ft_go mi_k152 11 225 [(2, .int 0), (1, .int vg31), (0, .ref 116)] [.int 0] (ku ig55 7438 ((ig55 7438) - 1)) ag55 qg55 rg55 (by rfl) ?_
              exact ft_ret mi_k152 (by rfl) (hP 0 _ _ _ _ hJ66 (Or.inr ⟨rfl, (oz769 efig38_7438 efig38_7439 efig53_7438 efig53_7439 s36 s65 z52 z54.1 z64.1 z64.2.1 z64.2.2.1 z64.2.2.2.1 z64.2.2.2.2 kn1)⟩))
          ·
            subst eg53
            have fig53_7437 : ((0 : Int) ≤ (ig53 7437).toInt) ∧ ((ig53 7437).toInt ≤ 120) := hGg53.I.1 7437
            have z67 : (ig53 7437).toInt = (ig38 7437).toInt := hg53
            refine ft_go mi_k152 3 186 [(1, .int vg31), (0, .ref 116)] [.int 40, .ref 116] ig53 ag53 qg53 rg53 (by rfl) ?_
            refine ko_callI mi_k152.1 (pc := 186) (ls := [(1, .int vg31), (0, .ref 116)]) (st := [.int 40, .ref 116]) (h := ks ig53 ag53 qg53 rg53) (i := (.invokevirtual 187, 3, 148, 0, 9, 0, 407)) (mi_k152.2 _ _ (by rfl)) (ft_invS mi_pq148 (by rfl)) (cy := mi_c148) mi_pq148 rfl (kc148_116 hGg53.I hGg53.R 40 (oz770 kn40)) (kj_d3 (n := n) (c := 3) (o1 := 10) (by decide)) ?_
            intro vg68 ig68 ag68 qg68 rg68 kg68 hg68
            have hGg68 := kG_call hGg53 kg68 (by decide +kernel)
            rcases hg68 with ⟨eg68, hg68⟩ | ⟨eg68, hg68⟩
            ·
              subst eg68
              have fig68_7437 : ((0 : Int) ≤ (ig68 7437).toInt) ∧ ((ig68 7437).toInt ≤ 120) := hGg68.I.1 7437
              have fig68_7429 : ((0 : Int) ≤ (ig68 7429).toInt) ∧ ((ig68 7429).toInt ≤ 120) := hGg68.I.1 7429
              have fig53_7429 : ((0 : Int) ≤ (ig53 7429).toInt) ∧ ((ig53 7429).toInt ≤ 120) := hGg53.I.1 7429
              have fig38_7429 : ((0 : Int) ≤ (ig38 7429).toInt) ∧ ((ig38 7429).toInt ≤ 120) := hGg38.I.1 7429
              have efig38_7429 : (ig38 7429).toInt = (i 7429).toInt := kg38.ti 7429 rfl
              have efig53_7429 : (ig53 7429).toInt = (ig38 7429).toInt := kg53.ti 7429 rfl
              have efig68_7429 : (ig68 7429).toInt = (ig53 7429).toInt := kg68.ti 7429 rfl
              have z69 : ((ig68 7437).toInt = ((ig53 7437).toInt + 1)) ∧ ((ig68 7437).toInt ≤ (ig68 7429).toInt) := hg68
              refine ft_go mi_k152 2 193 [(1, .int vg31), (0, .ref 116)] [.ref 116] ig68 ag68 qg68 rg68 (by rfl) ?_
              obtain ⟨m, hm, hmI⟩ := kj_pred (oz743 c34 hn0 hp0 kn6)
              have efig38_7438 : (ig38 7438).toInt = ((i 7438) + 1).toInt := kg38.ti 7438 rfl
              have efig53_7438 : (ig53 7438).toInt = (ig38 7438).toInt := kg53.ti 7438 rfl
              have efig68_7438 : (ig68 7438).toInt = (ig53 7438).toInt := kg68.ti 7438 rfl
              have fig68_7439 : ((0 : Int) ≤ (ig68 7439).toInt) ∧ ((ig68 7439).toInt ≤ 200) := hGg68.I.1 7439
              have fig53_7439 : ((0 : Int) ≤ (ig53 7439).toInt) ∧ ((ig53 7439).toInt ≤ 200) := hGg53.I.1 7439
              have fig38_7439 : ((0 : Int) ≤ (ig38 7439).toInt) ∧ ((ig38 7439).toInt ≤ 200) := hGg38.I.1 7439
              have efig38_7439 : (ig38 7439).toInt = (i 7439).toInt := kg38.ti 7439 rfl
              have efig53_7439 : (ig53 7439).toInt = (ig38 7439).toInt := kg53.ti 7439 rfl
              have efig68_7439 : (ig68 7439).toInt = (ig53 7439).toInt := kg68.ti 7439 rfl
              refine ko_callI mi_k152.1 (pc := 193) (ls := [(1, .int vg31), (0, .ref 116)]) (st := [.ref 116]) (h := ks ig68 ag68 qg68 rg68) (i := (.invokevirtual 193, 3, 157, 0, 9, 0, 397)) (mi_k152.2 _ _ (by rfl)) (ft_invS mi_pq157 (by rfl)) (cy := mi_c157) mi_pq157 rfl ((ih m hm).1 _ _ _ _ hGg68.I hGg68.R (oz771 efig38_7438 efig53_7438 efig68_7438 hmI hp0 s36 kn1) (oz772 efig38_7439 efig53_7439 efig68_7439 hp1 z52 z67 z69.1) (oz173 z69.2)) (kj_d2 (n := n) (m := m) (o := 15) (o1 := 10) hm (by decide)) ?_
              intro vg70 ig70 ag70 qg70 rg70 kg70 hg70
              have hGg70 := kG_call hGg68 kg70 (by decide +kernel)
              rcases hg70 with ⟨eg70, hg70⟩ | ⟨eg70, hg70⟩
              ·
                subst eg70
                obtain ⟨hg70, og70⟩ := hg70
                have fig70_7437 : ((0 : Int) ≤ (ig70 7437).toInt) ∧ ((ig70 7437).toInt ≤ 120) := hGg70.I.1 7437
                have fig70_7429 : ((0 : Int) ≤ (ig70 7429).toInt) ∧ ((ig70 7429).toInt ≤ 120) := hGg70.I.1 7429
                have efig70_7429 : (ig70 7429).toInt = (ig68 7429).toInt := kg70.ti 7429 rfl
                have fig70_7439 : ((0 : Int) ≤ (ig70 7439).toInt) ∧ ((ig70 7439).toInt ≤ 200) := hGg70.I.1 7439
                have z71 : ((ig70 7438).toInt = (ig68 7438).toInt) ∧ ((ig68 7437).toInt ≤ (ig70 7437).toInt) ∧ ((ig70 7437).toInt ≤ (ig70 7429).toInt) ∧ (((ig70 7439).toInt - (ig70 7437).toInt) ≤ ((ig68 7439).toInt - (ig68 7437).toInt)) ∧ ((ig68 7439).toInt ≤ (ig70 7439).toInt) ∧ (((ig68 7437).toInt + 1) ≤ (ig70 7437).toInt) := hg70
                have hR72 := kRun_sub (kRun_cast hR0 (((kg68.fa 127 rfl).trans (kg53.fa 127 rfl)).trans (kg38.fa 127 rfl)) (congrArg Int.toNat (oz773 efig38_7439 efig53_7439 efig68_7439))) og70
                refine ft_go mi_k152 3 202 [(1, .int vg31), (0, .ref 116)] [.int 41, .ref 116] ig70 ag70 qg70 rg70 (by rfl) ?_
                refine ko_callI mi_k152.1 (pc := 202) (ls := [(1, .int vg31), (0, .ref 116)]) (st := [.int 41, .ref 116]) (h := ks ig70 ag70 qg70 rg70) (i := (.invokevirtual 187, 3, 148, 0, 9, 0, 407)) (mi_k152.2 _ _ (by rfl)) (ft_invS mi_pq148 (by rfl)) (cy := mi_c148) mi_pq148 rfl (kc148_116 hGg70.I hGg70.R 41 (oz774 kn41)) (kj_d3 (n := n) (c := 3) (o1 := 10) (by decide)) ?_
                intro vg73 ig73 ag73 qg73 rg73 kg73 hg73
                have hGg73 := kG_call hGg70 kg73 (by decide +kernel)
                rcases hg73 with ⟨eg73, hg73⟩ | ⟨eg73, hg73⟩
                ·
                  subst eg73
                  have fig73_7437 : ((0 : Int) ≤ (ig73 7437).toInt) ∧ ((ig73 7437).toInt ≤ 120) := hGg73.I.1 7437
                  have fig73_7429 : ((0 : Int) ≤ (ig73 7429).toInt) ∧ ((ig73 7429).toInt ≤ 120) := hGg73.I.1 7429
                  have efig73_7429 : (ig73 7429).toInt = (ig70 7429).toInt := kg73.ti 7429 rfl
                  have z74 : ((ig73 7437).toInt = ((ig70 7437).toInt + 1)) ∧ ((ig73 7437).toInt ≤ (ig73 7429).toInt) := hg73
                  have efig73_7438 : (ig73 7438).toInt = (ig70 7438).toInt := kg73.ti 7438 rfl
                  have s75 : ((ig73 7438) - 1).toInt = (ig73 7438).toInt - (1 : Int32).toInt := kd_sub (oz775 b35.1 efig38_7438 efig53_7438 efig68_7438 efig73_7438 s36 z71.1 kn1) (oz776 efig38_7438 efig53_7438 efig68_7438 efig73_7438 hn0 hp0 s36 z71.1 kn1)
                  have hJ76 := kG_i hGg73 7438 rfl (v := ((ig73 7438) - 1)) (kd_bd _)
                  refine ft_go mi_k152 11 225 [(2, .int 1), (1, .int vg31), (0, .ref 116)] [.int 1] (ku ig73 7438 ((ig73 7438) - 1)) ag73 qg73 rg73 (by rfl) ?_
                  have fig73_7439 : ((0 : Int) ≤ (ig73 7439).toInt) ∧ ((ig73 7439).toInt ≤ 200) := hJ76.I.1 7439
                  have efig73_7439 : (ig73 7439).toInt = (ig70 7439).toInt := kg73.ti 7439 rfl
                  exact ft_ret mi_k152 (by rfl) (hP 1 _ _ _ _ hJ76 (Or.inl ⟨rfl, ⟨(oz777 efig38_7438 efig38_7439 efig53_7438 efig53_7439 efig68_7438 efig68_7439 efig73_7438 efig73_7439 s36 s75 z52 z67 z69.1 z71.1 z71.2.2.2.1 z71.2.2.2.2.1 z71.2.2.2.2.2 z74.1 z74.2 kn1), (kRun_cast hR72 (kg73.fa 127 rfl) (congrArg Int.toNat (oz719 efig73_7439)))⟩⟩))
                ·
                  subst eg73
                  have fig73_7437 : ((0 : Int) ≤ (ig73 7437).toInt) ∧ ((ig73 7437).toInt ≤ 120) := hGg73.I.1 7437
                  have z77 : (ig73 7437).toInt = (ig70 7437).toInt := hg73
                  have efig73_7438 : (ig73 7438).toInt = (ig70 7438).toInt := kg73.ti 7438 rfl
                  have s78 : ((ig73 7438) - 1).toInt = (ig73 7438).toInt - (1 : Int32).toInt := kd_sub (oz775 b35.1 efig38_7438 efig53_7438 efig68_7438 efig73_7438 s36 z71.1 kn1) (oz776 efig38_7438 efig53_7438 efig68_7438 efig73_7438 hn0 hp0 s36 z71.1 kn1)
                  have hJ79 := kG_i hGg73 7438 rfl (v := ((ig73 7438) - 1)) (kd_bd _)
                  refine ft_go mi_k152 10 225 [(2, .int 0), (1, .int vg31), (0, .ref 116)] [.int 0] (ku ig73 7438 ((ig73 7438) - 1)) ag73 qg73 rg73 (by rfl) ?_
                  have fig73_7429 : ((0 : Int) ≤ (ig73 7429).toInt) ∧ ((ig73 7429).toInt ≤ 120) := hJ79.I.1 7429
                  have efig73_7429 : (ig73 7429).toInt = (ig70 7429).toInt := kg73.ti 7429 rfl
                  have fig73_7439 : ((0 : Int) ≤ (ig73 7439).toInt) ∧ ((ig73 7439).toInt ≤ 200) := hJ79.I.1 7439
                  have efig73_7439 : (ig73 7439).toInt = (ig70 7439).toInt := kg73.ti 7439 rfl
                  exact ft_ret mi_k152 (by rfl) (hP 0 _ _ _ _ hJ79 (Or.inr ⟨rfl, (oz778 efig38_7438 efig38_7439 efig53_7438 efig53_7439 efig68_7438 efig68_7439 efig73_7429 efig73_7438 efig73_7439 s36 s78 z52 z67 z69.1 z71.1 z71.2.2.1 z71.2.2.2.1 z71.2.2.2.2.1 z71.2.2.2.2.2 z77 kn1)⟩))
              ·
                subst eg70
                have fig70_7437 : ((0 : Int) ≤ (ig70 7437).toInt) ∧ ((ig70 7437).toInt ≤ 120) := hGg70.I.1 7437
                have fig70_7429 : ((0 : Int) ≤ (ig70 7429).toInt) ∧ ((ig70 7429).toInt ≤ 120) := hGg70.I.1 7429
                have efig70_7429 : (ig70 7429).toInt = (ig68 7429).toInt := kg70.ti 7429 rfl
                have fig70_7439 : ((0 : Int) ≤ (ig70 7439).toInt) ∧ ((ig70 7439).toInt ≤ 200) := hGg70.I.1 7439
                have z80 : ((ig70 7438).toInt = (ig68 7438).toInt) ∧ ((ig68 7437).toInt ≤ (ig70 7437).toInt) ∧ ((ig70 7437).toInt ≤ (ig70 7429).toInt) ∧ (((ig70 7439).toInt - (ig70 7437).toInt) ≤ ((ig68 7439).toInt - (ig68 7437).toInt)) ∧ ((ig68 7439).toInt ≤ (ig70 7439).toInt) := hg70
                have s81 : ((ig70 7438) - 1).toInt = (ig70 7438).toInt - (1 : Int32).toInt := kd_sub (oz779 b35.1 efig38_7438 efig53_7438 efig68_7438 s36 z80.1 kn1) (oz780 efig38_7438 efig53_7438 efig68_7438 hn0 hp0 s36 z80.1 kn1)
                have hJ82 := kG_i hGg70 7438 rfl (v := ((ig70 7438) - 1)) (kd_bd _)
                refine ft_go mi_k152 10 225 [(2, .int 0), (1, .int vg31), (0, .ref 116)] [.int 0] (ku ig70 7438 ((ig70 7438) - 1)) ag70 qg70 rg70 (by rfl) ?_
                exact ft_ret mi_k152 (by rfl) (hP 0 _ _ _ _ hJ82 (Or.inr ⟨rfl, (oz781 efig38_7438 efig38_7439 efig53_7438 efig53_7439 efig68_7438 efig68_7439 s36 s81 z52 z67 z69.1 z80.1 z80.2.1 z80.2.2.1 z80.2.2.2.1 z80.2.2.2.2 kn1)⟩))
            ·
              subst eg68
              have fig68_7437 : ((0 : Int) ≤ (ig68 7437).toInt) ∧ ((ig68 7437).toInt ≤ 120) := hGg68.I.1 7437
              have z83 : (ig68 7437).toInt = (ig53 7437).toInt := hg68
              have efig38_7438 : (ig38 7438).toInt = ((i 7438) + 1).toInt := kg38.ti 7438 rfl
              have efig53_7438 : (ig53 7438).toInt = (ig38 7438).toInt := kg53.ti 7438 rfl
              have efig68_7438 : (ig68 7438).toInt = (ig53 7438).toInt := kg68.ti 7438 rfl
              have s84 : ((ig68 7438) - 1).toInt = (ig68 7438).toInt - (1 : Int32).toInt := kd_sub (oz782 b35.1 efig38_7438 efig53_7438 efig68_7438 s36 kn1) (oz783 efig38_7438 efig53_7438 efig68_7438 hn0 hp0 s36 kn1)
              have hJ85 := kG_i hGg68 7438 rfl (v := ((ig68 7438) - 1)) (kd_bd _)
              refine ft_go mi_k152 10 225 [(2, .int 0), (1, .int vg31), (0, .ref 116)] [.int 0] (ku ig68 7438 ((ig68 7438) - 1)) ag68 qg68 rg68 (by rfl) ?_
              have fig68_7429 : ((0 : Int) ≤ (ig68 7429).toInt) ∧ ((ig68 7429).toInt ≤ 120) := hJ85.I.1 7429
              have fig53_7429 : ((0 : Int) ≤ (ig53 7429).toInt) ∧ ((ig53 7429).toInt ≤ 120) := hGg53.I.1 7429
              have fig38_7429 : ((0 : Int) ≤ (ig38 7429).toInt) ∧ ((ig38 7429).toInt ≤ 120) := hGg38.I.1 7429
              have efig38_7429 : (ig38 7429).toInt = (i 7429).toInt := kg38.ti 7429 rfl
              have efig53_7429 : (ig53 7429).toInt = (ig38 7429).toInt := kg53.ti 7429 rfl
              have efig68_7429 : (ig68 7429).toInt = (ig53 7429).toInt := kg68.ti 7429 rfl
              have fig68_7439 : ((0 : Int) ≤ (ig68 7439).toInt) ∧ ((ig68 7439).toInt ≤ 200) := hJ85.I.1 7439
              have fig53_7439 : ((0 : Int) ≤ (ig53 7439).toInt) ∧ ((ig53 7439).toInt ≤ 200) := hGg53.I.1 7439
              have fig38_7439 : ((0 : Int) ≤ (ig38 7439).toInt) ∧ ((ig38 7439).toInt ≤ 200) := hGg38.I.1 7439
              have efig38_7439 : (ig38 7439).toInt = (i 7439).toInt := kg38.ti 7439 rfl
              have efig53_7439 : (ig53 7439).toInt = (ig38 7439).toInt := kg53.ti 7439 rfl
              have efig68_7439 : (ig68 7439).toInt = (ig53 7439).toInt := kg68.ti 7439 rfl
              exact ft_ret mi_k152 (by rfl) (hP 0 _ _ _ _ hJ85 (Or.inr ⟨rfl, (oz784 efig38_7429 efig38_7438 efig38_7439 efig53_7429 efig53_7438 efig53_7439 efig68_7429 efig68_7438 efig68_7439 hp2 s36 s84 z52 z67 z83 kn1)⟩))
      ·
        have c86 : (i 7438).toInt = (6 : Int32).toInt := kd_neF c; clear c
        refine ft_go mi_k152 1 104 [(1, .int vg31), (0, .ref 116)] [.int 0] i a q r (by rfl) ?_
        exact ft_ret mi_k152 (by rfl) (hP 0 _ _ _ _ hG (Or.inr ⟨rfl, (oz785 hp2)⟩))
    ·
      have c87 : (0 : Int32).toInt ≤ vg31.toInt := kd_ltF c; clear c
      have s88 : ((i 7437) + 1).toInt = (i 7437).toInt + (1 : Int32).toInt := kd_add (oz12 fi_7437.1 kn1) (oz192 fi_7437.2 kn1)
      have hJ89 := kG_i hG 7437 rfl (v := ((i 7437) + 1)) ⟨(oz14 fi_7437.1 s88 kn1), (oz786 c87 fi_7429.2 s88 z30 z32.2.2 kn0 kn1)⟩
      refine ft_go mi_k152 8 90 [(1, .int vg31), (0, .ref 116)] [.int vg31, .ref 116] (ku i 7437 ((i 7437) + 1)) a q r (by rfl) ?_
      refine ko_callI mi_k152.1 (pc := 90) (ls := [(1, .int vg31), (0, .ref 116)]) (st := [.int vg31, .ref 116]) (h := ks (ku i 7437 ((i 7437) + 1)) a q r) (i := (.invokevirtual 177, 3, 149, 0, 9, 0, 405)) (mi_k152.2 _ _ (by rfl)) (ft_invS mi_pq149 (by rfl)) (cy := mi_c149) mi_pq149 rfl (kc149_116 hJ89.I hJ89.R vg31 (oz787 fi_7437.2 fi_7439.1 hp1)) (kj_d3 (n := n) (c := 1) (o1 := 10) (by decide)) ?_
      intro vg90 ig90 ag90 qg90 rg90 kg90 hg90
      have hGg90 := kG_call hJ89 kg90 (by decide +kernel)
      rcases hg90 with ⟨eg90, hg90⟩ | ⟨eg90, hg90⟩
      ·
        subst eg90
        obtain ⟨hg90, og90⟩ := hg90
        have fig90_7439 : ((0 : Int) ≤ (ig90 7439).toInt) ∧ ((ig90 7439).toInt ≤ 200) := hGg90.I.1 7439
        have z91 : (ig90 7439).toInt = ((i 7439).toInt + 1) := hg90
        have hR92 := kRun_code (x := (i 7439)) (d := (ig90 7439).toInt.toNat) (kRun_cast hR0 rfl (congrArg Int.toNat oz34)) rfl (kj_len (n := 200) (c := 200) (hJ89.I.2.1 127) rfl (oz788 fi_7437.2 hp1) (by decide)) og90 (kEff_push 0 (Or.inr ⟨(oz389 c87 kn0), (oz527 z32.2.1)⟩)) (kj_tn (oz751 z91) (oz3 fi_7439.1))
        have efig90_7438 : (ig90 7438).toInt = (i 7438).toInt := kg90.ti 7438 rfl
        have fig90_7437 : ((0 : Int) ≤ (ig90 7437).toInt) ∧ ((ig90 7437).toInt ≤ 120) := hGg90.I.1 7437
        have efig90_7437 : (ig90 7437).toInt = ((i 7437) + 1).toInt := kg90.ti 7437 rfl
        have fig90_7429 : ((0 : Int) ≤ (ig90 7429).toInt) ∧ ((ig90 7429).toInt ≤ 120) := hGg90.I.1 7429
        have efig90_7429 : (ig90 7429).toInt = (i 7429).toInt := kg90.ti 7429 rfl
        exact ft_ret mi_k152 (by rfl) (hP 1 _ _ _ _ hGg90 (Or.inl ⟨rfl, ⟨(oz789 c87 efig90_7429 efig90_7437 efig90_7438 s88 z30 z32.2.2 z91 kn0 kn1), (kRun_cast hR92 rfl (congrArg Int.toNat oz34))⟩⟩))
      ·
        subst eg90
        have z93 : (2 : Int) ≤ 1 := hg90
        exact (oz755 z93).elim
set_option maxRecDepth 100000 in
theorem kLsR_153 (n : Nat) (h152 : kLR_152 n) : kLR_153 n := by
  intro i a q r hI hr hp0 hp1 hp2
  have hG := kG_self wR hI hr
  refine km_ofI (q := (mi_h153, mi_c153)) rfl (by decide) (Nat.le_of_ble_eq_true rfl) ?_
  intro P hP
  have fi_7439 : ((0 : Int) ≤ (i 7439).toInt) ∧ ((i 7439).toInt ≤ 200) := hG.I.1 7439
  have fi_7437 : ((0 : Int) ≤ (i 7437).toInt) ∧ ((i 7437).toInt ≤ 120) := hG.I.1 7437
  have fi_7429 : ((0 : Int) ≤ (i 7429).toInt) ∧ ((i 7429).toInt ≤ 120) := hG.I.1 7429
  have hn0 : (0 : Int) ≤ (n : Int) := Int.natCast_nonneg n
  have hR0 := kRun_start (a 127) ((i 7439).toInt.toNat)
  refine ft_go mi_k153 1 1 [(0, .ref 116)] [.ref 116] i a q r (by rfl) ?_
  refine ko_callI mi_k153.1 (pc := 1) (ls := [(0, .ref 116)]) (st := [.ref 116]) (h := ks i a q r) (i := (.invokevirtual 190, 3, 152, 0, 9, 0, 402)) (mi_k153.2 _ _ (by rfl)) (ft_invS mi_pq152 (by rfl)) (cy := mi_c152) mi_pq152 rfl (h152 _ _ _ _ hG.I hG.R (oz808 hp0) (oz173 hp1) (oz173 hp2)) (kj_d1 (n := n) (o := 10) (o1 := 11) (by decide)) ?_
  intro vg1 ig1 ag1 qg1 rg1 kg1 hg1
  have hGg1 := kG_call hG kg1 (by decide +kernel)
  rcases hg1 with ⟨eg1, hg1⟩ | ⟨eg1, hg1⟩
  ·
    subst eg1
    obtain ⟨hg1, og1⟩ := hg1
    have fig1_7437 : ((0 : Int) ≤ (ig1 7437).toInt) ∧ ((ig1 7437).toInt ≤ 120) := hGg1.I.1 7437
    have fig1_7429 : ((0 : Int) ≤ (ig1 7429).toInt) ∧ ((ig1 7429).toInt ≤ 120) := hGg1.I.1 7429
    have efig1_7429 : (ig1 7429).toInt = (i 7429).toInt := kg1.ti 7429 rfl
    have fig1_7439 : ((0 : Int) ≤ (ig1 7439).toInt) ∧ ((ig1 7439).toInt ≤ 200) := hGg1.I.1 7439
    have z2 : ((ig1 7438).toInt = (i 7438).toInt) ∧ ((i 7437).toInt ≤ (ig1 7437).toInt) ∧ ((ig1 7437).toInt ≤ (ig1 7429).toInt) ∧ (((ig1 7439).toInt - (ig1 7437).toInt) ≤ ((i 7439).toInt - (i 7437).toInt)) ∧ ((i 7439).toInt ≤ (ig1 7439).toInt) ∧ (((i 7437).toInt + 1) ≤ (ig1 7437).toInt) := hg1
    have hR3 := kRun_sub (kRun_cast hR0 rfl (congrArg Int.toNat oz34)) og1
    refine ft_go mi_k153 1 9 [(0, .ref 116)] [] ig1 ag1 qg1 rg1 (by rfl) ?_
    have lp4 : ∀ (nz : Nat) (i4 : Nat → Int32) (a4 : Nat → List Int32) (q4 : Nat → List Int64) (r4 : Nat → Nat), kG w153_116_L9 ig1 ag1 qg1 rg1 i4 a4 q4 r4 → (i4 7438).toInt = (i 7438).toInt → (i 7437).toInt ≤ (i4 7437).toInt → (i4 7437).toInt ≤ (i4 7429).toInt → ((i4 7439).toInt - (i4 7437).toInt) ≤ ((i 7439).toInt - (i 7437).toInt) → (i 7439).toInt ≤ (i4 7439).toInt → ((i 7437).toInt + 1) ≤ (i4 7437).toInt → kRun (a 127) (a4 127) (i 7439).toInt.toNat (i4 7439).toInt.toNat 1 → (((i4 7429).toInt - (i4 7437).toInt)).toNat < nz → ko (6 * n + 11) (mi_h153, mi_c153) P (9, [(0, .ref 116)], [], (0, 0), ks i4 a4 q4 r4) := by
      intro nz
      induction nz with
      | zero =>
        intro _ _ _ _ _ _ _ _ _ _ _ _ hm
        exact absurd hm (Nat.not_lt_zero _)
      | succ nz ih4 =>
        intro i4 a4 q4 r4 hL4 p4_0 p4_1 p4_2 p4_3 p4_4 p4_5 O4_0 hm4
        have fi4_7437 : ((0 : Int) ≤ (i4 7437).toInt) ∧ ((i4 7437).toInt ≤ 120) := hL4.I.1 7437
        have fi4_7429 : ((0 : Int) ≤ (i4 7429).toInt) ∧ ((i4 7429).toInt ≤ 120) := hL4.I.1 7429
        have efi4_7429 : (i4 7429).toInt = (ig1 7429).toInt := hL4.ti 7429 rfl
        have fi4_7439 : ((0 : Int) ≤ (i4 7439).toInt) ∧ ((i4 7439).toInt ≤ 200) := hL4.I.1 7439
        refine ft_go mi_k153 1 10 [(0, .ref 116)] [.ref 116] i4 a4 q4 r4 (by rfl) ?_
        refine ko_callPI mi_k153.1 (pc := 10) (ls := [(0, .ref 116)]) (st := [.ref 116]) (h := ks i4 a4 q4 r4) (i := (.invokevirtual 166, 3, 147, 0, 9, 0, 404)) (mi_k153.2 _ _ (by rfl)) (ft_invS mi_pq147 (by rfl)) (cy := mi_c147) mi_pq147 rfl (kc147_116 hL4.I hL4.R ) (kj_d3 (n := n) (c := 1) (o1 := 11) (by decide)) ?_
        intro vg5 hg5
        have z6 : ((vg5.toInt = (-1)) ∧ ((i4 7429).toInt ≤ (i4 7437).toInt)) ∨ (((i4 7437).toInt < (i4 7429).toInt) ∧ (vg5.toInt = ((a4 119).getD (i4 7437).toNatClampNeg 0).toInt)) := hg5
        refine ft_go mi_k153 1 15 [(0, .ref 116)] [.int 42, .int vg5] i4 a4 q4 r4 (by rfl) ?_
        refine ft_if mi_k153 (vg5 != 42) 23 18 [(0, .ref 116)] [] (by rfl) (fun c => ?_) (fun c => ?_)
        ·
          have c7 : vg5.toInt ≠ (42 : Int32).toInt := kd_ne c; clear c
          refine ft_go mi_k153 1 24 [(0, .ref 116)] [.ref 116] i4 a4 q4 r4 (by rfl) ?_
          refine ko_callPI mi_k153.1 (pc := 24) (ls := [(0, .ref 116)]) (st := [.ref 116]) (h := ks i4 a4 q4 r4) (i := (.invokevirtual 166, 3, 147, 0, 9, 0, 404)) (mi_k153.2 _ _ (by rfl)) (ft_invS mi_pq147 (by rfl)) (cy := mi_c147) mi_pq147 rfl (kc147_116 hL4.I hL4.R ) (kj_d3 (n := n) (c := 1) (o1 := 11) (by decide)) ?_
          intro vg8 hg8
          have z9 : ((vg8.toInt = (-1)) ∧ ((i4 7429).toInt ≤ (i4 7437).toInt)) ∨ (((i4 7437).toInt < (i4 7429).toInt) ∧ (vg8.toInt = ((a4 119).getD (i4 7437).toNatClampNeg 0).toInt)) := hg8
          refine ft_go mi_k153 1 29 [(0, .ref 116)] [.int 47, .int vg8] i4 a4 q4 r4 (by rfl) ?_
          refine ft_if mi_k153 (vg8 != 47) 37 32 [(0, .ref 116)] [] (by rfl) (fun c => ?_) (fun c => ?_)
          ·
            have c10 : vg8.toInt ≠ (47 : Int32).toInt := kd_ne c; clear c
            refine ft_go mi_k153 1 38 [(0, .ref 116)] [.ref 116] i4 a4 q4 r4 (by rfl) ?_
            refine ko_callPI mi_k153.1 (pc := 38) (ls := [(0, .ref 116)]) (st := [.ref 116]) (h := ks i4 a4 q4 r4) (i := (.invokevirtual 166, 3, 147, 0, 9, 0, 404)) (mi_k153.2 _ _ (by rfl)) (ft_invS mi_pq147 (by rfl)) (cy := mi_c147) mi_pq147 rfl (kc147_116 hL4.I hL4.R ) (kj_d3 (n := n) (c := 1) (o1 := 11) (by decide)) ?_
            intro vg11 hg11
            have z12 : ((vg11.toInt = (-1)) ∧ ((i4 7429).toInt ≤ (i4 7437).toInt)) ∨ (((i4 7437).toInt < (i4 7429).toInt) ∧ (vg11.toInt = ((a4 119).getD (i4 7437).toNatClampNeg 0).toInt)) := hg11
            refine ft_go mi_k153 1 43 [(0, .ref 116)] [.int 37, .int vg11] i4 a4 q4 r4 (by rfl) ?_
            refine ft_if mi_k153 (vg11 != 37) 51 46 [(0, .ref 116)] [] (by rfl) (fun c => ?_) (fun c => ?_)
            ·
              have c13 : vg11.toInt ≠ (37 : Int32).toInt := kd_ne c; clear c
              refine ft_go mi_k153 4 57 [(1, .int (-1)), (0, .ref 116)] [] i4 a4 q4 r4 (by rfl) ?_
              have hG14 := kG_call hGg1 hL4 (by decide +kernel)
              refine ft_go mi_k153 1 58 [(1, .int (-1)), (0, .ref 116)] [.int 1] i4 a4 q4 r4 (by rfl) ?_
              exact ft_ret mi_k153 (by rfl) (hP 1 _ _ _ _ hG14 (Or.inl ⟨rfl, ⟨(oz843 p4_0 p4_2 p4_3 p4_4 p4_5), (kRun_cast O4_0 rfl (congrArg Int.toNat oz34))⟩⟩))
            ·
              have c15 : vg11.toInt = (37 : Int32).toInt := kd_neF c; clear c
              have s16 : ((i4 7437) + 1).toInt = (i4 7437).toInt + (1 : Int32).toInt := kd_add (oz12 fi4_7437.1 kn1) (oz192 fi4_7437.2 kn1)
              have hJ17 := kG_i hL4 7437 rfl (v := ((i4 7437) + 1)) ⟨(oz14 fi4_7437.1 s16 kn1), (oz810 c15 fi4_7429.2 s16 z12 kn37 kn1)⟩
              refine ft_go mi_k153 12 70 [(1, .int 15), (0, .ref 116)] [.ref 116] (ku i4 7437 ((i4 7437) + 1)) a4 q4 r4 (by rfl) ?_
              refine ko_callI mi_k153.1 (pc := 70) (ls := [(1, .int 15), (0, .ref 116)]) (st := [.ref 116]) (h := ks (ku i4 7437 ((i4 7437) + 1)) a4 q4 r4) (i := (.invokevirtual 190, 3, 152, 0, 9, 0, 402)) (mi_k153.2 _ _ (by rfl)) (ft_invS mi_pq152 (by rfl)) (cy := mi_c152) mi_pq152 rfl (h152 _ _ _ _ hJ17.I hJ17.R (oz844 hp0 p4_0) (oz812 hp1 p4_3 s16 kn1) (oz813 c15 s16 z12 kn37 kn1)) (kj_d1 (n := n) (o := 10) (o1 := 11) (by decide)) ?_
              intro vg18 ig18 ag18 qg18 rg18 kg18 hg18
              have hGg18 := kG_call hJ17 kg18 (by decide +kernel)
              rcases hg18 with ⟨eg18, hg18⟩ | ⟨eg18, hg18⟩
              ·
                subst eg18
                obtain ⟨hg18, og18⟩ := hg18
                have fig18_7437 : ((0 : Int) ≤ (ig18 7437).toInt) ∧ ((ig18 7437).toInt ≤ 120) := hGg18.I.1 7437
                have fig18_7429 : ((0 : Int) ≤ (ig18 7429).toInt) ∧ ((ig18 7429).toInt ≤ 120) := hGg18.I.1 7429
                have efig18_7429 : (ig18 7429).toInt = (i4 7429).toInt := kg18.ti 7429 rfl
                have fig18_7439 : ((0 : Int) ≤ (ig18 7439).toInt) ∧ ((ig18 7439).toInt ≤ 200) := hGg18.I.1 7439
                have z19 : ((ig18 7438).toInt = (i4 7438).toInt) ∧ (((i4 7437) + 1).toInt ≤ (ig18 7437).toInt) ∧ ((ig18 7437).toInt ≤ (ig18 7429).toInt) ∧ (((ig18 7439).toInt - (ig18 7437).toInt) ≤ ((i4 7439).toInt - ((i4 7437) + 1).toInt)) ∧ ((i4 7439).toInt ≤ (ig18 7439).toInt) ∧ ((((i4 7437) + 1).toInt + 1) ≤ (ig18 7437).toInt) := hg18
                have hR20 := kRun_sub (kRun_cast O4_0 rfl (congrArg Int.toNat oz34)) og18
                refine ft_go mi_k153 3 80 [(1, .int 15), (0, .ref 116)] [.int 15, .ref 116] ig18 ag18 qg18 rg18 (by rfl) ?_
                refine ko_callI mi_k153.1 (pc := 80) (ls := [(1, .int 15), (0, .ref 116)]) (st := [.int 15, .ref 116]) (h := ks ig18 ag18 qg18 rg18) (i := (.invokevirtual 177, 3, 149, 0, 9, 0, 405)) (mi_k153.2 _ _ (by rfl)) (ft_invS mi_pq149 (by rfl)) (cy := mi_c149) mi_pq149 rfl (kc149_116 hGg18.I hGg18.R 15 (oz814 fig18_7437.2 fig18_7439.1 hp1 p4_3 s16 z19.2.2.2.1 kn1)) (kj_d3 (n := n) (c := 1) (o1 := 11) (by decide)) ?_
                intro vg21 ig21 ag21 qg21 rg21 kg21 hg21
                have hGg21 := kG_call hGg18 kg21 (by decide +kernel)
                rcases hg21 with ⟨eg21, hg21⟩ | ⟨eg21, hg21⟩
                ·
                  subst eg21
                  obtain ⟨hg21, og21⟩ := hg21
                  have fig21_7439 : ((0 : Int) ≤ (ig21 7439).toInt) ∧ ((ig21 7439).toInt ≤ 200) := hGg21.I.1 7439
                  have z22 : (ig21 7439).toInt = ((ig18 7439).toInt + 1) := hg21
                  have hR23 := kRun_code (x := (ig18 7439)) (d := (ig21 7439).toInt.toNat) (kRun_cast hR20 rfl (congrArg Int.toNat oz34)) rfl (kj_len (n := 200) (c := 200) (hGg18.I.2.1 127) rfl (oz750 fig21_7439.2 z22) (by decide)) og21 (kEff_bin (oz815 kn15) (oz816 kn15) (by decide)) (kj_tn (oz751 z22) (oz3 fig18_7439.1))
                  refine ft_go mi_k153 2 9 [(1, .int 15), (0, .ref 116)] [] ig21 ag21 qg21 rg21 (by rfl) ?_
                  refine ko_perm [(0, .ref 116)] (List.forall_mem_cons.mpr ⟨(List.Mem.tail _ (List.Mem.head _)), (fun _ h => absurd h List.not_mem_nil)⟩) ?_
                  have efig21_7438 : (ig21 7438).toInt = (ig18 7438).toInt := kg21.ti 7438 rfl
                  have fig21_7437 : ((0 : Int) ≤ (ig21 7437).toInt) ∧ ((ig21 7437).toInt ≤ 120) := hGg21.I.1 7437
                  have efig21_7437 : (ig21 7437).toInt = (ig18 7437).toInt := kg21.ti 7437 rfl
                  have fig21_7429 : ((0 : Int) ≤ (ig21 7429).toInt) ∧ ((ig21 7429).toInt ≤ 120) := hGg21.I.1 7429
                  have efig21_7429 : (ig21 7429).toInt = (ig18 7429).toInt := kg21.ti 7429 rfl
                  exact ih4 _ _ _ _ hGg21 (oz845 efig21_7438 p4_0 z19.1) (oz846 efig21_7437 p4_5 s16 z19.2.2.2.2.2 kn1) (oz819 efig21_7429 efig21_7437 z19.2.2.1) (oz847 efig21_7437 p4_3 s16 z19.2.2.2.1 z22 kn1) (oz848 p4_4 z19.2.2.2.2.1 z22) (oz849 efig21_7437 p4_5 s16 z19.2.2.2.2.2 kn1) (kRun_cast hR23 rfl (congrArg Int.toNat oz34)) (kj_meas (oz823 efig18_7429 efig21_7429 efig21_7437 s16 z19.2.2.2.2.2 kn1) (oz824 efig18_7429 s16 z19.2.2.1 z19.2.2.2.2.2 kn1) hm4)
                ·
                  subst eg21
                  have z24 : (2 : Int) ≤ 1 := hg21
                  exact (oz755 z24).elim
              ·
                subst eg18
                have fig18_7437 : ((0 : Int) ≤ (ig18 7437).toInt) ∧ ((ig18 7437).toInt ≤ 120) := hGg18.I.1 7437
                have fig18_7429 : ((0 : Int) ≤ (ig18 7429).toInt) ∧ ((ig18 7429).toInt ≤ 120) := hGg18.I.1 7429
                have efig18_7429 : (ig18 7429).toInt = (i4 7429).toInt := kg18.ti 7429 rfl
                have fig18_7439 : ((0 : Int) ≤ (ig18 7439).toInt) ∧ ((ig18 7439).toInt ≤ 200) := hGg18.I.1 7439
                have z25 : ((ig18 7438).toInt = (i4 7438).toInt) ∧ (((i4 7437) + 1).toInt ≤ (ig18 7437).toInt) ∧ ((ig18 7437).toInt ≤ (ig18 7429).toInt) ∧ (((ig18 7439).toInt - (ig18 7437).toInt) ≤ ((i4 7439).toInt - ((i4 7437) + 1).toInt)) ∧ ((i4 7439).toInt ≤ (ig18 7439).toInt) := hg18
                refine ft_go mi_k153 1 76 [(1, .int 15), (0, .ref 116)] [] ig18 ag18 qg18 rg18 (by rfl) ?_
                have hG26 := kG_call hGg1 hGg18 (by decide +kernel)
                refine ft_go mi_k153 1 77 [(1, .int 15), (0, .ref 116)] [.int 0] ig18 ag18 qg18 rg18 (by rfl) ?_
                exact ft_ret mi_k153 (by rfl) (hP 0 _ _ _ _ hG26 (Or.inr ⟨rfl, (oz850 p4_0 p4_3 p4_4 p4_5 s16 z25.1 z25.2.1 z25.2.2.1 z25.2.2.2.1 z25.2.2.2.2 kn1)⟩))
          ·
            have c27 : vg8.toInt = (47 : Int32).toInt := kd_neF c; clear c
            have s28 : ((i4 7437) + 1).toInt = (i4 7437).toInt + (1 : Int32).toInt := kd_add (oz12 fi4_7437.1 kn1) (oz192 fi4_7437.2 kn1)
            have hJ29 := kG_i hL4 7437 rfl (v := ((i4 7437) + 1)) ⟨(oz14 fi4_7437.1 s28 kn1), (oz826 c27 fi4_7429.2 s28 z9 kn47 kn1)⟩
            refine ft_go mi_k153 12 70 [(1, .int 14), (0, .ref 116)] [.ref 116] (ku i4 7437 ((i4 7437) + 1)) a4 q4 r4 (by rfl) ?_
            refine ko_callI mi_k153.1 (pc := 70) (ls := [(1, .int 14), (0, .ref 116)]) (st := [.ref 116]) (h := ks (ku i4 7437 ((i4 7437) + 1)) a4 q4 r4) (i := (.invokevirtual 190, 3, 152, 0, 9, 0, 402)) (mi_k153.2 _ _ (by rfl)) (ft_invS mi_pq152 (by rfl)) (cy := mi_c152) mi_pq152 rfl (h152 _ _ _ _ hJ29.I hJ29.R (oz844 hp0 p4_0) (oz812 hp1 p4_3 s28 kn1) (oz827 c27 s28 z9 kn47 kn1)) (kj_d1 (n := n) (o := 10) (o1 := 11) (by decide)) ?_
            intro vg30 ig30 ag30 qg30 rg30 kg30 hg30
            have hGg30 := kG_call hJ29 kg30 (by decide +kernel)
            rcases hg30 with ⟨eg30, hg30⟩ | ⟨eg30, hg30⟩
            ·
              subst eg30
              obtain ⟨hg30, og30⟩ := hg30
              have fig30_7437 : ((0 : Int) ≤ (ig30 7437).toInt) ∧ ((ig30 7437).toInt ≤ 120) := hGg30.I.1 7437
              have fig30_7429 : ((0 : Int) ≤ (ig30 7429).toInt) ∧ ((ig30 7429).toInt ≤ 120) := hGg30.I.1 7429
              have efig30_7429 : (ig30 7429).toInt = (i4 7429).toInt := kg30.ti 7429 rfl
              have fig30_7439 : ((0 : Int) ≤ (ig30 7439).toInt) ∧ ((ig30 7439).toInt ≤ 200) := hGg30.I.1 7439
              have z31 : ((ig30 7438).toInt = (i4 7438).toInt) ∧ (((i4 7437) + 1).toInt ≤ (ig30 7437).toInt) ∧ ((ig30 7437).toInt ≤ (ig30 7429).toInt) ∧ (((ig30 7439).toInt - (ig30 7437).toInt) ≤ ((i4 7439).toInt - ((i4 7437) + 1).toInt)) ∧ ((i4 7439).toInt ≤ (ig30 7439).toInt) ∧ ((((i4 7437) + 1).toInt + 1) ≤ (ig30 7437).toInt) := hg30
              have hR32 := kRun_sub (kRun_cast O4_0 rfl (congrArg Int.toNat oz34)) og30
              refine ft_go mi_k153 3 80 [(1, .int 14), (0, .ref 116)] [.int 14, .ref 116] ig30 ag30 qg30 rg30 (by rfl) ?_
              refine ko_callI mi_k153.1 (pc := 80) (ls := [(1, .int 14), (0, .ref 116)]) (st := [.int 14, .ref 116]) (h := ks ig30 ag30 qg30 rg30) (i := (.invokevirtual 177, 3, 149, 0, 9, 0, 405)) (mi_k153.2 _ _ (by rfl)) (ft_invS mi_pq149 (by rfl)) (cy := mi_c149) mi_pq149 rfl (kc149_116 hGg30.I hGg30.R 14 (oz814 fig30_7437.2 fig30_7439.1 hp1 p4_3 s28 z31.2.2.2.1 kn1)) (kj_d3 (n := n) (c := 1) (o1 := 11) (by decide)) ?_
              intro vg33 ig33 ag33 qg33 rg33 kg33 hg33
              have hGg33 := kG_call hGg30 kg33 (by decide +kernel)
              rcases hg33 with ⟨eg33, hg33⟩ | ⟨eg33, hg33⟩
              ·
                subst eg33
                obtain ⟨hg33, og33⟩ := hg33
                have fig33_7439 : ((0 : Int) ≤ (ig33 7439).toInt) ∧ ((ig33 7439).toInt ≤ 200) := hGg33.I.1 7439
                have z34 : (ig33 7439).toInt = ((ig30 7439).toInt + 1) := hg33
                have hR35 := kRun_code (x := (ig30 7439)) (d := (ig33 7439).toInt.toNat) (kRun_cast hR32 rfl (congrArg Int.toNat oz34)) rfl (kj_len (n := 200) (c := 200) (hGg30.I.2.1 127) rfl (oz750 fig33_7439.2 z34) (by decide)) og33 (kEff_bin (oz828 kn14) (oz829 kn14) (by decide)) (kj_tn (oz751 z34) (oz3 fig30_7439.1))
                refine ft_go mi_k153 2 9 [(1, .int 14), (0, .ref 116)] [] ig33 ag33 qg33 rg33 (by rfl) ?_
                refine ko_perm [(0, .ref 116)] (List.forall_mem_cons.mpr ⟨(List.Mem.tail _ (List.Mem.head _)), (fun _ h => absurd h List.not_mem_nil)⟩) ?_
                have efig33_7438 : (ig33 7438).toInt = (ig30 7438).toInt := kg33.ti 7438 rfl
                have fig33_7437 : ((0 : Int) ≤ (ig33 7437).toInt) ∧ ((ig33 7437).toInt ≤ 120) := hGg33.I.1 7437
                have efig33_7437 : (ig33 7437).toInt = (ig30 7437).toInt := kg33.ti 7437 rfl
                have fig33_7429 : ((0 : Int) ≤ (ig33 7429).toInt) ∧ ((ig33 7429).toInt ≤ 120) := hGg33.I.1 7429
                have efig33_7429 : (ig33 7429).toInt = (ig30 7429).toInt := kg33.ti 7429 rfl
                exact ih4 _ _ _ _ hGg33 (oz845 efig33_7438 p4_0 z31.1) (oz846 efig33_7437 p4_5 s28 z31.2.2.2.2.2 kn1) (oz819 efig33_7429 efig33_7437 z31.2.2.1) (oz847 efig33_7437 p4_3 s28 z31.2.2.2.1 z34 kn1) (oz848 p4_4 z31.2.2.2.2.1 z34) (oz849 efig33_7437 p4_5 s28 z31.2.2.2.2.2 kn1) (kRun_cast hR35 rfl (congrArg Int.toNat oz34)) (kj_meas (oz823 efig30_7429 efig33_7429 efig33_7437 s28 z31.2.2.2.2.2 kn1) (oz824 efig30_7429 s28 z31.2.2.1 z31.2.2.2.2.2 kn1) hm4)
              ·
                subst eg33
                have z36 : (2 : Int) ≤ 1 := hg33
                exact (oz755 z36).elim
            ·
              subst eg30
              have fig30_7437 : ((0 : Int) ≤ (ig30 7437).toInt) ∧ ((ig30 7437).toInt ≤ 120) := hGg30.I.1 7437
              have fig30_7429 : ((0 : Int) ≤ (ig30 7429).toInt) ∧ ((ig30 7429).toInt ≤ 120) := hGg30.I.1 7429
              have efig30_7429 : (ig30 7429).toInt = (i4 7429).toInt := kg30.ti 7429 rfl
              have fig30_7439 : ((0 : Int) ≤ (ig30 7439).toInt) ∧ ((ig30 7439).toInt ≤ 200) := hGg30.I.1 7439
              have z37 : ((ig30 7438).toInt = (i4 7438).toInt) ∧ (((i4 7437) + 1).toInt ≤ (ig30 7437).toInt) ∧ ((ig30 7437).toInt ≤ (ig30 7429).toInt) ∧ (((ig30 7439).toInt - (ig30 7437).toInt) ≤ ((i4 7439).toInt - ((i4 7437) + 1).toInt)) ∧ ((i4 7439).toInt ≤ (ig30 7439).toInt) := hg30
              refine ft_go mi_k153 1 76 [(1, .int 14), (0, .ref 116)] [] ig30 ag30 qg30 rg30 (by rfl) ?_
              have hG38 := kG_call hGg1 hGg30 (by decide +kernel)
              refine ft_go mi_k153 1 77 [(1, .int 14), (0, .ref 116)] [.int 0] ig30 ag30 qg30 rg30 (by rfl) ?_
              exact ft_ret mi_k153 (by rfl) (hP 0 _ _ _ _ hG38 (Or.inr ⟨rfl, (oz850 p4_0 p4_3 p4_4 p4_5 s28 z37.1 z37.2.1 z37.2.2.1 z37.2.2.2.1 z37.2.2.2.2 kn1)⟩))
        ·
          have c39 : vg5.toInt = (42 : Int32).toInt := kd_neF c; clear c
          have s40 : ((i4 7437) + 1).toInt = (i4 7437).toInt + (1 : Int32).toInt := kd_add (oz12 fi4_7437.1 kn1) (oz192 fi4_7437.2 kn1)
          have hJ41 := kG_i hL4 7437 rfl (v := ((i4 7437) + 1)) ⟨(oz14 fi4_7437.1 s40 kn1), (oz835 c39 fi4_7429.2 s40 z6 kn42 kn1)⟩
          refine ft_go mi_k153 12 70 [(1, .int 13), (0, .ref 116)] [.ref 116] (ku i4 7437 ((i4 7437) + 1)) a4 q4 r4 (by rfl) ?_
          refine ko_callI mi_k153.1 (pc := 70) (ls := [(1, .int 13), (0, .ref 116)]) (st := [.ref 116]) (h := ks (ku i4 7437 ((i4 7437) + 1)) a4 q4 r4) (i := (.invokevirtual 190, 3, 152, 0, 9, 0, 402)) (mi_k153.2 _ _ (by rfl)) (ft_invS mi_pq152 (by rfl)) (cy := mi_c152) mi_pq152 rfl (h152 _ _ _ _ hJ41.I hJ41.R (oz844 hp0 p4_0) (oz812 hp1 p4_3 s40 kn1) (oz836 c39 s40 z6 kn42 kn1)) (kj_d1 (n := n) (o := 10) (o1 := 11) (by decide)) ?_
          intro vg42 ig42 ag42 qg42 rg42 kg42 hg42
          have hGg42 := kG_call hJ41 kg42 (by decide +kernel)
          rcases hg42 with ⟨eg42, hg42⟩ | ⟨eg42, hg42⟩
          ·
            subst eg42
            obtain ⟨hg42, og42⟩ := hg42
            have fig42_7437 : ((0 : Int) ≤ (ig42 7437).toInt) ∧ ((ig42 7437).toInt ≤ 120) := hGg42.I.1 7437
            have fig42_7429 : ((0 : Int) ≤ (ig42 7429).toInt) ∧ ((ig42 7429).toInt ≤ 120) := hGg42.I.1 7429
            have efig42_7429 : (ig42 7429).toInt = (i4 7429).toInt := kg42.ti 7429 rfl
            have fig42_7439 : ((0 : Int) ≤ (ig42 7439).toInt) ∧ ((ig42 7439).toInt ≤ 200) := hGg42.I.1 7439
            have z43 : ((ig42 7438).toInt = (i4 7438).toInt) ∧ (((i4 7437) + 1).toInt ≤ (ig42 7437).toInt) ∧ ((ig42 7437).toInt ≤ (ig42 7429).toInt) ∧ (((ig42 7439).toInt - (ig42 7437).toInt) ≤ ((i4 7439).toInt - ((i4 7437) + 1).toInt)) ∧ ((i4 7439).toInt ≤ (ig42 7439).toInt) ∧ ((((i4 7437) + 1).toInt + 1) ≤ (ig42 7437).toInt) := hg42
            have hR44 := kRun_sub (kRun_cast O4_0 rfl (congrArg Int.toNat oz34)) og42
            refine ft_go mi_k153 3 80 [(1, .int 13), (0, .ref 116)] [.int 13, .ref 116] ig42 ag42 qg42 rg42 (by rfl) ?_
            refine ko_callI mi_k153.1 (pc := 80) (ls := [(1, .int 13), (0, .ref 116)]) (st := [.int 13, .ref 116]) (h := ks ig42 ag42 qg42 rg42) (i := (.invokevirtual 177, 3, 149, 0, 9, 0, 405)) (mi_k153.2 _ _ (by rfl)) (ft_invS mi_pq149 (by rfl)) (cy := mi_c149) mi_pq149 rfl (kc149_116 hGg42.I hGg42.R 13 (oz814 fig42_7437.2 fig42_7439.1 hp1 p4_3 s40 z43.2.2.2.1 kn1)) (kj_d3 (n := n) (c := 1) (o1 := 11) (by decide)) ?_
            intro vg45 ig45 ag45 qg45 rg45 kg45 hg45
            have hGg45 := kG_call hGg42 kg45 (by decide +kernel)
            rcases hg45 with ⟨eg45, hg45⟩ | ⟨eg45, hg45⟩
            ·
              subst eg45
              obtain ⟨hg45, og45⟩ := hg45
              have fig45_7439 : ((0 : Int) ≤ (ig45 7439).toInt) ∧ ((ig45 7439).toInt ≤ 200) := hGg45.I.1 7439
              have z46 : (ig45 7439).toInt = ((ig42 7439).toInt + 1) := hg45
              have hR47 := kRun_code (x := (ig42 7439)) (d := (ig45 7439).toInt.toNat) (kRun_cast hR44 rfl (congrArg Int.toNat oz34)) rfl (kj_len (n := 200) (c := 200) (hGg42.I.2.1 127) rfl (oz750 fig45_7439.2 z46) (by decide)) og45 (kEff_bin (oz837 kn13) (oz838 kn13) (by decide)) (kj_tn (oz751 z46) (oz3 fig42_7439.1))
              refine ft_go mi_k153 2 9 [(1, .int 13), (0, .ref 116)] [] ig45 ag45 qg45 rg45 (by rfl) ?_
              refine ko_perm [(0, .ref 116)] (List.forall_mem_cons.mpr ⟨(List.Mem.tail _ (List.Mem.head _)), (fun _ h => absurd h List.not_mem_nil)⟩) ?_
              have efig45_7438 : (ig45 7438).toInt = (ig42 7438).toInt := kg45.ti 7438 rfl
              have fig45_7437 : ((0 : Int) ≤ (ig45 7437).toInt) ∧ ((ig45 7437).toInt ≤ 120) := hGg45.I.1 7437
              have efig45_7437 : (ig45 7437).toInt = (ig42 7437).toInt := kg45.ti 7437 rfl
              have fig45_7429 : ((0 : Int) ≤ (ig45 7429).toInt) ∧ ((ig45 7429).toInt ≤ 120) := hGg45.I.1 7429
              have efig45_7429 : (ig45 7429).toInt = (ig42 7429).toInt := kg45.ti 7429 rfl
              exact ih4 _ _ _ _ hGg45 (oz845 efig45_7438 p4_0 z43.1) (oz846 efig45_7437 p4_5 s40 z43.2.2.2.2.2 kn1) (oz819 efig45_7429 efig45_7437 z43.2.2.1) (oz847 efig45_7437 p4_3 s40 z43.2.2.2.1 z46 kn1) (oz848 p4_4 z43.2.2.2.2.1 z46) (oz849 efig45_7437 p4_5 s40 z43.2.2.2.2.2 kn1) (kRun_cast hR47 rfl (congrArg Int.toNat oz34)) (kj_meas (oz823 efig42_7429 efig45_7429 efig45_7437 s40 z43.2.2.2.2.2 kn1) (oz824 efig42_7429 s40 z43.2.2.1 z43.2.2.2.2.2 kn1) hm4)
            ·
              subst eg45
              have z48 : (2 : Int) ≤ 1 := hg45
              exact (oz755 z48).elim
          ·
            subst eg42
            have fig42_7437 : ((0 : Int) ≤ (ig42 7437).toInt) ∧ ((ig42 7437).toInt ≤ 120) := hGg42.I.1 7437
            have fig42_7429 : ((0 : Int) ≤ (ig42 7429).toInt) ∧ ((ig42 7429).toInt ≤ 120) := hGg42.I.1 7429
            have efig42_7429 : (ig42 7429).toInt = (i4 7429).toInt := kg42.ti 7429 rfl
            have fig42_7439 : ((0 : Int) ≤ (ig42 7439).toInt) ∧ ((ig42 7439).toInt ≤ 200) := hGg42.I.1 7439
            have z49 : ((ig42 7438).toInt = (i4 7438).toInt) ∧ (((i4 7437) + 1).toInt ≤ (ig42 7437).toInt) ∧ ((ig42 7437).toInt ≤ (ig42 7429).toInt) ∧ (((ig42 7439).toInt - (ig42 7437).toInt) ≤ ((i4 7439).toInt - ((i4 7437) + 1).toInt)) ∧ ((i4 7439).toInt ≤ (ig42 7439).toInt) := hg42
            refine ft_go mi_k153 1 76 [(1, .int 13), (0, .ref 116)] [] ig42 ag42 qg42 rg42 (by rfl) ?_
            have hG50 := kG_call hGg1 hGg42 (by decide +kernel)
            refine ft_go mi_k153 1 77 [(1, .int 13), (0, .ref 116)] [.int 0] ig42 ag42 qg42 rg42 (by rfl) ?_
            exact ft_ret mi_k153 (by rfl) (hP 0 _ _ _ _ hG50 (Or.inr ⟨rfl, (oz850 p4_0 p4_3 p4_4 p4_5 s40 z49.1 z49.2.1 z49.2.2.1 z49.2.2.2.1 z49.2.2.2.2 kn1)⟩))
    exact lp4 _ _ _ _ _ (kG_self _ hGg1.I hGg1.R) (oz719 z2.1) (oz839 z2.2.2.2.2.2) (oz173 z2.2.2.1) (oz840 z2.2.2.2.1) (oz173 z2.2.2.2.2.1) (oz841 z2.2.2.2.2.2) (kRun_cast hR3 rfl (congrArg Int.toNat oz34)) (Nat.lt_succ_self _)
  ·
    subst eg1
    have fig1_7437 : ((0 : Int) ≤ (ig1 7437).toInt) ∧ ((ig1 7437).toInt ≤ 120) := hGg1.I.1 7437
    have fig1_7429 : ((0 : Int) ≤ (ig1 7429).toInt) ∧ ((ig1 7429).toInt ≤ 120) := hGg1.I.1 7429
    have efig1_7429 : (ig1 7429).toInt = (i 7429).toInt := kg1.ti 7429 rfl
    have fig1_7439 : ((0 : Int) ≤ (ig1 7439).toInt) ∧ ((ig1 7439).toInt ≤ 200) := hGg1.I.1 7439
    have z51 : ((ig1 7438).toInt = (i 7438).toInt) ∧ ((i 7437).toInt ≤ (ig1 7437).toInt) ∧ ((ig1 7437).toInt ≤ (ig1 7429).toInt) ∧ (((ig1 7439).toInt - (ig1 7437).toInt) ≤ ((i 7439).toInt - (i 7437).toInt)) ∧ ((i 7439).toInt ≤ (ig1 7439).toInt) := hg1
    refine ft_go mi_k153 2 8 [(0, .ref 116)] [.int 0] ig1 ag1 qg1 rg1 (by rfl) ?_
    exact ft_ret mi_k153 (by rfl) (hP 0 _ _ _ _ hGg1 (Or.inr ⟨rfl, (oz842 z51.1 z51.2.1 z51.2.2.1 z51.2.2.2.1 z51.2.2.2.2)⟩))
set_option maxRecDepth 100000 in
theorem kLsR_154 (n : Nat) (h152 : kLR_152 n) (h153 : kLR_153 n) : kLR_154 n := by
  intro i a q r hI hr hp0 hp1 hp2
  have hG := kG_self wR hI hr
  refine km_ofI (q := (mi_h154, mi_c154)) rfl (by decide) (Nat.le_of_ble_eq_true rfl) ?_
  intro P hP
  have fi_7439 : ((0 : Int) ≤ (i 7439).toInt) ∧ ((i 7439).toInt ≤ 200) := hG.I.1 7439
  have fi_7437 : ((0 : Int) ≤ (i 7437).toInt) ∧ ((i 7437).toInt ≤ 120) := hG.I.1 7437
  have fi_7429 : ((0 : Int) ≤ (i 7429).toInt) ∧ ((i 7429).toInt ≤ 120) := hG.I.1 7429
  have hn0 : (0 : Int) ≤ (n : Int) := Int.natCast_nonneg n
  have hR0 := kRun_start (a 127) ((i 7439).toInt.toNat)
  refine ft_go mi_k154 1 1 [(0, .ref 116)] [.ref 116] i a q r (by rfl) ?_
  refine ko_callI mi_k154.1 (pc := 1) (ls := [(0, .ref 116)]) (st := [.ref 116]) (h := ks i a q r) (i := (.invokevirtual 196, 3, 153, 0, 9, 0, 401)) (mi_k154.2 _ _ (by rfl)) (ft_invS mi_pq153 (by rfl)) (cy := mi_c153) mi_pq153 rfl (h153 _ _ _ _ hG.I hG.R (oz808 hp0) (oz173 hp1) (oz173 hp2)) (kj_d1 (n := n) (o := 11) (o1 := 12) (by decide)) ?_
  intro vg1 ig1 ag1 qg1 rg1 kg1 hg1
  have hGg1 := kG_call hG kg1 (by decide +kernel)
  rcases hg1 with ⟨eg1, hg1⟩ | ⟨eg1, hg1⟩
  ·
    subst eg1
    obtain ⟨hg1, og1⟩ := hg1
    have fig1_7437 : ((0 : Int) ≤ (ig1 7437).toInt) ∧ ((ig1 7437).toInt ≤ 120) := hGg1.I.1 7437
    have fig1_7429 : ((0 : Int) ≤ (ig1 7429).toInt) ∧ ((ig1 7429).toInt ≤ 120) := hGg1.I.1 7429
    have efig1_7429 : (ig1 7429).toInt = (i 7429).toInt := kg1.ti 7429 rfl
    have fig1_7439 : ((0 : Int) ≤ (ig1 7439).toInt) ∧ ((ig1 7439).toInt ≤ 200) := hGg1.I.1 7439
    have z2 : ((ig1 7438).toInt = (i 7438).toInt) ∧ ((i 7437).toInt ≤ (ig1 7437).toInt) ∧ ((ig1 7437).toInt ≤ (ig1 7429).toInt) ∧ (((ig1 7439).toInt - (ig1 7437).toInt) ≤ ((i 7439).toInt - (i 7437).toInt)) ∧ ((i 7439).toInt ≤ (ig1 7439).toInt) ∧ (((i 7437).toInt + 1) ≤ (ig1 7437).toInt) := hg1
    have hR3 := kRun_sub (kRun_cast hR0 rfl (congrArg Int.toNat oz34)) og1
    refine ft_go mi_k154 1 9 [(0, .ref 116)] [] ig1 ag1 qg1 rg1 (by rfl) ?_
    have lp4 : ∀ (nz : Nat) (i4 : Nat → Int32) (a4 : Nat → List Int32) (q4 : Nat → List Int64) (r4 : Nat → Nat), kG w154_116_L9 ig1 ag1 qg1 rg1 i4 a4 q4 r4 → (i4 7438).toInt = (i 7438).toInt → (i 7437).toInt ≤ (i4 7437).toInt → (i4 7437).toInt ≤ (i4 7429).toInt → ((i4 7439).toInt - (i4 7437).toInt) ≤ ((i 7439).toInt - (i 7437).toInt) → (i 7439).toInt ≤ (i4 7439).toInt → ((i 7437).toInt + 1) ≤ (i4 7437).toInt → kRun (a 127) (a4 127) (i 7439).toInt.toNat (i4 7439).toInt.toNat 1 → (((i4 7429).toInt - (i4 7437).toInt)).toNat < nz → ko (6 * n + 12) (mi_h154, mi_c154) P (9, [(0, .ref 116)], [], (0, 0), ks i4 a4 q4 r4) := by
      intro nz
      induction nz with
      | zero =>
        intro _ _ _ _ _ _ _ _ _ _ _ _ hm
        exact absurd hm (Nat.not_lt_zero _)
      | succ nz ih4 =>
        intro i4 a4 q4 r4 hL4 p4_0 p4_1 p4_2 p4_3 p4_4 p4_5 O4_0 hm4
        have fi4_7437 : ((0 : Int) ≤ (i4 7437).toInt) ∧ ((i4 7437).toInt ≤ 120) := hL4.I.1 7437
        have fi4_7429 : ((0 : Int) ≤ (i4 7429).toInt) ∧ ((i4 7429).toInt ≤ 120) := hL4.I.1 7429
        have efi4_7429 : (i4 7429).toInt = (ig1 7429).toInt := hL4.ti 7429 rfl
        have fi4_7439 : ((0 : Int) ≤ (i4 7439).toInt) ∧ ((i4 7439).toInt ≤ 200) := hL4.I.1 7439
        refine ft_go mi_k154 1 10 [(0, .ref 116)] [.ref 116] i4 a4 q4 r4 (by rfl) ?_
        refine ko_callPI mi_k154.1 (pc := 10) (ls := [(0, .ref 116)]) (st := [.ref 116]) (h := ks i4 a4 q4 r4) (i := (.invokevirtual 166, 3, 147, 0, 9, 0, 404)) (mi_k154.2 _ _ (by rfl)) (ft_invS mi_pq147 (by rfl)) (cy := mi_c147) mi_pq147 rfl (kc147_116 hL4.I hL4.R ) (kj_d3 (n := n) (c := 1) (o1 := 12) (by decide)) ?_
        intro vg5 hg5
        have z6 : ((vg5.toInt = (-1)) ∧ ((i4 7429).toInt ≤ (i4 7437).toInt)) ∨ (((i4 7437).toInt < (i4 7429).toInt) ∧ (vg5.toInt = ((a4 119).getD (i4 7437).toNatClampNeg 0).toInt)) := hg5
        refine ft_go mi_k154 1 15 [(0, .ref 116)] [.int 43, .int vg5] i4 a4 q4 r4 (by rfl) ?_
        refine ft_if mi_k154 (vg5 != 43) 23 18 [(0, .ref 116)] [] (by rfl) (fun c => ?_) (fun c => ?_)
        ·
          have c7 : vg5.toInt ≠ (43 : Int32).toInt := kd_ne c; clear c
          refine ft_go mi_k154 1 24 [(0, .ref 116)] [.ref 116] i4 a4 q4 r4 (by rfl) ?_
          refine ko_callPI mi_k154.1 (pc := 24) (ls := [(0, .ref 116)]) (st := [.ref 116]) (h := ks i4 a4 q4 r4) (i := (.invokevirtual 166, 3, 147, 0, 9, 0, 404)) (mi_k154.2 _ _ (by rfl)) (ft_invS mi_pq147 (by rfl)) (cy := mi_c147) mi_pq147 rfl (kc147_116 hL4.I hL4.R ) (kj_d3 (n := n) (c := 1) (o1 := 12) (by decide)) ?_
          intro vg8 hg8
          have z9 : ((vg8.toInt = (-1)) ∧ ((i4 7429).toInt ≤ (i4 7437).toInt)) ∨ (((i4 7437).toInt < (i4 7429).toInt) ∧ (vg8.toInt = ((a4 119).getD (i4 7437).toNatClampNeg 0).toInt)) := hg8
          refine ft_go mi_k154 1 29 [(0, .ref 116)] [.int 45, .int vg8] i4 a4 q4 r4 (by rfl) ?_
          refine ft_if mi_k154 (vg8 != 45) 37 32 [(0, .ref 116)] [] (by rfl) (fun c => ?_) (fun c => ?_)
          ·
            have c10 : vg8.toInt ≠ (45 : Int32).toInt := kd_ne c; clear c
            refine ft_go mi_k154 4 43 [(1, .int (-1)), (0, .ref 116)] [] i4 a4 q4 r4 (by rfl) ?_
            have hG11 := kG_call hGg1 hL4 (by decide +kernel)
            refine ft_go mi_k154 1 44 [(1, .int (-1)), (0, .ref 116)] [.int 1] i4 a4 q4 r4 (by rfl) ?_
            exact ft_ret mi_k154 (by rfl) (hP 1 _ _ _ _ hG11 (Or.inl ⟨rfl, ⟨(oz843 p4_0 p4_2 p4_3 p4_4 p4_5), (kRun_cast O4_0 rfl (congrArg Int.toNat oz34))⟩⟩))
          ·
            have c12 : vg8.toInt = (45 : Int32).toInt := kd_neF c; clear c
            have s13 : ((i4 7437) + 1).toInt = (i4 7437).toInt + (1 : Int32).toInt := kd_add (oz12 fi4_7437.1 kn1) (oz192 fi4_7437.2 kn1)
            have hJ14 := kG_i hL4 7437 rfl (v := ((i4 7437) + 1)) ⟨(oz14 fi4_7437.1 s13 kn1), (oz851 c12 fi4_7429.2 s13 z9 kn45 kn1)⟩
            refine ft_go mi_k154 12 56 [(1, .int 12), (0, .ref 116)] [.ref 116] (ku i4 7437 ((i4 7437) + 1)) a4 q4 r4 (by rfl) ?_
            refine ko_callI mi_k154.1 (pc := 56) (ls := [(1, .int 12), (0, .ref 116)]) (st := [.ref 116]) (h := ks (ku i4 7437 ((i4 7437) + 1)) a4 q4 r4) (i := (.invokevirtual 196, 3, 153, 0, 9, 0, 401)) (mi_k154.2 _ _ (by rfl)) (ft_invS mi_pq153 (by rfl)) (cy := mi_c153) mi_pq153 rfl (h153 _ _ _ _ hJ14.I hJ14.R (oz844 hp0 p4_0) (oz812 hp1 p4_3 s13 kn1) (oz852 c12 s13 z9 kn45 kn1)) (kj_d1 (n := n) (o := 11) (o1 := 12) (by decide)) ?_
            intro vg15 ig15 ag15 qg15 rg15 kg15 hg15
            have hGg15 := kG_call hJ14 kg15 (by decide +kernel)
            rcases hg15 with ⟨eg15, hg15⟩ | ⟨eg15, hg15⟩
            ·
              subst eg15
              obtain ⟨hg15, og15⟩ := hg15
              have fig15_7437 : ((0 : Int) ≤ (ig15 7437).toInt) ∧ ((ig15 7437).toInt ≤ 120) := hGg15.I.1 7437
              have fig15_7429 : ((0 : Int) ≤ (ig15 7429).toInt) ∧ ((ig15 7429).toInt ≤ 120) := hGg15.I.1 7429
              have efig15_7429 : (ig15 7429).toInt = (i4 7429).toInt := kg15.ti 7429 rfl
              have fig15_7439 : ((0 : Int) ≤ (ig15 7439).toInt) ∧ ((ig15 7439).toInt ≤ 200) := hGg15.I.1 7439
              have z16 : ((ig15 7438).toInt = (i4 7438).toInt) ∧ (((i4 7437) + 1).toInt ≤ (ig15 7437).toInt) ∧ ((ig15 7437).toInt ≤ (ig15 7429).toInt) ∧ (((ig15 7439).toInt - (ig15 7437).toInt) ≤ ((i4 7439).toInt - ((i4 7437) + 1).toInt)) ∧ ((i4 7439).toInt ≤ (ig15 7439).toInt) ∧ ((((i4 7437) + 1).toInt + 1) ≤ (ig15 7437).toInt) := hg15
              have hR17 := kRun_sub (kRun_cast O4_0 rfl (congrArg Int.toNat oz34)) og15
              refine ft_go mi_k154 3 66 [(1, .int 12), (0, .ref 116)] [.int 12, .ref 116] ig15 ag15 qg15 rg15 (by rfl) ?_
              refine ko_callI mi_k154.1 (pc := 66) (ls := [(1, .int 12), (0, .ref 116)]) (st := [.int 12, .ref 116]) (h := ks ig15 ag15 qg15 rg15) (i := (.invokevirtual 177, 3, 149, 0, 9, 0, 405)) (mi_k154.2 _ _ (by rfl)) (ft_invS mi_pq149 (by rfl)) (cy := mi_c149) mi_pq149 rfl (kc149_116 hGg15.I hGg15.R 12 (oz814 fig15_7437.2 fig15_7439.1 hp1 p4_3 s13 z16.2.2.2.1 kn1)) (kj_d3 (n := n) (c := 1) (o1 := 12) (by decide)) ?_
              intro vg18 ig18 ag18 qg18 rg18 kg18 hg18
              have hGg18 := kG_call hGg15 kg18 (by decide +kernel)
              rcases hg18 with ⟨eg18, hg18⟩ | ⟨eg18, hg18⟩
              ·
                subst eg18
                obtain ⟨hg18, og18⟩ := hg18
                have fig18_7439 : ((0 : Int) ≤ (ig18 7439).toInt) ∧ ((ig18 7439).toInt ≤ 200) := hGg18.I.1 7439
                have z19 : (ig18 7439).toInt = ((ig15 7439).toInt + 1) := hg18
                have hR20 := kRun_code (x := (ig15 7439)) (d := (ig18 7439).toInt.toNat) (kRun_cast hR17 rfl (congrArg Int.toNat oz34)) rfl (kj_len (n := 200) (c := 200) (hGg15.I.2.1 127) rfl (oz750 fig18_7439.2 z19) (by decide)) og18 (kEff_bin (oz853 kn12) (oz854 kn12) (by decide)) (kj_tn (oz751 z19) (oz3 fig15_7439.1))
                refine ft_go mi_k154 2 9 [(1, .int 12), (0, .ref 116)] [] ig18 ag18 qg18 rg18 (by rfl) ?_
                refine ko_perm [(0, .ref 116)] (List.forall_mem_cons.mpr ⟨(List.Mem.tail _ (List.Mem.head _)), (fun _ h => absurd h List.not_mem_nil)⟩) ?_
                have efig18_7438 : (ig18 7438).toInt = (ig15 7438).toInt := kg18.ti 7438 rfl
                have fig18_7437 : ((0 : Int) ≤ (ig18 7437).toInt) ∧ ((ig18 7437).toInt ≤ 120) := hGg18.I.1 7437
                have efig18_7437 : (ig18 7437).toInt = (ig15 7437).toInt := kg18.ti 7437 rfl
                have fig18_7429 : ((0 : Int) ≤ (ig18 7429).toInt) ∧ ((ig18 7429).toInt ≤ 120) := hGg18.I.1 7429
                have efig18_7429 : (ig18 7429).toInt = (ig15 7429).toInt := kg18.ti 7429 rfl
                exact ih4 _ _ _ _ hGg18 (oz845 efig18_7438 p4_0 z16.1) (oz846 efig18_7437 p4_5 s13 z16.2.2.2.2.2 kn1) (oz819 efig18_7429 efig18_7437 z16.2.2.1) (oz847 efig18_7437 p4_3 s13 z16.2.2.2.1 z19 kn1) (oz848 p4_4 z16.2.2.2.2.1 z19) (oz849 efig18_7437 p4_5 s13 z16.2.2.2.2.2 kn1) (kRun_cast hR20 rfl (congrArg Int.toNat oz34)) (kj_meas (oz823 efig15_7429 efig18_7429 efig18_7437 s13 z16.2.2.2.2.2 kn1) (oz824 efig15_7429 s13 z16.2.2.1 z16.2.2.2.2.2 kn1) hm4)
              ·
                subst eg18
                have z21 : (2 : Int) ≤ 1 := hg18
                exact (oz755 z21).elim
            ·
              subst eg15
              have fig15_7437 : ((0 : Int) ≤ (ig15 7437).toInt) ∧ ((ig15 7437).toInt ≤ 120) := hGg15.I.1 7437
              have fig15_7429 : ((0 : Int) ≤ (ig15 7429).toInt) ∧ ((ig15 7429).toInt ≤ 120) := hGg15.I.1 7429
              have efig15_7429 : (ig15 7429).toInt = (i4 7429).toInt := kg15.ti 7429 rfl
              have fig15_7439 : ((0 : Int) ≤ (ig15 7439).toInt) ∧ ((ig15 7439).toInt ≤ 200) := hGg15.I.1 7439
              have z22 : ((ig15 7438).toInt = (i4 7438).toInt) ∧ (((i4 7437) + 1).toInt ≤ (ig15 7437).toInt) ∧ ((ig15 7437).toInt ≤ (ig15 7429).toInt) ∧ (((ig15 7439).toInt - (ig15 7437).toInt) ≤ ((i4 7439).toInt - ((i4 7437) + 1).toInt)) ∧ ((i4 7439).toInt ≤ (ig15 7439).toInt) := hg15
              refine ft_go mi_k154 1 62 [(1, .int 12), (0, .ref 116)] [] ig15 ag15 qg15 rg15 (by rfl) ?_
              have hG23 := kG_call hGg1 hGg15 (by decide +kernel)
              refine ft_go mi_k154 1 63 [(1, .int 12), (0, .ref 116)] [.int 0] ig15 ag15 qg15 rg15 (by rfl) ?_
              exact ft_ret mi_k154 (by rfl) (hP 0 _ _ _ _ hG23 (Or.inr ⟨rfl, (oz850 p4_0 p4_3 p4_4 p4_5 s13 z22.1 z22.2.1 z22.2.2.1 z22.2.2.2.1 z22.2.2.2.2 kn1)⟩))
        ·
          have c24 : vg5.toInt = (43 : Int32).toInt := kd_neF c; clear c
          have s25 : ((i4 7437) + 1).toInt = (i4 7437).toInt + (1 : Int32).toInt := kd_add (oz12 fi4_7437.1 kn1) (oz192 fi4_7437.2 kn1)
          have hJ26 := kG_i hL4 7437 rfl (v := ((i4 7437) + 1)) ⟨(oz14 fi4_7437.1 s25 kn1), (oz857 c24 fi4_7429.2 s25 z6 kn43 kn1)⟩
          refine ft_go mi_k154 12 56 [(1, .int 11), (0, .ref 116)] [.ref 116] (ku i4 7437 ((i4 7437) + 1)) a4 q4 r4 (by rfl) ?_
          refine ko_callI mi_k154.1 (pc := 56) (ls := [(1, .int 11), (0, .ref 116)]) (st := [.ref 116]) (h := ks (ku i4 7437 ((i4 7437) + 1)) a4 q4 r4) (i := (.invokevirtual 196, 3, 153, 0, 9, 0, 401)) (mi_k154.2 _ _ (by rfl)) (ft_invS mi_pq153 (by rfl)) (cy := mi_c153) mi_pq153 rfl (h153 _ _ _ _ hJ26.I hJ26.R (oz844 hp0 p4_0) (oz812 hp1 p4_3 s25 kn1) (oz858 c24 s25 z6 kn43 kn1)) (kj_d1 (n := n) (o := 11) (o1 := 12) (by decide)) ?_
          intro vg27 ig27 ag27 qg27 rg27 kg27 hg27
          have hGg27 := kG_call hJ26 kg27 (by decide +kernel)
          rcases hg27 with ⟨eg27, hg27⟩ | ⟨eg27, hg27⟩
          ·
            subst eg27
            obtain ⟨hg27, og27⟩ := hg27
            have fig27_7437 : ((0 : Int) ≤ (ig27 7437).toInt) ∧ ((ig27 7437).toInt ≤ 120) := hGg27.I.1 7437
            have fig27_7429 : ((0 : Int) ≤ (ig27 7429).toInt) ∧ ((ig27 7429).toInt ≤ 120) := hGg27.I.1 7429
            have efig27_7429 : (ig27 7429).toInt = (i4 7429).toInt := kg27.ti 7429 rfl
            have fig27_7439 : ((0 : Int) ≤ (ig27 7439).toInt) ∧ ((ig27 7439).toInt ≤ 200) := hGg27.I.1 7439
            have z28 : ((ig27 7438).toInt = (i4 7438).toInt) ∧ (((i4 7437) + 1).toInt ≤ (ig27 7437).toInt) ∧ ((ig27 7437).toInt ≤ (ig27 7429).toInt) ∧ (((ig27 7439).toInt - (ig27 7437).toInt) ≤ ((i4 7439).toInt - ((i4 7437) + 1).toInt)) ∧ ((i4 7439).toInt ≤ (ig27 7439).toInt) ∧ ((((i4 7437) + 1).toInt + 1) ≤ (ig27 7437).toInt) := hg27
            have hR29 := kRun_sub (kRun_cast O4_0 rfl (congrArg Int.toNat oz34)) og27
            refine ft_go mi_k154 3 66 [(1, .int 11), (0, .ref 116)] [.int 11, .ref 116] ig27 ag27 qg27 rg27 (by rfl) ?_
            refine ko_callI mi_k154.1 (pc := 66) (ls := [(1, .int 11), (0, .ref 116)]) (st := [.int 11, .ref 116]) (h := ks ig27 ag27 qg27 rg27) (i := (.invokevirtual 177, 3, 149, 0, 9, 0, 405)) (mi_k154.2 _ _ (by rfl)) (ft_invS mi_pq149 (by rfl)) (cy := mi_c149) mi_pq149 rfl (kc149_116 hGg27.I hGg27.R 11 (oz814 fig27_7437.2 fig27_7439.1 hp1 p4_3 s25 z28.2.2.2.1 kn1)) (kj_d3 (n := n) (c := 1) (o1 := 12) (by decide)) ?_
            intro vg30 ig30 ag30 qg30 rg30 kg30 hg30
            have hGg30 := kG_call hGg27 kg30 (by decide +kernel)
            rcases hg30 with ⟨eg30, hg30⟩ | ⟨eg30, hg30⟩
            ·
              subst eg30
              obtain ⟨hg30, og30⟩ := hg30
              have fig30_7439 : ((0 : Int) ≤ (ig30 7439).toInt) ∧ ((ig30 7439).toInt ≤ 200) := hGg30.I.1 7439
              have z31 : (ig30 7439).toInt = ((ig27 7439).toInt + 1) := hg30
              have hR32 := kRun_code (x := (ig27 7439)) (d := (ig30 7439).toInt.toNat) (kRun_cast hR29 rfl (congrArg Int.toNat oz34)) rfl (kj_len (n := 200) (c := 200) (hGg27.I.2.1 127) rfl (oz750 fig30_7439.2 z31) (by decide)) og30 (kEff_bin (oz859 kn11) (oz860 kn11) (by decide)) (kj_tn (oz751 z31) (oz3 fig27_7439.1))
              refine ft_go mi_k154 2 9 [(1, .int 11), (0, .ref 116)] [] ig30 ag30 qg30 rg30 (by rfl) ?_
              refine ko_perm [(0, .ref 116)] (List.forall_mem_cons.mpr ⟨(List.Mem.tail _ (List.Mem.head _)), (fun _ h => absurd h List.not_mem_nil)⟩) ?_
              have efig30_7438 : (ig30 7438).toInt = (ig27 7438).toInt := kg30.ti 7438 rfl
              have fig30_7437 : ((0 : Int) ≤ (ig30 7437).toInt) ∧ ((ig30 7437).toInt ≤ 120) := hGg30.I.1 7437
              have efig30_7437 : (ig30 7437).toInt = (ig27 7437).toInt := kg30.ti 7437 rfl
              have fig30_7429 : ((0 : Int) ≤ (ig30 7429).toInt) ∧ ((ig30 7429).toInt ≤ 120) := hGg30.I.1 7429
              have efig30_7429 : (ig30 7429).toInt = (ig27 7429).toInt := kg30.ti 7429 rfl
              exact ih4 _ _ _ _ hGg30 (oz845 efig30_7438 p4_0 z28.1) (oz846 efig30_7437 p4_5 s25 z28.2.2.2.2.2 kn1) (oz819 efig30_7429 efig30_7437 z28.2.2.1) (oz847 efig30_7437 p4_3 s25 z28.2.2.2.1 z31 kn1) (oz848 p4_4 z28.2.2.2.2.1 z31) (oz849 efig30_7437 p4_5 s25 z28.2.2.2.2.2 kn1) (kRun_cast hR32 rfl (congrArg Int.toNat oz34)) (kj_meas (oz823 efig27_7429 efig30_7429 efig30_7437 s25 z28.2.2.2.2.2 kn1) (oz824 efig27_7429 s25 z28.2.2.1 z28.2.2.2.2.2 kn1) hm4)
            ·
              subst eg30
              have z33 : (2 : Int) ≤ 1 := hg30
              exact (oz755 z33).elim
          ·
            subst eg27
            have fig27_7437 : ((0 : Int) ≤ (ig27 7437).toInt) ∧ ((ig27 7437).toInt ≤ 120) := hGg27.I.1 7437
            have fig27_7429 : ((0 : Int) ≤ (ig27 7429).toInt) ∧ ((ig27 7429).toInt ≤ 120) := hGg27.I.1 7429
            have efig27_7429 : (ig27 7429).toInt = (i4 7429).toInt := kg27.ti 7429 rfl
            have fig27_7439 : ((0 : Int) ≤ (ig27 7439).toInt) ∧ ((ig27 7439).toInt ≤ 200) := hGg27.I.1 7439
            have z34 : ((ig27 7438).toInt = (i4 7438).toInt) ∧ (((i4 7437) + 1).toInt ≤ (ig27 7437).toInt) ∧ ((ig27 7437).toInt ≤ (ig27 7429).toInt) ∧ (((ig27 7439).toInt - (ig27 7437).toInt) ≤ ((i4 7439).toInt - ((i4 7437) + 1).toInt)) ∧ ((i4 7439).toInt ≤ (ig27 7439).toInt) := hg27
            refine ft_go mi_k154 1 62 [(1, .int 11), (0, .ref 116)] [] ig27 ag27 qg27 rg27 (by rfl) ?_
            have hG35 := kG_call hGg1 hGg27 (by decide +kernel)
            refine ft_go mi_k154 1 63 [(1, .int 11), (0, .ref 116)] [.int 0] ig27 ag27 qg27 rg27 (by rfl) ?_
            exact ft_ret mi_k154 (by rfl) (hP 0 _ _ _ _ hG35 (Or.inr ⟨rfl, (oz850 p4_0 p4_3 p4_4 p4_5 s25 z34.1 z34.2.1 z34.2.2.1 z34.2.2.2.1 z34.2.2.2.2 kn1)⟩))
    exact lp4 _ _ _ _ _ (kG_self _ hGg1.I hGg1.R) (oz719 z2.1) (oz839 z2.2.2.2.2.2) (oz173 z2.2.2.1) (oz840 z2.2.2.2.1) (oz173 z2.2.2.2.2.1) (oz841 z2.2.2.2.2.2) (kRun_cast hR3 rfl (congrArg Int.toNat oz34)) (Nat.lt_succ_self _)
  ·
    subst eg1
    have fig1_7437 : ((0 : Int) ≤ (ig1 7437).toInt) ∧ ((ig1 7437).toInt ≤ 120) := hGg1.I.1 7437
    have fig1_7429 : ((0 : Int) ≤ (ig1 7429).toInt) ∧ ((ig1 7429).toInt ≤ 120) := hGg1.I.1 7429
    have efig1_7429 : (ig1 7429).toInt = (i 7429).toInt := kg1.ti 7429 rfl
    have fig1_7439 : ((0 : Int) ≤ (ig1 7439).toInt) ∧ ((ig1 7439).toInt ≤ 200) := hGg1.I.1 7439
    have z36 : ((ig1 7438).toInt = (i 7438).toInt) ∧ ((i 7437).toInt ≤ (ig1 7437).toInt) ∧ ((ig1 7437).toInt ≤ (ig1 7429).toInt) ∧ (((ig1 7439).toInt - (ig1 7437).toInt) ≤ ((i 7439).toInt - (i 7437).toInt)) ∧ ((i 7439).toInt ≤ (ig1 7439).toInt) := hg1
    refine ft_go mi_k154 2 8 [(0, .ref 116)] [.int 0] ig1 ag1 qg1 rg1 (by rfl) ?_
    exact ft_ret mi_k154 (by rfl) (hP 0 _ _ _ _ hGg1 (Or.inr ⟨rfl, (oz842 z36.1 z36.2.1 z36.2.2.1 z36.2.2.2.1 z36.2.2.2.2)⟩))
set_option maxRecDepth 100000 in
theorem kLsR_155 (n : Nat) (h152 : kLR_152 n) (h153 : kLR_153 n) (h154 : kLR_154 n) : kLR_155 n := by
  intro i a q r hI hr hp0 hp1 hp2
  have hG := kG_self wR hI hr
  refine km_ofI (q := (mi_h155, mi_c155)) rfl (by decide) (Nat.le_of_ble_eq_true rfl) ?_
  intro P hP
  have fi_7439 : ((0 : Int) ≤ (i 7439).toInt) ∧ ((i 7439).toInt ≤ 200) := hG.I.1 7439
  have fi_7437 : ((0 : Int) ≤ (i 7437).toInt) ∧ ((i 7437).toInt ≤ 120) := hG.I.1 7437
  have fi_7429 : ((0 : Int) ≤ (i 7429).toInt) ∧ ((i 7429).toInt ≤ 120) := hG.I.1 7429
  have hn0 : (0 : Int) ≤ (n : Int) := Int.natCast_nonneg n
  have hR0 := kRun_start (a 127) ((i 7439).toInt.toNat)
  refine ft_go mi_k155 1 1 [(0, .ref 116)] [.ref 116] i a q r (by rfl) ?_
  refine ko_callI mi_k155.1 (pc := 1) (ls := [(0, .ref 116)]) (st := [.ref 116]) (h := ks i a q r) (i := (.invokevirtual 199, 3, 154, 0, 9, 0, 400)) (mi_k155.2 _ _ (by rfl)) (ft_invS mi_pq154 (by rfl)) (cy := mi_c154) mi_pq154 rfl (h154 _ _ _ _ hG.I hG.R (oz808 hp0) (oz173 hp1) (oz173 hp2)) (kj_d1 (n := n) (o := 12) (o1 := 13) (by decide)) ?_
  intro vg1 ig1 ag1 qg1 rg1 kg1 hg1
  have hGg1 := kG_call hG kg1 (by decide +kernel)
  rcases hg1 with ⟨eg1, hg1⟩ | ⟨eg1, hg1⟩
  ·
    subst eg1
    obtain ⟨hg1, og1⟩ := hg1
    have fig1_7437 : ((0 : Int) ≤ (ig1 7437).toInt) ∧ ((ig1 7437).toInt ≤ 120) := hGg1.I.1 7437
    have fig1_7429 : ((0 : Int) ≤ (ig1 7429).toInt) ∧ ((ig1 7429).toInt ≤ 120) := hGg1.I.1 7429
    have efig1_7429 : (ig1 7429).toInt = (i 7429).toInt := kg1.ti 7429 rfl
    have fig1_7439 : ((0 : Int) ≤ (ig1 7439).toInt) ∧ ((ig1 7439).toInt ≤ 200) := hGg1.I.1 7439
    have z2 : ((ig1 7438).toInt = (i 7438).toInt) ∧ ((i 7437).toInt ≤ (ig1 7437).toInt) ∧ ((ig1 7437).toInt ≤ (ig1 7429).toInt) ∧ (((ig1 7439).toInt - (ig1 7437).toInt) ≤ ((i 7439).toInt - (i 7437).toInt)) ∧ ((i 7439).toInt ≤ (ig1 7439).toInt) ∧ (((i 7437).toInt + 1) ≤ (ig1 7437).toInt) := hg1
    have hR3 := kRun_sub (kRun_cast hR0 rfl (congrArg Int.toNat oz34)) og1
    refine ft_go mi_k155 2 10 [(0, .ref 116)] [.ref 116] ig1 ag1 qg1 rg1 (by rfl) ?_
    refine ko_callPI mi_k155.1 (pc := 10) (ls := [(0, .ref 116)]) (st := [.ref 116]) (h := ks ig1 ag1 qg1 rg1) (i := (.invokevirtual 166, 3, 147, 0, 9, 0, 404)) (mi_k155.2 _ _ (by rfl)) (ft_invS mi_pq147 (by rfl)) (cy := mi_c147) mi_pq147 rfl (kc147_116 hGg1.I hGg1.R ) (kj_d3 (n := n) (c := 1) (o1 := 13) (by decide)) ?_
    intro vg4 hg4
    have z5 : ((vg4.toInt = (-1)) ∧ ((ig1 7429).toInt ≤ (ig1 7437).toInt)) ∨ (((ig1 7437).toInt < (ig1 7429).toInt) ∧ (vg4.toInt = ((ag1 119).getD (ig1 7437).toNatClampNeg 0).toInt)) := hg4
    refine ft_go mi_k155 1 15 [(0, .ref 116)] [.int 60, .int vg4] ig1 ag1 qg1 rg1 (by rfl) ?_
    refine ft_if mi_k155 (vg4 != 60) 23 18 [(0, .ref 116)] [] (by rfl) (fun c => ?_) (fun c => ?_)
    ·
      have c6 : vg4.toInt ≠ (60 : Int32).toInt := kd_ne c; clear c
      refine ft_go mi_k155 1 24 [(0, .ref 116)] [.ref 116] ig1 ag1 qg1 rg1 (by rfl) ?_
      refine ko_callPI mi_k155.1 (pc := 24) (ls := [(0, .ref 116)]) (st := [.ref 116]) (h := ks ig1 ag1 qg1 rg1) (i := (.invokevirtual 166, 3, 147, 0, 9, 0, 404)) (mi_k155.2 _ _ (by rfl)) (ft_invS mi_pq147 (by rfl)) (cy := mi_c147) mi_pq147 rfl (kc147_116 hGg1.I hGg1.R ) (kj_d3 (n := n) (c := 1) (o1 := 13) (by decide)) ?_
      intro vg7 hg7
      have z8 : ((vg7.toInt = (-1)) ∧ ((ig1 7429).toInt ≤ (ig1 7437).toInt)) ∨ (((ig1 7437).toInt < (ig1 7429).toInt) ∧ (vg7.toInt = ((ag1 119).getD (ig1 7437).toNatClampNeg 0).toInt)) := hg7
      refine ft_go mi_k155 1 29 [(0, .ref 116)] [.int 61, .int vg7] ig1 ag1 qg1 rg1 (by rfl) ?_
      refine ft_if mi_k155 (vg7 != 61) 37 32 [(0, .ref 116)] [] (by rfl) (fun c => ?_) (fun c => ?_)
      ·
        have c9 : vg7.toInt ≠ (61 : Int32).toInt := kd_ne c; clear c
        refine ft_go mi_k155 1 38 [(0, .ref 116)] [.ref 116] ig1 ag1 qg1 rg1 (by rfl) ?_
        refine ko_callPI mi_k155.1 (pc := 38) (ls := [(0, .ref 116)]) (st := [.ref 116]) (h := ks ig1 ag1 qg1 rg1) (i := (.invokevirtual 166, 3, 147, 0, 9, 0, 404)) (mi_k155.2 _ _ (by rfl)) (ft_invS mi_pq147 (by rfl)) (cy := mi_c147) mi_pq147 rfl (kc147_116 hGg1.I hGg1.R ) (kj_d3 (n := n) (c := 1) (o1 := 13) (by decide)) ?_
        intro vg10 hg10
        have z11 : ((vg10.toInt = (-1)) ∧ ((ig1 7429).toInt ≤ (ig1 7437).toInt)) ∨ (((ig1 7437).toInt < (ig1 7429).toInt) ∧ (vg10.toInt = ((ag1 119).getD (ig1 7437).toNatClampNeg 0).toInt)) := hg10
        refine ft_go mi_k155 1 43 [(0, .ref 116)] [.int 62, .int vg10] ig1 ag1 qg1 rg1 (by rfl) ?_
        refine ft_if mi_k155 (vg10 != 62) 51 46 [(0, .ref 116)] [] (by rfl) (fun c => ?_) (fun c => ?_)
        ·
          have c12 : vg10.toInt ≠ (62 : Int32).toInt := kd_ne c; clear c
          refine ft_go mi_k155 5 58 [(1, .int (-1)), (0, .ref 116)] [.int 1] ig1 ag1 qg1 rg1 (by rfl) ?_
          exact ft_ret mi_k155 (by rfl) (hP 1 _ _ _ _ hGg1 (Or.inl ⟨rfl, ⟨(oz843 z2.1 z2.2.2.1 z2.2.2.2.1 z2.2.2.2.2.1 z2.2.2.2.2.2), (kRun_cast hR3 rfl (congrArg Int.toNat oz34))⟩⟩))
        ·
          have c13 : vg10.toInt = (62 : Int32).toInt := kd_neF c; clear c
          have s14 : ((ig1 7437) + 1).toInt = (ig1 7437).toInt + (1 : Int32).toInt := kd_add (oz12 fig1_7437.1 kn1) (oz192 fig1_7437.2 kn1)
          have hJ15 := kG_i hGg1 7437 rfl (v := ((ig1 7437) + 1)) ⟨(oz14 fig1_7437.1 s14 kn1), (oz861 c13 fig1_7429.2 s14 z11 kn62 kn1)⟩
          refine ft_go mi_k155 12 70 [(1, .int 10), (0, .ref 116)] [.ref 116] (ku ig1 7437 ((ig1 7437) + 1)) ag1 qg1 rg1 (by rfl) ?_
          refine ko_callI mi_k155.1 (pc := 70) (ls := [(1, .int 10), (0, .ref 116)]) (st := [.ref 116]) (h := ks (ku ig1 7437 ((ig1 7437) + 1)) ag1 qg1 rg1) (i := (.invokevirtual 199, 3, 154, 0, 9, 0, 400)) (mi_k155.2 _ _ (by rfl)) (ft_invS mi_pq154 (by rfl)) (cy := mi_c154) mi_pq154 rfl (h154 _ _ _ _ hJ15.I hJ15.R (oz844 hp0 z2.1) (oz862 hp1 s14 z2.2.2.2.1 kn1) (oz863 c13 s14 z11 kn62 kn1)) (kj_d1 (n := n) (o := 12) (o1 := 13) (by decide)) ?_
          intro vg16 ig16 ag16 qg16 rg16 kg16 hg16
          have hGg16 := kG_call hJ15 kg16 (by decide +kernel)
          rcases hg16 with ⟨eg16, hg16⟩ | ⟨eg16, hg16⟩
          ·
            subst eg16
            obtain ⟨hg16, og16⟩ := hg16
            have fig16_7437 : ((0 : Int) ≤ (ig16 7437).toInt) ∧ ((ig16 7437).toInt ≤ 120) := hGg16.I.1 7437
            have fig16_7429 : ((0 : Int) ≤ (ig16 7429).toInt) ∧ ((ig16 7429).toInt ≤ 120) := hGg16.I.1 7429
            have efig16_7429 : (ig16 7429).toInt = (ig1 7429).toInt := kg16.ti 7429 rfl
            have fig16_7439 : ((0 : Int) ≤ (ig16 7439).toInt) ∧ ((ig16 7439).toInt ≤ 200) := hGg16.I.1 7439
            have z17 : ((ig16 7438).toInt = (ig1 7438).toInt) ∧ (((ig1 7437) + 1).toInt ≤ (ig16 7437).toInt) ∧ ((ig16 7437).toInt ≤ (ig16 7429).toInt) ∧ (((ig16 7439).toInt - (ig16 7437).toInt) ≤ ((ig1 7439).toInt - ((ig1 7437) + 1).toInt)) ∧ ((ig1 7439).toInt ≤ (ig16 7439).toInt) ∧ ((((ig1 7437) + 1).toInt + 1) ≤ (ig16 7437).toInt) := hg16
            have hR18 := kRun_sub (kRun_cast hR3 rfl (congrArg Int.toNat oz34)) og16
            refine ft_go mi_k155 3 78 [(1, .int 10), (0, .ref 116)] [.int 10, .ref 116] ig16 ag16 qg16 rg16 (by rfl) ?_
            refine ko_callI mi_k155.1 (pc := 78) (ls := [(1, .int 10), (0, .ref 116)]) (st := [.int 10, .ref 116]) (h := ks ig16 ag16 qg16 rg16) (i := (.invokevirtual 177, 3, 149, 0, 9, 0, 405)) (mi_k155.2 _ _ (by rfl)) (ft_invS mi_pq149 (by rfl)) (cy := mi_c149) mi_pq149 rfl (kc149_116 hGg16.I hGg16.R 10 (oz864 fig16_7437.2 fig16_7439.1 hp1 s14 z17.2.2.2.1 z2.2.2.2.1 kn1)) (kj_d3 (n := n) (c := 1) (o1 := 13) (by decide)) ?_
            intro vg19 ig19 ag19 qg19 rg19 kg19 hg19
            have hGg19 := kG_call hGg16 kg19 (by decide +kernel)
            rcases hg19 with ⟨eg19, hg19⟩ | ⟨eg19, hg19⟩
            ·
              subst eg19
              obtain ⟨hg19, og19⟩ := hg19
              have fig19_7439 : ((0 : Int) ≤ (ig19 7439).toInt) ∧ ((ig19 7439).toInt ≤ 200) := hGg19.I.1 7439
              have z20 : (ig19 7439).toInt = ((ig16 7439).toInt + 1) := hg19
              have hR21 := kRun_code (x := (ig16 7439)) (d := (ig19 7439).toInt.toNat) (kRun_cast hR18 rfl (congrArg Int.toNat oz34)) rfl (kj_len (n := 200) (c := 200) (hGg16.I.2.1 127) rfl (oz750 fig19_7439.2 z20) (by decide)) og19 (kEff_bin (oz865 kn10) (oz866 kn10) (by decide)) (kj_tn (oz751 z20) (oz3 fig16_7439.1))
              refine ft_go mi_k155 3 89 [(1, .int 10), (0, .ref 116)] [.int 1] ig19 ag19 qg19 rg19 (by rfl) ?_
              have efig19_7438 : (ig19 7438).toInt = (ig16 7438).toInt := kg19.ti 7438 rfl
              have fig19_7437 : ((0 : Int) ≤ (ig19 7437).toInt) ∧ ((ig19 7437).toInt ≤ 120) := hGg19.I.1 7437
              have efig19_7437 : (ig19 7437).toInt = (ig16 7437).toInt := kg19.ti 7437 rfl
              have fig19_7429 : ((0 : Int) ≤ (ig19 7429).toInt) ∧ ((ig19 7429).toInt ≤ 120) := hGg19.I.1 7429
              have efig19_7429 : (ig19 7429).toInt = (ig16 7429).toInt := kg19.ti 7429 rfl
              exact ft_ret mi_k155 (by rfl) (hP 1 _ _ _ _ hGg19 (Or.inl ⟨rfl, ⟨(oz867 efig19_7429 efig19_7437 efig19_7438 s14 z17.1 z17.2.2.1 z17.2.2.2.1 z17.2.2.2.2.1 z17.2.2.2.2.2 z2.1 z2.2.2.2.1 z2.2.2.2.2.1 z2.2.2.2.2.2 z20 kn1), (kRun_cast hR21 rfl (congrArg Int.toNat oz34))⟩⟩))
            ·
              subst eg19
              have z22 : (2 : Int) ≤ 1 := hg19
              exact (oz755 z22).elim
          ·
            subst eg16
            have fig16_7437 : ((0 : Int) ≤ (ig16 7437).toInt) ∧ ((ig16 7437).toInt ≤ 120) := hGg16.I.1 7437
            have fig16_7429 : ((0 : Int) ≤ (ig16 7429).toInt) ∧ ((ig16 7429).toInt ≤ 120) := hGg16.I.1 7429
            have efig16_7429 : (ig16 7429).toInt = (ig1 7429).toInt := kg16.ti 7429 rfl
            have fig16_7439 : ((0 : Int) ≤ (ig16 7439).toInt) ∧ ((ig16 7439).toInt ≤ 200) := hGg16.I.1 7439
            have z23 : ((ig16 7438).toInt = (ig1 7438).toInt) ∧ (((ig1 7437) + 1).toInt ≤ (ig16 7437).toInt) ∧ ((ig16 7437).toInt ≤ (ig16 7429).toInt) ∧ (((ig16 7439).toInt - (ig16 7437).toInt) ≤ ((ig1 7439).toInt - ((ig1 7437) + 1).toInt)) ∧ ((ig1 7439).toInt ≤ (ig16 7439).toInt) := hg16
            refine ft_go mi_k155 2 89 [(1, .int 10), (0, .ref 116)] [.int 0] ig16 ag16 qg16 rg16 (by rfl) ?_
            exact ft_ret mi_k155 (by rfl) (hP 0 _ _ _ _ hGg16 (Or.inr ⟨rfl, (oz868 s14 z2.1 z2.2.2.2.1 z2.2.2.2.2.1 z2.2.2.2.2.2 z23.1 z23.2.1 z23.2.2.1 z23.2.2.2.1 z23.2.2.2.2 kn1)⟩))
      ·
        have c24 : vg7.toInt = (61 : Int32).toInt := kd_neF c; clear c
        have s25 : ((ig1 7437) + 1).toInt = (ig1 7437).toInt + (1 : Int32).toInt := kd_add (oz12 fig1_7437.1 kn1) (oz192 fig1_7437.2 kn1)
        have hJ26 := kG_i hGg1 7437 rfl (v := ((ig1 7437) + 1)) ⟨(oz14 fig1_7437.1 s25 kn1), (oz869 c24 fig1_7429.2 s25 z8 kn61 kn1)⟩
        refine ft_go mi_k155 12 70 [(1, .int 9), (0, .ref 116)] [.ref 116] (ku ig1 7437 ((ig1 7437) + 1)) ag1 qg1 rg1 (by rfl) ?_
        refine ko_callI mi_k155.1 (pc := 70) (ls := [(1, .int 9), (0, .ref 116)]) (st := [.ref 116]) (h := ks (ku ig1 7437 ((ig1 7437) + 1)) ag1 qg1 rg1) (i := (.invokevirtual 199, 3, 154, 0, 9, 0, 400)) (mi_k155.2 _ _ (by rfl)) (ft_invS mi_pq154 (by rfl)) (cy := mi_c154) mi_pq154 rfl (h154 _ _ _ _ hJ26.I hJ26.R (oz844 hp0 z2.1) (oz862 hp1 s25 z2.2.2.2.1 kn1) (oz870 c24 s25 z8 kn61 kn1)) (kj_d1 (n := n) (o := 12) (o1 := 13) (by decide)) ?_
        intro vg27 ig27 ag27 qg27 rg27 kg27 hg27
        have hGg27 := kG_call hJ26 kg27 (by decide +kernel)
        rcases hg27 with ⟨eg27, hg27⟩ | ⟨eg27, hg27⟩
        ·
          subst eg27
          obtain ⟨hg27, og27⟩ := hg27
          have fig27_7437 : ((0 : Int) ≤ (ig27 7437).toInt) ∧ ((ig27 7437).toInt ≤ 120) := hGg27.I.1 7437
          have fig27_7429 : ((0 : Int) ≤ (ig27 7429).toInt) ∧ ((ig27 7429).toInt ≤ 120) := hGg27.I.1 7429
          have efig27_7429 : (ig27 7429).toInt = (ig1 7429).toInt := kg27.ti 7429 rfl
          have fig27_7439 : ((0 : Int) ≤ (ig27 7439).toInt) ∧ ((ig27 7439).toInt ≤ 200) := hGg27.I.1 7439
          have z28 : ((ig27 7438).toInt = (ig1 7438).toInt) ∧ (((ig1 7437) + 1).toInt ≤ (ig27 7437).toInt) ∧ ((ig27 7437).toInt ≤ (ig27 7429).toInt) ∧ (((ig27 7439).toInt - (ig27 7437).toInt) ≤ ((ig1 7439).toInt - ((ig1 7437) + 1).toInt)) ∧ ((ig1 7439).toInt ≤ (ig27 7439).toInt) ∧ ((((ig1 7437) + 1).toInt + 1) ≤ (ig27 7437).toInt) := hg27
          have hR29 := kRun_sub (kRun_cast hR3 rfl (congrArg Int.toNat oz34)) og27
          refine ft_go mi_k155 3 78 [(1, .int 9), (0, .ref 116)] [.int 9, .ref 116] ig27 ag27 qg27 rg27 (by rfl) ?_
          refine ko_callI mi_k155.1 (pc := 78) (ls := [(1, .int 9), (0, .ref 116)]) (st := [.int 9, .ref 116]) (h := ks ig27 ag27 qg27 rg27) (i := (.invokevirtual 177, 3, 149, 0, 9, 0, 405)) (mi_k155.2 _ _ (by rfl)) (ft_invS mi_pq149 (by rfl)) (cy := mi_c149) mi_pq149 rfl (kc149_116 hGg27.I hGg27.R 9 (oz871 fig27_7437.2 fig27_7439.1 hp1 s25 z2.2.2.2.1 z28.2.2.2.1 kn1)) (kj_d3 (n := n) (c := 1) (o1 := 13) (by decide)) ?_
          intro vg30 ig30 ag30 qg30 rg30 kg30 hg30
          have hGg30 := kG_call hGg27 kg30 (by decide +kernel)
          rcases hg30 with ⟨eg30, hg30⟩ | ⟨eg30, hg30⟩
          ·
            subst eg30
            obtain ⟨hg30, og30⟩ := hg30
            have fig30_7439 : ((0 : Int) ≤ (ig30 7439).toInt) ∧ ((ig30 7439).toInt ≤ 200) := hGg30.I.1 7439
            have z31 : (ig30 7439).toInt = ((ig27 7439).toInt + 1) := hg30
            have hR32 := kRun_code (x := (ig27 7439)) (d := (ig30 7439).toInt.toNat) (kRun_cast hR29 rfl (congrArg Int.toNat oz34)) rfl (kj_len (n := 200) (c := 200) (hGg27.I.2.1 127) rfl (oz750 fig30_7439.2 z31) (by decide)) og30 (kEff_bin (oz872 kn9) (oz873 kn9) (by decide)) (kj_tn (oz751 z31) (oz3 fig27_7439.1))
            refine ft_go mi_k155 3 89 [(1, .int 9), (0, .ref 116)] [.int 1] ig30 ag30 qg30 rg30 (by rfl) ?_
            have efig30_7438 : (ig30 7438).toInt = (ig27 7438).toInt := kg30.ti 7438 rfl
            have fig30_7437 : ((0 : Int) ≤ (ig30 7437).toInt) ∧ ((ig30 7437).toInt ≤ 120) := hGg30.I.1 7437
            have efig30_7437 : (ig30 7437).toInt = (ig27 7437).toInt := kg30.ti 7437 rfl
            have fig30_7429 : ((0 : Int) ≤ (ig30 7429).toInt) ∧ ((ig30 7429).toInt ≤ 120) := hGg30.I.1 7429
            have efig30_7429 : (ig30 7429).toInt = (ig27 7429).toInt := kg30.ti 7429 rfl
            exact ft_ret mi_k155 (by rfl) (hP 1 _ _ _ _ hGg30 (Or.inl ⟨rfl, ⟨(oz874 efig30_7429 efig30_7437 efig30_7438 s25 z2.1 z2.2.2.2.1 z2.2.2.2.2.1 z2.2.2.2.2.2 z28.1 z28.2.2.1 z28.2.2.2.1 z28.2.2.2.2.1 z28.2.2.2.2.2 z31 kn1), (kRun_cast hR32 rfl (congrArg Int.toNat oz34))⟩⟩))
          ·
            subst eg30
            have z33 : (2 : Int) ≤ 1 := hg30
            exact (oz755 z33).elim
        ·
          subst eg27
          have fig27_7437 : ((0 : Int) ≤ (ig27 7437).toInt) ∧ ((ig27 7437).toInt ≤ 120) := hGg27.I.1 7437
          have fig27_7429 : ((0 : Int) ≤ (ig27 7429).toInt) ∧ ((ig27 7429).toInt ≤ 120) := hGg27.I.1 7429
          have efig27_7429 : (ig27 7429).toInt = (ig1 7429).toInt := kg27.ti 7429 rfl
          have fig27_7439 : ((0 : Int) ≤ (ig27 7439).toInt) ∧ ((ig27 7439).toInt ≤ 200) := hGg27.I.1 7439
          have z34 : ((ig27 7438).toInt = (ig1 7438).toInt) ∧ (((ig1 7437) + 1).toInt ≤ (ig27 7437).toInt) ∧ ((ig27 7437).toInt ≤ (ig27 7429).toInt) ∧ (((ig27 7439).toInt - (ig27 7437).toInt) ≤ ((ig1 7439).toInt - ((ig1 7437) + 1).toInt)) ∧ ((ig1 7439).toInt ≤ (ig27 7439).toInt) := hg27
          refine ft_go mi_k155 2 89 [(1, .int 9), (0, .ref 116)] [.int 0] ig27 ag27 qg27 rg27 (by rfl) ?_
          exact ft_ret mi_k155 (by rfl) (hP 0 _ _ _ _ hGg27 (Or.inr ⟨rfl, (oz868 s25 z2.1 z2.2.2.2.1 z2.2.2.2.2.1 z2.2.2.2.2.2 z34.1 z34.2.1 z34.2.2.1 z34.2.2.2.1 z34.2.2.2.2 kn1)⟩))
    ·
      have c35 : vg4.toInt = (60 : Int32).toInt := kd_neF c; clear c
      have s36 : ((ig1 7437) + 1).toInt = (ig1 7437).toInt + (1 : Int32).toInt := kd_add (oz12 fig1_7437.1 kn1) (oz192 fig1_7437.2 kn1)
      have hJ37 := kG_i hGg1 7437 rfl (v := ((ig1 7437) + 1)) ⟨(oz14 fig1_7437.1 s36 kn1), (oz875 c35 fig1_7429.2 s36 z5 kn60 kn1)⟩
      refine ft_go mi_k155 12 70 [(1, .int 8), (0, .ref 116)] [.ref 116] (ku ig1 7437 ((ig1 7437) + 1)) ag1 qg1 rg1 (by rfl) ?_
      refine ko_callI mi_k155.1 (pc := 70) (ls := [(1, .int 8), (0, .ref 116)]) (st := [.ref 116]) (h := ks (ku ig1 7437 ((ig1 7437) + 1)) ag1 qg1 rg1) (i := (.invokevirtual 199, 3, 154, 0, 9, 0, 400)) (mi_k155.2 _ _ (by rfl)) (ft_invS mi_pq154 (by rfl)) (cy := mi_c154) mi_pq154 rfl (h154 _ _ _ _ hJ37.I hJ37.R (oz844 hp0 z2.1) (oz862 hp1 s36 z2.2.2.2.1 kn1) (oz876 c35 s36 z5 kn60 kn1)) (kj_d1 (n := n) (o := 12) (o1 := 13) (by decide)) ?_
      intro vg38 ig38 ag38 qg38 rg38 kg38 hg38
      have hGg38 := kG_call hJ37 kg38 (by decide +kernel)
      rcases hg38 with ⟨eg38, hg38⟩ | ⟨eg38, hg38⟩
      ·
        subst eg38
        obtain ⟨hg38, og38⟩ := hg38
        have fig38_7437 : ((0 : Int) ≤ (ig38 7437).toInt) ∧ ((ig38 7437).toInt ≤ 120) := hGg38.I.1 7437
        have fig38_7429 : ((0 : Int) ≤ (ig38 7429).toInt) ∧ ((ig38 7429).toInt ≤ 120) := hGg38.I.1 7429
        have efig38_7429 : (ig38 7429).toInt = (ig1 7429).toInt := kg38.ti 7429 rfl
        have fig38_7439 : ((0 : Int) ≤ (ig38 7439).toInt) ∧ ((ig38 7439).toInt ≤ 200) := hGg38.I.1 7439
        have z39 : ((ig38 7438).toInt = (ig1 7438).toInt) ∧ (((ig1 7437) + 1).toInt ≤ (ig38 7437).toInt) ∧ ((ig38 7437).toInt ≤ (ig38 7429).toInt) ∧ (((ig38 7439).toInt - (ig38 7437).toInt) ≤ ((ig1 7439).toInt - ((ig1 7437) + 1).toInt)) ∧ ((ig1 7439).toInt ≤ (ig38 7439).toInt) ∧ ((((ig1 7437) + 1).toInt + 1) ≤ (ig38 7437).toInt) := hg38
        have hR40 := kRun_sub (kRun_cast hR3 rfl (congrArg Int.toNat oz34)) og38
        refine ft_go mi_k155 3 78 [(1, .int 8), (0, .ref 116)] [.int 8, .ref 116] ig38 ag38 qg38 rg38 (by rfl) ?_
        refine ko_callI mi_k155.1 (pc := 78) (ls := [(1, .int 8), (0, .ref 116)]) (st := [.int 8, .ref 116]) (h := ks ig38 ag38 qg38 rg38) (i := (.invokevirtual 177, 3, 149, 0, 9, 0, 405)) (mi_k155.2 _ _ (by rfl)) (ft_invS mi_pq149 (by rfl)) (cy := mi_c149) mi_pq149 rfl (kc149_116 hGg38.I hGg38.R 8 (oz871 fig38_7437.2 fig38_7439.1 hp1 s36 z2.2.2.2.1 z39.2.2.2.1 kn1)) (kj_d3 (n := n) (c := 1) (o1 := 13) (by decide)) ?_
        intro vg41 ig41 ag41 qg41 rg41 kg41 hg41
        have hGg41 := kG_call hGg38 kg41 (by decide +kernel)
        rcases hg41 with ⟨eg41, hg41⟩ | ⟨eg41, hg41⟩
        ·
          subst eg41
          obtain ⟨hg41, og41⟩ := hg41
          have fig41_7439 : ((0 : Int) ≤ (ig41 7439).toInt) ∧ ((ig41 7439).toInt ≤ 200) := hGg41.I.1 7439
          have z42 : (ig41 7439).toInt = ((ig38 7439).toInt + 1) := hg41
          have hR43 := kRun_code (x := (ig38 7439)) (d := (ig41 7439).toInt.toNat) (kRun_cast hR40 rfl (congrArg Int.toNat oz34)) rfl (kj_len (n := 200) (c := 200) (hGg38.I.2.1 127) rfl (oz750 fig41_7439.2 z42) (by decide)) og41 (kEff_bin (oz877 kn8) (oz878 kn8) (by decide)) (kj_tn (oz751 z42) (oz3 fig38_7439.1))
          refine ft_go mi_k155 3 89 [(1, .int 8), (0, .ref 116)] [.int 1] ig41 ag41 qg41 rg41 (by rfl) ?_
          have efig41_7438 : (ig41 7438).toInt = (ig38 7438).toInt := kg41.ti 7438 rfl
          have fig41_7437 : ((0 : Int) ≤ (ig41 7437).toInt) ∧ ((ig41 7437).toInt ≤ 120) := hGg41.I.1 7437
          have efig41_7437 : (ig41 7437).toInt = (ig38 7437).toInt := kg41.ti 7437 rfl
          have fig41_7429 : ((0 : Int) ≤ (ig41 7429).toInt) ∧ ((ig41 7429).toInt ≤ 120) := hGg41.I.1 7429
          have efig41_7429 : (ig41 7429).toInt = (ig38 7429).toInt := kg41.ti 7429 rfl
          exact ft_ret mi_k155 (by rfl) (hP 1 _ _ _ _ hGg41 (Or.inl ⟨rfl, ⟨(oz874 efig41_7429 efig41_7437 efig41_7438 s36 z2.1 z2.2.2.2.1 z2.2.2.2.2.1 z2.2.2.2.2.2 z39.1 z39.2.2.1 z39.2.2.2.1 z39.2.2.2.2.1 z39.2.2.2.2.2 z42 kn1), (kRun_cast hR43 rfl (congrArg Int.toNat oz34))⟩⟩))
        ·
          subst eg41
          have z44 : (2 : Int) ≤ 1 := hg41
          exact (oz755 z44).elim
      ·
        subst eg38
        have fig38_7437 : ((0 : Int) ≤ (ig38 7437).toInt) ∧ ((ig38 7437).toInt ≤ 120) := hGg38.I.1 7437
        have fig38_7429 : ((0 : Int) ≤ (ig38 7429).toInt) ∧ ((ig38 7429).toInt ≤ 120) := hGg38.I.1 7429
        have efig38_7429 : (ig38 7429).toInt = (ig1 7429).toInt := kg38.ti 7429 rfl
        have fig38_7439 : ((0 : Int) ≤ (ig38 7439).toInt) ∧ ((ig38 7439).toInt ≤ 200) := hGg38.I.1 7439
        have z45 : ((ig38 7438).toInt = (ig1 7438).toInt) ∧ (((ig1 7437) + 1).toInt ≤ (ig38 7437).toInt) ∧ ((ig38 7437).toInt ≤ (ig38 7429).toInt) ∧ (((ig38 7439).toInt - (ig38 7437).toInt) ≤ ((ig1 7439).toInt - ((ig1 7437) + 1).toInt)) ∧ ((ig1 7439).toInt ≤ (ig38 7439).toInt) := hg38
        refine ft_go mi_k155 2 89 [(1, .int 8), (0, .ref 116)] [.int 0] ig38 ag38 qg38 rg38 (by rfl) ?_
        exact ft_ret mi_k155 (by rfl) (hP 0 _ _ _ _ hGg38 (Or.inr ⟨rfl, (oz868 s36 z2.1 z2.2.2.2.1 z2.2.2.2.2.1 z2.2.2.2.2.2 z45.1 z45.2.1 z45.2.2.1 z45.2.2.2.1 z45.2.2.2.2 kn1)⟩))
  ·
    subst eg1
    have fig1_7437 : ((0 : Int) ≤ (ig1 7437).toInt) ∧ ((ig1 7437).toInt ≤ 120) := hGg1.I.1 7437
    have fig1_7429 : ((0 : Int) ≤ (ig1 7429).toInt) ∧ ((ig1 7429).toInt ≤ 120) := hGg1.I.1 7429
    have efig1_7429 : (ig1 7429).toInt = (i 7429).toInt := kg1.ti 7429 rfl
    have fig1_7439 : ((0 : Int) ≤ (ig1 7439).toInt) ∧ ((ig1 7439).toInt ≤ 200) := hGg1.I.1 7439
    have z46 : ((ig1 7438).toInt = (i 7438).toInt) ∧ ((i 7437).toInt ≤ (ig1 7437).toInt) ∧ ((ig1 7437).toInt ≤ (ig1 7429).toInt) ∧ (((ig1 7439).toInt - (ig1 7437).toInt) ≤ ((i 7439).toInt - (i 7437).toInt)) ∧ ((i 7439).toInt ≤ (ig1 7439).toInt) := hg1
    refine ft_go mi_k155 2 8 [(0, .ref 116)] [.int 0] ig1 ag1 qg1 rg1 (by rfl) ?_
    exact ft_ret mi_k155 (by rfl) (hP 0 _ _ _ _ hGg1 (Or.inr ⟨rfl, (oz842 z46.1 z46.2.1 z46.2.2.1 z46.2.2.2.1 z46.2.2.2.2)⟩))
set_option maxRecDepth 100000 in
theorem kLsR_156 (n : Nat) (h152 : kLR_152 n) (h153 : kLR_153 n) (h154 : kLR_154 n) (h155 : kLR_155 n) : kLR_156 n := by
  intro i a q r hI hr hp0 hp1 hp2
  have hG := kG_self wR hI hr
  refine km_ofI (q := (mi_h156, mi_c156)) rfl (by decide) (Nat.le_of_ble_eq_true rfl) ?_
  intro P hP
  have fi_7439 : ((0 : Int) ≤ (i 7439).toInt) ∧ ((i 7439).toInt ≤ 200) := hG.I.1 7439
  have fi_7437 : ((0 : Int) ≤ (i 7437).toInt) ∧ ((i 7437).toInt ≤ 120) := hG.I.1 7437
  have fi_7429 : ((0 : Int) ≤ (i 7429).toInt) ∧ ((i 7429).toInt ≤ 120) := hG.I.1 7429
  have hn0 : (0 : Int) ≤ (n : Int) := Int.natCast_nonneg n
  have hR0 := kRun_start (a 127) ((i 7439).toInt.toNat)
  refine ft_go mi_k156 1 1 [(0, .ref 116)] [.ref 116] i a q r (by rfl) ?_
  refine ko_callI mi_k156.1 (pc := 1) (ls := [(0, .ref 116)]) (st := [.ref 116]) (h := ks i a q r) (i := (.invokevirtual 202, 3, 155, 0, 9, 0, 399)) (mi_k156.2 _ _ (by rfl)) (ft_invS mi_pq155 (by rfl)) (cy := mi_c155) mi_pq155 rfl (h155 _ _ _ _ hG.I hG.R (oz808 hp0) (oz173 hp1) (oz173 hp2)) (kj_d1 (n := n) (o := 13) (o1 := 14) (by decide)) ?_
  intro vg1 ig1 ag1 qg1 rg1 kg1 hg1
  have hGg1 := kG_call hG kg1 (by decide +kernel)
  rcases hg1 with ⟨eg1, hg1⟩ | ⟨eg1, hg1⟩
  ·
    subst eg1
    obtain ⟨hg1, og1⟩ := hg1
    have fig1_7437 : ((0 : Int) ≤ (ig1 7437).toInt) ∧ ((ig1 7437).toInt ≤ 120) := hGg1.I.1 7437
    have fig1_7429 : ((0 : Int) ≤ (ig1 7429).toInt) ∧ ((ig1 7429).toInt ≤ 120) := hGg1.I.1 7429
    have efig1_7429 : (ig1 7429).toInt = (i 7429).toInt := kg1.ti 7429 rfl
    have fig1_7439 : ((0 : Int) ≤ (ig1 7439).toInt) ∧ ((ig1 7439).toInt ≤ 200) := hGg1.I.1 7439
    have z2 : ((ig1 7438).toInt = (i 7438).toInt) ∧ ((i 7437).toInt ≤ (ig1 7437).toInt) ∧ ((ig1 7437).toInt ≤ (ig1 7429).toInt) ∧ (((ig1 7439).toInt - (ig1 7437).toInt) ≤ ((i 7439).toInt - (i 7437).toInt)) ∧ ((i 7439).toInt ≤ (ig1 7439).toInt) ∧ (((i 7437).toInt + 1) ≤ (ig1 7437).toInt) := hg1
    have hR3 := kRun_sub (kRun_cast hR0 rfl (congrArg Int.toNat oz34)) og1
    refine ft_go mi_k156 1 9 [(0, .ref 116)] [] ig1 ag1 qg1 rg1 (by rfl) ?_
    have lp4 : ∀ (nz : Nat) (i4 : Nat → Int32) (a4 : Nat → List Int32) (q4 : Nat → List Int64) (r4 : Nat → Nat), kG w156_116_L9 ig1 ag1 qg1 rg1 i4 a4 q4 r4 → (i4 7438).toInt = (i 7438).toInt → (i 7437).toInt ≤ (i4 7437).toInt → (i4 7437).toInt ≤ (i4 7429).toInt → ((i4 7439).toInt - (i4 7437).toInt) ≤ ((i 7439).toInt - (i 7437).toInt) → (i 7439).toInt ≤ (i4 7439).toInt → ((i 7437).toInt + 1) ≤ (i4 7437).toInt → kRun (a 127) (a4 127) (i 7439).toInt.toNat (i4 7439).toInt.toNat 1 → (((i4 7429).toInt - (i4 7437).toInt)).toNat < nz → ko (6 * n + 14) (mi_h156, mi_c156) P (9, [(0, .ref 116)], [], (0, 0), ks i4 a4 q4 r4) := by
      intro nz
      induction nz with
      | zero =>
        intro _ _ _ _ _ _ _ _ _ _ _ _ hm
        exact absurd hm (Nat.not_lt_zero _)
      | succ nz ih4 =>
        intro i4 a4 q4 r4 hL4 p4_0 p4_1 p4_2 p4_3 p4_4 p4_5 O4_0 hm4
        have fi4_7437 : ((0 : Int) ≤ (i4 7437).toInt) ∧ ((i4 7437).toInt ≤ 120) := hL4.I.1 7437
        have fi4_7429 : ((0 : Int) ≤ (i4 7429).toInt) ∧ ((i4 7429).toInt ≤ 120) := hL4.I.1 7429
        have efi4_7429 : (i4 7429).toInt = (ig1 7429).toInt := hL4.ti 7429 rfl
        have fi4_7439 : ((0 : Int) ≤ (i4 7439).toInt) ∧ ((i4 7439).toInt ≤ 200) := hL4.I.1 7439
        refine ft_go mi_k156 2 12 [(0, .ref 116)] [.int 38, .ref 116] i4 a4 q4 r4 (by rfl) ?_
        refine ko_callI mi_k156.1 (pc := 12) (ls := [(0, .ref 116)]) (st := [.int 38, .ref 116]) (h := ks i4 a4 q4 r4) (i := (.invokevirtual 187, 3, 148, 0, 9, 0, 407)) (mi_k156.2 _ _ (by rfl)) (ft_invS mi_pq148 (by rfl)) (cy := mi_c148) mi_pq148 rfl (kc148_116 hL4.I hL4.R 38 (oz879 kn38)) (kj_d3 (n := n) (c := 3) (o1 := 14) (by decide)) ?_
        intro vg5 ig5 ag5 qg5 rg5 kg5 hg5
        have hGg5 := kG_call hL4 kg5 (by decide +kernel)
        rcases hg5 with ⟨eg5, hg5⟩ | ⟨eg5, hg5⟩
        ·
          subst eg5
          have fig5_7437 : ((0 : Int) ≤ (ig5 7437).toInt) ∧ ((ig5 7437).toInt ≤ 120) := hGg5.I.1 7437
          have fig5_7429 : ((0 : Int) ≤ (ig5 7429).toInt) ∧ ((ig5 7429).toInt ≤ 120) := hGg5.I.1 7429
          have efig5_7429 : (ig5 7429).toInt = (i4 7429).toInt := kg5.ti 7429 rfl
          have z6 : ((ig5 7437).toInt = ((i4 7437).toInt + 1)) ∧ ((ig5 7437).toInt ≤ (ig5 7429).toInt) := hg5
          refine ft_go mi_k156 2 19 [(0, .ref 116)] [.ref 116] ig5 ag5 qg5 rg5 (by rfl) ?_
          have efig5_7438 : (ig5 7438).toInt = (i4 7438).toInt := kg5.ti 7438 rfl
          have fig5_7439 : ((0 : Int) ≤ (ig5 7439).toInt) ∧ ((ig5 7439).toInt ≤ 200) := hGg5.I.1 7439
          have efig5_7439 : (ig5 7439).toInt = (i4 7439).toInt := kg5.ti 7439 rfl
          refine ko_callI mi_k156.1 (pc := 19) (ls := [(0, .ref 116)]) (st := [.ref 116]) (h := ks ig5 ag5 qg5 rg5) (i := (.invokevirtual 202, 3, 155, 0, 9, 0, 399)) (mi_k156.2 _ _ (by rfl)) (ft_invS mi_pq155 (by rfl)) (cy := mi_c155) mi_pq155 rfl (h155 _ _ _ _ hGg5.I hGg5.R (oz811 efig5_7438 hp0 p4_0) (oz881 efig5_7439 hp1 p4_3 z6.1) (oz173 z6.2)) (kj_d1 (n := n) (o := 13) (o1 := 14) (by decide)) ?_
          intro vg7 ig7 ag7 qg7 rg7 kg7 hg7
          have hGg7 := kG_call hGg5 kg7 (by decide +kernel)
          rcases hg7 with ⟨eg7, hg7⟩ | ⟨eg7, hg7⟩
          ·
            subst eg7
            obtain ⟨hg7, og7⟩ := hg7
            have fig7_7437 : ((0 : Int) ≤ (ig7 7437).toInt) ∧ ((ig7 7437).toInt ≤ 120) := hGg7.I.1 7437
            have fig7_7429 : ((0 : Int) ≤ (ig7 7429).toInt) ∧ ((ig7 7429).toInt ≤ 120) := hGg7.I.1 7429
            have efig7_7429 : (ig7 7429).toInt = (ig5 7429).toInt := kg7.ti 7429 rfl
            have fig7_7439 : ((0 : Int) ≤ (ig7 7439).toInt) ∧ ((ig7 7439).toInt ≤ 200) := hGg7.I.1 7439
            have z8 : ((ig7 7438).toInt = (ig5 7438).toInt) ∧ ((ig5 7437).toInt ≤ (ig7 7437).toInt) ∧ ((ig7 7437).toInt ≤ (ig7 7429).toInt) ∧ (((ig7 7439).toInt - (ig7 7437).toInt) ≤ ((ig5 7439).toInt - (ig5 7437).toInt)) ∧ ((ig5 7439).toInt ≤ (ig7 7439).toInt) ∧ (((ig5 7437).toInt + 1) ≤ (ig7 7437).toInt) := hg7
            have hR9 := kRun_sub (kRun_cast O4_0 (kg5.fa 127 rfl) (congrArg Int.toNat (oz719 efig5_7439))) og7
            refine ft_go mi_k156 3 30 [(0, .ref 116)] [.int 7, .ref 116] ig7 ag7 qg7 rg7 (by rfl) ?_
            refine ko_callI mi_k156.1 (pc := 30) (ls := [(0, .ref 116)]) (st := [.int 7, .ref 116]) (h := ks ig7 ag7 qg7 rg7) (i := (.invokevirtual 177, 3, 149, 0, 9, 0, 405)) (mi_k156.2 _ _ (by rfl)) (ft_invS mi_pq149 (by rfl)) (cy := mi_c149) mi_pq149 rfl (kc149_116 hGg7.I hGg7.R 7 (oz882 efig5_7439 fig7_7437.2 fig7_7439.1 hp1 p4_3 z6.1 z8.2.2.2.1)) (kj_d3 (n := n) (c := 1) (o1 := 14) (by decide)) ?_
            intro vg10 ig10 ag10 qg10 rg10 kg10 hg10
            have hGg10 := kG_call hGg7 kg10 (by decide +kernel)
            rcases hg10 with ⟨eg10, hg10⟩ | ⟨eg10, hg10⟩
            ·
              subst eg10
              obtain ⟨hg10, og10⟩ := hg10
              have fig10_7439 : ((0 : Int) ≤ (ig10 7439).toInt) ∧ ((ig10 7439).toInt ≤ 200) := hGg10.I.1 7439
              have z11 : (ig10 7439).toInt = ((ig7 7439).toInt + 1) := hg10
              have hR12 := kRun_code (x := (ig7 7439)) (d := (ig10 7439).toInt.toNat) (kRun_cast hR9 rfl (congrArg Int.toNat oz34)) rfl (kj_len (n := 200) (c := 200) (hGg7.I.2.1 127) rfl (oz750 fig10_7439.2 z11) (by decide)) og10 (kEff_bin (oz883 kn7) (oz884 kn7) (by decide)) (kj_tn (oz751 z11) (oz3 fig7_7439.1))
              refine ft_go mi_k156 2 9 [(0, .ref 116)] [] ig10 ag10 qg10 rg10 (by rfl) ?_
              have efig10_7438 : (ig10 7438).toInt = (ig7 7438).toInt := kg10.ti 7438 rfl
              have fig10_7437 : ((0 : Int) ≤ (ig10 7437).toInt) ∧ ((ig10 7437).toInt ≤ 120) := hGg10.I.1 7437
              have efig10_7437 : (ig10 7437).toInt = (ig7 7437).toInt := kg10.ti 7437 rfl
              have fig10_7429 : ((0 : Int) ≤ (ig10 7429).toInt) ∧ ((ig10 7429).toInt ≤ 120) := hGg10.I.1 7429
              have efig10_7429 : (ig10 7429).toInt = (ig7 7429).toInt := kg10.ti 7429 rfl
              exact ih4 _ _ _ _ hGg10 (oz894 efig10_7438 efig5_7438 p4_0 z8.1) (oz895 efig10_7437 p4_5 z6.1 z8.2.2.2.2.2) (oz819 efig10_7429 efig10_7437 z8.2.2.1) (oz896 efig10_7437 efig5_7439 p4_3 z11 z6.1 z8.2.2.2.1) (oz897 efig5_7439 p4_4 z11 z8.2.2.2.2.1) (oz898 efig10_7437 p4_5 z6.1 z8.2.2.2.2.2) (kRun_cast hR12 rfl (congrArg Int.toNat oz34)) (kj_meas (oz890 efig10_7429 efig10_7437 efig5_7429 efig7_7429 z6.1 z8.2.2.2.2.2) (oz891 efig5_7429 z6.1 z6.2) hm4)
            ·
              subst eg10
              have z13 : (2 : Int) ≤ 1 := hg10
              exact (oz755 z13).elim
          ·
            subst eg7
            have fig7_7437 : ((0 : Int) ≤ (ig7 7437).toInt) ∧ ((ig7 7437).toInt ≤ 120) := hGg7.I.1 7437
            have fig7_7429 : ((0 : Int) ≤ (ig7 7429).toInt) ∧ ((ig7 7429).toInt ≤ 120) := hGg7.I.1 7429
            have efig7_7429 : (ig7 7429).toInt = (ig5 7429).toInt := kg7.ti 7429 rfl
            have fig7_7439 : ((0 : Int) ≤ (ig7 7439).toInt) ∧ ((ig7 7439).toInt ≤ 200) := hGg7.I.1 7439
            have z14 : ((ig7 7438).toInt = (ig5 7438).toInt) ∧ ((ig5 7437).toInt ≤ (ig7 7437).toInt) ∧ ((ig7 7437).toInt ≤ (ig7 7429).toInt) ∧ (((ig7 7439).toInt - (ig7 7437).toInt) ≤ ((ig5 7439).toInt - (ig5 7437).toInt)) ∧ ((ig5 7439).toInt ≤ (ig7 7439).toInt) := hg7
            refine ft_go mi_k156 1 25 [(0, .ref 116)] [] ig7 ag7 qg7 rg7 (by rfl) ?_
            have hG15 := kG_call hGg1 hGg7 (by decide +kernel)
            refine ft_go mi_k156 1 26 [(0, .ref 116)] [.int 0] ig7 ag7 qg7 rg7 (by rfl) ?_
            exact ft_ret mi_k156 (by rfl) (hP 0 _ _ _ _ hG15 (Or.inr ⟨rfl, (oz899 efig5_7438 efig5_7439 p4_0 p4_3 p4_4 p4_5 z14.1 z14.2.1 z14.2.2.1 z14.2.2.2.1 z14.2.2.2.2 z6.1)⟩))
        ·
          subst eg5
          have fig5_7437 : ((0 : Int) ≤ (ig5 7437).toInt) ∧ ((ig5 7437).toInt ≤ 120) := hGg5.I.1 7437
          have z16 : (ig5 7437).toInt = (i4 7437).toInt := hg5
          refine ft_go mi_k156 1 37 [(0, .ref 116)] [] ig5 ag5 qg5 rg5 (by rfl) ?_
          have hG17 := kG_call hGg1 hGg5 (by decide +kernel)
          refine ft_go mi_k156 1 38 [(0, .ref 116)] [.int 1] ig5 ag5 qg5 rg5 (by rfl) ?_
          have efig5_7438 : (ig5 7438).toInt = (i4 7438).toInt := kg5.ti 7438 rfl
          have fig5_7429 : ((0 : Int) ≤ (ig5 7429).toInt) ∧ ((ig5 7429).toInt ≤ 120) := hG17.I.1 7429
          have efig5_7429 : (ig5 7429).toInt = (i4 7429).toInt := kg5.ti 7429 rfl
          have fig5_7439 : ((0 : Int) ≤ (ig5 7439).toInt) ∧ ((ig5 7439).toInt ≤ 200) := hG17.I.1 7439
          have efig5_7439 : (ig5 7439).toInt = (i4 7439).toInt := kg5.ti 7439 rfl
          exact ft_ret mi_k156 (by rfl) (hP 1 _ _ _ _ hG17 (Or.inl ⟨rfl, ⟨(oz900 efig5_7429 efig5_7438 efig5_7439 p4_0 p4_2 p4_3 p4_4 p4_5 z16), (kRun_cast O4_0 (kg5.fa 127 rfl) (congrArg Int.toNat (oz719 efig5_7439)))⟩⟩))
    exact lp4 _ _ _ _ _ (kG_self _ hGg1.I hGg1.R) (oz719 z2.1) (oz839 z2.2.2.2.2.2) (oz173 z2.2.2.1) (oz840 z2.2.2.2.1) (oz173 z2.2.2.2.2.1) (oz841 z2.2.2.2.2.2) (kRun_cast hR3 rfl (congrArg Int.toNat oz34)) (Nat.lt_succ_self _)
  ·
    subst eg1
    have fig1_7437 : ((0 : Int) ≤ (ig1 7437).toInt) ∧ ((ig1 7437).toInt ≤ 120) := hGg1.I.1 7437
    have fig1_7429 : ((0 : Int) ≤ (ig1 7429).toInt) ∧ ((ig1 7429).toInt ≤ 120) := hGg1.I.1 7429
    have efig1_7429 : (ig1 7429).toInt = (i 7429).toInt := kg1.ti 7429 rfl
    have fig1_7439 : ((0 : Int) ≤ (ig1 7439).toInt) ∧ ((ig1 7439).toInt ≤ 200) := hGg1.I.1 7439
    have z18 : ((ig1 7438).toInt = (i 7438).toInt) ∧ ((i 7437).toInt ≤ (ig1 7437).toInt) ∧ ((ig1 7437).toInt ≤ (ig1 7429).toInt) ∧ (((ig1 7439).toInt - (ig1 7437).toInt) ≤ ((i 7439).toInt - (i 7437).toInt)) ∧ ((i 7439).toInt ≤ (ig1 7439).toInt) := hg1
    refine ft_go mi_k156 2 8 [(0, .ref 116)] [.int 0] ig1 ag1 qg1 rg1 (by rfl) ?_
    exact ft_ret mi_k156 (by rfl) (hP 0 _ _ _ _ hGg1 (Or.inr ⟨rfl, (oz842 z18.1 z18.2.1 z18.2.2.1 z18.2.2.2.1 z18.2.2.2.2)⟩))
set_option maxRecDepth 100000 in
theorem kLsR_157 (n : Nat) (h152 : kLR_152 n) (h153 : kLR_153 n) (h154 : kLR_154 n) (h155 : kLR_155 n) (h156 : kLR_156 n) : kLR_157 n := by
  intro i a q r hI hr hp0 hp1 hp2
  have hG := kG_self wR hI hr
  refine km_ofI (q := (mi_h157, mi_c157)) rfl (by decide) (Nat.le_of_ble_eq_true rfl) ?_
  intro P hP
  have fi_7439 : ((0 : Int) ≤ (i 7439).toInt) ∧ ((i 7439).toInt ≤ 200) := hG.I.1 7439
  have fi_7437 : ((0 : Int) ≤ (i 7437).toInt) ∧ ((i 7437).toInt ≤ 120) := hG.I.1 7437
  have fi_7429 : ((0 : Int) ≤ (i 7429).toInt) ∧ ((i 7429).toInt ≤ 120) := hG.I.1 7429
  have hn0 : (0 : Int) ≤ (n : Int) := Int.natCast_nonneg n
  have hR0 := kRun_start (a 127) ((i 7439).toInt.toNat)
  refine ft_go mi_k157 1 1 [(0, .ref 116)] [.ref 116] i a q r (by rfl) ?_
  refine ko_callI mi_k157.1 (pc := 1) (ls := [(0, .ref 116)]) (st := [.ref 116]) (h := ks i a q r) (i := (.invokevirtual 205, 3, 156, 0, 9, 0, 398)) (mi_k157.2 _ _ (by rfl)) (ft_invS mi_pq156 (by rfl)) (cy := mi_c156) mi_pq156 rfl (h156 _ _ _ _ hG.I hG.R (oz808 hp0) (oz173 hp1) (oz173 hp2)) (kj_d1 (n := n) (o := 14) (o1 := 15) (by decide)) ?_
  intro vg1 ig1 ag1 qg1 rg1 kg1 hg1
  have hGg1 := kG_call hG kg1 (by decide +kernel)
  rcases hg1 with ⟨eg1, hg1⟩ | ⟨eg1, hg1⟩
  ·
    subst eg1
    obtain ⟨hg1, og1⟩ := hg1
    have fig1_7437 : ((0 : Int) ≤ (ig1 7437).toInt) ∧ ((ig1 7437).toInt ≤ 120) := hGg1.I.1 7437
    have fig1_7429 : ((0 : Int) ≤ (ig1 7429).toInt) ∧ ((ig1 7429).toInt ≤ 120) := hGg1.I.1 7429
    have efig1_7429 : (ig1 7429).toInt = (i 7429).toInt := kg1.ti 7429 rfl
    have fig1_7439 : ((0 : Int) ≤ (ig1 7439).toInt) ∧ ((ig1 7439).toInt ≤ 200) := hGg1.I.1 7439
    have z2 : ((ig1 7438).toInt = (i 7438).toInt) ∧ ((i 7437).toInt ≤ (ig1 7437).toInt) ∧ ((ig1 7437).toInt ≤ (ig1 7429).toInt) ∧ (((ig1 7439).toInt - (ig1 7437).toInt) ≤ ((i 7439).toInt - (i 7437).toInt)) ∧ ((i 7439).toInt ≤ (ig1 7439).toInt) ∧ (((i 7437).toInt + 1) ≤ (ig1 7437).toInt) := hg1
    have hR3 := kRun_sub (kRun_cast hR0 rfl (congrArg Int.toNat oz34)) og1
    refine ft_go mi_k157 1 9 [(0, .ref 116)] [] ig1 ag1 qg1 rg1 (by rfl) ?_
    have lp4 : ∀ (nz : Nat) (i4 : Nat → Int32) (a4 : Nat → List Int32) (q4 : Nat → List Int64) (r4 : Nat → Nat), kG w157_116_L9 ig1 ag1 qg1 rg1 i4 a4 q4 r4 → (i4 7438).toInt = (i 7438).toInt → (i 7437).toInt ≤ (i4 7437).toInt → (i4 7437).toInt ≤ (i4 7429).toInt → ((i4 7439).toInt - (i4 7437).toInt) ≤ ((i 7439).toInt - (i 7437).toInt) → (i 7439).toInt ≤ (i4 7439).toInt → ((i 7437).toInt + 1) ≤ (i4 7437).toInt → kRun (a 127) (a4 127) (i 7439).toInt.toNat (i4 7439).toInt.toNat 1 → (((i4 7429).toInt - (i4 7437).toInt)).toNat < nz → ko (6 * n + 15) (mi_h157, mi_c157) P (9, [(0, .ref 116)], [], (0, 0), ks i4 a4 q4 r4) := by
      intro nz
      induction nz with
      | zero =>
        intro _ _ _ _ _ _ _ _ _ _ _ _ hm
        exact absurd hm (Nat.not_lt_zero _)
      | succ nz ih4 =>
        intro i4 a4 q4 r4 hL4 p4_0 p4_1 p4_2 p4_3 p4_4 p4_5 O4_0 hm4
        have fi4_7437 : ((0 : Int) ≤ (i4 7437).toInt) ∧ ((i4 7437).toInt ≤ 120) := hL4.I.1 7437
        have fi4_7429 : ((0 : Int) ≤ (i4 7429).toInt) ∧ ((i4 7429).toInt ≤ 120) := hL4.I.1 7429
        have efi4_7429 : (i4 7429).toInt = (ig1 7429).toInt := hL4.ti 7429 rfl
        have fi4_7439 : ((0 : Int) ≤ (i4 7439).toInt) ∧ ((i4 7439).toInt ≤ 200) := hL4.I.1 7439
        refine ft_go mi_k157 2 12 [(0, .ref 116)] [.int 124, .ref 116] i4 a4 q4 r4 (by rfl) ?_
        refine ko_callI mi_k157.1 (pc := 12) (ls := [(0, .ref 116)]) (st := [.int 124, .ref 116]) (h := ks i4 a4 q4 r4) (i := (.invokevirtual 187, 3, 148, 0, 9, 0, 407)) (mi_k157.2 _ _ (by rfl)) (ft_invS mi_pq148 (by rfl)) (cy := mi_c148) mi_pq148 rfl (kc148_116 hL4.I hL4.R 124 (oz901 kn124)) (kj_d3 (n := n) (c := 3) (o1 := 15) (by decide)) ?_
        intro vg5 ig5 ag5 qg5 rg5 kg5 hg5
        have hGg5 := kG_call hL4 kg5 (by decide +kernel)
        rcases hg5 with ⟨eg5, hg5⟩ | ⟨eg5, hg5⟩
        ·
          subst eg5
          have fig5_7437 : ((0 : Int) ≤ (ig5 7437).toInt) ∧ ((ig5 7437).toInt ≤ 120) := hGg5.I.1 7437
          have fig5_7429 : ((0 : Int) ≤ (ig5 7429).toInt) ∧ ((ig5 7429).toInt ≤ 120) := hGg5.I.1 7429
          have efig5_7429 : (ig5 7429).toInt = (i4 7429).toInt := kg5.ti 7429 rfl
          have z6 : ((ig5 7437).toInt = ((i4 7437).toInt + 1)) ∧ ((ig5 7437).toInt ≤ (ig5 7429).toInt) := hg5
          refine ft_go mi_k157 2 19 [(0, .ref 116)] [.ref 116] ig5 ag5 qg5 rg5 (by rfl) ?_
          have efig5_7438 : (ig5 7438).toInt = (i4 7438).toInt := kg5.ti 7438 rfl
          have fig5_7439 : ((0 : Int) ≤ (ig5 7439).toInt) ∧ ((ig5 7439).toInt ≤ 200) := hGg5.I.1 7439
          have efig5_7439 : (ig5 7439).toInt = (i4 7439).toInt := kg5.ti 7439 rfl
          refine ko_callI mi_k157.1 (pc := 19) (ls := [(0, .ref 116)]) (st := [.ref 116]) (h := ks ig5 ag5 qg5 rg5) (i := (.invokevirtual 205, 3, 156, 0, 9, 0, 398)) (mi_k157.2 _ _ (by rfl)) (ft_invS mi_pq156 (by rfl)) (cy := mi_c156) mi_pq156 rfl (h156 _ _ _ _ hGg5.I hGg5.R (oz811 efig5_7438 hp0 p4_0) (oz881 efig5_7439 hp1 p4_3 z6.1) (oz173 z6.2)) (kj_d1 (n := n) (o := 14) (o1 := 15) (by decide)) ?_
          intro vg7 ig7 ag7 qg7 rg7 kg7 hg7
          have hGg7 := kG_call hGg5 kg7 (by decide +kernel)
          rcases hg7 with ⟨eg7, hg7⟩ | ⟨eg7, hg7⟩
          ·
            subst eg7
            obtain ⟨hg7, og7⟩ := hg7
            have fig7_7437 : ((0 : Int) ≤ (ig7 7437).toInt) ∧ ((ig7 7437).toInt ≤ 120) := hGg7.I.1 7437
            have fig7_7429 : ((0 : Int) ≤ (ig7 7429).toInt) ∧ ((ig7 7429).toInt ≤ 120) := hGg7.I.1 7429
            have efig7_7429 : (ig7 7429).toInt = (ig5 7429).toInt := kg7.ti 7429 rfl
            have fig7_7439 : ((0 : Int) ≤ (ig7 7439).toInt) ∧ ((ig7 7439).toInt ≤ 200) := hGg7.I.1 7439
            have z8 : ((ig7 7438).toInt = (ig5 7438).toInt) ∧ ((ig5 7437).toInt ≤ (ig7 7437).toInt) ∧ ((ig7 7437).toInt ≤ (ig7 7429).toInt) ∧ (((ig7 7439).toInt - (ig7 7437).toInt) ≤ ((ig5 7439).toInt - (ig5 7437).toInt)) ∧ ((ig5 7439).toInt ≤ (ig7 7439).toInt) ∧ (((ig5 7437).toInt + 1) ≤ (ig7 7437).toInt) := hg7
            have hR9 := kRun_sub (kRun_cast O4_0 (kg5.fa 127 rfl) (congrArg Int.toNat (oz719 efig5_7439))) og7
            refine ft_go mi_k157 3 30 [(0, .ref 116)] [.int 6, .ref 116] ig7 ag7 qg7 rg7 (by rfl) ?_
            refine ko_callI mi_k157.1 (pc := 30) (ls := [(0, .ref 116)]) (st := [.int 6, .ref 116]) (h := ks ig7 ag7 qg7 rg7) (i := (.invokevirtual 177, 3, 149, 0, 9, 0, 405)) (mi_k157.2 _ _ (by rfl)) (ft_invS mi_pq149 (by rfl)) (cy := mi_c149) mi_pq149 rfl (kc149_116 hGg7.I hGg7.R 6 (oz882 efig5_7439 fig7_7437.2 fig7_7439.1 hp1 p4_3 z6.1 z8.2.2.2.1)) (kj_d3 (n := n) (c := 1) (o1 := 15) (by decide)) ?_
            intro vg10 ig10 ag10 qg10 rg10 kg10 hg10
            have hGg10 := kG_call hGg7 kg10 (by decide +kernel)
            rcases hg10 with ⟨eg10, hg10⟩ | ⟨eg10, hg10⟩
            ·
              subst eg10
              obtain ⟨hg10, og10⟩ := hg10
              have fig10_7439 : ((0 : Int) ≤ (ig10 7439).toInt) ∧ ((ig10 7439).toInt ≤ 200) := hGg10.I.1 7439
              have z11 : (ig10 7439).toInt = ((ig7 7439).toInt + 1) := hg10
              have hR12 := kRun_code (x := (ig7 7439)) (d := (ig10 7439).toInt.toNat) (kRun_cast hR9 rfl (congrArg Int.toNat oz34)) rfl (kj_len (n := 200) (c := 200) (hGg7.I.2.1 127) rfl (oz750 fig10_7439.2 z11) (by decide)) og10 (kEff_bin (oz902 kn6) (oz903 kn6) (by decide)) (kj_tn (oz751 z11) (oz3 fig7_7439.1))
              refine ft_go mi_k157 2 9 [(0, .ref 116)] [] ig10 ag10 qg10 rg10 (by rfl) ?_
              have efig10_7438 : (ig10 7438).toInt = (ig7 7438).toInt := kg10.ti 7438 rfl
              have fig10_7437 : ((0 : Int) ≤ (ig10 7437).toInt) ∧ ((ig10 7437).toInt ≤ 120) := hGg10.I.1 7437
              have efig10_7437 : (ig10 7437).toInt = (ig7 7437).toInt := kg10.ti 7437 rfl
              have fig10_7429 : ((0 : Int) ≤ (ig10 7429).toInt) ∧ ((ig10 7429).toInt ≤ 120) := hGg10.I.1 7429
              have efig10_7429 : (ig10 7429).toInt = (ig7 7429).toInt := kg10.ti 7429 rfl
              exact ih4 _ _ _ _ hGg10 (oz894 efig10_7438 efig5_7438 p4_0 z8.1) (oz895 efig10_7437 p4_5 z6.1 z8.2.2.2.2.2) (oz819 efig10_7429 efig10_7437 z8.2.2.1) (oz896 efig10_7437 efig5_7439 p4_3 z11 z6.1 z8.2.2.2.1) (oz897 efig5_7439 p4_4 z11 z8.2.2.2.2.1) (oz898 efig10_7437 p4_5 z6.1 z8.2.2.2.2.2) (kRun_cast hR12 rfl (congrArg Int.toNat oz34)) (kj_meas (oz890 efig10_7429 efig10_7437 efig5_7429 efig7_7429 z6.1 z8.2.2.2.2.2) (oz891 efig5_7429 z6.1 z6.2) hm4)
            ·
              subst eg10
              have z13 : (2 : Int) ≤ 1 := hg10
              exact (oz755 z13).elim
          ·
            subst eg7
            have fig7_7437 : ((0 : Int) ≤ (ig7 7437).toInt) ∧ ((ig7 7437).toInt ≤ 120) := hGg7.I.1 7437
            have fig7_7429 : ((0 : Int) ≤ (ig7 7429).toInt) ∧ ((ig7 7429).toInt ≤ 120) := hGg7.I.1 7429
            have efig7_7429 : (ig7 7429).toInt = (ig5 7429).toInt := kg7.ti 7429 rfl
            have fig7_7439 : ((0 : Int) ≤ (ig7 7439).toInt) ∧ ((ig7 7439).toInt ≤ 200) := hGg7.I.1 7439
            have z14 : ((ig7 7438).toInt = (ig5 7438).toInt) ∧ ((ig5 7437).toInt ≤ (ig7 7437).toInt) ∧ ((ig7 7437).toInt ≤ (ig7 7429).toInt) ∧ (((ig7 7439).toInt - (ig7 7437).toInt) ≤ ((ig5 7439).toInt - (ig5 7437).toInt)) ∧ ((ig5 7439).toInt ≤ (ig7 7439).toInt) := hg7
            refine ft_go mi_k157 1 25 [(0, .ref 116)] [] ig7 ag7 qg7 rg7 (by rfl) ?_
            have hG15 := kG_call hGg1 hGg7 (by decide +kernel)
            refine ft_go mi_k157 1 26 [(0, .ref 116)] [.int 0] ig7 ag7 qg7 rg7 (by rfl) ?_
            exact ft_ret mi_k157 (by rfl) (hP 0 _ _ _ _ hG15 (Or.inr ⟨rfl, (oz899 efig5_7438 efig5_7439 p4_0 p4_3 p4_4 p4_5 z14.1 z14.2.1 z14.2.2.1 z14.2.2.2.1 z14.2.2.2.2 z6.1)⟩))
        ·
          subst eg5
          have fig5_7437 : ((0 : Int) ≤ (ig5 7437).toInt) ∧ ((ig5 7437).toInt ≤ 120) := hGg5.I.1 7437
          have z16 : (ig5 7437).toInt = (i4 7437).toInt := hg5
          refine ft_go mi_k157 1 37 [(0, .ref 116)] [] ig5 ag5 qg5 rg5 (by rfl) ?_
          have hG17 := kG_call hGg1 hGg5 (by decide +kernel)
          refine ft_go mi_k157 1 38 [(0, .ref 116)] [.int 1] ig5 ag5 qg5 rg5 (by rfl) ?_
          have efig5_7438 : (ig5 7438).toInt = (i4 7438).toInt := kg5.ti 7438 rfl
          have fig5_7429 : ((0 : Int) ≤ (ig5 7429).toInt) ∧ ((ig5 7429).toInt ≤ 120) := hG17.I.1 7429
          have efig5_7429 : (ig5 7429).toInt = (i4 7429).toInt := kg5.ti 7429 rfl
          have fig5_7439 : ((0 : Int) ≤ (ig5 7439).toInt) ∧ ((ig5 7439).toInt ≤ 200) := hG17.I.1 7439
          have efig5_7439 : (ig5 7439).toInt = (i4 7439).toInt := kg5.ti 7439 rfl
          exact ft_ret mi_k157 (by rfl) (hP 1 _ _ _ _ hG17 (Or.inl ⟨rfl, ⟨(oz900 efig5_7429 efig5_7438 efig5_7439 p4_0 p4_2 p4_3 p4_4 p4_5 z16), (kRun_cast O4_0 (kg5.fa 127 rfl) (congrArg Int.toNat (oz719 efig5_7439)))⟩⟩))
    exact lp4 _ _ _ _ _ (kG_self _ hGg1.I hGg1.R) (oz719 z2.1) (oz839 z2.2.2.2.2.2) (oz173 z2.2.2.1) (oz840 z2.2.2.2.1) (oz173 z2.2.2.2.2.1) (oz841 z2.2.2.2.2.2) (kRun_cast hR3 rfl (congrArg Int.toNat oz34)) (Nat.lt_succ_self _)
  ·
    subst eg1
    have fig1_7437 : ((0 : Int) ≤ (ig1 7437).toInt) ∧ ((ig1 7437).toInt ≤ 120) := hGg1.I.1 7437
    have fig1_7429 : ((0 : Int) ≤ (ig1 7429).toInt) ∧ ((ig1 7429).toInt ≤ 120) := hGg1.I.1 7429
    have efig1_7429 : (ig1 7429).toInt = (i 7429).toInt := kg1.ti 7429 rfl
    have fig1_7439 : ((0 : Int) ≤ (ig1 7439).toInt) ∧ ((ig1 7439).toInt ≤ 200) := hGg1.I.1 7439
    have z18 : ((ig1 7438).toInt = (i 7438).toInt) ∧ ((i 7437).toInt ≤ (ig1 7437).toInt) ∧ ((ig1 7437).toInt ≤ (ig1 7429).toInt) ∧ (((ig1 7439).toInt - (ig1 7437).toInt) ≤ ((i 7439).toInt - (i 7437).toInt)) ∧ ((i 7439).toInt ≤ (ig1 7439).toInt) := hg1
    refine ft_go mi_k157 2 8 [(0, .ref 116)] [.int 0] ig1 ag1 qg1 rg1 (by rfl) ?_
    exact ft_ret mi_k157 (by rfl) (hP 0 _ _ _ _ hGg1 (Or.inr ⟨rfl, (oz842 z18.1 z18.2.1 z18.2.2.1 z18.2.2.2.1 z18.2.2.2.2)⟩))
theorem kLallR : ∀ n : Nat, kLR_157 n ∧ kLR_152 n
  | 0 => by
    have ih : ∀ m, 0 = m + 1 → kLR_157 m ∧ kLR_152 m := fun m h => by omega
    have h152 := kLsR_152 0  ih
    have h153 := kLsR_153 0 h152
    have h154 := kLsR_154 0 h152 h153
    have h155 := kLsR_155 0 h152 h153 h154
    have h156 := kLsR_156 0 h152 h153 h154 h155
    have h157 := kLsR_157 0 h152 h153 h154 h155 h156
    exact ⟨h157, h152⟩
  | n + 1 => by
    have ih : ∀ m, n + 1 = m + 1 → kLR_157 m ∧ kLR_152 m := fun m h => by
      have e : n = m := by omega
      subst e
      exact kLallR n
    have h152 := kLsR_152 (n + 1)  ih
    have h153 := kLsR_153 (n + 1) h152
    have h154 := kLsR_154 (n + 1) h152 h153
    have h155 := kLsR_155 (n + 1) h152 h153 h154
    have h156 := kLsR_156 (n + 1) h152 h153 h154 h155
    have h157 := kLsR_157 (n + 1) h152 h153 h154 h155 h156
    exact ⟨h157, h152⟩

