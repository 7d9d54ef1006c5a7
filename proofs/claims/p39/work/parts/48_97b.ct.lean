/-! HOW MANY: all alike -/
theorem st_count {i : Nat → Int32} {a : Nat → List Int32} {q : Nat → List Int64} {r : Nat → Nat} {u1 u2 x1 : Int32} (K : kAll i a q r) (T : kTB i a) (h : kMar i a r) (R : kTrc i a) (P1 : pt_ke119_0 x1 u1 i a q r) (P2 : pt_ke225_116 x1 u2 i a q r) : u1 = u2 := by
  obtain ⟨_, a0, a1, a2, a3, a4, a5, a6⟩ := P1
  obtain ⟨_, b0, b1, b2, b3, b4, b5, b6⟩ := P2
  by_cases c0 : x1.toInt = 0
  · rw [a0 c0, b0 c0]; exact h.1
  · by_cases c1 : x1.toInt = 1
    · rw [a1 c1, b1 c1, (by decide : (18 : Int32).toNatClampNeg = 18)]; exact mNow_18 h.2.1
    · by_cases c2 : x1.toInt = 2
      · rw [a2 c2, b2 c2]; exact kj_v T.1.1
      · by_cases c3 : x1.toInt = 3
        · rw [a3 c3, b3 c3]; exact h.2.2.2.1.2.1
        · by_cases c4 : x1.toInt = 4
          · rw [a4 c4, b4 c4]; exact kj_v K.2.2.2.1
          · by_cases c5 : x1.toInt = 5
            · rw [a5 c5, b5 c5]; exact R.1
            · rw [a6 (by omega), b6 (by omega)]
