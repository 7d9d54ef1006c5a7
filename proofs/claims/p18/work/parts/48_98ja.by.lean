/-! A ROW OF BYTES HOLDS BYTES (as far as it is long): what is told of a cell in 64 bits and in 32 is the same -/
def by8 (c : Int64) : Prop := c.toInt32.toInt64 = c
theorem by8_0 : by8 0 := (by decide : (0 : Int64).toInt32.toInt64 = 0)
theorem by8_of (x : Int32) : by8 x.toInt64 := by
  unfold by8
  rw [Int32.toInt32_toInt64]
/-! the first place that is not so -/
def uBad (n : Int) (C : Nat → Int) (Y : Nat → Int) (k : Nat) : Prop := n ≤ (k : Int) ∨ (C k ≠ 9 ∧ C k ≠ Y k)
def fUn (n len : Int) (C Y : Nat → Int) (v : Int32) : Prop := (v.toInt = -2 ∧ ∀ j : Nat, (j : Int) < len → ¬ uBad n C Y j) ∨ (∃ k : Nat, (k : Int) < len ∧ v.toInt = (k : Int) ∧ uBad n C Y k ∧ ∀ j : Nat, j < k → ¬ uBad n C Y j)
theorem uBad_eq {n : Int} {C C1 Y Y1 : Nat → Int} {k : Nat} (hC : C k = C1 k) (hY : (k : Int) < n → Y k = Y1 k) (h : uBad n C Y k) : uBad n C1 Y1 k := by
  rcases h with h | ⟨h, h1⟩
  · exact Or.inl h
  · by_cases c : n ≤ (k : Int)
    · exact Or.inl c
    · refine Or.inr ⟨?_, ?_⟩
      · rw [← hC]
        exact h
      · rw [← hC, ← hY (by omega)]
        exact h1
theorem fUn_same {n len : Int} {C C1 Y Y1 : Nat → Int} {u1 u2 : Int32} (hC : ∀ j : Nat, (j : Int) < len → C j = C1 j) (hY : ∀ j : Nat, (j : Int) < n → Y j = Y1 j) (h : fUn n len C Y u1) (h1 : fUn n len C1 Y1 u2) : u1 = u2 := by
  have t : ∀ j : Nat, (j : Int) < len → uBad n C Y j → uBad n C1 Y1 j := fun j hj => uBad_eq (hC j hj) (hY j)
  have t1 : ∀ j : Nat, (j : Int) < len → uBad n C1 Y1 j → uBad n C Y j := fun j hj => uBad_eq (hC j hj).symm (fun z => (hY j z).symm)
  refine kj_v ?_
  rcases h with ⟨a, b⟩ | ⟨k, ka, kb, kc, kd⟩
  · rcases h1 with ⟨c, d⟩ | ⟨k1, ka1, kb1, kc1, kd1⟩
    · rw [a, c]
    · exact absurd (t1 k1 ka1 kc1) (b k1 ka1)
  · rcases h1 with ⟨c, d⟩ | ⟨k1, ka1, kb1, kc1, kd1⟩
    · exact absurd (t k ka kc) (d k ka)
    · rcases Nat.lt_trichotomy k k1 with z | z | z
      · exact absurd (t k ka kc) (kd1 k z)
      · rw [kb, kb1, z]
      · exact absurd (t1 k1 ka1 kc1) (kd k1 z)

