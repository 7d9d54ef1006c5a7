/-! WHAT IS ASKED OF A ROW IN THOUGHT -/
def fMk (K : gK) (S : gS) (x2 x3 v : Int32) (n : Int) (L : List Int32) : Prop := (x3.toInt = 0 → v.toInt = n) ∧ (x3.toInt = 1 → v = (gAt K L S n.toNat).2.2.2.2.1) ∧ (x3.toInt = 2 → v = (gAt K L S n.toNat).1.getD 18 0) ∧ (x3.toInt = 3 → v = (gAt K L S n.toNat).1.getD x2.toNatClampNeg 0)
def fCo (K : gK) (S : gS) (x2 x3 v : Int32) (n : Int) (L : List Int32) : Prop := (n ≤ x2.toInt → v = -2) ∧ (x2.toInt < n → (x3.toInt = 0 → v = (gAt K L S (x2.toInt.toNat + 1)).2.1) ∧ (x3.toInt = 1 → v = (gAt K L S (x2.toInt.toNat + 1)).2.2.1) ∧ (x3.toInt = 2 → v = (gAt K L S (x2.toInt.toNat + 1)).2.2.2.1))
section TV
variable {K : gK} {S S1 : gS} {L L1 A B C : List Int32} {x2 x3 v w : Int32} {n : Int}
theorem gOp_at {m : Int32} (h : gOp K L S m.toInt A B C) (h0 : 0 ≤ x2.toInt) (hm : x2.toInt < m.toInt) : A.getD x2.toNatClampNeg 0 = (gAt K L S (x2.toInt.toNat + 1)).2.1 ∧ B.getD x2.toNatClampNeg 0 = (gAt K L S (x2.toInt.toNat + 1)).2.2.1 ∧ C.getD x2.toNatClampNeg 0 = (gAt K L S (x2.toInt.toNat + 1)).2.2.2.1 := h x2.toInt.toNat (by omega)
theorem fCo_same (hS : gEq S S1) (hn : 0 ≤ n) (hL : ∀ j : Nat, (j : Int) < n → L.getD j 0 = L1.getD j 0) (h2 : 0 ≤ x2.toInt) (ok : 0 ≤ x3.toInt ∧ x3.toInt ≤ 2) (h : fCo K S x2 x3 v n L) (h1 : fCo K S1 x2 x3 w n L1) : v = w := by
  by_cases c : n ≤ x2.toInt
  · rw [h.1 c, h1.1 c]
  · obtain ⟨a0, a1, a2⟩ := h.2 (by omega)
    obtain ⟨b0, b1, b2⟩ := h1.2 (by omega)
    have e1 := gAt_row (K := K) (S := S1) hL (x2.toInt.toNat + 1) (by omega)
    have e2 := (gAt_eq (K := K) (L := L) hS (x2.toInt.toNat + 1)).2 (by omega)
    have hx : x3.toInt = 0 ∨ x3.toInt = 1 ∨ x3.toInt = 2 := by omega
    rcases hx with h | h | h
    · rw [a0 h, b0 h, ← e1, e2]
    · rw [a1 h, b1 h, ← e1, e2]
    · rw [a2 h, b2 h, ← e1, e2]
end TV

