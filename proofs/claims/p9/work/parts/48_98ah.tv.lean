/-! WHAT IS ASKED OF A ROW IN THOUGHT -/
def fMk (K : gK) (S : gS) (x2 x3 v : Int32) (n : Int) (L : List Int32) : Prop := (x3.toInt = 0 → v.toInt = n) ∧ (x3.toInt = 1 → v = (gAt K L S n.toNat).2.2.2.2.1) ∧ (x3.toInt = 2 → v = (gAt K L S n.toNat).1.getD 18 0) ∧ (x3.toInt = 3 → v = (gAt K L S n.toNat).1.getD x2.toNatClampNeg 0)
def fCo (K : gK) (S : gS) (x2 x3 v : Int32) (n : Int) (L : List Int32) : Prop := (n ≤ x2.toInt → v = -2) ∧ (x2.toInt < n → (x3.toInt = 0 → v = (gAt K L S (x2.toInt.toNat + 1)).2.1) ∧ (x3.toInt = 1 → v = (gAt K L S (x2.toInt.toNat + 1)).2.2.1) ∧ (x3.toInt = 2 → v = (gAt K L S (x2.toInt.toNat + 1)).2.2.2.1))
section TV
variable {K : gK} {S S1 : gS} {L L1 A B C : List Int32} {x2 x3 v w : Int32} {n : Int}
theorem gOp_at {m : Int32} (h : gOp K L S m.toInt A B C) (h0 : 0 ≤ x2.toInt) (hm : x2.toInt < m.toInt) : A.getD x2.toNatClampNeg 0 = (gAt K L S (x2.toInt.toNat + 1)).2.1 ∧ B.getD x2.toNatClampNeg 0 = (gAt K L S (x2.toInt.toNat + 1)).2.2.1 ∧ C.getD x2.toNatClampNeg 0 = (gAt K L S (x2.toInt.toNat + 1)).2.2.2.1 := h x2.toInt.toNat (by omega)
theorem fMk_same (hS : gEq S S1) (hn : 0 ≤ n) (hL : ∀ j : Nat, (j : Int) < n → L.getD j 0 = L1.getD j 0) (ok : 0 ≤ x3.toInt ∧ x3.toInt ≤ 3) (h : fMk K S x2 x3 v n L) (h1 : fMk K S1 x2 x3 w n L1) : v = w := by
  obtain ⟨a0, a1, a2, a3⟩ := h
  obtain ⟨b0, b1, b2, b3⟩ := h1
  have e1 := gAt_row (K := K) (S := S1) hL n.toNat (by omega)
  obtain ⟨⟨e2, e3⟩, _⟩ := gAt_eq (K := K) (L := L) hS n.toNat
  have hx : x3.toInt = 0 ∨ x3.toInt = 1 ∨ x3.toInt = 2 ∨ x3.toInt = 3 := by omega
  rcases hx with h | h | h | h
  · exact kj_v ((a0 h).trans (b0 h).symm)
  · rw [a1 h, b1 h, ← e1, e3]
  · rw [a2 h, b2 h, ← e1, e2]
  · rw [a3 h, b3 h, ← e1, e2]
end TV

