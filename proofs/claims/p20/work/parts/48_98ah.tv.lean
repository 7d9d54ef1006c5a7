/-! WHAT IS ASKED OF A ROW IN THOUGHT -/
def fMk (K : gK) (S : gS) (x2 x3 v : Int32) (n : Int) (L : List Int32) : Prop := (x3.toInt = 0 → v.toInt = n) ∧ (x3.toInt = 1 → v = (gAt K L S n.toNat).2.2.2.2.1) ∧ (x3.toInt = 2 → v = (gAt K L S n.toNat).1.getD 18 0) ∧ (x3.toInt = 3 → v = (gAt K L S n.toNat).1.getD x2.toNatClampNeg 0)
def fCo (K : gK) (S : gS) (x2 x3 v : Int32) (n : Int) (L : List Int32) : Prop := (n ≤ x2.toInt → v = -2) ∧ (x2.toInt < n → (x3.toInt = 0 → v = (gAt K L S (x2.toInt.toNat + 1)).2.1) ∧ (x3.toInt = 1 → v = (gAt K L S (x2.toInt.toNat + 1)).2.2.1) ∧ (x3.toInt = 2 → v = (gAt K L S (x2.toInt.toNat + 1)).2.2.2.1))
section TV
variable {K : gK} {S S1 : gS} {L L1 A B C : List Int32} {x2 x3 v w : Int32} {n : Int}
theorem gOp_at {m : Int32} (h : gOp K L S m.toInt A B C) (h0 : 0 ≤ x2.toInt) (hm : x2.toInt < m.toInt) : A.getD x2.toNatClampNeg 0 = (gAt K L S (x2.toInt.toNat + 1)).2.1 ∧ B.getD x2.toNatClampNeg 0 = (gAt K L S (x2.toInt.toNat + 1)).2.2.1 ∧ C.getD x2.toNatClampNeg 0 = (gAt K L S (x2.toInt.toNat + 1)).2.2.2.1 := h x2.toInt.toNat (by omega)
end TV

