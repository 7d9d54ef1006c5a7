/-! A ROW READ: how many come, by a SHELF's bytes; what SHELVES refuse -/
def kRp (b : Int32) (V : Nat → Int32) (n : Int) (L : List Int32) : Prop := ∀ j : Nat, (j : Int) < n → L.getD j 0 = V j ∧ 0 ≤ (V j).toInt ∧ (V j).toInt < b.toInt
def kRd (b : Int32) (len : Int) (V : Nat → Int32) (n : Int) (L : List Int32) : Prop := (0 ≤ n ∧ n ≤ 20 ∧ n ≤ len) ∧ kRp b V n L ∧ (n = 20 ∨ n = len ∨ ¬ (0 ≤ (V n.toNat).toInt ∧ (V n.toNat).toInt < b.toInt))
theorem kRp_0 {b : Int32} {V : Nat → Int32} {n : Int} {L : List Int32} (h : n ≤ 0) : kRp b V n L := fun j hj => by omega
theorem kRp_step {b x k k1 y : Int32} {Q : List Int64} {n m : Nat} {L L1 : List Int32} (h : kRp b (vQ Q n) k.toInt L) (lL : L.length = m) (h0 : 0 ≤ k.toInt) (hm : k.toInt < (m : Int)) (h1 : k1.toInt = k.toInt + 1) (e : L1 = L.set k.toNatClampNeg x) (hy : y.toInt = (n : Int) + k.toInt) (hx : x = (Q.getD y.toNatClampNeg 0).toInt32) (b0 : 0 ≤ x.toInt) (b1 : x.toInt < b.toInt) : kRp b (vQ Q n) k1.toInt L1 := by
  have tk := Int32.toNat_toInt k
  have ex : x = vQ Q n k.toInt.toNat := hx.trans (bt_idx (by omega))
  subst e
  intro j hj
  rw [kset_gI (by omega)]
  by_cases c : j = k.toNatClampNeg
  · rw [if_pos c, show j = k.toInt.toNat by omega, ← ex]
    exact ⟨rfl, b0, b1⟩
  · rw [if_neg c]
    exact h j (by omega)
theorem kRd_mk {b k n : Int32} {len : Int} {V : Nat → Int32} {L : List Int32} (h : kRp b V k.toInt L) (e : n.toInt = k.toInt) (h0 : 0 ≤ k.toInt) (h20 : k.toInt ≤ 20) (hl : k.toInt ≤ len) (s : k.toInt = 20 ∨ k.toInt = len ∨ ¬ (0 ≤ (V k.toInt.toNat).toInt ∧ (V k.toInt.toNat).toInt < b.toInt)) : kRd b len V n.toInt L := by
  unfold kRd
  rw [e]
  exact ⟨⟨h0, h20, hl⟩, h, s⟩
theorem kRd_bad {b x k y : Int32} {Q : List Int64} {n : Nat} (hy : y.toInt = (n : Int) + k.toInt) (h0 : 0 ≤ k.toInt) (hx : x = (Q.getD y.toNatClampNeg 0).toInt32) (hb : ¬ (0 ≤ x.toInt ∧ x.toInt < b.toInt)) : ¬ (0 ≤ (vQ Q n k.toInt.toNat).toInt ∧ (vQ Q n k.toInt.toNat).toInt < b.toInt) := by
  rw [← (hx.trans (bt_idx (by omega)) : x = vQ Q n k.toInt.toNat)]
  exact hb
/-- the reference's -/
def rRb (a : Nat → List Int32) (x1 v : Int32) : Prop := ((a 136).getD x1.toNatClampNeg 0).toInt = -1 ∧ v = -11 ∨ ((a 136).getD x1.toNatClampNeg 0).toInt ≠ -1 ∧ ((a 136).getD x1.toNatClampNeg 0).toInt ≠ 0 ∧ v = -12
def rRow1 (i : Nat → Int32) (a : Nat → List Int32) (q : Nat → List Int64) (x1 : Int32) (n : Int) (L : List Int32) : Prop := ((a 136).getD x1.toNatClampNeg 0).toInt = 0 ∧ kRd (i 7424) ((a 137).getD x1.toNatClampNeg 0).toInt (vQ (q 138) (60 * x1.toInt).toNat) n L
def rTop (ok : Prop) (i : Nat → Int32) (a : Nat → List Int32) (q : Nat → List Int64) (x1 v : Int32) (f : Int → List Int32 → Prop) : Prop := (¬ (ok ∧ 0 ≤ x1.toInt ∧ x1.toInt ≤ 5) ∧ v = -1) ∨ ((ok ∧ 0 ≤ x1.toInt ∧ x1.toInt ≤ 5) ∧ (rRb a x1 v ∨ ∃ (n : Int) (L : List Int32), rRow1 i a q x1 n L ∧ f n L))
