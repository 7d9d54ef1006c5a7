/-! JUDGE: what is asked; the walk's steps -/
def uNo (n : Int) (C Y : Nat → Int) (k : Int) : Prop := ∀ j : Nat, (j : Int) < k → ¬ uBad n C Y j
section JC
variable {n len : Int} {C Y : Nat → Int} {Q : List Int64} {L : List Int32} {k k1 v : Int32}
theorem uNo_0 (h : k.toInt = 0) : uNo n C Y k.toInt := fun j hj => by omega
theorem uNo_9 (h : uNo n (fun j => (Q.getD j 0).toInt) Y k.toInt) (h0 : 0 ≤ k.toInt) (h1 : k1.toInt = k.toInt + 1) (hn : k.toInt < n) (hc : (Q.getD k.toNatClampNeg 0).toInt = 9) : uNo n (fun j => (Q.getD j 0).toInt) Y k1.toInt := by
  have tk := Int32.toNat_toInt k
  intro j hj
  by_cases e : j = k.toNatClampNeg
  · subst e
    rintro (z | ⟨z, _⟩)
    · omega
    · exact z hc
  · exact h j (by omega)
theorem uNo_y (h : uNo n (fun j => (Q.getD j 0).toInt) (fun j => (L.getD j 0).toInt) k.toInt) (h0 : 0 ≤ k.toInt) (h1 : k1.toInt = k.toInt + 1) (hn : k.toInt < n) (hc : (Q.getD k.toNatClampNeg 0).toInt = (L.getD k.toNatClampNeg 0).toInt) : uNo n (fun j => (Q.getD j 0).toInt) (fun j => (L.getD j 0).toInt) k1.toInt := by
  have tk := Int32.toNat_toInt k
  intro j hj
  by_cases e : j = k.toNatClampNeg
  · subst e
    rintro (z | ⟨_, z⟩)
    · omega
    · exact z hc
  · exact h j (by omega)
theorem fUn_no (h : uNo n C Y k.toInt) (hl : len ≤ k.toInt) (hv : v.toInt = -2) : fUn n len C Y v := Or.inl ⟨hv, fun j hj => h j (by omega)⟩
theorem fUn_end (h : uNo n C Y k.toInt) (h0 : 0 ≤ k.toInt) (hl : k.toInt < len) (hv : v.toInt = k.toInt) (hn : n ≤ k.toInt) : fUn n len C Y v := Or.inr ⟨k.toInt.toNat, by omega, by omega, Or.inl (by omega), fun j hj => h j (by omega)⟩
theorem fUn_at (h : uNo n (fun j => (Q.getD j 0).toInt) (fun j => (L.getD j 0).toInt) k.toInt) (h0 : 0 ≤ k.toInt) (hl : k.toInt < len) (hv : v.toInt = k.toInt) (hc : ¬ ((Q.getD k.toNatClampNeg 0).toInt = 9) ∧ ¬ ((Q.getD k.toNatClampNeg 0).toInt = (L.getD k.toNatClampNeg 0).toInt)) : fUn n len (fun j => (Q.getD j 0).toInt) (fun j => (L.getD j 0).toInt) v := by
  have tk := Int32.toNat_toInt k
  exact Or.inr ⟨k.toNatClampNeg, by omega, by omega, Or.inr hc, fun j hj => h j (by omega)⟩
end JC
