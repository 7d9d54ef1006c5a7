/-! what is kept by turns, and but for one place -/
def kLow (b : Nat) (L L0 : List Int32) : Prop := ∀ j : Nat, j < b → L.getD j 0 = L0.getD j 0
theorem kLow_eq {b : Nat} {L L0 : List Int32} (e : L = L0) : kLow b L L0 := fun j _ => by rw [e]
theorem kLow_trans {b b1 : Nat} {L L1 L0 : List Int32} (h1 : kLow b L L1) (h2 : kLow b1 L1 L0) (hb : b ≤ b1) : kLow b L L0 := fun j hj => (h1 j hj).trans (h2 j (by omega))
theorem kLow_cast {b b1 : Nat} {L L1 K K1 : List Int32} (h : kLow b L K) (e1 : L1 = L) (e2 : K1 = K) (eb : b1 ≤ b) : kLow b1 L1 K1 := by
  subst e1
  subst e2
  exact fun j hj => h j (by omega)
theorem kLow_step {b : Nat} {L0 L1 L2 L : List Int32} {y : Int32} {v : Int32} (h : kLow b L0 L) (hy : (b : Int) ≤ y.toInt) (e : L1 = L0.set y.toNatClampNeg v) (e2 : L2 = L1) : kLow b L2 L := by
  have ty := Int32.toNat_toInt y
  subst e2
  subst e
  intro j hj
  rw [List.getD_eq_getElem?_getD, List.getElem?_set_ne (by omega), ← List.getD_eq_getElem?_getD]
  exact h j hj
theorem kCopd_cast {L L1 S S1 : List Int32} {b : Nat} {x y : Int} (h : kCopd L S b x) (e1 : L1 = L) (e2 : S1 = S) (hx : y ≤ x) : kCopd L1 S1 b y := by
  subst e1
  subst e2
  exact fun j hj => h j (by omega)
theorem kCopb_cast {L L1 S S1 : List Int32} {b : Nat} {x y : Int} (h : kCopb L S b x) (e1 : L1 = L) (e2 : S1 = S) (hx : y ≤ x) : kCopb L1 S1 b y := by
  subst e1
  subst e2
  exact fun j hj => h j (by omega)
theorem ca_end {F N L1 L2 L3 L4 L : List Int32} {b b1 b2 : Nat} (h1 : kCopd L1 N b 31) (h2 : kLow b L1 L) (e2 : L2 = L1) (h3 : kLow b1 L3 L2) (h4 : kCopb F L3 b 31) (e4 : L4 = L3) (hb : b1 = b + 31) (hb2 : b2 ≤ b) (lF : F.length = 31) (lN : N.length = 31) : F = N ∧ kLow b2 L4 L := by
  subst e2
  subst e4
  exact ⟨kListn lF lN (fun j hj => by rw [h4 j (by omega), h3 (b + j) (by omega), h1 j (by omega)]), fun j hj => (h3 j (by omega)).trans (h2 j (by omega))⟩
def kExc (L L0 : List Int32) (k : Nat) : Prop := ∀ j : Nat, j ≠ k → L.getD j 0 = L0.getD j 0
theorem kExc_eq {L L0 : List Int32} {k : Nat} (e : L = L0) : kExc L L0 k := fun j _ => by rw [e]
theorem kExc_set {L L1 L2 L0 : List Int32} {k : Nat} {v : Int32} (h : kExc L L0 k) (e : L1 = L.set k v) (e2 : L2 = L1) : kExc L2 L0 k := by
  subst e2
  subst e
  intro j hj
  rw [List.getD_eq_getElem?_getD, List.getElem?_set_ne (fun z => hj z.symm), ← List.getD_eq_getElem?_getD]
  exact h j hj
theorem kExc_back {L L1 L2 L0 : List Int32} {k n : Nat} (h : kExc L L0 k) (e : L1 = L.set k (L0.getD k 0)) (e2 : L2 = L1) (hl : L.length = n) (h0 : L0.length = n) : L2 = L0 := by
  subst e2
  subst e
  refine kListn (n := n) (by rw [List.length_set]; exact hl) h0 (fun j hj => ?_)
  have eg : (L.set k (L0.getD k 0)).getD j 0 = if j = k then L0.getD k 0 else L.getD j 0 := by
    by_cases c : j = k
    · rw [if_pos c, List.getD_eq_getElem?_getD, c, List.getElem?_set_self (by omega)]; rfl
    · rw [if_neg c, List.getD_eq_getElem?_getD, List.getElem?_set_ne (fun z => c z.symm), ← List.getD_eq_getElem?_getD]
  rw [eg]
  by_cases c : j = k
  · rw [if_pos c, c]
  · rw [if_neg c]; exact h j c
