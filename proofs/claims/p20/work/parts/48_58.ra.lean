/-! THE TAPE OF CLASS AND REFERENCE -/
def kTap (i : Nat → Int32) (a : Nat → List Int32) : Prop := (i 6273).toInt = (i 7429).toInt ∧ a 99 = a 119
def kFrT (w : kW) : Bool := !kM w.1 6273 && (!kM w.1 7429 && (!kM w.2.1 99 && !kM w.2.1 119))
theorem kTap_fr {w : kW} {i i1 : Nat → Int32} {a a1 : Nat → List Int32} {q q1 : Nat → List Int64} {r r1 : Nat → Nat} (g : kG w i a q r i1 a1 q1 r1) (f : kFrT w = true) (h : kTap i a) : kTap i1 a1 := by
  unfold kFrT at f
  simp only [Bool.and_eq_true, Bool.not_eq_true'] at f
  obtain ⟨f1, f2, f3, f4⟩ := f
  exact ⟨by rw [g.fi _ f1, g.fi _ f2]; exact h.1, by rw [g.fa _ f3, g.fa _ f4]; exact h.2⟩
theorem st_feed {i i1 i2 : Nat → Int32} {a a1 a2 : Nat → List Int32} {q q1 q2 : Nat → List Int64} {r r1 r2 : Nat → Nat} {v w x1 : Int32} (h : kTap i a) (g1 : kG yw85_0 i a q r i1 a1 q1 r1) (P1 : (((v.toInt = (-1)) ∧ (¬ (((0 : Int) ≤ x1.toInt) ∧ (x1.toInt ≤ 255))) ∧ ((i1 6273).toInt = (i 6273).toInt)) ∨ (((0 : Int) ≤ x1.toInt) ∧ (x1.toInt ≤ 255) ∧ (((v.toInt = (-3)) ∧ ((120 : Int) ≤ (i 6273).toInt) ∧ ((i1 6273).toInt = (i 6273).toInt)) ∨ (((i 6273).toInt < 120) ∧ (v.toInt = ((i 6273).toInt + 1)) ∧ ((i1 6273).toInt = ((i 6273).toInt + 1)))))) ∧ ((((0 : Int) ≤ x1.toInt) ∧ (x1.toInt ≤ 255) ∧ ((i 6273).toInt < 120) → a1 99 = (a 99).set (i 6273).toNatClampNeg x1) ∧ (¬ (((0 : Int) ≤ x1.toInt) ∧ (x1.toInt ≤ 255) ∧ ((i 6273).toInt < 120)) → a1 99 = a 99))) (g2 : kG yw146_116 i1 a1 q1 r1 i2 a2 q2 r2) (P2 : (((w.toInt = (-1)) ∧ (¬ (((0 : Int) ≤ x1.toInt) ∧ (x1.toInt ≤ 255))) ∧ ((i2 7429).toInt = (i1 7429).toInt)) ∨ (((0 : Int) ≤ x1.toInt) ∧ (x1.toInt ≤ 255) ∧ (((w.toInt = (-3)) ∧ ((120 : Int) ≤ (i1 7429).toInt) ∧ ((i2 7429).toInt = (i1 7429).toInt)) ∨ (((i1 7429).toInt < 120) ∧ (w.toInt = ((i1 7429).toInt + 1)) ∧ ((i2 7429).toInt = ((i1 7429).toInt + 1)))))) ∧ ((((0 : Int) ≤ x1.toInt) ∧ (x1.toInt ≤ 255) ∧ ((i1 7429).toInt < 120) → a2 119 = (a1 119).set (i1 7429).toNatClampNeg x1) ∧ (¬ (((0 : Int) ≤ x1.toInt) ∧ (x1.toInt ≤ 255) ∧ ((i1 7429).toInt < 120)) → a2 119 = a1 119))) : kTap i2 a2 ∧ v = w := by
  obtain ⟨D, o1, o2⟩ := P1
  obtain ⟨D1, p1, p2⟩ := P2
  have e1 := h.1
  have e2 := g1.ti 7429 rfl
  have e3 := g2.ti 6273 rfl
  have b1 := g1.fa 119 rfl
  have b2 := g2.fa 99 rfl
  refine ⟨⟨by omega, ?_⟩, kj_v (by omega)⟩
  by_cases c : 0 ≤ x1.toInt ∧ x1.toInt ≤ 255 ∧ (i 6273).toInt < 120
  · have ei : i1 7429 = i 6273 := kj_v (by omega)
    rw [b2, o1 ⟨c.1, c.2.1, c.2.2⟩, p1 ⟨c.1, c.2.1, by omega⟩, b1, h.2, ei]
  · rw [b2, o2 (fun z => c ⟨z.1, z.2.1, z.2.2⟩), p2 (fun z => c ⟨z.1, z.2.1, by omega⟩), b1, h.2]
theorem st_tlaw {i i1 i2 : Nat → Int32} {a a1 a2 : Nat → List Int32} {q q1 q2 : Nat → List Int64} {r r1 r2 : Nat → Nat} (h : kTap i a) (g1 : kG yw86_0 i a q r i1 a1 q1 r1) (P1 : (i1 6273).toInt = 0) (g2 : kG yw159_116 i1 a1 q1 r1 i2 a2 q2 r2) (P2 : (i2 7429).toInt = 0) : kTap i2 a2 := by
  have e3 := g2.ti 6273 rfl
  refine ⟨by omega, ?_⟩
  rw [g2.fa 99 rfl, g2.fa 119 rfl, g1.fa 99 rfl, g1.fa 119 rfl]
  exact h.2
