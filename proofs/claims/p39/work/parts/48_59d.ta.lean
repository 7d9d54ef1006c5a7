/-! THE TRACE OF CLASS AND REFERENCE -/
def kTrc (i : Nat → Int32) (a : Nat → List Int32) : Prop := i 6019 = i 7457 ∧ a 96 = a 135
def kFrR (w : kW) : Bool := !kM w.1 6019 && (!kM w.1 7457 && (!kM w.2.1 96 && !kM w.2.1 135))
theorem kTrc_fr {w : kW} {i i1 : Nat → Int32} {a a1 : Nat → List Int32} {q q1 : Nat → List Int64} {r r1 : Nat → Nat} (g : kG w i a q r i1 a1 q1 r1) (f : kFrR w = true) (h : kTrc i a) : kTrc i1 a1 := by
  unfold kFrR at f
  simp only [Bool.and_eq_true, Bool.not_eq_true'] at f
  obtain ⟨f1, f2, f3, f4⟩ := f
  exact ⟨by rw [g.fi _ f1, g.fi _ f2]; exact h.1, by rw [g.fa _ f3, g.fa _ f4]; exact h.2⟩
theorem st_act {i i1 i2 : Nat → Int32} {a a1 a2 : Nat → List Int32} {q q1 q2 : Nat → List Int64} {r r1 r2 : Nat → Nat} {v w x1 x2 x3 : Int32} (h : kAll i a q r) (l : kTrc i a) (g1 : kG yw111_0 i a q r i1 a1 q1 r1) (P1 : (True) ∧ (((0 ≤ x1.toInt ∧ x1.toInt < (i 6017).toInt ∧ 0 ≤ x2.toInt ∧ x2.toInt ≤ 3) → v = avV ((a 95).getD x1.toNatClampNeg 0) x2 x1 x3 ∧ trS (a 96) 0 (a1 96) (i1 6019) (trC ((a 95).getD x1.toNatClampNeg 0) x2)) ∧ (¬ (0 ≤ x1.toInt ∧ x1.toInt < (i 6017).toInt ∧ 0 ≤ x2.toInt ∧ x2.toInt ≤ 3) → v = 0 ∧ a1 96 = a 96 ∧ i1 6019 = 0))) (g2 : kG yw215_116 i1 a1 q1 r1 i2 a2 q2 r2) (P2 : (True) ∧ (((0 ≤ x1.toInt ∧ x1.toInt < (i1 7455).toInt ∧ 0 ≤ x2.toInt ∧ x2.toInt ≤ 3) → w = avV ((a1 134).getD x1.toNatClampNeg 0) x2 x1 x3 ∧ trS (a1 135) 0 (a2 135) (i2 7457) (trC ((a1 134).getD x1.toNatClampNeg 0) x2)) ∧ (¬ (0 ≤ x1.toInt ∧ x1.toInt < (i1 7455).toInt ∧ 0 ≤ x2.toInt ∧ x2.toInt ≤ 3) → w = 0 ∧ a2 135 = a1 135 ∧ i2 7457 = 0))) : kTrc i2 a2 ∧ v = w := by
  obtain ⟨_, c1, c2⟩ := P1
  obtain ⟨_, d1, d2⟩ := P2
  have e134 : a1 134 = a 95 := (g1.fa 134 rfl).trans h.2.2.2.2.symm
  have e135 : a1 135 = a 96 := (g1.fa 135 rfl).trans l.2.symm
  have eb : i1 7455 = i 6017 := (g1.fi 7455 rfl).trans (kj_v h.2.2.2.1.symm)
  rw [e134, e135, eb] at d1
  rw [e135, eb] at d2
  have f19 : i2 6019 = i1 6019 := g2.fi 6019 rfl
  have f96 : a2 96 = a1 96 := g2.fa 96 rfl
  by_cases hW : 0 ≤ x1.toInt ∧ x1.toInt < (i 6017).toInt ∧ 0 ≤ x2.toInt ∧ x2.toInt ≤ 3
  · obtain ⟨v1, _, t2, t3⟩ := c1 hW
    obtain ⟨w1, _, s2, s3⟩ := d1 hW
    exact ⟨⟨by rw [f19]; exact kj_v (t2.trans s2.symm), by rw [f96, t3, s3]⟩, v1.trans w1.symm⟩
  · obtain ⟨v1, t2, t3⟩ := c2 hW
    obtain ⟨w1, s2, s3⟩ := d2 hW
    exact ⟨⟨by rw [f19, t3, s3], by rw [f96, t2, s2]⟩, v1.trans w1.symm⟩
