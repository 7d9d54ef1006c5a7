/-! THE TAPE OF CLASS AND REFERENCE -/
def kTap (i : Nat → Int32) (a : Nat → List Int32) : Prop := (i 6273).toInt = (i 7429).toInt ∧ a 99 = a 119
def kFrT (w : kW) : Bool := !kM w.1 6273 && (!kM w.1 7429 && (!kM w.2.1 99 && !kM w.2.1 119))
theorem kTap_fr {w : kW} {i i1 : Nat → Int32} {a a1 : Nat → List Int32} {q q1 : Nat → List Int64} {r r1 : Nat → Nat} (g : kG w i a q r i1 a1 q1 r1) (f : kFrT w = true) (h : kTap i a) : kTap i1 a1 := by
  unfold kFrT at f
  simp only [Bool.and_eq_true, Bool.not_eq_true'] at f
  obtain ⟨f1, f2, f3, f4⟩ := f
  exact ⟨by rw [g.fi _ f1, g.fi _ f2]; exact h.1, by rw [g.fa _ f3, g.fa _ f4]; exact h.2⟩
theorem st_feed {i i1 i2 : Nat → Int32} {a a1 a2 : Nat → List Int32} {q q1 q2 : Nat → List Int64} {r r1 r2 : Nat → Nat} {v w x1 : Int32} (h : kTap i a) (g1 : kG yw85_0 i a q r i1 a1 q1 r1) (P1 : (((v.toInt = (-1)) ∧ (¬ (((0 : Int) ≤ x1.toInt) ∧ (x1.toInt ≤ 255))) ∧ ((i1 6273).toInt = (i 6273).toInt)) ∨ (((0 : Int) ≤ x1.toInt) ∧ (x1.toInt ≤ 255) ∧ (((v.toInt = (-3)) ∧ ((120 : Int) ≤ (i 6273).toInt) ∧ ((i1 6273).toInt = (i 6273).toInt)) ∨ (((i 6273).toInt < 120) ∧ (v.toInt = ((i 6273).toInt + 1)) ∧ ((i1 6273).toInt = ((i 6273).toInt + 1)))))) ∧ ((((0 : Int) ≤ x1.toInt) ∧ (x1.toInt ≤ 255) ∧ ((i 6273).toInt < 120) → a1 99 = (a 99).set (i 6273).toNatClampNeg x1) ∧ (¬ (((0 : Int) ≤ x1.toInt) ∧ (x1.toInt ≤ 255) ∧ ((i 6273).toInt < 120)) → a1 99 = a 99))) (g2 : kG yw146_116 i1 a1 q1 r1 i2 a2 q2 r2) (P2 : (((w.toInt = (-1)) ∧ (¬ (((0 : Int) ≤ x1.toInt) ∧ (x1.toInt ≤ 255))) ∧ ((i2 7429).toInt = (i1 7429).toInt)) ∨ (((0 : Int) ≤ x1.toInt) ∧ (x1.toInt ≤ 255) ∧ (((w.toInt = (-3)) ∧ ((120 : Int) ≤ (i1 7429).toInt) ∧ ((i2 7429).toInt = (i1 7429).toInt)) ∨ (((i1 7429).toInt < 120) ∧ (w.toInt = ((i1 7429).toInt + 1)) ∧ ((i2 7429).toInt = ((i1 7429).toInt + 1)))))) ∧ ((((0 : Int) ≤ x1.toInt) ∧ (x1.toInt ≤ 255) ∧ ((i1 7429).toInt < 120) → a2 119 = (a1 119).set (i1 7429).toNatClampNeg x1) ∧ (¬ (((0 : Int) ≤ x1.toInt) ∧ (x1.toInt ≤ 255) ∧ ((i1 7429).toInt < 120)) → a2 119 = a1 119))) : kTap i2 a2 ∧ v = w := by
  obtain ⟨D, o1, o2⟩ := P1
  obtain ⟨D1, p1, p2⟩ := P2
  have e1 := h.1
  have e2 := g1.ti 7429 rfl
  have e3 := g2.ti 6273 rfl
  have b1 := g1.fa 119 rfl
  have b2 := g2.fa 99 rfl
  refine ⟨⟨by omega, ?_⟩, kj_v (by omega)⟩
  by_cases c : 0 ≤ x1.toInt ∧ x1.toInt ≤ 255 ∧ (i 6273).toInt < 120
  · have ei : i1 7429 = i 6273 := kj_v (by omega)
    rw [b2, o1 ⟨c.1, c.2.1, c.2.2⟩, p1 ⟨c.1, c.2.1, by omega⟩, b1, h.2, ei]
  · rw [b2, o2 (fun z => c ⟨z.1, z.2.1, z.2.2⟩), p2 (fun z => c ⟨z.1, z.2.1, by omega⟩), b1, h.2]
theorem st_tlaw {i i1 i2 : Nat → Int32} {a a1 a2 : Nat → List Int32} {q q1 q2 : Nat → List Int64} {r r1 r2 : Nat → Nat} (h : kTap i a) (g1 : kG yw86_0 i a q r i1 a1 q1 r1) (P1 : (i1 6273).toInt = 0) (g2 : kG yw159_116 i1 a1 q1 r1 i2 a2 q2 r2) (P2 : (i2 7429).toInt = 0) : kTap i2 a2 := by
  have e3 := g2.ti 6273 rfl
  refine ⟨by omega, ?_⟩
  rw [g2.fa 99 rfl, g2.fa 119 rfl, g1.fa 99 rfl, g1.fa 119 rfl]
  exact h.2
theorem st_put2 {i i1 i2 : Nat → Int32} {a a1 a2 : Nat → List Int32} {q q1 q2 : Nat → List Int64} {r r1 r2 : Nat → Nat} {v w x1 x2 : Int32} {x3 : Int64} (h : kAll i a q r) (g1 : kG yw115_0 i a q r i1 a1 q1 r1) (P1 : (((((x1.toInt < 0) ∨ ((5 : Int) < x1.toInt)) → (v.toInt = (-1)))) ∧ (((x1.toInt = 0) → (((v.toInt = 1) ∧ ((i 6656).toInt = 2) ∧ ((0 : Int) ≤ x2.toInt) ∧ (x2.toInt < (i 6659).toInt)) ∨ ((v.toInt = (-11)) ∧ ((i 6656).toInt = 0)) ∨ ((v.toInt = (-12)) ∧ ((i 6656).toInt = 1)) ∨ ((v.toInt = (-13)) ∧ ((i 6656).toInt = 2) ∧ ((x2.toInt < 0) ∨ ((i 6659).toInt ≤ x2.toInt)))))) ∧ (((x1.toInt = 1) → (((v.toInt = 1) ∧ ((i 6784).toInt = 2) ∧ ((0 : Int) ≤ x2.toInt) ∧ (x2.toInt < (i 6787).toInt)) ∨ ((v.toInt = (-11)) ∧ ((i 6784).toInt = 0)) ∨ ((v.toInt = (-12)) ∧ ((i 6784).toInt = 1)) ∨ ((v.toInt = (-13)) ∧ ((i 6784).toInt = 2) ∧ ((x2.toInt < 0) ∨ ((i 6787).toInt ≤ x2.toInt)))))) ∧ (((x1.toInt = 2) → (((v.toInt = 1) ∧ ((i 6912).toInt = 2) ∧ ((0 : Int) ≤ x2.toInt) ∧ (x2.toInt < (i 6915).toInt)) ∨ ((v.toInt = (-11)) ∧ ((i 6912).toInt = 0)) ∨ ((v.toInt = (-12)) ∧ ((i 6912).toInt = 1)) ∨ ((v.toInt = (-13)) ∧ ((i 6912).toInt = 2) ∧ ((x2.toInt < 0) ∨ ((i 6915).toInt ≤ x2.toInt)))))) ∧ (((x1.toInt = 3) → (((v.toInt = 1) ∧ ((i 7040).toInt = 2) ∧ ((0 : Int) ≤ x2.toInt) ∧ (x2.toInt < (i 7043).toInt)) ∨ ((v.toInt = (-11)) ∧ ((i 7040).toInt = 0)) ∨ ((v.toInt = (-12)) ∧ ((i 7040).toInt = 1)) ∨ ((v.toInt = (-13)) ∧ ((i 7040).toInt = 2) ∧ ((x2.toInt < 0) ∨ ((i 7043).toInt ≤ x2.toInt)))))) ∧ (((x1.toInt = 4) → (((v.toInt = 1) ∧ ((i 7168).toInt = 2) ∧ ((0 : Int) ≤ x2.toInt) ∧ (x2.toInt < (i 7171).toInt)) ∨ ((v.toInt = (-11)) ∧ ((i 7168).toInt = 0)) ∨ ((v.toInt = (-12)) ∧ ((i 7168).toInt = 1)) ∨ ((v.toInt = (-13)) ∧ ((i 7168).toInt = 2) ∧ ((x2.toInt < 0) ∨ ((i 7171).toInt ≤ x2.toInt)))))) ∧ (((x1.toInt = 5) → (((v.toInt = 1) ∧ ((i 7296).toInt = 2) ∧ ((0 : Int) ≤ x2.toInt) ∧ (x2.toInt < (i 7299).toInt)) ∨ ((v.toInt = (-11)) ∧ ((i 7296).toInt = 0)) ∨ ((v.toInt = (-12)) ∧ ((i 7296).toInt = 1)) ∨ ((v.toInt = (-13)) ∧ ((i 7296).toInt = 2) ∧ ((x2.toInt < 0) ∨ ((i 7299).toInt ≤ x2.toInt))))))) ∧ ((v = 1 → kOth i q i1 q1 x1.toInt ∧ ∀ t : Nat, (t : Int) = x1.toInt → i1 (6656 + 128 * t) = i (6656 + 128 * t) ∧ i1 (6657 + 128 * t) = i (6657 + 128 * t) ∧ i1 (6658 + 128 * t) = i (6658 + 128 * t) ∧ i1 (6659 + 128 * t) = i (6659 + 128 * t) ∧ q1 (105 + 2 * t) = (q (105 + 2 * t)).set x2.toNatClampNeg (kNar (i (6658 + 128 * t)) x3)) ∧ (v ≠ 1 → ∀ t : Nat, t < 6 → kVw i1 q1 t = kVw i q t))) (g2 : kG yw221_116 i1 a1 q1 r1 i2 a2 q2 r2) (P2 : (((((x1.toInt < 0) ∨ ((5 : Int) < x1.toInt)) → (w.toInt = (-1)))) ∧ (((((0 : Int) ≤ x1.toInt) ∧ (x1.toInt ≤ 5)) → (((w.toInt = 1) ∧ ((0 : Int) ≤ ((a1 136).getD x1.toNatClampNeg 0).toInt) ∧ (((a1 136).getD x1.toNatClampNeg 0).toInt ≤ 4) ∧ ((0 : Int) ≤ x2.toInt) ∧ (x2.toInt < ((a1 137).getD x1.toNatClampNeg 0).toInt)) ∨ ((w.toInt = (-11)) ∧ (((a1 136).getD x1.toNatClampNeg 0).toInt = (-1))) ∨ ((w.toInt = (-12)) ∧ (((a1 136).getD x1.toNatClampNeg 0).toInt ≠ (-1)) ∧ (¬ (((0 : Int) ≤ ((a1 136).getD x1.toNatClampNeg 0).toInt) ∧ (((a1 136).getD x1.toNatClampNeg 0).toInt ≤ 4)))) ∨ ((w.toInt = (-13)) ∧ ((0 : Int) ≤ ((a1 136).getD x1.toNatClampNeg 0).toInt) ∧ (((a1 136).getD x1.toNatClampNeg 0).toInt ≤ 4) ∧ (¬ (((0 : Int) ≤ x2.toInt) ∧ (x2.toInt < ((a1 137).getD x1.toNatClampNeg 0).toInt)))))))) ∧ ((w = 1 → q2 138 = (q1 138).set ((60 * x1) + x2).toNatClampNeg (kNar ((a1 136).getD x1.toNatClampNeg 0) x3)) ∧ (w ≠ 1 → q2 138 = q1 138))) : kAll i2 a2 q2 r2 ∧ v = w := by
  obtain ⟨⟨D, I0, I1, I2, I3, I4, I5⟩, o⟩ := P1
  obtain ⟨⟨D1, D2⟩, p⟩ := P2
  have hC : ∀ t : Nat, t < 6 → (t : Int) = x1.toInt → ((v.toInt = 1) ∧ ((i (6656 + 128 * t)).toInt = 2) ∧ ((0 : Int) ≤ x2.toInt) ∧ (x2.toInt < (i (6659 + 128 * t)).toInt)) ∨ ((v.toInt = -11) ∧ ((i (6656 + 128 * t)).toInt = 0)) ∨ ((v.toInt = -12) ∧ ((i (6656 + 128 * t)).toInt = 1)) ∨ ((v.toInt = -13) ∧ ((i (6656 + 128 * t)).toInt = 2) ∧ ((x2.toInt < 0) ∨ ((i (6659 + 128 * t)).toInt ≤ x2.toInt))) := fun t ht c => match t, ht, c with
    | 0, _, c => I0 c.symm
    | 1, _, c => I1 c.symm
    | 2, _, c => I2 c.symm
    | 3, _, c => I3 c.symm
    | 4, _, c => I4 c.symm
    | 5, _, c => I5 c.symm
    | _ + 6, hh, _ => absurd hh (by omega)
  refine ⟨st_put (x1 := x1) (x2 := x2) (x3 := x3) (v := v) (w := w) h g1 ⟨⟨fun z => by have := D z; omega, fun z => by have := I0 z; clear I0 I1 I2 I3 I4 I5 D2; omega, fun z => by have := I1 z; clear I0 I1 I2 I3 I4 I5 D2; omega, fun z => by have := I2 z; clear I0 I1 I2 I3 I4 I5 D2; omega, fun z => by have := I3 z; clear I0 I1 I2 I3 I4 I5 D2; omega, fun z => by have := I4 z; clear I0 I1 I2 I3 I4 I5 D2; omega, fun z => by have := I5 z; clear I0 I1 I2 I3 I4 I5 D2; omega⟩, o⟩ g2 ⟨⟨fun z => by have := D1 z; omega, fun z => by have := D2 z; clear I0 I1 I2 I3 I4 I5 D2; omega⟩, p⟩, ?_⟩
  clear I0 I1 I2 I3 I4 I5
  by_cases hin : 0 ≤ x1.toInt ∧ x1.toInt ≤ 5
  · obtain ⟨s, hs6, hsx⟩ : ∃ s : Nat, s < 6 ∧ (s : Int) = x1.toInt := ⟨x1.toInt.toNat, by omega, by omega⟩
    have hc := hC s hs6 hsx
    have hr := D2 hin
    rw [kj_t hsx, g1.fa _ rfl, g1.fa _ rfl] at hr
    have sos := kI_so h.1.1 s hs6
    obtain ⟨h0, h1, h2⟩ := h.2.2.1 s hs6
    clear D2
    have k2 : (i (6656 + 128 * s)).toInt = 2 → ((a 136).getD s 0).toInt = (i (6658 + 128 * s)).toInt ∧ ((a 137).getD s 0).toInt = (i (6659 + 128 * s)).toInt := fun z => ⟨(h2 z).1, (h2 z).2.1⟩
    refine kj_v ?_
    rcases hc with z | z | z | z
    · have := k2 z.2.1; omega
    · have := h0 z.2; omega
    · have := h1 z.2; omega
    · have := k2 z.2.1; omega
  · have d := D (by omega)
    have d1 := D1 (by omega)
    exact kj_v (by omega)
