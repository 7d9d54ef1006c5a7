/-! A HELD BODY IS ONE OF THOSE THERE ARE -/
def kLat (i : Nat → Int32) (_ : Nat → List Int32) : Prop := ∀ t : Nat, t < 6 → (i (6656 + 128 * t)).toInt = 1 → (i (6657 + 128 * t)).toInt < (i 6017).toInt
def kFrL (w : kW) : Bool := (List.range 6).all (fun t => !kM w.1 (6656 + 128 * t) && !kM w.1 (6657 + 128 * t)) && !kM w.1 6017
theorem kLat_fr {w : kW} {i i1 : Nat → Int32} {a a1 : Nat → List Int32} {q q1 : Nat → List Int64} {r r1 : Nat → Nat} (g : kG w i a q r i1 a1 q1 r1) (f : kFrL w = true) (h : kLat i a) : kLat i1 a1 := by
  unfold kFrL at f
  rw [Bool.and_eq_true, List.all_eq_true, Bool.not_eq_true'] at f
  obtain ⟨f1, f2⟩ := f
  intro t ht c
  have z := f1 t (List.mem_range.mpr ht)
  rw [Bool.and_eq_true, Bool.not_eq_true', Bool.not_eq_true'] at z
  rw [g.fi _ z.1] at c
  rw [g.fi _ z.2, g.fi _ f2]
  exact h t ht c
theorem kLat_vw {i i1 : Nat → Int32} {q q1 : Nat → List Int64} {t : Nat} (e : kVw i1 q1 t = kVw i q t) : i1 (6656 + 128 * t) = i (6656 + 128 * t) ∧ i1 (6657 + 128 * t) = i (6657 + 128 * t) := by
  unfold kVw at e
  exact ⟨congrArg (fun z => z.1) e, congrArg (fun z => z.2.1) e⟩
theorem kLat_same {i i1 : Nat → Int32} {a a1 : Nat → List Int32} {q q1 : Nat → List Int64} (h : kLat i a) (e : ∀ t : Nat, t < 6 → kVw i1 q1 t = kVw i q t) (hb : (i 6017).toInt ≤ (i1 6017).toInt) : kLat i1 a1 := by
  intro t ht c
  obtain ⟨e1, e2⟩ := kLat_vw (e t ht)
  rw [e1] at c
  rw [e2]
  have := h t ht c
  omega
theorem st_keepL {i i1 : Nat → Int32} {a a1 : Nat → List Int32} {q q1 : Nat → List Int64} {r r1 : Nat → Nat} {v x1 x2 : Int32} (h : kLat i a) (g1 : kG xw113_0 i a q r i1 a1 q1 r1) (P1 : ((((v.toInt = 1) ∧ (((0 : Int) ≤ x1.toInt) ∧ (x1.toInt ≤ 5) ∧ ((x2.toInt = (-1)) ∨ (((0 : Int) ≤ x2.toInt) ∧ (x2.toInt < (i 6017).toInt))))) ∨ ((v.toInt = (-1)) ∧ (¬ (((0 : Int) ≤ x1.toInt) ∧ (x1.toInt ≤ 5) ∧ ((x2.toInt = (-1)) ∨ (((0 : Int) ≤ x2.toInt) ∧ (x2.toInt < (i 6017).toInt))))))) ∧ ((((v.toInt = 1) ∧ (x1.toInt = 0)) → ((((x2.toInt < 0) ∧ ((i1 6656).toInt = 0)) ∨ (((0 : Int) ≤ x2.toInt) ∧ ((i1 6656).toInt = 1))) ∧ ((i1 6657).toInt = x2.toInt)))) ∧ ((((v.toInt = 1) ∧ (x1.toInt = 1)) → ((((x2.toInt < 0) ∧ ((i1 6784).toInt = 0)) ∨ (((0 : Int) ≤ x2.toInt) ∧ ((i1 6784).toInt = 1))) ∧ ((i1 6785).toInt = x2.toInt)))) ∧ ((((v.toInt = 1) ∧ (x1.toInt = 2)) → ((((x2.toInt < 0) ∧ ((i1 6912).toInt = 0)) ∨ (((0 : Int) ≤ x2.toInt) ∧ ((i1 6912).toInt = 1))) ∧ ((i1 6913).toInt = x2.toInt)))) ∧ ((((v.toInt = 1) ∧ (x1.toInt = 3)) → ((((x2.toInt < 0) ∧ ((i1 7040).toInt = 0)) ∨ (((0 : Int) ≤ x2.toInt) ∧ ((i1 7040).toInt = 1))) ∧ ((i1 7041).toInt = x2.toInt)))) ∧ ((((v.toInt = 1) ∧ (x1.toInt = 4)) → ((((x2.toInt < 0) ∧ ((i1 7168).toInt = 0)) ∨ (((0 : Int) ≤ x2.toInt) ∧ ((i1 7168).toInt = 1))) ∧ ((i1 7169).toInt = x2.toInt)))) ∧ ((((v.toInt = 1) ∧ (x1.toInt = 5)) → ((((x2.toInt < 0) ∧ ((i1 7296).toInt = 0)) ∨ (((0 : Int) ≤ x2.toInt) ∧ ((i1 7296).toInt = 1))) ∧ ((i1 7297).toInt = x2.toInt))))) ∧ ((v = 1 → kOth i q i1 q1 x1.toInt) ∧ (v ≠ 1 → ∀ t : Nat, t < 6 → kVw i1 q1 t = kVw i q t))) : kLat i1 a1 := by
  obtain ⟨⟨D, I0, I1, I2, I3, I4, I5⟩, o1, o2⟩ := P1
  have hC : v.toInt = 1 → ∀ t : Nat, t < 6 → (t : Int) = x1.toInt → ((x2.toInt < 0 ∧ (i1 (6656 + 128 * t)).toInt = 0) ∨ ((0 : Int) ≤ x2.toInt ∧ (i1 (6656 + 128 * t)).toInt = 1)) ∧ (i1 (6657 + 128 * t)).toInt = x2.toInt := fun hv1 t ht c => match t, ht, c with
    | 0, _, c => I0 ⟨hv1, c.symm⟩
    | 1, _, c => I1 ⟨hv1, c.symm⟩
    | 2, _, c => I2 ⟨hv1, c.symm⟩
    | 3, _, c => I3 ⟨hv1, c.symm⟩
    | 4, _, c => I4 ⟨hv1, c.symm⟩
    | 5, _, c => I5 ⟨hv1, c.symm⟩
    | _ + 6, hh, _ => absurd hh (by omega)
  clear I0 I1 I2 I3 I4 I5
  have eb := g1.ti 6017 rfl
  by_cases hv : v.toInt = 1
  · intro t ht c
    by_cases hs : (t : Int) = x1.toInt
    · obtain ⟨z1, z2⟩ := hC hv t ht hs
      clear hC o1 o2
      omega
    · obtain ⟨e1, e2⟩ := kLat_vw (o1 (kj_v1 hv) t ht hs)
      rw [e1] at c
      rw [e2, kj_v eb]
      exact h t ht c
  · exact kLat_same h (o2 (fun z => hv (kj_1v z))) (by rw [kj_v eb]; exact Int.le_refl _)
theorem st_rowL {i i1 : Nat → Int32} {a a1 : Nat → List Int32} {q q1 : Nat → List Int64} {r r1 : Nat → Nat} {v x1 x2 x3 : Int32} (h : kLat i a) (g1 : kG xw114_0 i a q r i1 a1 q1 r1) (P1 : ((((v.toInt = 1) ∧ (((0 : Int) ≤ x1.toInt) ∧ (x1.toInt ≤ 5) ∧ ((0 : Int) ≤ x2.toInt) ∧ (x2.toInt ≤ 4) ∧ ((0 : Int) ≤ x3.toInt) ∧ (x3.toInt ≤ 60))) ∨ ((v.toInt = (-14)) ∧ ((0 : Int) ≤ x1.toInt) ∧ (x1.toInt ≤ 5) ∧ ((0 : Int) ≤ x2.toInt) ∧ (x2.toInt ≤ 4) ∧ (x3.toInt < 0)) ∨ ((v.toInt = (-1)) ∧ (¬ (((0 : Int) ≤ x1.toInt) ∧ (x1.toInt ≤ 5) ∧ ((0 : Int) ≤ x2.toInt) ∧ (x2.toInt ≤ 4) ∧ ((0 : Int) ≤ x3.toInt) ∧ (x3.toInt ≤ 60))) ∧ (¬ (((0 : Int) ≤ x1.toInt) ∧ (x1.toInt ≤ 5) ∧ ((0 : Int) ≤ x2.toInt) ∧ (x2.toInt ≤ 4) ∧ (x3.toInt < 0))))) ∧ ((((v.toInt = 1) ∧ (x1.toInt = 0)) → (((i1 6656).toInt = 2) ∧ ((i1 6658).toInt = x2.toInt) ∧ ((i1 6659).toInt = x3.toInt)))) ∧ ((((v.toInt = 1) ∧ (x1.toInt = 1)) → (((i1 6784).toInt = 2) ∧ ((i1 6786).toInt = x2.toInt) ∧ ((i1 6787).toInt = x3.toInt)))) ∧ ((((v.toInt = 1) ∧ (x1.toInt = 2)) → (((i1 6912).toInt = 2) ∧ ((i1 6914).toInt = x2.toInt) ∧ ((i1 6915).toInt = x3.toInt)))) ∧ ((((v.toInt = 1) ∧ (x1.toInt = 3)) → (((i1 7040).toInt = 2) ∧ ((i1 7042).toInt = x2.toInt) ∧ ((i1 7043).toInt = x3.toInt)))) ∧ ((((v.toInt = 1) ∧ (x1.toInt = 4)) → (((i1 7168).toInt = 2) ∧ ((i1 7170).toInt = x2.toInt) ∧ ((i1 7171).toInt = x3.toInt)))) ∧ ((((v.toInt = 1) ∧ (x1.toInt = 5)) → (((i1 7296).toInt = 2) ∧ ((i1 7298).toInt = x2.toInt) ∧ ((i1 7299).toInt = x3.toInt))))) ∧ ((v = 1 → kOth i q i1 q1 x1.toInt ∧ ∀ t : Nat, (t : Int) = x1.toInt → kZer (q1 (105 + 2 * t)) 0 x3.toInt.toNat) ∧ (v ≠ 1 → ∀ t : Nat, t < 6 → kVw i1 q1 t = kVw i q t))) : kLat i1 a1 := by
  obtain ⟨⟨D, I0, I1, I2, I3, I4, I5⟩, o1, o2⟩ := P1
  have hC : v.toInt = 1 → ∀ t : Nat, t < 6 → (t : Int) = x1.toInt → (i1 (6656 + 128 * t)).toInt = 2 := fun hv1 t ht c => match t, ht, c with
    | 0, _, c => (I0 ⟨hv1, c.symm⟩).1
    | 1, _, c => (I1 ⟨hv1, c.symm⟩).1
    | 2, _, c => (I2 ⟨hv1, c.symm⟩).1
    | 3, _, c => (I3 ⟨hv1, c.symm⟩).1
    | 4, _, c => (I4 ⟨hv1, c.symm⟩).1
    | 5, _, c => (I5 ⟨hv1, c.symm⟩).1
    | _ + 6, hh, _ => absurd hh (by omega)
  clear I0 I1 I2 I3 I4 I5
  have eb := g1.ti 6017 rfl
  by_cases hv : v.toInt = 1
  · intro t ht c
    by_cases hs : (t : Int) = x1.toInt
    · have z := hC hv t ht hs
      rw [c] at z
      exact absurd z (by decide)
    · obtain ⟨e1, e2⟩ := kLat_vw ((o1 (kj_v1 hv)).1 t ht hs)
      rw [e1] at c
      rw [e2, kj_v eb]
      exact h t ht c
  · exact kLat_same h (o2 (fun z => hv (kj_1v z))) (by rw [kj_v eb]; exact Int.le_refl _)
theorem st_bodyL {i i1 : Nat → Int32} {a a1 : Nat → List Int32} {q q1 : Nat → List Int64} {r r1 : Nat → Nat} {v x1 : Int32} (h : kLat i a) (g1 : kG xw110_0 i a q r i1 a1 q1 r1) (P1 : (((v.toInt = (-1)) ∧ (¬ (((0 : Int) ≤ x1.toInt) ∧ (x1.toInt ≤ 7))) ∧ ((i1 6017).toInt = (i 6017).toInt)) ∨ (((0 : Int) ≤ x1.toInt) ∧ (x1.toInt ≤ 7) ∧ (((v.toInt = (-3)) ∧ ((50 : Int) ≤ (i 6017).toInt) ∧ ((i1 6017).toInt = (i 6017).toInt)) ∨ (((i 6017).toInt < 50) ∧ (v.toInt = (i 6017).toInt) ∧ ((i1 6017).toInt = ((i 6017).toInt + 1)))))) ∧ ((v.toInt < 0 → a1 95 = a 95) ∧ (0 ≤ v.toInt → a1 95 = (a 95).set (i 6017).toNatClampNeg x1))) : kLat i1 a1 := by
  have hb : (i 6017).toInt ≤ (i1 6017).toInt := by
    have := P1.1
    clear P1
    omega
  exact kLat_same h (fun t ht => kVw_eq (g1.fi _ (match t, ht with | 0, _ => rfl | 1, _ => rfl | 2, _ => rfl | 3, _ => rfl | 4, _ => rfl | 5, _ => rfl | _ + 6, hh => absurd hh (by omega))) (g1.fi _ (match t, ht with | 0, _ => rfl | 1, _ => rfl | 2, _ => rfl | 3, _ => rfl | 4, _ => rfl | 5, _ => rfl | _ + 6, hh => absurd hh (by omega))) (g1.fi _ (match t, ht with | 0, _ => rfl | 1, _ => rfl | 2, _ => rfl | 3, _ => rfl | 4, _ => rfl | 5, _ => rfl | _ + 6, hh => absurd hh (by omega))) (g1.fi _ (match t, ht with | 0, _ => rfl | 1, _ => rfl | 2, _ => rfl | 3, _ => rfl | 4, _ => rfl | 5, _ => rfl | _ + 6, hh => absurd hh (by omega))) (g1.fq _ (match t, ht with | 0, _ => rfl | 1, _ => rfl | 2, _ => rfl | 3, _ => rfl | 4, _ => rfl | 5, _ => rfl | _ + 6, hh => absurd hh (by omega)))) hb
theorem tk_c {i : Nat → Int32} {a : Nat → List Int32} {v x1 x2 : Int32} (P : (True) ∧ ((¬ (((0 : Int) ≤ x1.toInt) ∧ (x1.toInt ≤ 5) ∧ ((0 : Int) ≤ x2.toInt) ∧ (x2.toInt ≤ 7)) → v = -1) ∧ ((x1.toInt = 0) ∧ ((0 : Int) ≤ x2.toInt) ∧ (x2.toInt ≤ 7) ∧ ((i 6656).toInt = 0) → v = -11) ∧ ((x1.toInt = 0) ∧ ((0 : Int) ≤ x2.toInt) ∧ (x2.toInt ≤ 7) ∧ ((i 6656).toInt ≠ 0) ∧ (¬ (((i 6656).toInt = 1) ∧ ((0 : Int) ≤ (i 6657).toInt) ∧ ((i 6657).toInt < (i 6017).toInt))) → v = -12) ∧ ((x1.toInt = 0) ∧ ((0 : Int) ≤ x2.toInt) ∧ (x2.toInt ≤ 7) ∧ ((i 6656).toInt = 1) ∧ ((0 : Int) ≤ (i 6657).toInt) ∧ ((i 6657).toInt < (i 6017).toInt) → v = tkV ((a 95).getD (i 6657).toNatClampNeg 0) x2) ∧ ((x1.toInt = 1) ∧ ((0 : Int) ≤ x2.toInt) ∧ (x2.toInt ≤ 7) ∧ ((i 6784).toInt = 0) → v = -11) ∧ ((x1.toInt = 1) ∧ ((0 : Int) ≤ x2.toInt) ∧ (x2.toInt ≤ 7) ∧ ((i 6784).toInt ≠ 0) ∧ (¬ (((i 6784).toInt = 1) ∧ ((0 : Int) ≤ (i 6785).toInt) ∧ ((i 6785).toInt < (i 6017).toInt))) → v = -12) ∧ ((x1.toInt = 1) ∧ ((0 : Int) ≤ x2.toInt) ∧ (x2.toInt ≤ 7) ∧ ((i 6784).toInt = 1) ∧ ((0 : Int) ≤ (i 6785).toInt) ∧ ((i 6785).toInt < (i 6017).toInt) → v = tkV ((a 95).getD (i 6785).toNatClampNeg 0) x2) ∧ ((x1.toInt = 2) ∧ ((0 : Int) ≤ x2.toInt) ∧ (x2.toInt ≤ 7) ∧ ((i 6912).toInt = 0) → v = -11) ∧ ((x1.toInt = 2) ∧ ((0 : Int) ≤ x2.toInt) ∧ (x2.toInt ≤ 7) ∧ ((i 6912).toInt ≠ 0) ∧ (¬ (((i 6912).toInt = 1) ∧ ((0 : Int) ≤ (i 6913).toInt) ∧ ((i 6913).toInt < (i 6017).toInt))) → v = -12) ∧ ((x1.toInt = 2) ∧ ((0 : Int) ≤ x2.toInt) ∧ (x2.toInt ≤ 7) ∧ ((i 6912).toInt = 1) ∧ ((0 : Int) ≤ (i 6913).toInt) ∧ ((i 6913).toInt < (i 6017).toInt) → v = tkV ((a 95).getD (i 6913).toNatClampNeg 0) x2) ∧ ((x1.toInt = 3) ∧ ((0 : Int) ≤ x2.toInt) ∧ (x2.toInt ≤ 7) ∧ ((i 7040).toInt = 0) → v = -11) ∧ ((x1.toInt = 3) ∧ ((0 : Int) ≤ x2.toInt) ∧ (x2.toInt ≤ 7) ∧ ((i 7040).toInt ≠ 0) ∧ (¬ (((i 7040).toInt = 1) ∧ ((0 : Int) ≤ (i 7041).toInt) ∧ ((i 7041).toInt < (i 6017).toInt))) → v = -12) ∧ ((x1.toInt = 3) ∧ ((0 : Int) ≤ x2.toInt) ∧ (x2.toInt ≤ 7) ∧ ((i 7040).toInt = 1) ∧ ((0 : Int) ≤ (i 7041).toInt) ∧ ((i 7041).toInt < (i 6017).toInt) → v = tkV ((a 95).getD (i 7041).toNatClampNeg 0) x2) ∧ ((x1.toInt = 4) ∧ ((0 : Int) ≤ x2.toInt) ∧ (x2.toInt ≤ 7) ∧ ((i 7168).toInt = 0) → v = -11) ∧ ((x1.toInt = 4) ∧ ((0 : Int) ≤ x2.toInt) ∧ (x2.toInt ≤ 7) ∧ ((i 7168).toInt ≠ 0) ∧ (¬ (((i 7168).toInt = 1) ∧ ((0 : Int) ≤ (i 7169).toInt) ∧ ((i 7169).toInt < (i 6017).toInt))) → v = -12) ∧ ((x1.toInt = 4) ∧ ((0 : Int) ≤ x2.toInt) ∧ (x2.toInt ≤ 7) ∧ ((i 7168).toInt = 1) ∧ ((0 : Int) ≤ (i 7169).toInt) ∧ ((i 7169).toInt < (i 6017).toInt) → v = tkV ((a 95).getD (i 7169).toNatClampNeg 0) x2) ∧ ((x1.toInt = 5) ∧ ((0 : Int) ≤ x2.toInt) ∧ (x2.toInt ≤ 7) ∧ ((i 7296).toInt = 0) → v = -11) ∧ ((x1.toInt = 5) ∧ ((0 : Int) ≤ x2.toInt) ∧ (x2.toInt ≤ 7) ∧ ((i 7296).toInt ≠ 0) ∧ (¬ (((i 7296).toInt = 1) ∧ ((0 : Int) ≤ (i 7297).toInt) ∧ ((i 7297).toInt < (i 6017).toInt))) → v = -12) ∧ ((x1.toInt = 5) ∧ ((0 : Int) ≤ x2.toInt) ∧ (x2.toInt ≤ 7) ∧ ((i 7296).toInt = 1) ∧ ((0 : Int) ≤ (i 7297).toInt) ∧ ((i 7297).toInt < (i 6017).toInt) → v = tkV ((a 95).getD (i 7297).toNatClampNeg 0) x2))) : ∀ t : Nat, t < 6 → (t : Int) = x1.toInt → (0 : Int) ≤ x2.toInt → x2.toInt ≤ 7 → ((i (6656 + 128 * t)).toInt = 0 → v = -11) ∧ ((i (6656 + 128 * t)).toInt ≠ 0 → ¬ ((i (6656 + 128 * t)).toInt = 1 ∧ (0 : Int) ≤ (i (6657 + 128 * t)).toInt ∧ (i (6657 + 128 * t)).toInt < (i 6017).toInt) → v = -12) ∧ ((i (6656 + 128 * t)).toInt = 1 → (0 : Int) ≤ (i (6657 + 128 * t)).toInt → (i (6657 + 128 * t)).toInt < (i 6017).toInt → v = tkV ((a 95).getD (i (6657 + 128 * t)).toNatClampNeg 0) x2) := by
  obtain ⟨_, _, A0, B0, C0, A1, B1, C1, A2, B2, C2, A3, B3, C3, A4, B4, C4, A5, B5, C5⟩ := P
  exact fun t ht c y0 y1 => match t, ht, c with
    | 0, _, c => ⟨fun z => A0 ⟨c.symm, y0, y1, z⟩, fun z y => B0 ⟨c.symm, y0, y1, z, y⟩, fun z y w => C0 ⟨c.symm, y0, y1, z, y, w⟩⟩
    | 1, _, c => ⟨fun z => A1 ⟨c.symm, y0, y1, z⟩, fun z y => B1 ⟨c.symm, y0, y1, z, y⟩, fun z y w => C1 ⟨c.symm, y0, y1, z, y, w⟩⟩
    | 2, _, c => ⟨fun z => A2 ⟨c.symm, y0, y1, z⟩, fun z y => B2 ⟨c.symm, y0, y1, z, y⟩, fun z y w => C2 ⟨c.symm, y0, y1, z, y, w⟩⟩
    | 3, _, c => ⟨fun z => A3 ⟨c.symm, y0, y1, z⟩, fun z y => B3 ⟨c.symm, y0, y1, z, y⟩, fun z y w => C3 ⟨c.symm, y0, y1, z, y, w⟩⟩
    | 4, _, c => ⟨fun z => A4 ⟨c.symm, y0, y1, z⟩, fun z y => B4 ⟨c.symm, y0, y1, z, y⟩, fun z y w => C4 ⟨c.symm, y0, y1, z, y, w⟩⟩
    | 5, _, c => ⟨fun z => A5 ⟨c.symm, y0, y1, z⟩, fun z y => B5 ⟨c.symm, y0, y1, z, y⟩, fun z y w => C5 ⟨c.symm, y0, y1, z, y, w⟩⟩
    | _ + 6, hh, _ => absurd hh (by omega)
theorem st_taken {i : Nat → Int32} {a : Nat → List Int32} {q : Nat → List Int64} {r : Nat → Nat} {v w x1 x2 : Int32} (h : kAll i a q r) (l : kLat i a) (P1 : (True) ∧ ((¬ (((0 : Int) ≤ x1.toInt) ∧ (x1.toInt ≤ 5) ∧ ((0 : Int) ≤ x2.toInt) ∧ (x2.toInt ≤ 7)) → v = -1) ∧ ((x1.toInt = 0) ∧ ((0 : Int) ≤ x2.toInt) ∧ (x2.toInt ≤ 7) ∧ ((i 6656).toInt = 0) → v = -11) ∧ ((x1.toInt = 0) ∧ ((0 : Int) ≤ x2.toInt) ∧ (x2.toInt ≤ 7) ∧ ((i 6656).toInt ≠ 0) ∧ (¬ (((i 6656).toInt = 1) ∧ ((0 : Int) ≤ (i 6657).toInt) ∧ ((i 6657).toInt < (i 6017).toInt))) → v = -12) ∧ ((x1.toInt = 0) ∧ ((0 : Int) ≤ x2.toInt) ∧ (x2.toInt ≤ 7) ∧ ((i 6656).toInt = 1) ∧ ((0 : Int) ≤ (i 6657).toInt) ∧ ((i 6657).toInt < (i 6017).toInt) → v = tkV ((a 95).getD (i 6657).toNatClampNeg 0) x2) ∧ ((x1.toInt = 1) ∧ ((0 : Int) ≤ x2.toInt) ∧ (x2.toInt ≤ 7) ∧ ((i 6784).toInt = 0) → v = -11) ∧ ((x1.toInt = 1) ∧ ((0 : Int) ≤ x2.toInt) ∧ (x2.toInt ≤ 7) ∧ ((i 6784).toInt ≠ 0) ∧ (¬ (((i 6784).toInt = 1) ∧ ((0 : Int) ≤ (i 6785).toInt) ∧ ((i 6785).toInt < (i 6017).toInt))) → v = -12) ∧ ((x1.toInt = 1) ∧ ((0 : Int) ≤ x2.toInt) ∧ (x2.toInt ≤ 7) ∧ ((i 6784).toInt = 1) ∧ ((0 : Int) ≤ (i 6785).toInt) ∧ ((i 6785).toInt < (i 6017).toInt) → v = tkV ((a 95).getD (i 6785).toNatClampNeg 0) x2) ∧ ((x1.toInt = 2) ∧ ((0 : Int) ≤ x2.toInt) ∧ (x2.toInt ≤ 7) ∧ ((i 6912).toInt = 0) → v = -11) ∧ ((x1.toInt = 2) ∧ ((0 : Int) ≤ x2.toInt) ∧ (x2.toInt ≤ 7) ∧ ((i 6912).toInt ≠ 0) ∧ (¬ (((i 6912).toInt = 1) ∧ ((0 : Int) ≤ (i 6913).toInt) ∧ ((i 6913).toInt < (i 6017).toInt))) → v = -12) ∧ ((x1.toInt = 2) ∧ ((0 : Int) ≤ x2.toInt) ∧ (x2.toInt ≤ 7) ∧ ((i 6912).toInt = 1) ∧ ((0 : Int) ≤ (i 6913).toInt) ∧ ((i 6913).toInt < (i 6017).toInt) → v = tkV ((a 95).getD (i 6913).toNatClampNeg 0) x2) ∧ ((x1.toInt = 3) ∧ ((0 : Int) ≤ x2.toInt) ∧ (x2.toInt ≤ 7) ∧ ((i 7040).toInt = 0) → v = -11) ∧ ((x1.toInt = 3) ∧ ((0 : Int) ≤ x2.toInt) ∧ (x2.toInt ≤ 7) ∧ ((i 7040).toInt ≠ 0) ∧ (¬ (((i 7040).toInt = 1) ∧ ((0 : Int) ≤ (i 7041).toInt) ∧ ((i 7041).toInt < (i 6017).toInt))) → v = -12) ∧ ((x1.toInt = 3) ∧ ((0 : Int) ≤ x2.toInt) ∧ (x2.toInt ≤ 7) ∧ ((i 7040).toInt = 1) ∧ ((0 : Int) ≤ (i 7041).toInt) ∧ ((i 7041).toInt < (i 6017).toInt) → v = tkV ((a 95).getD (i 7041).toNatClampNeg 0) x2) ∧ ((x1.toInt = 4) ∧ ((0 : Int) ≤ x2.toInt) ∧ (x2.toInt ≤ 7) ∧ ((i 7168).toInt = 0) → v = -11) ∧ ((x1.toInt = 4) ∧ ((0 : Int) ≤ x2.toInt) ∧ (x2.toInt ≤ 7) ∧ ((i 7168).toInt ≠ 0) ∧ (¬ (((i 7168).toInt = 1) ∧ ((0 : Int) ≤ (i 7169).toInt) ∧ ((i 7169).toInt < (i 6017).toInt))) → v = -12) ∧ ((x1.toInt = 4) ∧ ((0 : Int) ≤ x2.toInt) ∧ (x2.toInt ≤ 7) ∧ ((i 7168).toInt = 1) ∧ ((0 : Int) ≤ (i 7169).toInt) ∧ ((i 7169).toInt < (i 6017).toInt) → v = tkV ((a 95).getD (i 7169).toNatClampNeg 0) x2) ∧ ((x1.toInt = 5) ∧ ((0 : Int) ≤ x2.toInt) ∧ (x2.toInt ≤ 7) ∧ ((i 7296).toInt = 0) → v = -11) ∧ ((x1.toInt = 5) ∧ ((0 : Int) ≤ x2.toInt) ∧ (x2.toInt ≤ 7) ∧ ((i 7296).toInt ≠ 0) ∧ (¬ (((i 7296).toInt = 1) ∧ ((0 : Int) ≤ (i 7297).toInt) ∧ ((i 7297).toInt < (i 6017).toInt))) → v = -12) ∧ ((x1.toInt = 5) ∧ ((0 : Int) ≤ x2.toInt) ∧ (x2.toInt ≤ 7) ∧ ((i 7296).toInt = 1) ∧ ((0 : Int) ≤ (i 7297).toInt) ∧ ((i 7297).toInt < (i 6017).toInt) → v = tkV ((a 95).getD (i 7297).toNatClampNeg 0) x2))) (P2 : (True) ∧ ((¬ (((0 : Int) ≤ x1.toInt) ∧ (x1.toInt ≤ 5) ∧ ((0 : Int) ≤ x2.toInt) ∧ (x2.toInt ≤ 7)) → w = -1) ∧ (((0 : Int) ≤ x1.toInt) ∧ (x1.toInt ≤ 5) ∧ ((0 : Int) ≤ x2.toInt) ∧ (x2.toInt ≤ 7) ∧ (((a 136).getD x1.toNatClampNeg 0).toInt = (-1)) → w = -11) ∧ (((0 : Int) ≤ x1.toInt) ∧ (x1.toInt ≤ 5) ∧ ((0 : Int) ≤ x2.toInt) ∧ (x2.toInt ≤ 7) ∧ ((0 : Int) ≤ ((a 136).getD x1.toNatClampNeg 0).toInt) ∧ (((a 136).getD x1.toNatClampNeg 0).toInt ≤ 4) → w = -12) ∧ (((0 : Int) ≤ x1.toInt) ∧ (x1.toInt ≤ 5) ∧ ((0 : Int) ≤ x2.toInt) ∧ (x2.toInt ≤ 7) ∧ ((10 : Int) ≤ ((a 136).getD x1.toNatClampNeg 0).toInt) → w = tkV ((a 134).getD (((a 136).getD x1.toNatClampNeg 0) - 10).toNatClampNeg 0) x2))) : v = w := by
  obtain ⟨_, d0, d1, d2, d3⟩ := P2
  by_cases hin : ((0 : Int) ≤ x1.toInt) ∧ (x1.toInt ≤ 5) ∧ ((0 : Int) ≤ x2.toInt) ∧ (x2.toInt ≤ 7)
  · obtain ⟨y0, y1, y2, y3⟩ := hin
    obtain ⟨s, hs6, hsx⟩ : ∃ s : Nat, s < 6 ∧ (s : Int) = x1.toInt := ⟨x1.toInt.toNat, by omega, by omega⟩
    obtain ⟨c1, c2, c3⟩ := tk_c P1 s hs6 hsx y2 y3
    rw [kj_t hsx] at d1 d2 d3
    have sos := kI_so h.1.1 s hs6
    have hos := kI_ho h.1.1 s hs6
    obtain ⟨h0, h1, h2⟩ := h.2.2.1 s hs6
    have hl := l s hs6
    clear P1
    rcases (show (i (6656 + 128 * s)).toInt = 0 ∨ (i (6656 + 128 * s)).toInt = 1 ∨ (i (6656 + 128 * s)).toInt = 2 by omega) with z | z | z
    · rw [c1 z, d1 ⟨y0, y1, y2, y3, h0 z⟩]
    · obtain ⟨m1, m2⟩ := h1 z
      have e := kd_sub (x := (a 136).getD s 0) (y := 10) (by have : (10 : Int32).toInt = 10 := (by decide); omega) (by have : (10 : Int32).toInt = 10 := (by decide); have := Int32.toInt_lt ((a 136).getD s 0); omega)
      have e10 : (10 : Int32).toInt = 10 := by decide
      have ee : (a 136).getD s 0 - 10 = i (6657 + 128 * s) := kj_v (by omega)
      rw [c3 z m2 (hl z), d3 ⟨y0, y1, y2, y3, by omega⟩, ee, h.2.2.2.2]
    · obtain ⟨m1, _⟩ := h2 z
      rw [c2 (by omega) (by omega), d2 ⟨y0, y1, y2, y3, by omega, by omega⟩]
  · rw [P1.2.1 hin, d0 hin]
