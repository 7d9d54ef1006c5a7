/-! A ROW OF BYTES HOLDS BYTES: carried through keep, row, put, shift -/
def kRbt (i : Nat → Int32) (q : Nat → List Int64) (t : Nat) : Prop := (i (6656 + 128 * t)).toInt = 2 → (i (6658 + 128 * t)).toInt = 0 → ∀ j : Nat, (j : Int) < (i (6659 + 128 * t)).toInt → by8 ((q (105 + 2 * t)).getD j 0)
def kRow8 (i : Nat → Int32) (_ : Nat → List Int32) (q : Nat → List Int64) : Prop := ∀ t : Nat, t < 6 → kRbt i q t
def kFrR (w : kW) : Bool := (List.range 6).all (fun t => !kM w.1 (6656 + 128 * t) && (!kM w.1 (6658 + 128 * t) && (!kM w.1 (6659 + 128 * t) && !kM w.2.2.1 (105 + 2 * t))))
theorem kRow8_fr {w : kW} {i i1 : Nat → Int32} {a a1 : Nat → List Int32} {q q1 : Nat → List Int64} {r r1 : Nat → Nat} (g : kG w i a q r i1 a1 q1 r1) (f : kFrR w = true) (h : kRow8 i a q) : kRow8 i1 a1 q1 := by
  unfold kFrR at f
  rw [List.all_eq_true] at f
  intro t ht c s j hj
  have z := f t (List.mem_range.mpr ht)
  rw [Bool.and_eq_true, Bool.and_eq_true, Bool.and_eq_true, Bool.not_eq_true', Bool.not_eq_true', Bool.not_eq_true', Bool.not_eq_true'] at z
  rw [g.fi _ z.1] at c
  rw [g.fi _ z.2.1] at s
  rw [g.fi _ z.2.2.1] at hj
  rw [g.fq _ z.2.2.2]
  exact h t ht c s j hj
theorem kRbt_vw {i i1 : Nat → Int32} {q q1 : Nat → List Int64} {t : Nat} (e : kVw i1 q1 t = kVw i q t) (h : kRbt i q t) : kRbt i1 q1 t := by
  unfold kVw at e
  have e1 : i1 (6656 + 128 * t) = i (6656 + 128 * t) := congrArg (fun z => z.1) e
  have e3 : i1 (6658 + 128 * t) = i (6658 + 128 * t) := congrArg (fun z => z.2.2.1) e
  have e4 : i1 (6659 + 128 * t) = i (6659 + 128 * t) := congrArg (fun z => z.2.2.2.1) e
  have e5 : q1 (105 + 2 * t) = q (105 + 2 * t) := congrArg (fun z => z.2.2.2.2) e
  intro c s j hj
  rw [e1] at c
  rw [e3] at s
  rw [e4] at hj
  rw [e5]
  exact h c s j hj
theorem by8_set {l : List Int64} {k m : Nat} {x : Int64} (hx : by8 x) (h : by8 (l.getD m 0)) : by8 ((l.set k x).getD m 0) := by
  by_cases c : k < l.length
  · rw [kset_getL c]
    by_cases e : m = k
    · rw [if_pos e]
      exact hx
    · rw [if_neg e]
      exact h
  · rw [List.set_eq_of_length_le (by omega)]
    exact h
theorem by8_nar {s : Int32} {x : Int64} (h : s.toInt = 0) : by8 (kNar s x) := by
  unfold kNar
  rw [if_pos h]
  exact by8_of _
theorem kRow8_0 {i : Nat → Int32} {a : Nat → List Int32} {q : Nat → List Int64} (h : ∀ t : Nat, t < 6 → (i (6656 + 128 * t)).toInt = 0) : kRow8 i a q := fun t ht c => absurd c (by rw [h t ht]; decide)
theorem st_keepR {i i1 : Nat → Int32} {a a1 : Nat → List Int32} {q q1 : Nat → List Int64} {r r1 : Nat → Nat} {v x1 x2 : Int32} (h : kRow8 i a q) (P1 : ((((v.toInt = 1) ∧ (((0 : Int) ≤ x1.toInt) ∧ (x1.toInt ≤ 5) ∧ ((x2.toInt = (-1)) ∨ (((0 : Int) ≤ x2.toInt) ∧ (x2.toInt < (i 6017).toInt))))) ∨ ((v.toInt = (-1)) ∧ (¬ (((0 : Int) ≤ x1.toInt) ∧ (x1.toInt ≤ 5) ∧ ((x2.toInt = (-1)) ∨ (((0 : Int) ≤ x2.toInt) ∧ (x2.toInt < (i 6017).toInt))))))) ∧ ((((v.toInt = 1) ∧ (x1.toInt = 0)) → ((((x2.toInt < 0) ∧ ((i1 6656).toInt = 0)) ∨ (((0 : Int) ≤ x2.toInt) ∧ ((i1 6656).toInt = 1))) ∧ ((i1 6657).toInt = x2.toInt)))) ∧ ((((v.toInt = 1) ∧ (x1.toInt = 1)) → ((((x2.toInt < 0) ∧ ((i1 6784).toInt = 0)) ∨ (((0 : Int) ≤ x2.toInt) ∧ ((i1 6784).toInt = 1))) ∧ ((i1 6785).toInt = x2.toInt)))) ∧ ((((v.toInt = 1) ∧ (x1.toInt = 2)) → ((((x2.toInt < 0) ∧ ((i1 6912).toInt = 0)) ∨ (((0 : Int) ≤ x2.toInt) ∧ ((i1 6912).toInt = 1))) ∧ ((i1 6913).toInt = x2.toInt)))) ∧ ((((v.toInt = 1) ∧ (x1.toInt = 3)) → ((((x2.toInt < 0) ∧ ((i1 7040).toInt = 0)) ∨ (((0 : Int) ≤ x2.toInt) ∧ ((i1 7040).toInt = 1))) ∧ ((i1 7041).toInt = x2.toInt)))) ∧ ((((v.toInt = 1) ∧ (x1.toInt = 4)) → ((((x2.toInt < 0) ∧ ((i1 7168).toInt = 0)) ∨ (((0 : Int) ≤ x2.toInt) ∧ ((i1 7168).toInt = 1))) ∧ ((i1 7169).toInt = x2.toInt)))) ∧ ((((v.toInt = 1) ∧ (x1.toInt = 5)) → ((((x2.toInt < 0) ∧ ((i1 7296).toInt = 0)) ∨ (((0 : Int) ≤ x2.toInt) ∧ ((i1 7296).toInt = 1))) ∧ ((i1 7297).toInt = x2.toInt))))) ∧ ((v = 1 → kOth i q i1 q1 x1.toInt) ∧ (v ≠ 1 → ∀ t : Nat, t < 6 → kVw i1 q1 t = kVw i q t))) : kRow8 i1 a1 q1 := by
  obtain ⟨⟨D, I0, I1, I2, I3, I4, I5⟩, o1, o2⟩ := P1
  have hC : v.toInt = 1 → ∀ t : Nat, t < 6 → (t : Int) = x1.toInt → ((x2.toInt < 0 ∧ (i1 (6656 + 128 * t)).toInt = 0) ∨ ((0 : Int) ≤ x2.toInt ∧ (i1 (6656 + 128 * t)).toInt = 1)) ∧ (i1 (6657 + 128 * t)).toInt = x2.toInt := fun hv1 t ht c => match t, ht, c with
    | 0, _, c => I0 ⟨hv1, c.symm⟩
    | 1, _, c => I1 ⟨hv1, c.symm⟩
    | 2, _, c => I2 ⟨hv1, c.symm⟩
    | 3, _, c => I3 ⟨hv1, c.symm⟩
    | 4, _, c => I4 ⟨hv1, c.symm⟩
    | 5, _, c => I5 ⟨hv1, c.symm⟩
    | _ + 6, hh, _ => absurd hh (by omega)
  clear I0 I1 I2 I3 I4 I5
  by_cases hv : v.toInt = 1
  · intro t ht
    by_cases hs : (t : Int) = x1.toInt
    · obtain ⟨z1, _⟩ := hC hv t ht hs
      intro c
      exfalso
      clear hC o1 o2
      omega
    · exact kRbt_vw (o1 (kj_v1 hv) t ht hs) (h t ht)
  · exact fun t ht => kRbt_vw (o2 (fun z => hv (kj_1v z)) t ht) (h t ht)
theorem st_rowR {i i1 : Nat → Int32} {a a1 : Nat → List Int32} {q q1 : Nat → List Int64} {r r1 : Nat → Nat} {v x1 x2 x3 : Int32} (h : kRow8 i a q) (P1 : ((((v.toInt = 1) ∧ (((0 : Int) ≤ x1.toInt) ∧ (x1.toInt ≤ 5) ∧ ((0 : Int) ≤ x2.toInt) ∧ (x2.toInt ≤ 4) ∧ ((0 : Int) ≤ x3.toInt) ∧ (x3.toInt ≤ 60))) ∨ ((v.toInt = (-14)) ∧ ((0 : Int) ≤ x1.toInt) ∧ (x1.toInt ≤ 5) ∧ ((0 : Int) ≤ x2.toInt) ∧ (x2.toInt ≤ 4) ∧ (x3.toInt < 0)) ∨ ((v.toInt = (-1)) ∧ (¬ (((0 : Int) ≤ x1.toInt) ∧ (x1.toInt ≤ 5) ∧ ((0 : Int) ≤ x2.toInt) ∧ (x2.toInt ≤ 4) ∧ ((0 : Int) ≤ x3.toInt) ∧ (x3.toInt ≤ 60))) ∧ (¬ (((0 : Int) ≤ x1.toInt) ∧ (x1.toInt ≤ 5) ∧ ((0 : Int) ≤ x2.toInt) ∧ (x2.toInt ≤ 4) ∧ (x3.toInt < 0))))) ∧ ((((v.toInt = 1) ∧ (x1.toInt = 0)) → (((i1 6656).toInt = 2) ∧ ((i1 6658).toInt = x2.toInt) ∧ ((i1 6659).toInt = x3.toInt)))) ∧ ((((v.toInt = 1) ∧ (x1.toInt = 1)) → (((i1 6784).toInt = 2) ∧ ((i1 6786).toInt = x2.toInt) ∧ ((i1 6787).toInt = x3.toInt)))) ∧ ((((v.toInt = 1) ∧ (x1.toInt = 2)) → (((i1 6912).toInt = 2) ∧ ((i1 6914).toInt = x2.toInt) ∧ ((i1 6915).toInt = x3.toInt)))) ∧ ((((v.toInt = 1) ∧ (x1.toInt = 3)) → (((i1 7040).toInt = 2) ∧ ((i1 7042).toInt = x2.toInt) ∧ ((i1 7043).toInt = x3.toInt)))) ∧ ((((v.toInt = 1) ∧ (x1.toInt = 4)) → (((i1 7168).toInt = 2) ∧ ((i1 7170).toInt = x2.toInt) ∧ ((i1 7171).toInt = x3.toInt)))) ∧ ((((v.toInt = 1) ∧ (x1.toInt = 5)) → (((i1 7296).toInt = 2) ∧ ((i1 7298).toInt = x2.toInt) ∧ ((i1 7299).toInt = x3.toInt))))) ∧ ((v = 1 → kOth i q i1 q1 x1.toInt ∧ ∀ t : Nat, (t : Int) = x1.toInt → kZer (q1 (105 + 2 * t)) 0 x3.toInt.toNat) ∧ (v ≠ 1 → ∀ t : Nat, t < 6 → kVw i1 q1 t = kVw i q t))) : kRow8 i1 a1 q1 := by
  obtain ⟨⟨D, I0, I1, I2, I3, I4, I5⟩, o1, o2⟩ := P1
  have hC : v.toInt = 1 → ∀ t : Nat, t < 6 → (t : Int) = x1.toInt → (i1 (6659 + 128 * t)).toInt = x3.toInt := fun hv1 t ht c => match t, ht, c with
    | 0, _, c => (I0 ⟨hv1, c.symm⟩).2.2
    | 1, _, c => (I1 ⟨hv1, c.symm⟩).2.2
    | 2, _, c => (I2 ⟨hv1, c.symm⟩).2.2
    | 3, _, c => (I3 ⟨hv1, c.symm⟩).2.2
    | 4, _, c => (I4 ⟨hv1, c.symm⟩).2.2
    | 5, _, c => (I5 ⟨hv1, c.symm⟩).2.2
    | _ + 6, hh, _ => absurd hh (by omega)
  clear I0 I1 I2 I3 I4 I5
  by_cases hv : v.toInt = 1
  · intro t ht
    by_cases hs : (t : Int) = x1.toInt
    · intro _ _ j hj
      rw [hC hv t ht hs] at hj
      have z := (o1 (kj_v1 hv)).2 t hs j (by omega)
      rw [Nat.zero_add] at z
      rw [z]
      exact by8_0
    · exact kRbt_vw ((o1 (kj_v1 hv)).1 t ht hs) (h t ht)
  · exact fun t ht => kRbt_vw (o2 (fun z => hv (kj_1v z)) t ht) (h t ht)
theorem st_putR {i i1 : Nat → Int32} {a a1 : Nat → List Int32} {q q1 : Nat → List Int64} {r r1 : Nat → Nat} {v x1 x2 : Int32} {x3 : Int64} (h : kRow8 i a q) (P1 : (((((x1.toInt < 0) ∨ ((5 : Int) < x1.toInt)) → (v.toInt < 0))) ∧ (((x1.toInt = 0) → (((v.toInt = 1) ∧ ((i 6656).toInt = 2) ∧ ((0 : Int) ≤ x2.toInt) ∧ (x2.toInt < (i 6659).toInt)) ∨ ((v.toInt < 0) ∧ (¬ (((i 6656).toInt = 2) ∧ ((0 : Int) ≤ x2.toInt) ∧ (x2.toInt < (i 6659).toInt))))))) ∧ (((x1.toInt = 1) → (((v.toInt = 1) ∧ ((i 6784).toInt = 2) ∧ ((0 : Int) ≤ x2.toInt) ∧ (x2.toInt < (i 6787).toInt)) ∨ ((v.toInt < 0) ∧ (¬ (((i 6784).toInt = 2) ∧ ((0 : Int) ≤ x2.toInt) ∧ (x2.toInt < (i 6787).toInt))))))) ∧ (((x1.toInt = 2) → (((v.toInt = 1) ∧ ((i 6912).toInt = 2) ∧ ((0 : Int) ≤ x2.toInt) ∧ (x2.toInt < (i 6915).toInt)) ∨ ((v.toInt < 0) ∧ (¬ (((i 6912).toInt = 2) ∧ ((0 : Int) ≤ x2.toInt) ∧ (x2.toInt < (i 6915).toInt))))))) ∧ (((x1.toInt = 3) → (((v.toInt = 1) ∧ ((i 7040).toInt = 2) ∧ ((0 : Int) ≤ x2.toInt) ∧ (x2.toInt < (i 7043).toInt)) ∨ ((v.toInt < 0) ∧ (¬ (((i 7040).toInt = 2) ∧ ((0 : Int) ≤ x2.toInt) ∧ (x2.toInt < (i 7043).toInt))))))) ∧ (((x1.toInt = 4) → (((v.toInt = 1) ∧ ((i 7168).toInt = 2) ∧ ((0 : Int) ≤ x2.toInt) ∧ (x2.toInt < (i 7171).toInt)) ∨ ((v.toInt < 0) ∧ (¬ (((i 7168).toInt = 2) ∧ ((0 : Int) ≤ x2.toInt) ∧ (x2.toInt < (i 7171).toInt))))))) ∧ (((x1.toInt = 5) → (((v.toInt = 1) ∧ ((i 7296).toInt = 2) ∧ ((0 : Int) ≤ x2.toInt) ∧ (x2.toInt < (i 7299).toInt)) ∨ ((v.toInt < 0) ∧ (¬ (((i 7296).toInt = 2) ∧ ((0 : Int) ≤ x2.toInt) ∧ (x2.toInt < (i 7299).toInt)))))))) ∧ ((v = 1 → kOth i q i1 q1 x1.toInt ∧ ∀ t : Nat, (t : Int) = x1.toInt → i1 (6656 + 128 * t) = i (6656 + 128 * t) ∧ i1 (6657 + 128 * t) = i (6657 + 128 * t) ∧ i1 (6658 + 128 * t) = i (6658 + 128 * t) ∧ i1 (6659 + 128 * t) = i (6659 + 128 * t) ∧ q1 (105 + 2 * t) = (q (105 + 2 * t)).set x2.toNatClampNeg (kNar (i (6658 + 128 * t)) x3)) ∧ (v ≠ 1 → ∀ t : Nat, t < 6 → kVw i1 q1 t = kVw i q t))) : kRow8 i1 a1 q1 := by
  obtain ⟨_, o1, o2⟩ := P1
  by_cases hv : v.toInt = 1
  · intro t ht
    by_cases hs : (t : Int) = x1.toInt
    · obtain ⟨e1, _, e3, e4, e5⟩ := (o1 (kj_v1 hv)).2 t hs
      intro c s j hj
      rw [e1] at c
      rw [e3] at s
      rw [e4] at hj
      rw [e5]
      exact by8_set (by8_nar s) (h t ht c s j hj)
    · exact kRbt_vw ((o1 (kj_v1 hv)).1 t ht hs) (h t ht)
  · exact fun t ht => kRbt_vw (o2 (fun z => hv (kj_1v z)) t ht) (h t ht)
theorem kq_60 {i : Nat → Int32} {a : Nat → List Int32} {q : Nat → List Int64} (hI : kI i a q) : ∀ t : Nat, t < 6 → (q (105 + 2 * t)).length = 60
  | 0, _ => hI.2.2.2 105
  | 1, _ => hI.2.2.2 107
  | 2, _ => hI.2.2.2 109
  | 3, _ => hI.2.2.2 111
  | 4, _ => hI.2.2.2 113
  | 5, _ => hI.2.2.2 115
  | _ + 6, h => absurd h (by omega)
theorem st_shiftR {i i1 : Nat → Int32} {a a1 : Nat → List Int32} {q q1 : Nat → List Int64} {r r1 : Nat → Nat} {v x1 x2 x3 x4 x5 : Int32} (hI : kI i a q) (h : kRow8 i a q) (g1 : kG xw117_0 i a q r i1 a1 q1 r1) (P1 : (True) ∧ ((∀ s t : Nat, s < 6 → t < 6 → (s : Int) = x1.toInt → (t : Int) = x3.toInt → kSfV (i (6656 + 128 * s)) (i (6656 + 128 * t)) (i (6658 + 128 * s)) (i (6658 + 128 * t)) (i (6659 + 128 * s)) (i (6659 + 128 * t)) x2 x4 x5 v ∧ (0 ≤ v.toInt → q1 (105 + 2 * t) = mi_cpy (q (105 + 2 * s)) (q (105 + 2 * t)) x2.toNatClampNeg x4.toNatClampNeg x5.toNatClampNeg ∧ ∀ u : Nat, u < 6 → u ≠ t → q1 (105 + 2 * u) = q (105 + 2 * u))) ∧ (v.toInt < 0 → (∀ u : Nat, u < 6 → q1 (105 + 2 * u) = q (105 + 2 * u))) ∧ (¬ (0 ≤ x1.toInt ∧ x1.toInt ≤ 5 ∧ 0 ≤ x3.toInt ∧ x3.toInt ≤ 5) → v.toInt = -1))) : kRow8 i1 a1 q1 := by
  obtain ⟨_, o1, o2, o3⟩ := P1
  have F1 : ∀ t : Nat, t < 6 → i1 (6656 + 128 * t) = i (6656 + 128 * t) := fun t ht => g1.fi _ (match t, ht with | 0, _ => rfl | 1, _ => rfl | 2, _ => rfl | 3, _ => rfl | 4, _ => rfl | 5, _ => rfl | _ + 6, hh => absurd hh (by omega))
  have F3 : ∀ t : Nat, t < 6 → i1 (6658 + 128 * t) = i (6658 + 128 * t) := fun t ht => g1.fi _ (match t, ht with | 0, _ => rfl | 1, _ => rfl | 2, _ => rfl | 3, _ => rfl | 4, _ => rfl | 5, _ => rfl | _ + 6, hh => absurd hh (by omega))
  have F4 : ∀ t : Nat, t < 6 → i1 (6659 + 128 * t) = i (6659 + 128 * t) := fun t ht => g1.fi _ (match t, ht with | 0, _ => rfl | 1, _ => rfl | 2, _ => rfl | 3, _ => rfl | 4, _ => rfl | 5, _ => rfl | _ + 6, hh => absurd hh (by omega))
  have L : ∀ t : Nat, t < 6 → (q (105 + 2 * t)).length = 60 ∧ (i (6659 + 128 * t)).toInt ≤ 60 := fun t ht => ⟨kq_60 hI t ht, (kI_ln hI t ht).2⟩
  intro t ht c s j hj
  rw [F1 t ht] at c
  rw [F3 t ht] at s
  rw [F4 t ht] at hj
  by_cases hv : v.toInt < 0
  · rw [o2 hv t ht]
    exact h t ht c s j hj
  · by_cases hin : 0 ≤ x1.toInt ∧ x1.toInt ≤ 5 ∧ 0 ≤ x3.toInt ∧ x3.toInt ≤ 5
    · obtain ⟨k, e⟩ := o1 x1.toInt.toNat x3.toInt.toNat (by omega) (by omega) (by omega) (by omega)
      obtain ⟨e1, e2⟩ := e (by omega)
      by_cases hs : t = x3.toInt.toNat
      · subst hs
        rw [e1]
        rcases k with ⟨z, _⟩ | ⟨z, _⟩ | ⟨z, _⟩ | ⟨_, ⟨k1, k2, k3⟩, k4, k5, k6, k7, k8⟩
        · omega
        · omega
        · omega
        · have t2 := Int32.toNat_toInt x2
          have t4 := Int32.toNat_toInt x4
          have t5 := Int32.toNat_toInt x5
          have l1 := L x1.toInt.toNat (by omega)
          have l3 := L x3.toInt.toNat (by omega)
          have g := congrFun (mi_cpy_get (l := q (105 + 2 * x1.toInt.toNat)) (g := q (105 + 2 * x3.toInt.toNat)) (sp := x2.toNatClampNeg) (dp := x4.toNatClampNeg) (n := x5.toNatClampNeg) 0 (by omega) (by omega)) j
          have g : (mi_cpy (q (105 + 2 * x1.toInt.toNat)) (q (105 + 2 * x3.toInt.toNat)) x2.toNatClampNeg x4.toNatClampNeg x5.toNatClampNeg).getD j 0 = if x4.toNatClampNeg ≤ j ∧ j < x4.toNatClampNeg + x5.toNatClampNeg then (q (105 + 2 * x1.toInt.toNat)).getD (x2.toNatClampNeg + (j - x4.toNatClampNeg)) 0 else (q (105 + 2 * x3.toInt.toNat)).getD j 0 := g
          rw [g]
          by_cases y : x4.toNatClampNeg ≤ j ∧ j < x4.toNatClampNeg + x5.toNatClampNeg
          · rw [if_pos y]
            exact h x1.toInt.toNat (by omega) k1 (by omega) _ (by omega)
          · rw [if_neg y]
            exact h x3.toInt.toNat ht c s j hj
      · rw [e2 t ht hs]
        exact h t ht c s j hj
    · have := o3 hin
      omega
