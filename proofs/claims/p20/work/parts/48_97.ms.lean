/-! THE MARKETS AT THE BEGINNING -/
theorem kst_z (p j : Nat) (h : p ≠ 136) : (kst_a p).getD j 0 = 0 := by
  have ep : kst_a p = List.replicate (kL p) 0 := by
    unfold kst_a
    cases eb : Nat.beq p 136 with
    | true => exact absurd (Nat.eq_of_beq_eq_true eb) h
    | false => rfl
  rw [ep, kst_g0]
theorem kst_mar : kMar kst_i kst_a kst_r := by
  have z := kst_z
  have zz : ∀ p j n m : Nat, p ≠ 136 → n ≠ 136 → (kst_a p).getD j 0 = (kst_a n).getD m 0 := fun p j n m h1 h2 => (z p j h1).trans (z n m h2).symm
  refine ⟨by decide +kernel, ⟨fun j _ => zz _ _ _ _ (by decide) (by decide), ?_, ?_, fun j _ => zz _ _ _ _ (by decide) (by decide), ?_, fun j hj => ?_⟩, ⟨fun j _ => zz _ _ _ _ (by decide) (by decide), fun j _ => ⟨zz _ _ _ _ (by decide) (by decide), zz _ _ _ _ (by decide) (by decide), zz _ _ _ _ (by decide) (by decide)⟩, ?_, ?_, ?_⟩, ⟨?_, ?_, ⟨?_, ?_, ?_⟩, fun j hj => ?_⟩, by decide +kernel, fun j _ _ => ⟨z _ _ (by decide), z _ _ (by decide)⟩, ⟨by decide +kernel, fun h => absurd (by decide +kernel : (kst_i 7431).toInt = 0) h⟩, ⟨by decide +kernel, fun h => absurd (by decide +kernel : (kst_i 2).toInt = 0) h⟩⟩
  · rw [z 118 8 (by decide)]; decide +kernel
  · rw [z 118 9 (by decide)]; decide +kernel
  · rw [z 118 18 (by decide)]; decide +kernel
  · have e : (kst_i 450).toInt = 0 := by decide +kernel
    omega
  · show kst_i 70 = kst_i 7426
    decide +kernel
  · show kst_i 71 = kst_i 7427
    decide +kernel
  · show kst_i 72 = (kst_a 118).getD 8 0
    rw [z 118 8 (by decide)]; decide +kernel
  · show kst_i 5700 = kst_i 7452
    decide +kernel
  · show kst_i 5701 = kst_i 7453
    decide +kernel
  · show 0 ≤ (kst_i 7453).toInt
    decide +kernel
  · show (kst_i 7453).toInt ≤ (kst_i 7452).toInt
    decide +kernel
  · show (kst_i 7452).toInt ≤ 40
    decide +kernel
  · have e : (kst_i 7452).toInt = 0 := by decide +kernel
    have hj : (j : Int) < (kst_i 7452).toInt := hj
    omega
theorem mar_3rd {i : Nat → Int32} {a : Nat → List Int32} {q : Nat → List Int64} {r : Nat → Nat} (hI : kI i a q) (h : kMar i a r) : ((1 : Int) ≤ (i 70).toInt) ∧ ((i 70).toInt ≤ 5) := by
  rw [show i 70 = i 7426 from h.2.2.1.2.2.1]
  exact kI_3rd hI
