section SM
variable {i i1 i2 : Nat → Int32} {a a1 a2 : Nat → List Int32} {q q1 q2 : Nat → List Int64} {r r1 r2 : Nat → Nat} {u1 u2 x1 x2 x3 : Int32}
set_option maxHeartbeats 4000000 in
theorem st_give (K : kI i a q ∧ kr r) (h : kMar i a r) (g1 : kG yw104_0 i a q r i1 a1 q1 r1) (P1 : pt_ke104_0 x1 x2 x3 u1 i a q r i1 a1 q1 r1) (g2 : kG yw204_116 i1 a1 q1 r1 i2 a2 q2 r2) (P2 : pt_ke204_116 x1 x2 x3 u2 i1 a1 q1 r1 i2 a2 q2 r2) : kMar i2 a2 r2 ∧ u1 = u2 := by
  obtain ⟨hI, hr⟩ := K
  obtain ⟨h1, h2, h3, h4, h5, h6, h7, h8⟩ := h
  have b8 := kI_64 hI
  have tx := Int32.toNat_toInt x1
  have P2 : pt_ke204_116 x1 x2 x3 u2 i a q r i2 a2 q2 r2 := by
    unfold pt_ke204_116 at P2 ⊢
    simp only [g1.fi 7424 rfl, g1.fa 118 rfl, g1.fa 130 rfl] at P2
    exact P2
  have e64 : i2 64 = i 64 := (g2.fi 64 rfl).trans (g1.fi 64 rfl)
  have e117 : a2 117 = a 117 := (g2.fa 117 rfl).trans (g1.fa 117 rfl)
  have fin : kMk i2 a2 → a2 14 = a2 130 → kMar i2 a2 r2 := fun mk ld => ⟨kCn_fr g2 (by decide +kernel) (kCn_fr g1 (by decide +kernel) h1), mk, nr_mk mk h3 ((g2.fa 3 rfl).trans (g1.fa 3 rfl)) ((g2.fa 4 rfl).trans (g1.fa 4 rfl)) ((g2.fa 5 rfl).trans (g1.fa 5 rfl)) e117 ((g2.fi 70 rfl).trans (g1.fi 70 rfl)) ((g2.fi 71 rfl).trans (g1.fi 71 rfl)) ((g2.fi 7426 rfl).trans (g1.fi 7426 rfl)) ((g2.fi 7427 rfl).trans (g1.fi 7427 rfl)), kGr_fr g2 (by decide +kernel) (kGr_fr g1 (by decide +kernel) h4), ld, ze_mk mk h2 h6 e64 e117 (fun j _ _ => by rw [g2.fa 6 rfl, g1.fa 6 rfl]), kLaw_fr g2 (by decide +kernel) g1.R (kLaw_fr g1 (by decide +kernel) hr h7), kIm_fr g2 (by decide +kernel) (kIm_fr g1 (by decide +kernel) h8)⟩
  have mkk : ∀ {A B : List Int32}, a1 2 = A → a2 118 = B → mNow (i 64) A (a 6) (i 72) (i 73) (i 450) (a 8) (a 9) B → kMk i2 a2 := by
    intro A B eA eB hm
    unfold kMk
    rw [e64, g2.fi 72 rfl, g1.fi 72 rfl, g2.fi 73 rfl, g1.fi 73 rfl, g2.fi 450 rfl, g1.fi 450 rfl, g2.fa 2 rfl, g2.fa 6 rfl, g1.fa 6 rfl, g2.fa 8 rfl, g1.fa 8 rfl, g2.fa 9 rfl, g1.fa 9 rfl, eA, eB]
    exact hm
  by_cases hA : ((0 : Int) ≤ x1.toInt) ∧ (x1.toInt < (i 64).toInt) ∧ ((0 : Int) ≤ x2.toInt) ∧ (x2.toInt < (i 64).toInt) ∧ (x1.toInt ≠ x2.toInt) ∧ ((1 : Int) ≤ x3.toInt) ∧ (x3.toInt ≤ 999)
  · obtain ⟨y1, y2, y3, y4, y5, y6, y7⟩ := hA
    have w2 : x1.toInt < (i 7424).toInt := by rw [← h1]; exact y2
    have w4 : x2.toInt < (i 7424).toInt := by rw [← h1]; exact y4
    have pe : (a 2).getD x1.toNatClampNeg 0 = (a 118).getD x1.toNatClampNeg 0 := h2.1 _ (by omega)
    by_cases hp : x3.toInt ≤ ((a 2).getD x1.toNatClampNeg 0).toInt
    · have hp2 : x3.toInt ≤ ((a 118).getD x1.toNatClampNeg 0).toInt := by rw [← pe]; exact hp
      have gi := gift_now (v := x3) h2 b8.2 ⟨y1, y2⟩ ⟨y3, y4⟩ (kl_2 hI) (kl_118 hI)
      have gi1 := gi.1 x1.toNatClampNeg (by omega)
      refine ⟨fin (mkk (P1.2.1 ⟨y1, y2, y3, y4, y5, y6, y7, hp⟩) (P2.2.1 ⟨y1, w2, y3, w4, y5, y6, y7, hp2⟩) gi) ?_, ?_⟩
      · rw [g2.fa 14 rfl, P1.2.2.1 ⟨y1, y2, y3, y4, y5, y6, y7, hp⟩, P2.2.2.1 ⟨y1, w2, y3, w4, y5, y6, y7, hp2⟩, h5]
      · rw [P1.2.2.2.1 ⟨y1, y2, y3, y4, y5, y6, y7, hp⟩, P2.2.2.2.1 ⟨y1, w2, y3, w4, y5, y6, y7, hp2⟩]
        exact gi1
    · have hp2 : ¬ (x3.toInt ≤ ((a 118).getD x1.toNatClampNeg 0).toInt) := by rw [← pe]; exact hp
      refine ⟨fin (mkk (P1.2.2.2.2.1 (fun z => hp z.2.2.2.2.2.2.2)) (P2.2.2.2.2.1 (fun z => hp2 z.2.2.2.2.2.2.2)) h2) ?_, ?_⟩
      · rw [g2.fa 14 rfl, P1.2.2.2.2.2.1 (fun z => hp z.2.2.2.2.2.2.2), P2.2.2.2.2.2.1 (fun z => hp2 z.2.2.2.2.2.2.2), h5]
      · rw [P1.2.2.2.2.2.2.1 ⟨y1, y2, y3, y4, y5, y6, y7, Int.not_le.mp hp⟩, P2.2.2.2.2.2.2.1 ⟨y1, w2, y3, w4, y5, y6, y7, Int.not_le.mp hp2⟩]
  · have hA2 : ¬ (((0 : Int) ≤ x1.toInt) ∧ (x1.toInt < (i 7424).toInt) ∧ ((0 : Int) ≤ x2.toInt) ∧ (x2.toInt < (i 7424).toInt) ∧ (x1.toInt ≠ x2.toInt) ∧ ((1 : Int) ≤ x3.toInt) ∧ (x3.toInt ≤ 999)) := by rw [← h1]; exact hA
    refine ⟨fin (mkk (P1.2.2.2.2.1 (fun z => hA ⟨z.1, z.2.1, z.2.2.1, z.2.2.2.1, z.2.2.2.2.1, z.2.2.2.2.2.1, z.2.2.2.2.2.2.1⟩)) (P2.2.2.2.2.1 (fun z => hA2 ⟨z.1, z.2.1, z.2.2.1, z.2.2.2.1, z.2.2.2.2.1, z.2.2.2.2.2.1, z.2.2.2.2.2.2.1⟩)) h2) ?_, ?_⟩
    · rw [g2.fa 14 rfl, P1.2.2.2.2.2.1 (fun z => hA ⟨z.1, z.2.1, z.2.2.1, z.2.2.2.1, z.2.2.2.2.1, z.2.2.2.2.2.1, z.2.2.2.2.2.2.1⟩), P2.2.2.2.2.2.1 (fun z => hA2 ⟨z.1, z.2.1, z.2.2.1, z.2.2.2.1, z.2.2.2.2.1, z.2.2.2.2.2.1, z.2.2.2.2.2.2.1⟩), h5]
    · rw [P1.2.2.2.2.2.2.2 hA, P2.2.2.2.2.2.2.2 hA2]
end SM
