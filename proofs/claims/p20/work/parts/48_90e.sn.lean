section SN
variable {i i1 i2 : Nat → Int32} {a a1 a2 : Nat → List Int32} {q q1 q2 : Nat → List Int64} {r r1 r2 : Nat → Nat} {u1 u2 x1 x2 x3 : Int32}
set_option maxHeartbeats 4000000 in
theorem st_buyer (K : kI i a q ∧ kr r) (h : kMar i a r) (g1 : kG yw80_0 i a q r i1 a1 q1 r1) (P1 : pt_ke80_0 x1 x2 u1 i a q r i1 a1 q1 r1) (g2 : kG yw135_116 i1 a1 q1 r1 i2 a2 q2 r2) (P2 : pt_ke135_116 x1 x2 u2 i1 a1 q1 r1 i2 a2 q2 r2) : kMar i2 a2 r2 ∧ u1 = u2 := by
  obtain ⟨hI, hr⟩ := K
  obtain ⟨h1, h2, h3, h4, h5, h6, h7, h8⟩ := h
  have b8 := kI_64 hI
  have P2 : pt_ke135_116 x1 x2 u2 i a q r i2 a2 q2 r2 := by
    unfold pt_ke135_116 at P2 ⊢
    simp only [g1.fi 7424 rfl, g1.fa 117 rfl, g1.fa 118 rfl] at P2
    exact P2
  have p1 := P1.1
  have p2 := P2.1
  rw [← h1] at p2
  have lw := kLaw_fr g2 (by decide +kernel) g1.R (kLaw_fr g1 (by decide +kernel) hr h7)
  have ld := kLd_fr g2 (by decide +kernel) (kLd_fr g1 (by decide +kernel) h5)
  have e64 := g2.fi 64 rfl
  have ev : u1 = u2 := kj_v (by omega)
  have cn : i2 64 = i2 7424 := kj_v (by rw [e64]; omega)
  have up : (i 64).toInt ≤ (i2 64).toInt := by rw [e64]; omega
  have gr : kGr i2 a2 := by
    unfold kGr
    rw [g2.fi 5700 rfl, g1.fi 5700 rfl, g2.fi 5701 rfl, g1.fi 5701 rfl, g2.fi 7452 rfl, g1.fi 7452 rfl, g2.fi 7453 rfl, g1.fi 7453 rfl, g2.fa 90 rfl, g1.fa 90 rfl, g2.fa 91 rfl, g1.fa 91 rfl, g2.fa 92 rfl, g1.fa 92 rfl, g2.fa 93 rfl, g1.fa 93 rfl, g2.fa 133 rfl, g1.fa 133 rfl]
    exact gRel_up up h4
  have im : kIm i2 a2 := by
    unfold kIm
    rw [g2.fi 2 rfl, g1.fi 2 rfl, g2.fi 7448 rfl, g1.fi 7448 rfl, g2.fi 1600 rfl, g1.fi 1600 rfl, g2.fi 1608 rfl, g1.fi 1608 rfl, g2.fi 1609 rfl, g1.fi 1609 rfl, g2.fi 1986 rfl, g1.fi 1986 rfl, g2.fi 7449 rfl, g1.fi 7449 rfl, g2.fa 26 rfl, g1.fa 26 rfl, g2.fa 30 rfl, g1.fa 30 rfl, g2.fa 32 rfl, g1.fa 32 rfl, g2.fa 33 rfl, g1.fa 33 rfl, g2.fa 38 rfl, g1.fa 38 rfl, g2.fa 131 rfl, g1.fa 131 rfl, g2.fa 132 rfl, g1.fa 132 rfl]
    exact ⟨h8.1, fun z => ⟨(h8.2 z).1, Int.le_trans (h8.2 z).2.1 up, (h8.2 z).2.2⟩⟩
  by_cases hC : ((0 : Int) ≤ x1.toInt) ∧ (x1.toInt ≤ 9) ∧ ((0 : Int) ≤ x2.toInt) ∧ (x2.toInt ≤ 9) ∧ ((i 64).toInt < 8)
  · have eb : (i2 64).toInt = (i 64).toInt + 1 := by rw [e64]; omega
    clear p1 p2
    have hC2 : ((0 : Int) ≤ x1.toInt) ∧ (x1.toInt ≤ 9) ∧ ((0 : Int) ≤ x2.toInt) ∧ (x2.toInt ≤ 9) ∧ ((i 7424).toInt < 8) := by rw [← h1]; exact hC
    obtain ⟨_, c1, c2, c3, c4, c5, _⟩ := P1
    obtain ⟨_, d1, d2, _⟩ := P2
    have d1 := d1 hC2
    have d2 := d2 hC2
    rw [← h1] at d1 d2
    refine ⟨⟨cn, ?_, ?_, gr, ld, ?_, lw, im⟩, ev⟩
    · unfold kMk
      rw [g2.fi 72 rfl, g1.fi 72 rfl, g2.fi 73 rfl, g1.fi 73 rfl, g2.fi 450 rfl, g1.fi 450 rfl, g2.fa 2 rfl, g2.fa 6 rfl, g2.fa 8 rfl, g1.fa 8 rfl, g2.fa 9 rfl, g1.fa 9 rfl, c1 hC, c5 hC, d1]
      exact add_mk h2 (fun j hj h8 => (h6 j hj h8).1) b8.1 hC.2.2.2.2 eb (kl_2 hI) (kl_6 hI) (kl_118 hI)
    · unfold kNr
      rw [g2.fi 70 rfl, g1.fi 70 rfl, g2.fi 71 rfl, g1.fi 71 rfl, g2.fi 72 rfl, g1.fi 72 rfl, g2.fi 7426 rfl, g1.fi 7426 rfl, g2.fi 7427 rfl, g1.fi 7427 rfl, g2.fa 2 rfl, g2.fa 3 rfl, g2.fa 4 rfl, g2.fa 5 rfl, c1 hC, c2 hC, c3 hC, c4 hC, d1, d2]
      exact add_nr h3 (fun j hj h8 => (h6 j hj h8).2) b8.1 hC.2.2.2.2 (kl_2 hI) (kl_3 hI) (kl_4 hI) (kl_5 hI) (kl_118 hI) (kl_117 hI)
    · unfold kZe
      rw [d1, d2]
      exact add_ze h6 b8.1 hC.2.2.2.2 eb (kl_118 hI) (kl_117 hI)
  · have eb : i2 64 = i 64 := kj_v (by rw [e64]; omega)
    have hC2 : ¬ (((0 : Int) ≤ x1.toInt) ∧ (x1.toInt ≤ 9) ∧ ((0 : Int) ≤ x2.toInt) ∧ (x2.toInt ≤ 9) ∧ ((i 7424).toInt < 8)) := by rw [← h1]; exact hC
    obtain ⟨_, _, _, _, _, _, n1, n2, n3, n4, n5⟩ := P1
    obtain ⟨_, _, _, m1, m2⟩ := P2
    refine ⟨⟨cn, ?_, ?_, gr, ld, ?_, lw, im⟩, ev⟩
    · unfold kMk
      rw [eb, g2.fi 72 rfl, g1.fi 72 rfl, g2.fi 73 rfl, g1.fi 73 rfl, g2.fi 450 rfl, g1.fi 450 rfl, g2.fa 2 rfl, g2.fa 6 rfl, g2.fa 8 rfl, g1.fa 8 rfl, g2.fa 9 rfl, g1.fa 9 rfl, n1 hC, n5 hC, m1 hC2]
      exact h2
    · unfold kNr
      rw [g2.fi 70 rfl, g1.fi 70 rfl, g2.fi 71 rfl, g1.fi 71 rfl, g2.fi 72 rfl, g1.fi 72 rfl, g2.fi 7426 rfl, g1.fi 7426 rfl, g2.fi 7427 rfl, g1.fi 7427 rfl, g2.fa 2 rfl, g2.fa 3 rfl, g2.fa 4 rfl, g2.fa 5 rfl, n1 hC, n2 hC, n3 hC, n4 hC, m1 hC2, m2 hC2]
      exact h3
    · unfold kZe
      rw [eb, m1 hC2, m2 hC2]
      exact h6
/-! answers that change nothing -/
end SN

