section SM
variable {i i1 i2 : Nat → Int32} {a a1 a2 : Nat → List Int32} {q q1 q2 : Nat → List Int64} {r r1 r2 : Nat → Nat} {u1 u2 x1 x2 x3 : Int32}
set_option maxHeartbeats 4000000 in
theorem st_even (K : kI i a q ∧ kr r) (h : kMar i a r) (g1 : kG yw103_0 i a q r i1 a1 q1 r1) (P1 : pt_ke103_0 u1 i a q r i1 a1 q1 r1) (g2 : kG yw203_116 i1 a1 q1 r1 i2 a2 q2 r2) (P2 : pt_ke203_116 u2 i1 a1 q1 r1 i2 a2 q2 r2) : kMar i2 a2 r2 ∧ u1 = u2 := by
  obtain ⟨hI, hr⟩ := K
  obtain ⟨h1, h2, h3, h4, h5, h6, h7, h8⟩ := h
  have e64 : i2 64 = i 64 := (g2.fi 64 rfl).trans (g1.fi 64 rfl)
  have e117 : a2 117 = a 117 := (g2.fa 117 rfl).trans (g1.fa 117 rfl)
  unfold pt_ke203_116 at P2
  simp only [g1.fa 118 rfl, g1.fa 130 rfl] at P2
  obtain ⟨_, c1, c2, c3, c4, c5⟩ := P1
  obtain ⟨_, d1, d2, d3⟩ := P2
  obtain ⟨z1, z2⟩ := ends_now h2 (kl_118 hI)
  have mk : kMk i2 a2 := by
    unfold kMk
    rw [e64, g2.fi 72 rfl, g2.fi 73 rfl, g2.fi 450 rfl, g1.fi 450 rfl, g2.fa 2 rfl, g1.fa 2 rfl, g2.fa 6 rfl, g2.fa 8 rfl, g1.fa 8 rfl, g2.fa 9 rfl, g1.fa 9 rfl, c1, c2, c3, d1]
    exact z1
  refine ⟨⟨kCn_fr g2 (by decide +kernel) (kCn_fr g1 (by decide +kernel) h1), mk, nr_mk mk h3 ((g2.fa 3 rfl).trans (g1.fa 3 rfl)) ((g2.fa 4 rfl).trans (g1.fa 4 rfl)) ((g2.fa 5 rfl).trans (g1.fa 5 rfl)) e117 ((g2.fi 70 rfl).trans (g1.fi 70 rfl)) ((g2.fi 71 rfl).trans (g1.fi 71 rfl)) ((g2.fi 7426 rfl).trans (g1.fi 7426 rfl)) ((g2.fi 7427 rfl).trans (g1.fi 7427 rfl)), kGr_fr g2 (by decide +kernel) (kGr_fr g1 (by decide +kernel) h4), ?_, ?_, kLaw_fr g2 (by decide +kernel) g1.R (kLaw_fr g1 (by decide +kernel) hr h7), kIm_fr g2 (by decide +kernel) (kIm_fr g1 (by decide +kernel) h8)⟩, ?_⟩
  · rw [g2.fa 14 rfl, c4, d2, h5]
  · intro j hj h8
    rw [e64] at hj
    refine ⟨?_, by rw [e117]; exact (h6 j hj h8).2⟩
    rw [← mk.2.2.2.1 j h8, g2.fa 6 rfl, c3, List.getD_eq_getElem?_getD, List.getElem?_replicate, if_pos h8]
    rfl
  · rw [c5, d3, (by decide : (8 : Int32).toNatClampNeg = 8)]
    exact z1.2.1
end SM
