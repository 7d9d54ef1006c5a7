section SN
variable {i i1 i2 : Nat → Int32} {a a1 a2 : Nat → List Int32} {q q1 q2 : Nat → List Int64} {r r1 r2 : Nat → Nat} {u1 u2 x1 x2 x3 : Int32}
set_option maxHeartbeats 4000000 in
theorem st_mend (K : kI i a q ∧ kr r) (h : kMar i a r) (g1 : kG yw83_0 i a q r i1 a1 q1 r1) (P1 : pt_ke83_0 x1 x2 x3 u1 i a q r i1 a1 q1 r1) (g2 : kG yw142_116 i1 a1 q1 r1 i2 a2 q2 r2) (P2 : pt_ke142_116 x1 x2 x3 u2 i1 a1 q1 r1 i2 a2 q2 r2) : kMar i2 a2 r2 ∧ u1 = u2 := by
  obtain ⟨hI, hr⟩ := K
  have b8 := kI_64 hI
  unfold pt_ke142_116 at P2
  rw [g1.fi 7424 rfl, ← h.1, g1.fi 7426 rfl, g1.fi 7427 rfl, g1.fi 7452 rfl, g1.fi 7453 rfl, g1.fa 117 rfl, g1.fa 118 rfl, g1.fa 133 rfl] at P2
  obtain ⟨_, cv, c1, c2, c3, c4, c5, c6, c7, c8, c9, c10, c11, c12, c13⟩ := P1
  obtain ⟨_, ⟨dv, d1, d2, d3, d4, d5, d6, d7⟩, _⟩ := P2
  obtain ⟨m, k⟩ := mend_rel (n := x1) (w := x2) (v := x3) h.2.2.1 (nl_of hI) h.2.2.2.1 (gl_of hI) b8.2
  refine ⟨mn_fin hr h g1 g2 m k (by decide +kernel) (by decide +kernel) (kT7 ((g2.fa 2 rfl).trans c1) ((g2.fa 3 rfl).trans c2) ((g2.fa 4 rfl).trans c3) ((g2.fa 5 rfl).trans c4) ((g2.fi 70 rfl).trans c5) ((g2.fi 71 rfl).trans c6) ((g2.fi 72 rfl).trans c7)) (kT4 d1 d2 d3 d4) (kT6 ((g2.fa 90 rfl).trans c8) ((g2.fa 91 rfl).trans c9) ((g2.fa 92 rfl).trans c10) ((g2.fa 93 rfl).trans c11) ((g2.fi 5700 rfl).trans c12) ((g2.fi 5701 rfl).trans c13)) (kTT3 d5 d6 d7), ?_⟩
  rw [cv, dv]
  exact m.1
set_option maxHeartbeats 4000000 in
theorem st_undo (K : kI i a q ∧ kr r) (h : kMar i a r) (g1 : kG yw108_0 i a q r i1 a1 q1 r1) (P1 : pt_ke108_0 u1 i a q r i1 a1 q1 r1) (g2 : kG yw144_116 i1 a1 q1 r1 i2 a2 q2 r2) (P2 : pt_ke144_116 u2 i1 a1 q1 r1 i2 a2 q2 r2) : kMar i2 a2 r2 ∧ u1 = u2 := by
  obtain ⟨hI, hr⟩ := K
  have b8 := kI_64 hI
  unfold pt_ke144_116 at P2
  rw [g1.fi 7426 rfl, g1.fi 7427 rfl, g1.fi 7452 rfl, g1.fi 7453 rfl, g1.fa 117 rfl, g1.fa 118 rfl, g1.fa 133 rfl] at P2
  obtain ⟨_, cv, c1, c2, c3, c4, c5, c6, c7, c8, c9, c10, c11, c12, c13⟩ := P1
  obtain ⟨_, dv, d1, d2, d3, d4, d5, d6, d7⟩ := P2
  obtain ⟨m, k⟩ := undo_rel h.2.2.1 (nl_of hI) h.2.2.2.1 b8.2
  refine ⟨mn_fin hr h g1 g2 m k (by decide +kernel) (by decide +kernel) (kT7 ((g2.fa 2 rfl).trans c1) ((g2.fa 3 rfl).trans c2) ((g2.fa 4 rfl).trans c3) ((g2.fa 5 rfl).trans c4) ((g2.fi 70 rfl).trans c5) ((g2.fi 71 rfl).trans c6) ((g2.fi 72 rfl).trans c7)) (kT4 d1 d2 d3 d4) (kT6 ((g2.fa 90 rfl).trans c8) ((g2.fa 91 rfl).trans c9) ((g2.fa 92 rfl).trans c10) ((g2.fa 93 rfl).trans c11) ((g2.fi 5700 rfl).trans c12) ((g2.fi 5701 rfl).trans c13)) (kTT3 d5 d6 d7), ?_⟩
  rw [cv, dv]
  exact m.1
set_option maxHeartbeats 4000000 in
theorem st_redo (K : kI i a q ∧ kr r) (h : kMar i a r) (g1 : kG yw109_0 i a q r i1 a1 q1 r1) (P1 : pt_ke109_0 u1 i a q r i1 a1 q1 r1) (g2 : kG yw145_116 i1 a1 q1 r1 i2 a2 q2 r2) (P2 : pt_ke145_116 u2 i1 a1 q1 r1 i2 a2 q2 r2) : kMar i2 a2 r2 ∧ u1 = u2 := by
  obtain ⟨hI, hr⟩ := K
  have b8 := kI_64 hI
  unfold pt_ke145_116 at P2
  rw [g1.fi 7426 rfl, g1.fi 7427 rfl, g1.fi 7452 rfl, g1.fi 7453 rfl, g1.fa 117 rfl, g1.fa 118 rfl, g1.fa 133 rfl] at P2
  obtain ⟨_, cv, c1, c2, c3, c4, c5, c6, c7, c8, c9, c10, c11, c12, c13⟩ := P1
  obtain ⟨_, dv, d1, d2, d3, d4, d5, d6, d7⟩ := P2
  obtain ⟨m, k⟩ := redo_rel h.2.2.1 (nl_of hI) h.2.2.2.1 b8.2
  refine ⟨mn_fin hr h g1 g2 m k (by decide +kernel) (by decide +kernel) (kT7 ((g2.fa 2 rfl).trans c1) ((g2.fa 3 rfl).trans c2) ((g2.fa 4 rfl).trans c3) ((g2.fa 5 rfl).trans c4) ((g2.fi 70 rfl).trans c5) ((g2.fi 71 rfl).trans c6) ((g2.fi 72 rfl).trans c7)) (kT4 d1 d2 d3 d4) (kT6 ((g2.fa 90 rfl).trans c8) ((g2.fa 91 rfl).trans c9) ((g2.fa 92 rfl).trans c10) ((g2.fa 93 rfl).trans c11) ((g2.fi 5700 rfl).trans c12) ((g2.fi 5701 rfl).trans c13)) (kTT3 d5 d6 d7), ?_⟩
  rw [cv, dv]
  exact m.1
end SN
