/-! RING and MOST: class and reference answer alike -/
theorem st_round {i i1 i2 : Nat → Int32} {a a1 a2 : Nat → List Int32} {q q1 q2 : Nat → List Int64} {r r1 r2 : Nat → Nat} {u1 u2 x1 x2 : Int32} (K : kAll i a q r) (h : kMar i a r) (g1 : kG yw96_0 i a q r i1 a1 q1 r1) (P1 : pt_ke96_0 x1 x2 u1 i a q r i1 a1 q1 r1) (P2 : pt_kz189_116 x1 x2 u2 i1 a1 q1 r1 i2 a2 q2 r2) : u1 = u2 := by
  have P2 := rTop_fr (g1.fi 7424 rfl) (g1.fa 136 rfl) (g1.fa 137 rfl) (g1.fq 138 rfl) P2.2.2
  have e := gKn_fr g1 (by decide +kernel)
  have e64 : i1 7424 = i 64 := (g1.fi 7424 rfl).trans h.1.symm
  have eR : gEq (gB i a) (gR i1 a1) := ⟨(g1.fa 118 rfl).symm, rfl⟩
  refine top_same K.2.2.1 h.1 Iff.rfl (kI_ho K.1.1) (fun t ht => (kI_so K.1.1 t ht).1) (fun t ht => (kI_ln K.1.1 t ht).2) (fun n L L1 ok h0 h20 hL f g => ?_) P1.2 P2
  rw [e, e64, (g1.fa 118 rfl : a1 118 = a 118)] at g
  exact fRn_same eR h0 hL ok rfl f g
