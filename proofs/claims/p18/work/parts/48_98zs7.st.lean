/-! JUDGED: class and reference answer alike -/
theorem st_judge {i i1 i2 : Nat → Int32} {a a1 a2 : Nat → List Int32} {q q1 q2 : Nat → List Int64} {r r1 r2 : Nat → Nat} {u1 u2 x1 : Int32} (K : kAll i a q r) (h : kMar i a r) (R8 : kRow8 i a q) (g1 : kG yw97_0 i a q r i1 a1 q1 r1) (P1 : pt_ke97_0 x1 u1 i a q r i1 a1 q1 r1) (P2 : pt_kz193_116 x1 u2 i1 a1 q1 r1 i2 a2 q2 r2) : u1 = u2 := by
  have P2 := rTop_fr (g1.fi 7424 rfl) (g1.fa 136 rfl) (g1.fa 137 rfl) (g1.fq 138 rfl) P2.2.2
  have e := gKn_fr g1 (by decide +kernel)
  have eR : gEq (gB i a) (gR i1 a1) := ⟨(g1.fa 118 rfl).symm, rfl⟩
  refine top_same K.2.2.1 h.1 Iff.rfl (kI_ho K.1.1) (fun t ht => (kI_so K.1.1 t ht).1) (fun t ht => (kI_ln K.1.1 t ht).2) (fun n L L1 ok h0 h20 hL f g => ?_) P1.2 P2
  refine se_same (a := a) K.2.2.1 (kI_ho K.1.1) (fun t ht => (kI_so K.1.1 t ht).1) (jd_y ok) (fun t ht et h2 h0 f g => ?_) f (rSe_c (g1.fa 136 rfl) g)
  rw [e, (g1.fa 137 rfl : a1 137 = a 137), (g1.fq 138 rfl : q1 138 = q 138)] at g
  exact jd_fin K.2.2.1 R8 ht et h2 h0 eR hL f g
