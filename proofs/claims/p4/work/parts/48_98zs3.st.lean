/-! ROWS IN THOUGHT: class and reference answer alike -/
section ST98
variable {i i1 i2 : Nat → Int32} {a a1 a2 : Nat → List Int32} {q q1 q2 : Nat → List Int64} {r r1 r2 : Nat → Nat} {u1 u2 x1 x2 x3 x4 : Int32}
theorem st_onceMore (K : kAll i a q r) (h : kMar i a r) (g1 : kG yw91_0 i a q r i1 a1 q1 r1) (P1 : pt_ke91_0 x1 x2 x3 u1 i a q r i1 a1 q1 r1) (P2 : pt_kz180_116 x1 x2 x3 u2 i1 a1 q1 r1 i2 a2 q2 r2) : u1 = u2 := by
  have P2 := rTop_fr (g1.fi 7424 rfl) (g1.fa 136 rfl) (g1.fa 137 rfl) (g1.fq 138 rfl) P2.2.2
  have e := gKn_fr g1 (by decide +kernel)
  have eR : gEq (gB i a) (gR i1 a1) := ⟨(g1.fa 118 rfl).symm, rfl⟩
  rw [(g1.fi 7424 rfl).trans h.1.symm] at P2
  refine top_same K.2.2.1 h.1 Iff.rfl (kI_ho K.1.1) (fun t ht => (kI_so K.1.1 t ht).1) (fun t ht => (kI_ln K.1.1 t ht).2) (fun n L L1 ok h0 h20 hL f g => ?_) P1.2 P2
  rw [e, g1.fa 118 rfl] at g
  exact fBp_same h0 h20 hL f g
theorem st_hired (K : kAll i a q r) (h : kMar i a r) (g1 : kG yw92_0 i a q r i1 a1 q1 r1) (P1 : pt_ke92_0 x1 x2 x3 x4 u1 i a q r i1 a1 q1 r1) (P2 : pt_kz181_116 x1 x2 x3 x4 u2 i1 a1 q1 r1 i2 a2 q2 r2) : u1 = u2 := by
  have P2 := rTop_fr (g1.fi 7424 rfl) (g1.fa 136 rfl) (g1.fa 137 rfl) (g1.fq 138 rfl) P2.2.2
  have e := gKn_fr g1 (by decide +kernel)
  have eR : gEq (gB i a) (gR i1 a1) := ⟨(g1.fa 118 rfl).symm, rfl⟩
  rw [(g1.fi 7424 rfl).trans h.1.symm] at P2
  refine top_same K.2.2.1 h.1 Iff.rfl (kI_ho K.1.1) (fun t ht => (kI_so K.1.1 t ht).1) (fun t ht => (kI_ln K.1.1 t ht).2) (fun n L L1 ok h0 h20 hL f g => ?_) P1.2 P2
  rw [e, g1.fa 118 rfl] at g
  exact fHi_same h0 h20 ok.1 hL f g
theorem st_latch (K : kAll i a q r) (h : kMar i a r) (g1 : kG yw93_0 i a q r i1 a1 q1 r1) (P1 : pt_ke93_0 x1 x2 x3 u1 i a q r i1 a1 q1 r1) (P2 : pt_kz183_116 x1 x2 x3 u2 i1 a1 q1 r1 i2 a2 q2 r2) : u1 = u2 := by
  have P2 := rTop_fr (g1.fi 7424 rfl) (g1.fa 136 rfl) (g1.fa 137 rfl) (g1.fq 138 rfl) P2.2.2
  have e := gKn_fr g1 (by decide +kernel)
  have eR : gEq (gB i a) (gR i1 a1) := ⟨(g1.fa 118 rfl).symm, rfl⟩
  rw [(g1.fi 7424 rfl).trans h.1.symm] at P2
  refine top_same K.2.2.1 h.1 Iff.rfl (kI_ho K.1.1) (fun t ht => (kI_so K.1.1 t ht).1) (fun t ht => (kI_ln K.1.1 t ht).2) (fun n L L1 ok h0 h20 hL f g => ?_) P1.2 P2
  rw [e, g1.fa 118 rfl] at g
  exact fLt_same h0 hL f g
end ST98
