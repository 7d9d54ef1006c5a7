/-! BY TURNS: class and reference answer alike -/
theorem st_byTurns {i i1 i2 : Nat → Int32} {a a1 a2 : Nat → List Int32} {q q1 q2 : Nat → List Int64} {r r1 r2 : Nat → Nat} {u1 u2 x1 x2 x3 : Int32} (_ : kAll i a q r) (h : kMar i a r) (g1 : kG yw100_0 i a q r i1 a1 q1 r1) (P1 : pt_ke100_0 x1 x2 x3 u1 i a q r i1 a1 q1 r1) (P2 : pt_kz200_116 x1 x2 x3 u2 i1 a1 q1 r1 i2 a2 q2 r2) : u1 = u2 := by
  have P2 := P2.2.2
  have e := gKn_fr g1 (by decide +kernel)
  have e64 : i1 7424 = i 64 := (g1.fi 7424 rfl).trans h.1.symm
  rw [e, e64, (g1.fa 118 rfl : a1 118 = a 118)] at P2
  rcases P1.2 with ⟨n1, e1⟩ | ⟨o1, f1⟩
  · rcases P2 with ⟨n2, e2⟩ | ⟨o2, f2⟩
    · rw [e1, e2]
    · exact absurd o2 n1
  · rcases P2 with ⟨n2, e2⟩ | ⟨o2, f2⟩
    · exact absurd o1 n2
    · exact fTu_same o1.2.2.2.2.2.2 f1 f2
