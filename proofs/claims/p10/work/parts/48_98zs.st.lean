/-! ROWS IN THOUGHT: class and reference answer alike -/
theorem rTop_fr {ok : Prop} {i i1 : Nat → Int32} {a a1 : Nat → List Int32} {q q1 : Nat → List Int64} {x1 v : Int32} {f : Int → List Int32 → Prop} (e1 : i1 7424 = i 7424) (e2 : a1 136 = a 136) (e3 : a1 137 = a 137) (e4 : q1 138 = q 138) (h : rTop ok i1 a1 q1 x1 v f) : rTop ok i a q x1 v f := by
  unfold rTop rRb rRow1 at h ⊢
  rw [e1, e2, e3, e4] at h
  exact h
section ST98
variable {i i1 i2 : Nat → Int32} {a a1 a2 : Nat → List Int32} {q q1 q2 : Nat → List Int64} {r r1 r2 : Nat → Nat} {u1 u2 x1 x2 x3 x4 : Int32}
theorem st_coming (K : kAll i a q r) (h : kMar i a r) (g1 : kG yw89_0 i a q r i1 a1 q1 r1) (P1 : pt_ke89_0 x1 x2 x3 u1 i a q r i1 a1 q1 r1) (P2 : pt_kz176_116 x1 x2 x3 u2 i1 a1 q1 r1 i2 a2 q2 r2) : u1 = u2 := by
  have P2 := rTop_fr (g1.fi 7424 rfl) (g1.fa 136 rfl) (g1.fa 137 rfl) (g1.fq 138 rfl) P2.2.2
  have e := gKn_fr g1 (by decide +kernel)
  have eR : gEq (gB i a) (gR i1 a1) := ⟨(g1.fa 118 rfl).symm, rfl⟩
  refine top_same K.2.2.1 h.1 Iff.rfl (kI_ho K.1.1) (fun t ht => (kI_so K.1.1 t ht).1) (fun t ht => (kI_ln K.1.1 t ht).2) (fun n L L1 ok h0 h20 hL f g => ?_) P1.2 P2
  rw [e] at g
  exact fCo_same eR h0 hL ok.1 ⟨ok.2.1, ok.2.2⟩ f g
end ST98

