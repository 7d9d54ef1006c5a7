/-! ROWS IN THOUGHT: class and reference answer alike -/
theorem rTop_fr {ok : Prop} {i i1 : Nat → Int32} {a a1 : Nat → List Int32} {q q1 : Nat → List Int64} {x1 v : Int32} {f : Int → List Int32 → Prop} (e1 : i1 7424 = i 7424) (e2 : a1 136 = a 136) (e3 : a1 137 = a 137) (e4 : q1 138 = q 138) (h : rTop ok i1 a1 q1 x1 v f) : rTop ok i a q x1 v f := by
  unfold rTop rRb rRow1 at h ⊢
  rw [e1, e2, e3, e4] at h
  exact h
section ST98
variable {i i1 i2 : Nat → Int32} {a a1 a2 : Nat → List Int32} {q q1 q2 : Nat → List Int64} {r r1 r2 : Nat → Nat} {u1 u2 x1 x2 x3 x4 : Int32}
end ST98

