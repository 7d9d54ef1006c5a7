/-! ROWS IN THOUGHT: class and reference answer alike -/
section ST98
variable {i i1 i2 : Nat → Int32} {a a1 a2 : Nat → List Int32} {q q1 q2 : Nat → List Int64} {r r1 r2 : Nat → Nat} {u1 u2 x1 x2 x3 x4 : Int32}
end ST98

