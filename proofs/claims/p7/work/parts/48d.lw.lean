/-! THE LAW AT WORK, PURELY: the class's steps with a stack -/
section LR
variable {st wi nm : List Int32} {len : Int32} {n : Nat} {p : Int32} {s s1 s2 s3 : List Int32 × Int32} {R v w : Int32}
end LR
