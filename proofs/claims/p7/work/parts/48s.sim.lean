/-! BOTH LAWS SAY THE SAME -/
section LST
variable {st wi nm : List Int32} {len : Int32}
end LST
