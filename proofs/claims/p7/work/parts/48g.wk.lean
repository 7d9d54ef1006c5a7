/-! THE LAW OF THE REFERENCE AT WORK, PURELY -/
section WS
variable {st st1 L nm : List Int32} {f : Int32} {x x1 top top1 c v : Int32}
end WS
section BLN
variable {as as1 sy sy1 sy2 en en1 L nm : List Int32} {x x1 v v0 n R : Int32}
end BLN
