/-! THE MARKET, PURELY: as the reference has it: its 31 numbers N (0..7 purses, 8 the day, 9 how many came, 10..17 how often, 18 how many debts, 19..24 whose, 25..30 how much) -/
def sMn (a b : Int32) : Int32 := bif decide (b < a) then b else a
def sMx (a b : Int32) : Int32 := bif decide (a < b) then b else a
/-! the same of a market of the class at the place p: open, who, much, purses, payer, paid, led, rows of flow -/
abbrev kCt : Type := Int32 × List Int32 × List Int32 × List Int32 × Int32 × Int32 × List Int32 × (Nat → List Int32)
def cRow (p : Nat) (a : Nat → List Int32) (u : Nat) : List Int32 := bif Nat.blt u 8 then a (p + 15 + u) else []
def cT (p : Nat) (i : Nat → Int32) (a : Nat → List Int32) : kCt := (i (64 * (p + 6) + 2), a (p + 7), a (p + 8), a (p + 1), i (64 * p + 14), i (64 * p + 15), a (p + 13), cRow p a)
