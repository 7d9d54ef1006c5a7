/-! WHAT A SHELF'S HELD KIND IS TAKEN AS -/
def tkV (k x : Int32) : Int32 := if x.toInt = 0 ∨ x.toInt = k.toInt ∨ (k.toInt = 3 ∧ x.toInt = 2) ∨ (k.toInt = 4 ∧ x.toInt = 1) ∨ (k.toInt = 5 ∧ x.toInt = 3) ∨ (k.toInt = 5 ∧ x.toInt = 2) ∨ (k.toInt = 7 ∧ x.toInt = 4) ∨ (k.toInt = 7 ∧ x.toInt = 1) then k else -12
