/-! ONE COMES IN, PURELY, AS THE CLASS HAS IT -/
def cT0 (p : Nat) (i : Nat → Int32) (a : Nat → List Int32) : kCt := (i (64 * (p + 6) + 2), a (p + 7), a (p + 8), a (p + 1), 8, 0, a (p + 13), cRow p a)
theorem cP_again {b b1 t3 c : Int32} {m n : Nat} {T T1 R : kCt} (h : cPaid b t3 c m T = R) (hm : m = n + 1) (ht : t3.toInt ≤ T.1.toInt) (o : T1 = cPay b1 c T) (eb : b1 = b) : cPaid b t3 c n T1 = R := by
  subst eb
  subst o
  subst hm
  rw [← h]
  exact (cPaid_more ht).symm
theorem cP_done {b t3 c : Int32} {m : Nat} {T R : kCt} (h : cPaid b t3 c m T = R) (ht : T.1.toInt < t3.toInt) : T = R := (cPaid_done ht).symm.trans h
theorem cP_end {b t3 c : Int32} {m : Nat} {T R : kCt} (h : cPaid b t3 c m T = R) (hm : m = 0) : T = R := by
  subst hm
  exact h
theorem kj_five {x x1 : Int} (h : x < 5) (e : x1 = x + 1) : (5 - x).toNat = (5 - x1).toNat + 1 := by omega
theorem kj_five0 {x : Int} (h : 5 ≤ x) : (5 - x).toNat = 0 := by omega
