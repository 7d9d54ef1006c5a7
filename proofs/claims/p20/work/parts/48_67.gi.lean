/-! ONE COMES IN, PURELY, AS THE REFERENCE HAS IT -/
theorem kT5 {A B C D E : Type} {a a1 : A} {b b1 : B} {c c1 : C} {d d1 : D} {e e1 : E} (h1 : a = a1) (h2 : b = b1) (h3 : c = c1) (h4 : d = d1) (h5 : e = e1) : (a, b, c, d, e) = (a1, b1, c1, d1, e1) := by subst h1; subst h2; subst h3; subst h4; subst h5; rfl
theorem sP_again {t3 c : Int32} {S S1 R : kSt} (h : sPaid t3 c (S.1.getD 18 0).toInt.toNat S = R) (o : S1 = sPay c S) (h1 : 1 ≤ t3.toInt) (ht : t3.toInt ≤ (S.1.getD 18 0).toInt) (hd : (S1.1.getD 18 0).toInt = (S.1.getD 18 0).toInt - 1) : sPaid t3 c (S1.1.getD 18 0).toInt.toNat S1 = R := by
  subst o
  rw [← h]
  exact (sPaid_more h1 ht hd).symm
theorem sP_done {t3 c : Int32} {n : Nat} {S R : kSt} (h : sPaid t3 c n S = R) (hlt : (S.1.getD 18 0).toInt < t3.toInt) : S = R := (sPaid_done hlt).symm.trans h
def gPaid (t3 c : Int32) (N : List Int32) (la : Int32) (F : List Int32) : kSt := sPaid t3 c (N.getD 18 0).toInt.toNat (N, 8, 0, la, F)
def gBuy (told : Int32) (as sy en L : List Int32) (ln : Int32) (W N N1 : List Int32) (c : Int32) : Int32 := rBuyV told (wLaw as sy en L [W.getD c.toNatClampNeg 0, N.getD c.toNatClampNeg 0, W.getD (8 + c).toNatClampNeg 0, N1.getD (9 : Int32).toNatClampNeg 0, N1.getD (10 + c).toNatClampNeg 0, N1.getD (8 : Int32).toNatClampNeg 0] ln.toInt.toNat 0) (W.getD c.toNatClampNeg 0) (W.getD (8 + c).toNatClampNeg 0) (N1.getD (10 + c).toNatClampNeg 0)
def sC1 (c : Int32) (N : List Int32) : List Int32 := N.set (19 + N.getD (18 : Int32).toNatClampNeg 0).toNatClampNeg c
def sC2 (b : Int32) (N : List Int32) : List Int32 := N.set (25 + N.getD (18 : Int32).toNatClampNeg 0).toNatClampNeg b
def sC3 (N : List Int32) : List Int32 := N.set (18 : Int32).toNatClampNeg (N.getD (18 : Int32).toNatClampNeg 0 + 1)
def sC4 (N : List Int32) : List Int32 := N.set (9 : Int32).toNatClampNeg (N.getD (9 : Int32).toNatClampNeg 0 + 1)
def sC5 (c : Int32) (N : List Int32) : List Int32 := N.set (10 + c).toNatClampNeg (N.getD (10 + c).toNatClampNeg 0 + 1)
def sCome (c b : Int32) (N : List Int32) : List Int32 := sC5 c (sC4 (sC3 (sC2 b (sC1 c N))))
