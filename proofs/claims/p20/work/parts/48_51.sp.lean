/-! THE MARKET, PURELY: as the reference has it: its 31 numbers N (0..7 purses, 8 the day, 9 how many came, 10..17 how often, 18 how many debts, 19..24 whose, 25..30 how much) -/
def sMn (a b : Int32) : Int32 := bif decide (b < a) then b else a
def sMx (a b : Int32) : Int32 := bif decide (a < b) then b else a
/-- n debts one place on -/
def sSh : Nat → List Int32 → List Int32
  | 0, N => N
  | n + 1, N => (((sSh n N).set (19 + n) ((sSh n N).getD (20 + n) 0)).set (25 + n) (((sSh n N).set (19 + n) ((sSh n N).getD (20 + n) 0)).getD (26 + n) 0))
/-- without the oldest debt -/
def sDrop (N : List Int32) : List Int32 := sSh (N.getD 18 0 - 1).toInt.toNat (N.set 18 (N.getD 18 0 - 1))
/-- the coins that the oldest debtor gives -/
def sCoin (N : List Int32) : Int32 := sMn (N.getD 25 0) ((sDrop N).getD (N.getD 19 0).toNatClampNeg 0)
/-- the oldest debt is paid to c -/
def sGive (c : Int32) (N : List Int32) : List Int32 := ((sDrop N).set (N.getD 19 0).toNatClampNeg ((sDrop N).getD (N.getD 19 0).toNatClampNeg 0 - sCoin N)).set c.toNatClampNeg (sMn 999 (((sDrop N).set (N.getD 19 0).toNatClampNeg ((sDrop N).getD (N.getD 19 0).toNatClampNeg 0 - sCoin N)).getD c.toNatClampNeg 0 + sCoin N))
/-- now, payer, paid, lacking, flows -/
abbrev kSt : Type := List Int32 × Int32 × Int32 × Int32 × List Int32
def sPay (c : Int32) (S : kSt) : kSt :=
  if (S.1.getD 19 0).toInt = c.toInt then (sDrop S.1, if S.2.1.toInt = 8 then S.1.getD 19 0 else S.2.1, S.2.2.1, S.2.2.2.1, S.2.2.2.2)
  else (sGive c S.1, if S.2.1.toInt = 8 then S.1.getD 19 0 else S.2.1, S.2.2.1 + sCoin S.1, S.2.2.2.1 + (S.1.getD 25 0 - sCoin S.1), S.2.2.2.2.set (8 * S.1.getD 19 0 + c).toNatClampNeg (S.2.2.2.2.getD (8 * S.1.getD 19 0 + c).toNatClampNeg 0 + sCoin S.1))
/-- debts are paid to c while there are THIRD or more -/
def sPaid (t3 c : Int32) : Nat → kSt → kSt
  | 0, S => S
  | n + 1, S => if t3.toInt ≤ (S.1.getD 18 0).toInt then sPaid t3 c n (sPay c S) else S
theorem sSh_zero {z : Int32} (B : List Int32) (h : z.toInt = 0) : B = sSh z.toInt.toNat B := by rw [h]; rfl
theorem sSh_step {M M1 M2 B : List Int32} {x x1 y z u v : Int32} (h : M = sSh x.toInt.toNat B) (h0 : 0 ≤ x.toInt) (hy : y.toInt = 19 + x.toInt) (hz : z.toInt = 20 + x.toInt) (hu : u.toInt = 25 + x.toInt) (hv : v.toInt = 26 + x.toInt) (h1 : x1.toInt = x.toInt + 1) (e1 : M1 = M.set y.toNatClampNeg (M.getD z.toNatClampNeg 0)) (e2 : M2 = M1.set u.toNatClampNeg (M1.getD v.toNatClampNeg 0)) : M2 = sSh x1.toInt.toNat B := by
  have ty := Int32.toNat_toInt y
  have tz := Int32.toNat_toInt z
  have tu := Int32.toNat_toInt u
  have tv := Int32.toNat_toInt v
  rw [show x1.toInt.toNat = x.toInt.toNat + 1 by omega]
  unfold sSh
  rw [← h, e2, e1, show y.toNatClampNeg = 19 + x.toInt.toNat by omega, show z.toNatClampNeg = 20 + x.toInt.toNat by omega, show u.toNatClampNeg = 25 + x.toInt.toNat by omega, show v.toNatClampNeg = 26 + x.toInt.toNat by omega]
theorem sDrop_of {L B N : List Int32} {x d : Int32} (h : L = sSh x.toInt.toNat B) (e : B = N.set (18 : Int32).toNatClampNeg d) (ed : d = N.getD (18 : Int32).toNatClampNeg 0 - 1) (hx : x.toInt = d.toInt) : L = sDrop N := by
  subst e
  subst ed
  rw [h, hx]
  rfl
theorem sPaid_more {t3 c : Int32} {S : kSt} (h0 : 1 ≤ t3.toInt) (h : t3.toInt ≤ (S.1.getD 18 0).toInt) (hd : ((sPay c S).1.getD 18 0).toInt = (S.1.getD 18 0).toInt - 1) : sPaid t3 c (S.1.getD 18 0).toInt.toNat S = sPaid t3 c ((sPay c S).1.getD 18 0).toInt.toNat (sPay c S) := by
  rw [show (S.1.getD 18 0).toInt.toNat = ((sPay c S).1.getD 18 0).toInt.toNat + 1 by omega]
  conv => lhs; unfold sPaid
  rw [if_pos h]
theorem sPaid_done {t3 c : Int32} {S : kSt} {n : Nat} (h : (S.1.getD 18 0).toInt < t3.toInt) : sPaid t3 c n S = S := by
  cases n with
  | zero => rfl
  | succ n =>
    unfold sPaid
    rw [if_neg (by omega)]
/-! the same of a market of the class at the place p: open, who, much, purses, payer, paid, led, rows of flow -/
abbrev kCt : Type := Int32 × List Int32 × List Int32 × List Int32 × Int32 × Int32 × List Int32 × (Nat → List Int32)
def cRow (p : Nat) (a : Nat → List Int32) (u : Nat) : List Int32 := bif Nat.blt u 8 then a (p + 15 + u) else []
def cT (p : Nat) (i : Nat → Int32) (a : Nat → List Int32) : kCt := (i (64 * (p + 6) + 2), a (p + 7), a (p + 8), a (p + 1), i (64 * p + 14), i (64 * p + 15), a (p + 13), cRow p a)
def cCoin (T : kCt) : Int32 := sMn (T.2.2.1.getD 0 0) (T.2.2.2.1.getD (T.2.1.getD 0 0).toNatClampNeg 0)
def cRest (T : kCt) : kCt := (T.1 - 1, mi_cpy T.2.1 T.2.1 1 0 (T.1 - 1).toNatClampNeg, mi_cpy T.2.2.1 T.2.2.1 1 0 (T.1 - 1).toNatClampNeg, T.2.2.2.1, (if T.2.2.2.2.1.toInt = 8 then T.2.1.getD 0 0 else T.2.2.2.2.1), T.2.2.2.2.2.1, T.2.2.2.2.2.2.1, T.2.2.2.2.2.2.2)
def cGive (c : Int32) (T : kCt) : kCt := (T.1 - 1, mi_cpy T.2.1 T.2.1 1 0 (T.1 - 1).toNatClampNeg, mi_cpy T.2.2.1 T.2.2.1 1 0 (T.1 - 1).toNatClampNeg,
  (T.2.2.2.1.set (T.2.1.getD 0 0).toNatClampNeg (T.2.2.2.1.getD (T.2.1.getD 0 0).toNatClampNeg 0 - cCoin T)).set c.toNatClampNeg (sMn 999 ((T.2.2.2.1.set (T.2.1.getD 0 0).toNatClampNeg (T.2.2.2.1.getD (T.2.1.getD 0 0).toNatClampNeg 0 - cCoin T)).getD c.toNatClampNeg 0 + cCoin T)),
  (if T.2.2.2.2.1.toInt = 8 then T.2.1.getD 0 0 else T.2.2.2.2.1), T.2.2.2.2.2.1 + cCoin T, T.2.2.2.2.2.2.1.set 2 (T.2.2.2.2.2.2.1.getD 2 0 + (T.2.2.1.getD 0 0 - cCoin T)),
  fun u => bif Nat.beq u (T.2.1.getD 0 0).toNatClampNeg then (T.2.2.2.2.2.2.2 u).set c.toNatClampNeg ((T.2.2.2.2.2.2.2 u).getD c.toNatClampNeg 0 + cCoin T) else T.2.2.2.2.2.2.2 u)
def cPay (b c : Int32) (T : kCt) : kCt := if (T.2.1.getD 0 0).toInt ≠ c.toInt ∧ 0 ≤ (T.2.1.getD 0 0).toInt ∧ (T.2.1.getD 0 0).toInt < b.toInt then cGive c T else cRest T
/-- at most n debts are paid to c, while there are THIRD or more -/
def cPaid (b t3 c : Int32) : Nat → kCt → kCt
  | 0, T => T
  | n + 1, T => if t3.toInt ≤ T.1.toInt then cPaid b t3 c n (cPay b c T) else T
theorem cT_eq {p : Nat} {i : Nat → Int32} {a : Nat → List Int32} {T : kCt} (h1 : i (64 * (p + 6) + 2) = T.1) (h2 : a (p + 7) = T.2.1) (h3 : a (p + 8) = T.2.2.1) (h4 : a (p + 1) = T.2.2.2.1) (h5 : i (64 * p + 14) = T.2.2.2.2.1) (h6 : i (64 * p + 15) = T.2.2.2.2.2.1) (h7 : a (p + 13) = T.2.2.2.2.2.2.1) (hF : ∀ u : Nat, u < 8 → a (p + 15 + u) = T.2.2.2.2.2.2.2 u) (h8 : ∀ u : Nat, 8 ≤ u → T.2.2.2.2.2.2.2 u = []) : cT p i a = T := by
  obtain ⟨t1, t2, t3, t4, t5, t6, t7, t8⟩ := T
  unfold cT
  dsimp only at h1 h2 h3 h4 h5 h6 h7 hF h8
  have e : cRow p a = t8 := by
    funext u
    unfold cRow
    by_cases hu : u < 8
    · rw [Nat.blt_eq.mpr hu]
      exact hF u hu
    · rw [h8 u (by omega)]
      cases eb : Nat.blt u 8 with
      | true => exact absurd (Nat.blt_eq.mp eb) hu
      | false => rfl
  rw [h1, h2, h3, h4, h5, h6, h7, e]
theorem cRow_lt {p u : Nat} {a : Nat → List Int32} (h : u < 8) : cRow p a u = a (p + 15 + u) := by
  unfold cRow
  rw [Nat.blt_eq.mpr h]
  rfl
theorem cRow_ge {p u : Nat} {a : Nat → List Int32} (h : 8 ≤ u) : cRow p a u = [] := by
  unfold cRow
  cases eb : Nat.blt u 8 with
  | true => exact absurd (Nat.blt_eq.mp eb) (by omega)
  | false => rfl
theorem cPaid_more {b t3 c : Int32} {T : kCt} {n : Nat} (h : t3.toInt ≤ T.1.toInt) : cPaid b t3 c (n + 1) T = cPaid b t3 c n (cPay b c T) := by
  conv => lhs; unfold cPaid
  rw [if_pos h]
theorem cPaid_done {b t3 c : Int32} {T : kCt} {n : Nat} (h : T.1.toInt < t3.toInt) : cPaid b t3 c n T = T := by
  cases n with
  | zero => rfl
  | succ n =>
    unfold cPaid
    rw [if_neg (by omega)]
