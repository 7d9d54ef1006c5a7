/-! THE TAPE READ, PURELY, AS THE CLASS READS IT: where it stands, whether it is faulty, the law's steps, what they are with, how many -/
abbrev cA : Type := List Int32 × List Int32 × Int32
abbrev cS : Type := Int32 × Int32 × cA
def kBy (t : List Int32) : Prop := ∀ j : Nat, 0 ≤ (t.getD j 0).toInt ∧ (t.getD j 0).toInt ≤ 255
def cHr (t : List Int32) (n p f : Int32) : Int32 := if f.toInt = 0 ∧ p.toInt < n.toInt then t.getD p.toNatClampNeg 0 else -1
def lAdd (o w : Int32) (A : cA) : cA := if A.2.2.toInt ≤ 120 then (A.1.set A.2.2.toNatClampNeg o, A.2.1.set A.2.2.toNatClampNeg w, A.2.2 + 1) else A
def cAdd (o w : Int32) (S : cS) : cS := (S.1, S.2.1, lAdd o w S.2.2)
def cAt1 (S : cS) : cS := (S.1 + 1, S.2)
def cBad (S : cS) : cS := (S.1, 1, S.2.2)
def oMul (x : Int32) : Bool := decide (x.toInt = 42 ∨ x.toInt = 47 ∨ x.toInt = 37)
def oSum (x : Int32) : Bool := decide (x.toInt = 43 ∨ x.toInt = 45)
def oCmp (x : Int32) : Bool := decide (x.toInt = 60 ∨ x.toInt = 61 ∨ x.toInt = 62)
def oOpn (x : Int32) : Bool := decide (x.toInt = 40 ∨ x.toInt = 33 ∨ x.toInt = 45)
def oNam (x : Int32) : Bool := decide (x.toInt = 119 ∨ x.toInt = 112 ∨ x.toInt = 104 ∨ x.toInt = 110 ∨ x.toInt = 111 ∨ x.toInt = 100)
def nIdx (x : Int32) : Int32 := if x.toInt = 119 then 0 else if x.toInt = 112 then 1 else if x.toInt = 104 then 2 else if x.toInt = 110 then 3 else if x.toInt = 111 then 4 else 5
/-- is a sign there: it is taken; of some signs -/
def cTkP (t : List Int32) (n c p f : Int32) : Int32 × Int32 := if (cHr t n p f).toInt = c.toInt then (1, p + 1) else (0, p)
def cOfP (t : List Int32) (n : Int32) (o : Int32 → Bool) (p f : Int32) : Int32 × Int32 := if o (cHr t n p f) = true then (cHr t n p f, p + 1) else (-1, p)
def cTk (t : List Int32) (n c : Int32) (S : cS) : Int32 × cS := ((cTkP t n c S.1 S.2.1).1, (cTkP t n c S.1 S.2.1).2, S.2)
def cOf (t : List Int32) (n : Int32) (o : Int32 → Bool) (S : cS) : Int32 × cS := ((cOfP t n o S.1 S.2.1).1, (cOfP t n o S.1 S.2.1).2, S.2)
def cLpB (t : List Int32) (n : Int32) (sub : cS → cS) (c : Int32) : Nat → cS → cS
  | 0, S => S
  | k + 1, S => if (cTk t n c S).1.toInt = 0 then (cTk t n c S).2 else cLpB t n sub c k (cAdd c 0 (sub (cTk t n c S).2))
def cBin (t : List Int32) (n : Int32) (sub : cS → cS) (c : Int32) (S : cS) : cS := cLpB t n sub c n.toInt.toNat (sub S)
def cLpS (t : List Int32) (n : Int32) (sub : cS → cS) (o : Int32 → Bool) : Nat → Int32 × cS → cS
  | 0, S => S.2
  | k + 1, S => if S.1.toInt = -1 then S.2 else cLpS t n sub o k (cOf t n o (cAdd S.1 0 (sub S.2)))
def cMul (t : List Int32) (n : Int32) (sub : cS → cS) (o : Int32 → Bool) (S : cS) : cS := cLpS t n sub o n.toInt.toNat (cOf t n o (sub S))
def cCmp (t : List Int32) (n : Int32) (sub : cS → cS) (o : Int32 → Bool) (S : cS) : cS := if (cOf t n o (sub S)).1.toInt = -1 then (cOf t n o (sub S)).2 else cAdd (cOf t n o (sub S)).1 0 (sub (cOf t n o (sub S)).2)
def cDig (t : List Int32) (n : Int32) : Nat → Int32 × cS → Int32 × cS
  | 0, S => S
  | k + 1, S => if 48 ≤ (cHr t n S.2.1 S.2.2.1).toInt ∧ (cHr t n S.2.1 S.2.2.1).toInt ≤ 57 then cDig t n k (((S.1 * 10) + cHr t n S.2.1 S.2.2.1) - 48, cAt1 S.2) else S
def cNum (t : List Int32) (n : Int32) (S : cS) : cS := cAdd 0 (cDig t n 4 (0, S)).1 (cDig t n 4 (0, S)).2
def cP3 (t : List Int32) (n : Int32) (sub : cS → cS) : cS → cS := cMul t n sub oMul
def cP4 (t : List Int32) (n : Int32) (sub : cS → cS) : cS → cS := cMul t n (cP3 t n sub) oSum
def cP5 (t : List Int32) (n : Int32) (sub : cS → cS) : cS → cS := cCmp t n (cP4 t n sub) oCmp
def cP6 (t : List Int32) (n : Int32) (sub : cS → cS) : cS → cS := cBin t n (cP5 t n sub) 38
def cEit (t : List Int32) (n : Int32) (sub : cS → cS) : cS → cS := cBin t n (cP6 t n sub) 124
def cEnd (x : Int32 × cS) : cS := if x.1.toInt = 0 then cBad x.2 else x.2
def cPart (t : List Int32) (n : Int32) (nx : Option (cS → cS)) (S : cS) : cS :=
  if 48 ≤ (cHr t n S.1 S.2.1).toInt ∧ (cHr t n S.1 S.2.1).toInt ≤ 57 then cNum t n S
  else if (cOf t n oNam S).1.toInt ≠ -1 then cAdd 1 (nIdx (cOf t n oNam S).1) (cOf t n oNam S).2
  else match nx with
    | none => cBad S
    | some sub =>
      if (cOf t n oOpn S).1.toInt = -1 then cBad S
      else if (cOf t n oOpn S).1.toInt = 40 then cEnd (cTk t n 41 (cEit t n sub (cOf t n oOpn S).2))
      else cAdd (if (cOf t n oOpn S).1.toInt = 45 then 126 else (cOf t n oOpn S).1) 0 (sub (cOf t n oOpn S).2)
def cO (t : List Int32) (n : Int32) : Nat → cS → cS
  | 0 => cPart t n none
  | m + 1 => cPart t n (some (cO t n m))
def cE (t : List Int32) (n : Int32) (m : Nat) : cS → cS := cEit t n (cO t n m)
def lAim (x : Int32) (A : cA) : cA := if 0 ≤ x.toInt ∧ x.toInt < A.2.2.toInt then (A.1, A.2.1.set x.toNatClampNeg A.2.2, A.2.2) else A
def cAim (x : Int32) (S : cS) : cS := (S.1, S.2.1, lAim x S.2.2)
def cLin2 (t : List Int32) (n : Int32) (S : cS) : cS := cAim (S.2.2.2.2 - 1) (cAdd 2 0 (cE t n 6 S))
def cLin (t : List Int32) (n : Int32) (S : cS) : cS := if (cTk t n 63 (cE t n 6 S)).1.toInt = 0 then cAdd 2 0 (cTk t n 63 (cE t n 6 S)).2 else cLin2 t n (cAdd 3 0 (cTk t n 63 (cE t n 6 S)).2)
def cLpL (t : List Int32) (n : Int32) : Nat → cS → cS
  | 0, S => S
  | k + 1, S => if (cTk t n 59 S).1.toInt = 0 then (cTk t n 59 S).2 else cLpL t n k (cLin t n (cTk t n 59 S).2)
/-- the whole text -/
def cTxt (t : List Int32) (n : Int32) (st wi : List Int32) : cS := cLpL t n n.toInt.toNat (cLin t n (0, 0, st, wi, 0))
def cOk (n : Int32) (S : cS) : Prop := S.2.1.toInt = 0 ∧ n.toInt ≤ S.1.toInt
/-! glue -/
theorem kT3 {A B C : Type} {a a1 : A} {b b1 : B} {c c1 : C} (h1 : a = a1) (h2 : b = b1) (h3 : c = c1) : (a, b, c) = (a1, b1, c1) := by subst h1; subst h2; subst h3; rfl
theorem kHr_c {t : List Int32} {n p p1 f f1 : Int32} (h : p1 = p) (hf : f1 = f) : cHr t n p1 f1 = cHr t n p f := by subst h; subst hf; rfl
theorem kj_n0 {n : Nat} (h : (n : Int) ≤ 0) : n = 0 := by omega
theorem cO_z {t : List Int32} {nn : Int32} {n : Nat} (h : n = 0) : cO t nn n = cPart t nn none := by subst h; rfl
theorem cO_s {t : List Int32} {nn : Int32} {n m : Nat} (h : n = m + 1) : cO t nn n = cPart t nn (some (cO t nn m)) := by subst h; rfl
theorem cO_any (t : List Int32) (nn : Int32) (n : Nat) : ∃ nx, cO t nn n = cPart t nn nx := by
  cases n with
  | zero => exact ⟨_, rfl⟩
  | succ m => exact ⟨_, rfl⟩
theorem cPt_lv {t : List Int32} {nn : Int32} {n : Nat} {S0 S1 : cS} (h : ∃ nx, cO t nn n = cPart t nn nx) (g : ∀ nx, S1 = cPart t nn nx S0) : S1 = cO t nn n S0 := by
  obtain ⟨nx, e⟩ := h
  rw [e]
  exact g nx
theorem tBad {p p1 f : Int32} {A A1 : cA} (hp : p1 = p) (_ : True = True) (hA : A1 = A) : (p1, 1, A1) = cBad (p, f, A) := by subst hp; subst hA; rfl
theorem tBad2 {S S1 S2 : cS} (e : S1 = S) (h : S2 = cBad S1) : S2 = cBad S := by subst e; exact h
theorem tOf_v {t : List Int32} {n p p1 f v : Int32} {o : Int32 → Bool} (h : (v, p1) = cOfP t n o p f) : v.toInt = -1 ∨ v.toInt = (cHr t n p f).toInt := by
  unfold cOfP at h
  split at h
  · exact Or.inr (congrArg (fun z : Int32 × Int32 => z.1.toInt) h)
  · exact Or.inl (congrArg (fun z : Int32 × Int32 => z.1.toInt) h)
theorem oNam_ne (z : Int32) (h : oNam z = true) : z.toInt ≠ -1 := by
  have := of_decide_eq_true h
  omega
theorem oOpn_ne (z : Int32) (h : oOpn z = true) : z.toInt ≠ -1 := by
  have := of_decide_eq_true h
  omega
theorem nIdx_of {v x : Int32} (h : (v.toInt = 119 ∧ x.toInt = 0) ∨ (v.toInt = 112 ∧ x.toInt = 1) ∨ (v.toInt = 104 ∧ x.toInt = 2) ∨ (v.toInt = 110 ∧ x.toInt = 3) ∨ (v.toInt = 111 ∧ x.toInt = 4) ∨ (v.toInt = 100 ∧ x.toInt = 5)) : x = nIdx v := by
  have k0 : (0 : Int32).toInt = 0 := by decide
  have k1 : (1 : Int32).toInt = 1 := by decide
  have k2 : (2 : Int32).toInt = 2 := by decide
  have k3 : (3 : Int32).toInt = 3 := by decide
  have k4 : (4 : Int32).toInt = 4 := by decide
  have k5 : (5 : Int32).toInt = 5 := by decide
  apply kj_v
  unfold nIdx
  rcases h with h | h | h | h | h | h
  · rw [if_pos h.1]; omega
  · rw [if_neg (by omega), if_pos h.1]; omega
  · rw [if_neg (by omega), if_neg (by omega), if_pos h.1]; omega
  · rw [if_neg (by omega), if_neg (by omega), if_neg (by omega), if_pos h.1]; omega
  · rw [if_neg (by omega), if_neg (by omega), if_neg (by omega), if_neg (by omega), if_pos h.1]; omega
  · rw [if_neg (by omega), if_neg (by omega), if_neg (by omega), if_neg (by omega), if_neg (by omega)]; omega
theorem cHr_in {t : List Int32} {n p f : Int32} (hf : f.toInt = 0) (hp : p.toInt < n.toInt) : t.getD p.toNatClampNeg 0 = cHr t n p f := (if_pos ⟨hf, hp⟩).symm
theorem cHr_out {t : List Int32} {n p f : Int32} (h : ¬ (f.toInt = 0 ∧ p.toInt < n.toInt)) : (-1 : Int32) = cHr t n p f := (if_neg h).symm
theorem cHr_at {t : List Int32} {n p f : Int32} (hx : 0 ≤ (cHr t n p f).toInt) : f.toInt = 0 ∧ p.toInt < n.toInt := by
  unfold cHr at hx
  split at hx
  next h => exact h
  next => exact absurd hx (by decide)
theorem kd_i2c {x : Int32} (h0 : 0 ≤ x.toInt) (h1 : x.toInt ≤ 65535) : ((x.toUInt32 % 65536).toInt32).toInt = x.toInt := by
  obtain ⟨m, hm, e, ei⟩ := kbc_of (n := 65536) h0 (by omega)
  subst e
  have h2 : (Int32.ofNat m).toUInt32 = UInt32.ofNat m := rfl
  have h3 : UInt32.ofNat m % 65536 = UInt32.ofNat m := by
    apply UInt32.toNat_inj.mp
    rw [UInt32.toNat_mod, UInt32.toNat_ofNat_of_lt' (by show m < 2 ^ 32; omega)]
    show m % 65536 = m
    omega
  rw [h2, h3]
  rfl
theorem kd_i2b {x : Int32} (h0 : 0 ≤ x.toInt) (h1 : x.toInt ≤ 255) : (x.toInt ≤ 127 → (x.toInt8.toInt32).toInt = x.toInt) ∧ (128 ≤ x.toInt → (x.toInt8.toInt32).toInt = x.toInt - 256) := by
  have hall : ∀ m : Nat, m < 256 → ((Int32.ofNat m).toInt ≤ 127 → ((Int32.ofNat m).toInt8.toInt32).toInt = (Int32.ofNat m).toInt) ∧ (128 ≤ (Int32.ofNat m).toInt → ((Int32.ofNat m).toInt8.toInt32).toInt = (Int32.ofNat m).toInt - 256) := by decide +kernel
  obtain ⟨m, hm, e, ei⟩ := kbc_of (n := 256) h0 (by omega)
  subst e
  exact hall m hm
section CG
variable {t : List Int32} {n : Int32} {sub : cS → cS} {c v w g x y p p1 f f1 : Int32} {A A1 : cA} {S S0 S1 S2 S3 S4 R : cS} {o : Int32 → Bool} {k m : Nat}
theorem tkP_y (h : (cHr t n p f).toInt = c.toInt) : (1, p + 1) = cTkP t n c p f := (if_pos h).symm
theorem tkP_n (h : ¬ ((cHr t n p f).toInt = c.toInt)) : (0, p) = cTkP t n c p f := (if_neg h).symm
theorem ofP_y (h : o (cHr t n p f) = true) (hv : v = cHr t n p f) : (v, p + 1) = cOfP t n o p f := by rw [hv]; exact (if_pos h).symm
theorem ofP_n (h : o (cHr t n p f) = false) : (-1, p) = cOfP t n o p f := (if_neg (by rw [h]; exact Bool.false_ne_true)).symm
theorem tTk (h : (v, p1) = cTkP t n c p f) (hf : f1 = f) (hA : A1 = A) : (v, (p1, f1, A1)) = cTk t n c (p, f, A) := by
  subst hf
  subst hA
  unfold cTk
  rw [← h]
theorem tOf (h : (v, p1) = cOfP t n o p f) (hf : f1 = f) (hA : A1 = A) : (v, (p1, f1, A1)) = cOf t n o (p, f, A) := by
  subst hf
  subst hA
  unfold cOf
  rw [← h]
theorem tAdd (h : A1 = lAdd v w A) (hp : p1 = p) (hf : f1 = f) : (p1, f1, A1) = cAdd v w (p, f, A) := by subst hp; subst hf; subst h; rfl
theorem tAim (h : A1 = lAim v A) (hp : p1 = p) (hf : f1 = f) : (p1, f1, A1) = cAim v (p, f, A) := by subst hp; subst hf; subst h; rfl
theorem cLB_again (h : cLpB t n sub c m S = R) (hm : m = k + 1) (o1 : (v, S1) = cTk t n c S) (hv : ¬ (v.toInt = 0)) (o2 : S2 = sub S1) (o3 : S3 = cAdd c 0 S2) : cLpB t n sub c k S3 = R := by
  subst hm
  unfold cLpB at h
  rw [← o1] at h
  dsimp only at h
  rw [if_neg hv] at h
  rw [o3, o2]
  exact h
theorem cLB_out (h : cLpB t n sub c m S = R) (hm : m = k + 1) (o1 : (v, S1) = cTk t n c S) (hv : v.toInt = 0) : S1 = R := by
  subst hm
  unfold cLpB at h
  rw [← o1] at h
  dsimp only at h
  rw [if_pos hv] at h
  exact h
theorem cLB_end (h : cLpB t n sub c m S = R) (hm : m = 0) : S = R := by subst hm; exact h
theorem cLS_again (h : cLpS t n sub o m (g, S) = R) (hm : m = k + 1) (hv : ¬ (g.toInt = -1)) (o2 : S2 = sub S) (o3 : S3 = cAdd g 0 S2) (o4 : (v, S4) = cOf t n o S3) : cLpS t n sub o k (v, S4) = R := by
  subst hm
  unfold cLpS at h
  rw [if_neg hv] at h
  rw [o4, o3, o2]
  exact h
theorem cLS_out (h : cLpS t n sub o m (g, S) = R) (hv : g.toInt = -1) : S = R := by
  cases m with
  | zero => exact h
  | succ m =>
    unfold cLpS at h
    rw [if_pos hv] at h
    exact h
theorem cLS_end (h : cLpS t n sub o m (g, S) = R) (hm : m = 0) : S = R := by subst hm; exact h
theorem cLS_begin (o1 : S1 = sub S0) (o2 : (g, S2) = cOf t n o S1) (hm : m = n.toInt.toNat) : cLpS t n sub o m (g, S2) = cMul t n sub o S0 := by subst hm; rw [o2, o1]; rfl
theorem cLB_begin (o1 : S1 = sub S0) (hm : m = n.toInt.toNat) : cLpB t n sub c m S1 = cBin t n sub c S0 := by subst hm; rw [o1]; rfl
theorem cCm_out (o1 : S1 = sub S0) (o2 : (g, S2) = cOf t n o S1) (hg : g.toInt = -1) : S2 = cCmp t n sub o S0 := by
  unfold cCmp
  rw [← o1, ← o2]
  exact (if_pos hg).symm
theorem cCm_in (o1 : S1 = sub S0) (o2 : (g, S2) = cOf t n o S1) (hg : ¬ (g.toInt = -1)) (o3 : S3 = sub S2) (o4 : S4 = cAdd g 0 S3) : S4 = cCmp t n sub o S0 := by
  unfold cCmp
  rw [← o1, ← o2]
  dsimp only
  rw [if_neg hg, ← o3]
  exact o4
theorem cDg_again {R : Int32 × cS} (h : cDig t n m (x, S) = R) (hm : m = k + 1) (h0 : 48 ≤ (cHr t n S.1 S.2.1).toInt) (h1 : (cHr t n S.1 S.2.1).toInt ≤ 57) (hy : y = ((x * 10) + cHr t n S.1 S.2.1) - 48) (hs : S1 = cAt1 S) : cDig t n k (y, S1) = R := by
  subst hm
  unfold cDig at h
  rw [if_pos ⟨h0, h1⟩] at h
  rw [hy, hs]
  exact h
theorem cDg_out {R : Int32 × cS} (h : cDig t n m (x, S) = R) (hn : ¬ (48 ≤ (cHr t n S.1 S.2.1).toInt ∧ (cHr t n S.1 S.2.1).toInt ≤ 57)) : (x, S) = R := by
  cases m with
  | zero => exact h
  | succ m =>
    unfold cDig at h
    rw [if_neg hn] at h
    exact h
theorem cDg_end {R : Int32 × cS} (h : cDig t n m (x, S) = R) (hm : m = 0) : (x, S) = R := by subst hm; exact h
theorem cNu_of (h : (x, S) = cDig t n 4 (0, S0)) (o1 : S1 = cAdd 0 x S) : S1 = cNum t n S0 := by
  unfold cNum
  rw [← h]
  exact o1
theorem cPt_num {nx : Option (cS → cS)} (h0 : 48 ≤ (cHr t n S0.1 S0.2.1).toInt) (h1 : (cHr t n S0.1 S0.2.1).toInt ≤ 57) (o1 : S1 = cNum t n S0) : S1 = cPart t n nx S0 := by
  unfold cPart
  rw [if_pos ⟨h0, h1⟩]
  exact o1
theorem cPt_nam {nx : Option (cS → cS)} (hd : ¬ (48 ≤ (cHr t n S0.1 S0.2.1).toInt ∧ (cHr t n S0.1 S0.2.1).toInt ≤ 57)) (o1 : (g, S1) = cOf t n oNam S0) (hg : g.toInt ≠ -1) (hx : x = nIdx g) (o2 : S2 = cAdd 1 x S1) : S2 = cPart t n nx S0 := by
  unfold cPart
  rw [if_neg hd, ← o1]
  dsimp only
  rw [if_pos hg, ← hx]
  exact o2
theorem cPt_non (hd : ¬ (48 ≤ (cHr t n S0.1 S0.2.1).toInt ∧ (cHr t n S0.1 S0.2.1).toInt ≤ 57)) (o1 : (g, S1) = cOf t n oNam S0) (hg : g.toInt = -1) (o2 : S2 = cBad S0) : S2 = cPart t n none S0 := by
  unfold cPart
  rw [if_neg hd, ← o1]
  dsimp only
  rw [if_neg (fun z => z hg)]
  exact o2
theorem cPt_bad (hd : ¬ (48 ≤ (cHr t n S0.1 S0.2.1).toInt ∧ (cHr t n S0.1 S0.2.1).toInt ≤ 57)) (o1 : (g, S1) = cOf t n oNam S0) (hg : g.toInt = -1) (es : S1 = S0) (o2 : (v, S2) = cOf t n oOpn S1) (hv : v.toInt = -1) (o3 : S3 = cBad S0) : S3 = cPart t n (some sub) S0 := by
  unfold cPart
  rw [if_neg hd, ← o1]
  dsimp only
  rw [if_neg (fun z => z hg), ← es, ← o2]
  dsimp only
  rw [if_pos hv, es]
  exact o3
theorem cPt_par (hd : ¬ (48 ≤ (cHr t n S0.1 S0.2.1).toInt ∧ (cHr t n S0.1 S0.2.1).toInt ≤ 57)) (o1 : (g, S1) = cOf t n oNam S0) (hg : g.toInt = -1) (es : S1 = S0) (o2 : (v, S2) = cOf t n oOpn S1) (hv : v.toInt = 40) (o3 : S3 = cEit t n sub S2) (o4 : S4 = cEnd (cTk t n 41 S3)) : S4 = cPart t n (some sub) S0 := by
  unfold cPart
  rw [if_neg hd, ← o1]
  dsimp only
  rw [if_neg (fun z => z hg), ← es, ← o2]
  dsimp only
  rw [if_neg (by omega), if_pos hv, ← o3]
  exact o4
theorem cPt_un (hd : ¬ (48 ≤ (cHr t n S0.1 S0.2.1).toInt ∧ (cHr t n S0.1 S0.2.1).toInt ≤ 57)) (o1 : (g, S1) = cOf t n oNam S0) (hg : g.toInt = -1) (es : S1 = S0) (o2 : (v, S2) = cOf t n oOpn S1) (hv : v.toInt ≠ -1) (hv2 : v.toInt ≠ 40) (o3 : S3 = sub S2) (hx : x = if v.toInt = 45 then 126 else v) (o4 : S4 = cAdd x 0 S3) : S4 = cPart t n (some sub) S0 := by
  unfold cPart
  rw [if_neg hd, ← o1]
  dsimp only
  rw [if_neg (fun z => z hg), ← es, ← o2]
  dsimp only
  rw [if_neg hv, if_neg hv2, ← o3, ← hx]
  exact o4
theorem cEn_y (o1 : (v, S1) = cTk t n c S) (hv : v.toInt ≠ 0) : S1 = cEnd (cTk t n c S) := by
  unfold cEnd
  rw [← o1]
  exact (if_neg hv).symm
theorem cEn_n (o1 : (v, S1) = cTk t n c S) (hv : v.toInt = 0) (o2 : S2 = cBad S1) : S2 = cEnd (cTk t n c S) := by
  unfold cEnd
  rw [← o1, o2]
  exact (if_pos hv).symm
theorem cOf_no (o1 : (g, S1) = cOf t n o S) (hg : g.toInt = -1) (hr : ∀ z : Int32, o z = true → z.toInt ≠ -1) : S1 = S := by
  unfold cOf cOfP at o1
  split at o1
  next h =>
    have e := congrArg (fun z => z.1) o1
    dsimp only at e
    rw [e] at hg
    exact absurd hg (hr _ h)
  next => exact congrArg (fun z => z.2) o1
theorem cLi_one (o1 : S1 = cE t n 6 S0) (o2 : (v, S2) = cTk t n 63 S1) (hv : v.toInt = 0) (o3 : S3 = cAdd 2 0 S2) : S3 = cLin t n S0 := by
  unfold cLin
  rw [← o1, ← o2]
  dsimp only
  rw [if_pos hv]
  exact o3
theorem cLi_two (o1 : S1 = cE t n 6 S0) (o2 : (v, S2) = cTk t n 63 S1) (hv : v.toInt ≠ 0) (o3 : S3 = cAdd 3 0 S2) (o4 : S4 = cLin2 t n S3) : S4 = cLin t n S0 := by
  unfold cLin
  rw [← o1, ← o2]
  dsimp only
  rw [if_neg hv, ← o3]
  exact o4
theorem cLi_2 (hx : x = S0.2.2.2.2 - 1) (o1 : S1 = cE t n 6 S0) (o2 : S2 = cAdd 2 0 S1) (o3 : S3 = cAim x S2) : S3 = cLin2 t n S0 := by
  unfold cLin2
  rw [← o1, ← o2, ← hx]
  exact o3
theorem cLL_again (h : cLpL t n m S = R) (hm : m = k + 1) (o1 : (v, S1) = cTk t n 59 S) (hv : ¬ (v.toInt = 0)) (o2 : S2 = cLin t n S1) : cLpL t n k S2 = R := by
  subst hm
  unfold cLpL at h
  rw [← o1] at h
  dsimp only at h
  rw [if_neg hv] at h
  rw [o2]
  exact h
theorem cLL_out (h : cLpL t n m S = R) (hm : m = k + 1) (o1 : (v, S1) = cTk t n 59 S) (hv : v.toInt = 0) : S1 = R := by
  subst hm
  unfold cLpL at h
  rw [← o1] at h
  dsimp only at h
  rw [if_pos hv] at h
  exact h
theorem cLL_end (h : cLpL t n m S = R) (hm : m = 0) : S = R := by subst hm; exact h
theorem cLL_begin {st wi : List Int32} (o1 : S1 = cLin t n S0) (h0 : S0 = (0, 0, st, wi, 0)) (hm : m = n.toInt.toNat) : cLpL t n m S1 = cTxt t n st wi := by subst hm; rw [o1, h0]; rfl
theorem rd_ok {R : cS} {told : Int32} {A1 : cA} (hD : (p, f, A) = R) (hf : f.toInt = 0) (hp : n.toInt ≤ p.toInt) (hv : v = -1) (ht : told = 1) (hA : A1 = A) : (cOk n R ∧ v = -1 ∧ told = 1 ∧ A1 = R.2.2) ∨ (¬ cOk n R ∧ v = R.1 ∧ 0 ≤ v.toInt) := by
  subst hD
  exact Or.inl ⟨⟨hf, hp⟩, hv, ht, hA⟩
theorem rd_bad {R : cS} {told : Int32} {A1 : cA} (hD : (p, f, A) = R) (hn : ¬ (f.toInt = 0 ∧ n.toInt ≤ p.toInt)) (hv : v = p) (h0 : 0 ≤ v.toInt) : (cOk n R ∧ v = -1 ∧ told = 1 ∧ A1 = R.2.2) ∨ (¬ cOk n R ∧ v = R.1 ∧ 0 ≤ v.toInt) := by
  subst hD
  exact Or.inr ⟨hn, hv, h0⟩
theorem lw_ok {R : cS} {told told1 : Int32} {A1 : cA} {r0 r2 L L2 : Nat} (o : (cOk n R ∧ w = -1 ∧ told = 1 ∧ A = R.2.2) ∨ (¬ cOk n R ∧ w = R.1 ∧ 0 ≤ w.toInt)) (hw : w.toInt < 0) (hv : v = 1) (h0 : r0 = L) (h2 : r2 = L2) (ht : told1 = told) (hA : A1 = A) : (cOk n R ∧ v = 1 ∧ r0 = L ∧ r2 = L2 ∧ told1 = 1 ∧ A1 = R.2.2) ∨ (¬ cOk n R ∧ v = -100 - R.1 ∧ r0 = L2 ∧ r2 = L) := by
  rcases o with ⟨a, _, b, d⟩ | ⟨_, _, b⟩
  · exact Or.inl ⟨a, hv, h0, h2, ht.trans b, hA.trans d⟩
  · omega
theorem lw_bad {R : cS} {told told1 : Int32} {A1 : cA} {r0 r2 L L2 : Nat} (o : (cOk n R ∧ w = -1 ∧ told = 1 ∧ A = R.2.2) ∨ (¬ cOk n R ∧ w = R.1 ∧ 0 ≤ w.toInt)) (hw : 0 ≤ w.toInt) (hv : v = -100 - w) (h0 : r0 = L2) (h2 : r2 = L) : (cOk n R ∧ v = 1 ∧ r0 = L ∧ r2 = L2 ∧ told1 = 1 ∧ A1 = R.2.2) ∨ (¬ cOk n R ∧ v = -100 - R.1 ∧ r0 = L2 ∧ r2 = L) := by
  rcases o with ⟨_, b, _⟩ | ⟨a, b, _⟩
  · subst b
    exact absurd hw (by decide)
  · exact Or.inr ⟨a, by rw [hv, b], h0, h2⟩
end CG
theorem kj_sub1 {n x : Int} (h : x < n) (h0 : 0 ≤ x) : (n - x).toNat = (n - (x + 1)).toNat + 1 := by omega
theorem kj_sub2 {n x x1 : Int} (h : x < n) (h0 : 0 ≤ x) (e : x1 = x + 1) : (n - x).toNat = (n - x1).toNat + 1 := by omega
theorem kj_sub0 {n x : Int} (h : n ≤ x) : (n - x).toNat = 0 := by omega
theorem kj_sub00 {n z : Int} (h : z = 0) : (n - z).toNat = n.toNat := by omega
theorem kS5 {A B C D E : Type} {a a1 : A} {b b1 : B} {c c1 : C} {d d1 : D} {e e1 : E} (h1 : a = a1) (h2 : b = b1) (h3 : c = c1) (h4 : d = d1) (h5 : e = e1) : (a, b, c, d, e) = (a1, b1, c1, d1, e1) := by subst h1; subst h2; subst h3; subst h4; subst h5; rfl
theorem kr_0 {r : Nat → Nat} {L L2 : Nat} (hr : kr r) (hL : r 2 = L) (h : (L = 10 ∧ L2 = 100) ∨ (L = 100 ∧ L2 = 10)) : r 0 = L2 := by
  rcases hr.1 with ⟨a, b⟩ | ⟨a, b⟩ <;> omega

