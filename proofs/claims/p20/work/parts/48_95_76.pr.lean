/-! THE TAPE READ, PURELY, AS THE REFERENCE READS IT: where it stands, how much is coded, the code -/
abbrev rS : Type := Int32 × Int32 × List Int32
def rHr (t : List Int32) (n : Int32) (S : rS) : Int32 := cHr t n S.1 0
def rCod (x : Int32) (S : rS) : rS := (S.1, S.2.1 + 1, S.2.2.set S.2.1.toNatClampNeg x)
def rAt1 (S : rS) : rS := (S.1 + 1, S.2)
def rTk (t : List Int32) (n c : Int32) (S : rS) : Int32 × rS := ((cTkP t n c S.1 0).1, (cTkP t n c S.1 0).2, S.2)
def opMul (x : Int32) : Int32 := if x.toInt = 42 then 13 else if x.toInt = 47 then 14 else if x.toInt = 37 then 15 else -1
def opSum (x : Int32) : Int32 := if x.toInt = 43 then 11 else if x.toInt = 45 then 12 else -1
def opCmp (x : Int32) : Int32 := if x.toInt = 60 then 8 else if x.toInt = 61 then 9 else if x.toInt = 62 then 10 else -1
def nmO (x : Int32) : Int32 := if x.toInt = 119 then 0 else if x.toInt = 112 then 1 else if x.toInt = 104 then 2 else if x.toInt = 110 then 3 else if x.toInt = 111 then 4 else if x.toInt = 100 then 5 else -1
def rLpS (t : List Int32) (n : Int32) (sub : rS → Int32 × rS) (o : Int32 → Int32) : Nat → rS → Int32 × rS
  | 0, S => (1, S)
  | k + 1, S => if (o (rHr t n S)).toInt < 0 then (1, S) else if (sub (rAt1 S)).1.toInt = 0 then (0, (sub (rAt1 S)).2) else rLpS t n sub o k (rCod (o (rHr t n S)) (sub (rAt1 S)).2)
def rMul (t : List Int32) (n : Int32) (sub : rS → Int32 × rS) (o : Int32 → Int32) (S : rS) : Int32 × rS := if (sub S).1.toInt = 0 then (0, (sub S).2) else rLpS t n sub o n.toInt.toNat (sub S).2
def rLpB (t : List Int32) (n : Int32) (sub : rS → Int32 × rS) (c x : Int32) : Nat → rS → Int32 × rS
  | 0, S => (1, S)
  | k + 1, S => if (rTk t n c S).1.toInt = 0 then (1, (rTk t n c S).2) else if (sub (rTk t n c S).2).1.toInt = 0 then (0, (sub (rTk t n c S).2).2) else rLpB t n sub c x k (rCod x (sub (rTk t n c S).2).2)
def rBin (t : List Int32) (n : Int32) (sub : rS → Int32 × rS) (c x : Int32) (S : rS) : Int32 × rS := if (sub S).1.toInt = 0 then (0, (sub S).2) else rLpB t n sub c x n.toInt.toNat (sub S).2
def rCm2 (g : Int32) (r : Int32 × rS) : Int32 × rS := if r.1.toInt = 0 then (0, r.2) else (1, rCod g r.2)
def rCmp (t : List Int32) (n : Int32) (sub : rS → Int32 × rS) (o : Int32 → Int32) (S : rS) : Int32 × rS :=
  if (sub S).1.toInt = 0 then (0, (sub S).2) else if (o (rHr t n (sub S).2)).toInt < 0 then (1, (sub S).2) else rCm2 (o (rHr t n (sub S).2)) (sub (rAt1 (sub S).2))
def rDig (t : List Int32) (n : Int32) : Nat → Int32 × Int32 → Int32 × Int32
  | 0, S => S
  | k + 1, S => if 48 ≤ (cHr t n S.2 0).toInt ∧ (cHr t n S.2 0).toInt ≤ 57 then rDig t n k (((10 * S.1) + cHr t n S.2 0) - 48, S.2 + 1) else S
def rP3 (t : List Int32) (n : Int32) (sub : rS → Int32 × rS) : rS → Int32 × rS := rMul t n sub opMul
def rP4 (t : List Int32) (n : Int32) (sub : rS → Int32 × rS) : rS → Int32 × rS := rMul t n (rP3 t n sub) opSum
def rP5 (t : List Int32) (n : Int32) (sub : rS → Int32 × rS) : rS → Int32 × rS := rCmp t n (rP4 t n sub) opCmp
def rP6 (t : List Int32) (n : Int32) (sub : rS → Int32 × rS) : rS → Int32 × rS := rBin t n (rP5 t n sub) 38 7
def rEit (t : List Int32) (n : Int32) (sub : rS → Int32 × rS) : rS → Int32 × rS := rBin t n (rP6 t n sub) 124 6
def rPar (t : List Int32) (n : Int32) (r : Int32 × rS) : Int32 × rS := if r.1.toInt = 0 then (0, r.2) else rTk t n 41 r.2
def rPart (t : List Int32) (n : Int32) (nx : Option (rS → Int32 × rS)) (S : rS) : Int32 × rS :=
  if 48 ≤ (rHr t n S).toInt ∧ (rHr t n S).toInt ≤ 57 then (1, rCod (18 + (rDig t n 4 (0, S.1)).1) ((rDig t n 4 (0, S.1)).2, S.2))
  else if 0 ≤ (nmO (rHr t n S)).toInt then (1, rCod (nmO (rHr t n S)) (rAt1 S))
  else match nx with
    | none => (0, S)
    | some sub =>
      if (rHr t n S).toInt = 33 then rCm2 16 (sub (rAt1 S))
      else if (rHr t n S).toInt = 45 then rCm2 17 (sub (rAt1 S))
      else if (rHr t n S).toInt = 40 then rPar t n (rEit t n sub (rAt1 S))
      else (0, S)
def rO (t : List Int32) (n : Int32) : Nat → rS → Int32 × rS
  | 0 => rPart t n none
  | m + 1 => rPart t n (some (rO t n m))
def rE (t : List Int32) (n : Int32) (m : Nat) : rS → Int32 × rS := rEit t n (rO t n m)
/-- lines: what was read, how many, where each asks, says, ends -/
abbrev rL : Type := rS × Int32 × List Int32 × List Int32 × List Int32
def rLn2 (Z : rL) (r : Int32 × rS) : Int32 × rL := if r.1.toInt = 0 then (0, (r.2, Z.2)) else (1, (r.2, Z.2.1 + 1, Z.2.2.1, Z.2.2.2.1, Z.2.2.2.2.set Z.2.1.toNatClampNeg r.2.2.1))
def rLn1 (t : List Int32) (n : Int32) (Z : rL) (r : Int32 × rS) : Int32 × rL :=
  if (rTk t n 63 r.2).1.toInt = 0 then rLn2 Z (1, (rTk t n 63 r.2).2)
  else rLn2 (Z.1, Z.2.1, Z.2.2.1, Z.2.2.2.1.set Z.2.1.toNatClampNeg (rTk t n 63 r.2).2.2.1, Z.2.2.2.2) (rE t n 6 (rTk t n 63 r.2).2)
def rLin (t : List Int32) (n : Int32) (Z : rL) : Int32 × rL :=
  if (rE t n 6 Z.1).1.toInt = 0 then (0, ((rE t n 6 Z.1).2, Z.2.1, Z.2.2.1.set Z.2.1.toNatClampNeg Z.1.2.1, Z.2.2.2))
  else rLn1 t n (Z.1, Z.2.1, Z.2.2.1.set Z.2.1.toNatClampNeg Z.1.2.1, Z.2.2.2.1.set Z.2.1.toNatClampNeg ((Z.2.2.1.set Z.2.1.toNatClampNeg Z.1.2.1).getD Z.2.1.toNatClampNeg 0), Z.2.2.2.2) (rE t n 6 Z.1)
def rLpL (t : List Int32) (n : Int32) : Nat → Int32 × rL → Int32 × rL
  | 0, X => X
  | k + 1, X => if X.1.toInt = 0 then X else if (rTk t n 59 X.2.1).1.toInt = 0 then (X.1, ((rTk t n 59 X.2.1).2, X.2.2)) else rLpL t n k (rLin t n ((rTk t n 59 X.2.1).2, X.2.2))
def rTxt (t : List Int32) (n : Int32) (L A Y E : List Int32) : Int32 × rL := rLpL t n n.toInt.toNat (rLin t n ((0, 0, L), 0, A, Y, E))
def rOk (n : Int32) (X : Int32 × rL) : Prop := X.1.toInt ≠ 0 ∧ X.2.1.1.toInt = n.toInt
/-! glue -/
section RG
variable {t : List Int32} {n : Int32} {sub : rS → Int32 × rS} {c v w g x y p p1 : Int32} {S S0 S1 S2 S3 S4 : rS} {R : Int32 × rS} {o : Int32 → Int32} {k m : Nat}
def rGo (t : List Int32) (n : Int32) (sub : rS → Int32 × rS) (o : Int32 → Int32) (S : rS) (R : Int32 × rS) : Prop := ∃ k : Nat, (n.toInt - S.1.toInt).toNat ≤ k ∧ rLpS t n sub o k S = R
def rGb (t : List Int32) (n : Int32) (sub : rS → Int32 × rS) (c x : Int32) (S : rS) (R : Int32 × rS) : Prop := ∃ k : Nat, (n.toInt - S.1.toInt).toNat ≤ k ∧ rLpB t n sub c x k S = R
theorem tTkR {A A1 : Int32 × List Int32} (h : (v, p1) = cTkP t n c p 0) (hA : A1 = A) : (v, (p1, A1)) = rTk t n c (p, A) := by
  subst hA
  unfold rTk
  rw [← h]
theorem tCod {L L1 : List Int32} {a a1 : Int32} (hL : L1 = L.set a.toNatClampNeg x) (ha : a1 = a + 1) (hp : p1 = p) : (p1, a1, L1) = rCod x (p, a, L) := by subst hL; subst ha; subst hp; rfl
theorem rGo_begin (o1 : (v, S1) = sub S0) (hv : ¬ (v.toInt = 0)) (h0 : 0 ≤ S1.1.toInt) : rGo t n sub o S1 (rMul t n sub o S0) := by
  refine ⟨n.toInt.toNat, by omega, ?_⟩
  unfold rMul
  rw [← o1]
  dsimp only
  rw [if_neg hv]
theorem rMu_no (o1 : (v, S1) = sub S0) (hv : v.toInt = 0) (hw : w = 0) : (w, S1) = rMul t n sub o S0 := by
  subst hw
  unfold rMul
  rw [← o1]
  dsimp only
  rw [if_pos hv]
theorem rGo_again (h : rGo t n sub o S R) (hg : g = o (rHr t n S)) (hg0 : 0 ≤ g.toInt) (hp : S.1.toInt < n.toInt) (o1 : (v, S2) = sub (rAt1 S)) (hv : ¬ (v.toInt = 0)) (o2 : S3 = rCod g S2) (hq : S.1.toInt < S3.1.toInt) : rGo t n sub o S3 R := by
  obtain ⟨k, hk, e⟩ := h
  cases k with
  | zero => omega
  | succ k =>
    refine ⟨k, by omega, ?_⟩
    unfold rLpS at e
    rw [← hg, if_neg (by omega), ← o1] at e
    dsimp only at e
    rw [if_neg hv] at e
    rw [o2]
    exact e
theorem rGo_out (h : rGo t n sub o S R) (hg : g = o (rHr t n S)) (hg0 : g.toInt < 0) (hw : w = 1) : (w, S) = R := by
  subst hw
  obtain ⟨k, hk, e⟩ := h
  cases k with
  | zero => exact e
  | succ k =>
    unfold rLpS at e
    rw [← hg, if_pos hg0] at e
    exact e
theorem rGo_no (h : rGo t n sub o S R) (hg : g = o (rHr t n S)) (hg0 : 0 ≤ g.toInt) (hp : S.1.toInt < n.toInt) (o1 : (v, S2) = sub (rAt1 S)) (hv : v.toInt = 0) (hw : w = 0) : (w, S2) = R := by
  subst hw
  obtain ⟨k, hk, e⟩ := h
  cases k with
  | zero => omega
  | succ k =>
    unfold rLpS at e
    rw [← hg, if_neg (by omega), ← o1] at e
    dsimp only at e
    rw [if_pos hv] at e
    exact e
theorem rGb_begin (o1 : (v, S1) = sub S0) (hv : ¬ (v.toInt = 0)) (h0 : 0 ≤ S1.1.toInt) : rGb t n sub c x S1 (rBin t n sub c x S0) := by
  refine ⟨n.toInt.toNat, by omega, ?_⟩
  unfold rBin
  rw [← o1]
  dsimp only
  rw [if_neg hv]
theorem rBi_no (o1 : (v, S1) = sub S0) (hv : v.toInt = 0) (hw : w = 0) : (w, S1) = rBin t n sub c x S0 := by
  subst hw
  unfold rBin
  rw [← o1]
  dsimp only
  rw [if_pos hv]
theorem rGb_again {u : Int32} (h : rGb t n sub c x S R) (o0 : (u, S1) = rTk t n c S) (hu : ¬ (u.toInt = 0)) (hp : S.1.toInt < n.toInt) (o1 : (v, S2) = sub S1) (hv : ¬ (v.toInt = 0)) (o2 : S3 = rCod x S2) (hq : S.1.toInt < S3.1.toInt) : rGb t n sub c x S3 R := by
  obtain ⟨k, hk, e⟩ := h
  cases k with
  | zero => omega
  | succ k =>
    refine ⟨k, by omega, ?_⟩
    unfold rLpB at e
    rw [← o0] at e
    dsimp only at e
    rw [if_neg hu, ← o1] at e
    dsimp only at e
    rw [if_neg hv] at e
    rw [o2]
    exact e
theorem rGb_out {u : Int32} (h : rGb t n sub c x S R) (o0 : (u, S1) = rTk t n c S) (hu : u.toInt = 0) (es : S1 = S) (hw : w = 1) : (w, S1) = R := by
  subst hw
  obtain ⟨k, hk, e⟩ := h
  cases k with
  | zero => rw [es]; exact e
  | succ k =>
    unfold rLpB at e
    rw [← o0] at e
    dsimp only at e
    rw [if_pos hu] at e
    exact e
theorem rGb_no {u : Int32} (h : rGb t n sub c x S R) (o0 : (u, S1) = rTk t n c S) (hu : ¬ (u.toInt = 0)) (hp : S.1.toInt < n.toInt) (o1 : (v, S2) = sub S1) (hv : v.toInt = 0) (hw : w = 0) : (w, S2) = R := by
  subst hw
  obtain ⟨k, hk, e⟩ := h
  cases k with
  | zero => omega
  | succ k =>
    unfold rLpB at e
    rw [← o0] at e
    dsimp only at e
    rw [if_neg hu, ← o1] at e
    dsimp only at e
    rw [if_pos hv] at e
    exact e
theorem rTk_no (o0 : (v, S1) = rTk t n c S) (hv : v.toInt = 0) : S1 = S := by
  unfold rTk cTkP at o0
  split at o0
  · have e := congrArg (fun z => z.1) o0
    dsimp only at e
    rw [e] at hv
    exact absurd hv (by decide)
  · exact congrArg (fun z => z.2) o0
theorem rTk_yes (o0 : (v, S1) = rTk t n c S) (hv : ¬ (v.toInt = 0)) : S1 = rAt1 S := by
  unfold rTk cTkP at o0
  split at o0
  · exact congrArg (fun z => z.2) o0
  · have e := congrArg (fun z => z.1) o0
    dsimp only at e
    rw [e] at hv
    exact absurd (by decide) hv
theorem rCm_no (o1 : (v, S1) = sub S0) (hv : v.toInt = 0) (hw : w = 0) : (w, S1) = rCmp t n sub o S0 := by
  subst hw
  unfold rCmp
  rw [← o1]
  dsimp only
  rw [if_pos hv]
theorem rCm_one (o1 : (v, S1) = sub S0) (hv : ¬ (v.toInt = 0)) (hg : g = o (rHr t n S1)) (hg0 : g.toInt < 0) (hw : w = 1) : (w, S1) = rCmp t n sub o S0 := by
  subst hw
  unfold rCmp
  rw [← o1]
  dsimp only
  rw [if_neg hv, ← hg, if_pos hg0]
theorem rCm_two {u : Int32} (o1 : (v, S1) = sub S0) (hv : ¬ (v.toInt = 0)) (hg : g = o (rHr t n S1)) (hg0 : 0 ≤ g.toInt) (o2 : (u, S2) = sub (rAt1 S1)) (h : (w, S3) = rCm2 g (u, S2)) : (w, S3) = rCmp t n sub o S0 := by
  unfold rCmp
  rw [← o1]
  dsimp only
  rw [if_neg hv, ← hg, if_neg (by omega), ← o2]
  exact h
theorem rC2_no (hv : v.toInt = 0) (hw : w = 0) : (w, S) = rCm2 g (v, S) := by subst hw; exact (if_pos hv).symm
theorem rC2_yes (hv : ¬ (v.toInt = 0)) (o2 : S1 = rCod g S) (hw : w = 1) : (w, S1) = rCm2 g (v, S) := by subst hw; subst o2; exact (if_neg hv).symm
theorem rDg_again {R : Int32 × Int32} (h : rDig t n m (x, p) = R) (hm : m = k + 1) (h0 : 48 ≤ (cHr t n p 0).toInt) (h1 : (cHr t n p 0).toInt ≤ 57) (hy : y = ((10 * x) + cHr t n p 0) - 48) (hs : p1 = p + 1) : rDig t n k (y, p1) = R := by
  subst hm
  unfold rDig at h
  rw [if_pos ⟨h0, h1⟩] at h
  rw [hy, hs]
  exact h
theorem rDg_out {R : Int32 × Int32} (h : rDig t n m (x, p) = R) (hn : ¬ (48 ≤ (cHr t n p 0).toInt ∧ (cHr t n p 0).toInt ≤ 57)) : (x, p) = R := by
  cases m with
  | zero => exact h
  | succ m =>
    unfold rDig at h
    rw [if_neg hn] at h
    exact h
theorem rDg_end {R : Int32 × Int32} (h : rDig t n m (x, p) = R) (hm : m = 0) : (x, p) = R := by subst hm; exact h
theorem rPt_num {nx : Option (rS → Int32 × rS)} {A : Int32 × List Int32} (h0 : 48 ≤ (rHr t n (p, A)).toInt) (h1 : (rHr t n (p, A)).toInt ≤ 57) (hD : (x, p1) = rDig t n 4 (0, p)) (hg : g = 18 + x) (o1 : S1 = rCod g (p1, A)) (hw : w = 1) : (w, S1) = rPart t n nx (p, A) := by
  subst hw
  subst hg
  unfold rPart
  rw [if_pos ⟨h0, h1⟩]
  dsimp only
  rw [← hD]
  dsimp only
  rw [← o1]
theorem rPt_nam {nx : Option (rS → Int32 × rS)} (hd : ¬ (48 ≤ (rHr t n S0).toInt ∧ (rHr t n S0).toInt ≤ 57)) (hg : g = nmO (rHr t n S0)) (hg0 : 0 ≤ g.toInt) (o1 : S1 = rCod g (rAt1 S0)) (hw : w = 1) : (w, S1) = rPart t n nx S0 := by
  subst hw
  unfold rPart
  rw [if_neg hd, ← hg, if_pos hg0, ← o1]
theorem rPt_non (hd : ¬ (48 ≤ (rHr t n S0).toInt ∧ (rHr t n S0).toInt ≤ 57)) (hg : g = nmO (rHr t n S0)) (hg0 : g.toInt < 0) (hs : S1 = S0) (hw : w = 0) : (w, S1) = rPart t n none S0 := by
  subst hw
  subst hs
  unfold rPart
  rw [if_neg hd, ← hg, if_neg (by omega)]
theorem rPt_bad (hd : ¬ (48 ≤ (rHr t n S0).toInt ∧ (rHr t n S0).toInt ≤ 57)) (hg : g = nmO (rHr t n S0)) (hg0 : g.toInt < 0) (h1 : ¬ ((rHr t n S0).toInt = 33)) (h2 : ¬ ((rHr t n S0).toInt = 45)) (h3 : ¬ ((rHr t n S0).toInt = 40)) (hs : S1 = S0) (hw : w = 0) : (w, S1) = rPart t n (some sub) S0 := by
  subst hw
  subst hs
  unfold rPart
  rw [if_neg hd, ← hg, if_neg (by omega)]
  dsimp only
  rw [if_neg h1, if_neg h2, if_neg h3]
theorem rPt_not (hd : ¬ (48 ≤ (rHr t n S0).toInt ∧ (rHr t n S0).toInt ≤ 57)) (hg : g = nmO (rHr t n S0)) (hg0 : g.toInt < 0) (h1 : (rHr t n S0).toInt = 33) (o1 : (v, S1) = sub (rAt1 S0)) (h : (w, S2) = rCm2 16 (v, S1)) : (w, S2) = rPart t n (some sub) S0 := by
  unfold rPart
  rw [if_neg hd, ← hg, if_neg (by omega)]
  dsimp only
  rw [if_pos h1, ← o1]
  exact h
theorem rPt_neg (hd : ¬ (48 ≤ (rHr t n S0).toInt ∧ (rHr t n S0).toInt ≤ 57)) (hg : g = nmO (rHr t n S0)) (hg0 : g.toInt < 0) (h1 : (rHr t n S0).toInt = 45) (o1 : (v, S1) = sub (rAt1 S0)) (h : (w, S2) = rCm2 17 (v, S1)) : (w, S2) = rPart t n (some sub) S0 := by
  unfold rPart
  rw [if_neg hd, ← hg, if_neg (by omega)]
  dsimp only
  rw [if_neg (by omega), if_pos h1, ← o1]
  exact h
theorem rPt_par (hd : ¬ (48 ≤ (rHr t n S0).toInt ∧ (rHr t n S0).toInt ≤ 57)) (hg : g = nmO (rHr t n S0)) (hg0 : g.toInt < 0) (h1 : (rHr t n S0).toInt = 40) (o1 : (v, S1) = rEit t n sub (rAt1 S0)) (h : (w, S2) = rPar t n (v, S1)) : (w, S2) = rPart t n (some sub) S0 := by
  unfold rPart
  rw [if_neg hd, ← hg, if_neg (by omega)]
  dsimp only
  rw [if_neg (by omega), if_neg (by omega), if_pos h1, ← o1]
  exact h
theorem rPa_no (hv : v.toInt = 0) (hw : w = 0) : (w, S) = rPar t n (v, S) := by subst hw; exact (if_pos hv).symm
theorem rPa_yes {u : Int32} (hv : ¬ (v.toInt = 0)) (o1 : (u, S1) = rTk t n 41 S) (hw : w = u) : (w, S1) = rPar t n (v, S) := by subst hw; rw [o1]; exact (if_neg hv).symm
end RG
theorem rO_z {t : List Int32} {nn : Int32} {n : Nat} (h : n = 0) : rO t nn n = rPart t nn none := by subst h; rfl
theorem rO_s {t : List Int32} {nn : Int32} {n m : Nat} (h : n = m + 1) : rO t nn n = rPart t nn (some (rO t nn m)) := by subst h; rfl
theorem rO_any (t : List Int32) (nn : Int32) (n : Nat) : ∃ nx, rO t nn n = rPart t nn nx := by
  cases n with
  | zero => exact ⟨_, rfl⟩
  | succ m => exact ⟨_, rfl⟩
theorem rPt_lv {t : List Int32} {nn : Int32} {n : Nat} {S0 : rS} {X : Int32 × rS} (h : ∃ nx, rO t nn n = rPart t nn nx) (g : ∀ nx, X = rPart t nn nx S0) : X = rO t nn n S0 := by
  obtain ⟨nx, e⟩ := h
  rw [e]
  exact g nx
theorem opMul_of {x g : Int32} (h : (x.toInt = 42 ∧ g.toInt = 13) ∨ (x.toInt = 47 ∧ g.toInt = 14) ∨ (x.toInt = 37 ∧ g.toInt = 15) ∨ (x.toInt ≠ 42 ∧ x.toInt ≠ 47 ∧ x.toInt ≠ 37 ∧ g.toInt = -1)) : g = opMul x := by
  apply kj_v
  have k1 : (13 : Int32).toInt = 13 := by decide
  have k2 : (14 : Int32).toInt = 14 := by decide
  have k3 : (15 : Int32).toInt = 15 := by decide
  have k4 : (-1 : Int32).toInt = -1 := by decide
  unfold opMul
  rcases h with h | h | h | h
  · rw [if_pos h.1]; omega
  · rw [if_neg (by omega), if_pos h.1]; omega
  · rw [if_neg (by omega), if_neg (by omega), if_pos h.1]; omega
  · rw [if_neg h.1, if_neg h.2.1, if_neg h.2.2.1]; omega
theorem opSum_of {x g : Int32} (h : (x.toInt = 43 ∧ g.toInt = 11) ∨ (x.toInt = 45 ∧ g.toInt = 12) ∨ (x.toInt ≠ 43 ∧ x.toInt ≠ 45 ∧ g.toInt = -1)) : g = opSum x := by
  apply kj_v
  have k1 : (11 : Int32).toInt = 11 := by decide
  have k2 : (12 : Int32).toInt = 12 := by decide
  have k4 : (-1 : Int32).toInt = -1 := by decide
  unfold opSum
  rcases h with h | h | h
  · rw [if_pos h.1]; omega
  · rw [if_neg (by omega), if_pos h.1]; omega
  · rw [if_neg h.1, if_neg h.2.1]; omega
theorem opCmp_of {x g : Int32} (h : (x.toInt = 60 ∧ g.toInt = 8) ∨ (x.toInt = 61 ∧ g.toInt = 9) ∨ (x.toInt = 62 ∧ g.toInt = 10) ∨ (x.toInt ≠ 60 ∧ x.toInt ≠ 61 ∧ x.toInt ≠ 62 ∧ g.toInt = -1)) : g = opCmp x := by
  apply kj_v
  have k1 : (8 : Int32).toInt = 8 := by decide
  have k2 : (9 : Int32).toInt = 9 := by decide
  have k3 : (10 : Int32).toInt = 10 := by decide
  have k4 : (-1 : Int32).toInt = -1 := by decide
  unfold opCmp
  rcases h with h | h | h | h
  · rw [if_pos h.1]; omega
  · rw [if_neg (by omega), if_pos h.1]; omega
  · rw [if_neg (by omega), if_neg (by omega), if_pos h.1]; omega
  · rw [if_neg h.1, if_neg h.2.1, if_neg h.2.2.1]; omega
theorem kT2 {A B : Type} {a a1 : A} {b b1 : B} (h1 : a = a1) (h2 : b = b1) : (a, b) = (a1, b1) := by subst h1; subst h2; rfl
theorem nmO_of {x g : Int32} (h : (x.toInt = 119 ∧ g.toInt = 0) ∨ (x.toInt = 112 ∧ g.toInt = 1) ∨ (x.toInt = 104 ∧ g.toInt = 2) ∨ (x.toInt = 110 ∧ g.toInt = 3) ∨ (x.toInt = 111 ∧ g.toInt = 4) ∨ (x.toInt = 100 ∧ g.toInt = 5) ∨ (x.toInt ≠ 119 ∧ x.toInt ≠ 112 ∧ x.toInt ≠ 104 ∧ x.toInt ≠ 110 ∧ x.toInt ≠ 111 ∧ x.toInt ≠ 100 ∧ g.toInt = -1)) : g = nmO x := by
  have k0 : (0 : Int32).toInt = 0 := by decide
  have k1 : (1 : Int32).toInt = 1 := by decide
  have k2 : (2 : Int32).toInt = 2 := by decide
  have k3 : (3 : Int32).toInt = 3 := by decide
  have k4 : (4 : Int32).toInt = 4 := by decide
  have k5 : (5 : Int32).toInt = 5 := by decide
  have k6 : (-1 : Int32).toInt = -1 := by decide
  apply kj_v
  unfold nmO
  rcases h with h | h | h | h | h | h | h
  · rw [if_pos h.1]; omega
  · rw [if_neg (by omega), if_pos h.1]; omega
  · rw [if_neg (by omega), if_neg (by omega), if_pos h.1]; omega
  · rw [if_neg (by omega), if_neg (by omega), if_neg (by omega), if_pos h.1]; omega
  · rw [if_neg (by omega), if_neg (by omega), if_neg (by omega), if_neg (by omega), if_pos h.1]; omega
  · rw [if_neg (by omega), if_neg (by omega), if_neg (by omega), if_neg (by omega), if_neg (by omega), if_pos h.1]; omega
  · rw [if_neg h.1, if_neg h.2.1, if_neg h.2.2.1, if_neg h.2.2.2.1, if_neg h.2.2.2.2.1, if_neg h.2.2.2.2.2.1]; omega
theorem nmO_no {x g : Int32} (h1 : x.toInt ≠ 119) (h2 : x.toInt ≠ 112) (h3 : x.toInt ≠ 104) (h4 : x.toInt ≠ 110) (h5 : x.toInt ≠ 111) (h6 : x.toInt ≠ 100) (hg : g = -1) : g = nmO x := by
  subst hg
  exact nmO_of (Or.inr (Or.inr (Or.inr (Or.inr (Or.inr (Or.inr ⟨h1, h2, h3, h4, h5, h6, by decide⟩))))))
section RLG
variable {t : List Int32} {n : Int32} {v w u nl nl1 v2 : Int32} {S0 S1 S2 S3 : rS} {A A1 Y Y1 E E1 : List Int32}
theorem rLi_no (o1 : (v, S1) = rE t n 6 S0) (hv : v.toInt = 0) (hw : w = 0) (hn : nl1 = nl) (hA : A1 = A.set nl.toNatClampNeg S0.2.1) (hY : Y1 = Y) (hE : E1 = E) : (w, (S1, nl1, A1, Y1, E1)) = rLin t n (S0, nl, A, Y, E) := by
  subst hw; subst hn; subst hA; subst hY; subst hE
  unfold rLin
  dsimp only
  rw [← o1]
  dsimp only
  rw [if_pos hv]
theorem rLi_one (o1 : (v, S1) = rE t n 6 S0) (hv : ¬ (v.toInt = 0)) (o2 : (u, S2) = rTk t n 63 S1) (hu : u.toInt = 0) (hA : A1 = A.set nl.toNatClampNeg S0.2.1) (hY : Y1 = Y.set nl.toNatClampNeg ((A.set nl.toNatClampNeg S0.2.1).getD nl.toNatClampNeg 0)) (hE : E1 = E.set nl.toNatClampNeg S2.2.1) (hn : nl1 = nl + 1) (hw : w = 1) : (w, (S2, nl1, A1, Y1, E1)) = rLin t n (S0, nl, A, Y, E) := by
  subst hw; subst hn; subst hA; subst hY; subst hE
  unfold rLin
  dsimp only
  rw [← o1]
  dsimp only
  rw [if_neg hv]
  unfold rLn1
  dsimp only
  rw [← o2]
  dsimp only
  rw [if_pos hu]
  rfl
theorem rLi_two0 (o1 : (v, S1) = rE t n 6 S0) (hv : ¬ (v.toInt = 0)) (o2 : (u, S2) = rTk t n 63 S1) (hu : ¬ (u.toInt = 0)) (o3 : (v2, S3) = rE t n 6 S2) (hA : A1 = A.set nl.toNatClampNeg S0.2.1) (hY : Y1 = (Y.set nl.toNatClampNeg ((A.set nl.toNatClampNeg S0.2.1).getD nl.toNatClampNeg 0)).set nl.toNatClampNeg S2.2.1) (hv2 : v2.toInt = 0) (hn : nl1 = nl) (hE : E1 = E) (hw : w = 0) : (w, (S3, nl1, A1, Y1, E1)) = rLin t n (S0, nl, A, Y, E) := by
  subst hw; subst hn; subst hA; subst hY; subst hE
  unfold rLin
  dsimp only
  rw [← o1]
  dsimp only
  rw [if_neg hv]
  unfold rLn1
  dsimp only
  rw [← o2]
  dsimp only
  rw [if_neg hu, ← o3]
  unfold rLn2
  dsimp only
  rw [if_pos hv2]
theorem rLi_two1 (o1 : (v, S1) = rE t n 6 S0) (hv : ¬ (v.toInt = 0)) (o2 : (u, S2) = rTk t n 63 S1) (hu : ¬ (u.toInt = 0)) (o3 : (v2, S3) = rE t n 6 S2) (hA : A1 = A.set nl.toNatClampNeg S0.2.1) (hY : Y1 = (Y.set nl.toNatClampNeg ((A.set nl.toNatClampNeg S0.2.1).getD nl.toNatClampNeg 0)).set nl.toNatClampNeg S2.2.1) (hv2 : ¬ (v2.toInt = 0)) (hE : E1 = E.set nl.toNatClampNeg S3.2.1) (hn : nl1 = nl + 1) (hw : w = 1) : (w, (S3, nl1, A1, Y1, E1)) = rLin t n (S0, nl, A, Y, E) := by
  subst hw; subst hn; subst hA; subst hY; subst hE
  unfold rLin
  dsimp only
  rw [← o1]
  dsimp only
  rw [if_neg hv]
  unfold rLn1
  dsimp only
  rw [← o2]
  dsimp only
  rw [if_neg hu, ← o3]
  unfold rLn2
  dsimp only
  rw [if_neg hv2]
def rGl (t : List Int32) (n : Int32) (X R : Int32 × rL) : Prop := ∃ k : Nat, (n.toInt - X.2.1.1.toInt).toNat ≤ k ∧ rLpL t n k X = R
theorem rGl_begin {X : Int32 × rL} {L : List Int32} (o1 : X = rLin t n ((0, 0, L), 0, A, Y, E)) (h0 : 0 ≤ X.2.1.1.toInt) : rGl t n X (rTxt t n L A Y E) := by
  refine ⟨n.toInt.toNat, by omega, ?_⟩
  unfold rTxt
  rw [o1]
theorem rGl_again {Z : rL} {X2 R : Int32 × rL} {g : Int32} (h : rGl t n (g, Z) R) (hg : ¬ (g.toInt = 0)) (o1 : (u, S1) = rTk t n 59 Z.1) (hu : ¬ (u.toInt = 0)) (hp : Z.1.1.toInt < n.toInt) (o2 : X2 = rLin t n (S1, Z.2)) (hq : Z.1.1.toInt < X2.2.1.1.toInt) : rGl t n X2 R := by
  obtain ⟨k, hk, e⟩ := h
  have hk : (n.toInt - Z.1.1.toInt).toNat ≤ k := hk
  cases k with
  | zero => omega
  | succ k =>
    refine ⟨k, by omega, ?_⟩
    unfold rLpL at e
    dsimp only at e
    rw [if_neg hg, ← o1] at e
    dsimp only at e
    rw [if_neg hu] at e
    rw [o2]
    exact e
theorem rGl_end {Z : rL} {R : Int32 × rL} {g : Int32} (h : rGl t n (g, Z) R) (hg : g.toInt = 0) : (g, Z) = R := by
  obtain ⟨k, hk, e⟩ := h
  cases k with
  | zero => exact e
  | succ k =>
    unfold rLpL at e
    dsimp only at e
    rw [if_pos hg] at e
    exact e
theorem rGl_out {Z : rL} {R : Int32 × rL} {g : Int32} (h : rGl t n (g, Z) R) (hg : ¬ (g.toInt = 0)) (o1 : (u, S1) = rTk t n 59 Z.1) (hu : u.toInt = 0) : (g, (S1, Z.2)) = R := by
  obtain ⟨k, hk, e⟩ := h
  cases k with
  | zero => rw [rTk_no o1 hu]; exact e
  | succ k =>
    unfold rLpL at e
    dsimp only at e
    rw [if_neg hg, ← o1] at e
    dsimp only at e
    rw [if_pos hu] at e
    exact e
theorem kCp_from {L0 L1 L : List Int32} {m : Nat} (e : L1 = L0) (h : kCp L1 L m) : kCp L0 L m := by subst e; exact h
end RLG
