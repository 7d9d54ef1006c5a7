/-! THE LAW AT WORK, PURELY: the class's steps with a stack -/
def lPush (s : List Int32 × Int32) (v : Int32) : List Int32 × Int32 := if s.2.toInt ≤ 120 then (s.1.set s.2.toNatClampNeg v, s.2 + 1) else s
def lPop (s : List Int32 × Int32) : Int32 × (List Int32 × Int32) := if 1 ≤ s.2.toInt then (s.1.getD (s.2 - 1).toNatClampNeg 0, (s.1, s.2 - 1)) else (0, s)
def cJoin (k x y : Int32) : Int32 :=
  if k.toInt = 124 then (if x.toInt ≠ 0 ∨ y.toInt ≠ 0 then 1 else 0)
  else if k.toInt = 38 then (if x.toInt ≠ 0 ∧ y.toInt ≠ 0 then 1 else 0)
  else if k.toInt = 60 then (if x.toInt < y.toInt then 1 else 0)
  else if k.toInt = 61 then (if x.toInt = y.toInt then 1 else 0)
  else if k.toInt = 62 then (if y.toInt < x.toInt then 1 else 0)
  else if k.toInt = 43 then x + y
  else if k.toInt = 45 then x - y
  else if k.toInt = 42 then x * y
  else if k.toInt = 47 then (if y.toInt = 0 then 0 else x / y)
  else if k.toInt = 37 then (if y.toInt = 0 then 0 else x - x / y * y)
  else 0
/-- what n steps at most answer -/
def lRun (st wi nm : List Int32) (len : Int32) : Nat → Int32 → (List Int32 × Int32) → Int32
  | 0, _, _ => 0
  | n + 1, p, s =>
    if 0 ≤ p.toInt ∧ p.toInt < len.toInt then
      (if (st.getD p.toNatClampNeg 0).toInt = 0 then lRun st wi nm len n (p + 1) (lPush s (wi.getD p.toNatClampNeg 0))
      else if (st.getD p.toNatClampNeg 0).toInt = 1 then lRun st wi nm len n (p + 1) (lPush s (if 0 ≤ (wi.getD p.toNatClampNeg 0).toInt ∧ (wi.getD p.toNatClampNeg 0).toInt < 6 then nm.getD (wi.getD p.toNatClampNeg 0).toNatClampNeg 0 else 0))
      else if (st.getD p.toNatClampNeg 0).toInt = 2 then (lPop s).1
      else if (st.getD p.toNatClampNeg 0).toInt = 3 then lRun st wi nm len n (if (lPop s).1.toInt = 0 then wi.getD p.toNatClampNeg 0 else p + 1) (lPop s).2
      else if (st.getD p.toNatClampNeg 0).toInt = 33 then lRun st wi nm len n (p + 1) (lPush (lPop s).2 (if (lPop s).1.toInt = 0 then 1 else 0))
      else if (st.getD p.toNatClampNeg 0).toInt = 126 then lRun st wi nm len n (p + 1) (lPush (lPop s).2 (-(lPop s).1))
      else lRun st wi nm len n (p + 1) (lPush (lPop (lPop s).2).2 (cJoin (st.getD p.toNatClampNeg 0) (lPop (lPop s).2).1 (lPop s).1)))
    else 0
section LR
variable {st wi nm : List Int32} {len : Int32} {n : Nat} {p : Int32} {s s1 s2 s3 : List Int32 × Int32} {R v w : Int32}
theorem lRun_out (h : lRun st wi nm len n p s = R) (hp : ¬ (0 ≤ p.toInt ∧ p.toInt < len.toInt)) : R = 0 := by
  cases n with
  | zero => exact h.symm
  | succ n =>
    unfold lRun at h
    rw [if_neg hp] at h
    exact h.symm
theorem lRun_end (h : lRun st wi nm len n p s = R) (hn : n = 0) : R = 0 := by
  subst hn
  exact h.symm
theorem lRun_num {m : Nat} (h : lRun st wi nm len m p s = R) (hm : m = n + 1) (hp : 0 ≤ p.toInt ∧ p.toInt < len.toInt) (hk : (st.getD p.toNatClampNeg 0).toInt = 0) (hw : w = wi.getD p.toNatClampNeg 0) (o : s1 = lPush s w) : lRun st wi nm len n (p + 1) s1 = R := by
  subst hm
  unfold lRun at h
  rw [if_pos hp, if_pos hk] at h
  rw [o, hw]
  exact h
theorem lRun_name {m : Nat} (h : lRun st wi nm len m p s = R) (hm : m = n + 1) (hp : 0 ≤ p.toInt ∧ p.toInt < len.toInt) (hk : (st.getD p.toNatClampNeg 0).toInt = 1) (hw : w = if 0 ≤ (wi.getD p.toNatClampNeg 0).toInt ∧ (wi.getD p.toNatClampNeg 0).toInt < 6 then nm.getD (wi.getD p.toNatClampNeg 0).toNatClampNeg 0 else 0) (o : s1 = lPush s w) : lRun st wi nm len n (p + 1) s1 = R := by
  subst hm
  unfold lRun at h
  rw [if_pos hp, if_neg (by omega), if_pos hk] at h
  rw [o, hw]
  exact h
theorem lRun_ans {m : Nat} (h : lRun st wi nm len m p s = R) (hm : m = n + 1) (hp : 0 ≤ p.toInt ∧ p.toInt < len.toInt) (hk : (st.getD p.toNatClampNeg 0).toInt = 2) (o : (v, s1) = lPop s) : v = R := by
  subst hm
  unfold lRun at h
  rw [if_pos hp, if_neg (by omega), if_neg (by omega), if_pos hk, ← o] at h
  exact h
theorem lRun_skip {m : Nat} {p1 : Int32} (h : lRun st wi nm len m p s = R) (hm : m = n + 1) (hp : 0 ≤ p.toInt ∧ p.toInt < len.toInt) (hk : (st.getD p.toNatClampNeg 0).toInt = 3) (o : (v, s1) = lPop s) (h1 : p1 = if v.toInt = 0 then wi.getD p.toNatClampNeg 0 else p + 1) : lRun st wi nm len n p1 s1 = R := by
  subst hm
  unfold lRun at h
  rw [if_pos hp, if_neg (by omega), if_neg (by omega), if_neg (by omega), if_pos hk, ← o] at h
  rw [h1]
  exact h
theorem lRun_not {m : Nat} (h : lRun st wi nm len m p s = R) (hm : m = n + 1) (hp : 0 ≤ p.toInt ∧ p.toInt < len.toInt) (hk : (st.getD p.toNatClampNeg 0).toInt = 33) (o : (v, s1) = lPop s) (hw : w = if v.toInt = 0 then 1 else 0) (o2 : s2 = lPush s1 w) : lRun st wi nm len n (p + 1) s2 = R := by
  subst hm
  unfold lRun at h
  rw [if_pos hp, if_neg (by omega), if_neg (by omega), if_neg (by omega), if_neg (by omega), if_pos hk, ← o] at h
  rw [o2, hw]
  exact h
theorem lRun_neg {m : Nat} (h : lRun st wi nm len m p s = R) (hm : m = n + 1) (hp : 0 ≤ p.toInt ∧ p.toInt < len.toInt) (hk : (st.getD p.toNatClampNeg 0).toInt = 126) (o : (v, s1) = lPop s) (hw : w = -v) (o2 : s2 = lPush s1 w) : lRun st wi nm len n (p + 1) s2 = R := by
  subst hm
  unfold lRun at h
  rw [if_pos hp, if_neg (by omega), if_neg (by omega), if_neg (by omega), if_neg (by omega), if_neg (by omega), if_pos hk, ← o] at h
  rw [o2, hw]
  exact h
theorem lRun_bin {m : Nat} {y : Int32} (h : lRun st wi nm len m p s = R) (hm : m = n + 1) (hp : 0 ≤ p.toInt ∧ p.toInt < len.toInt) (h0 : (st.getD p.toNatClampNeg 0).toInt ≠ 0) (h1 : (st.getD p.toNatClampNeg 0).toInt ≠ 1) (h2 : (st.getD p.toNatClampNeg 0).toInt ≠ 2) (h3 : (st.getD p.toNatClampNeg 0).toInt ≠ 3) (h4 : (st.getD p.toNatClampNeg 0).toInt ≠ 33) (h5 : (st.getD p.toNatClampNeg 0).toInt ≠ 126) (o : (v, s1) = lPop s) (o2 : (y, s2) = lPop s1) (hw : w = cJoin (st.getD p.toNatClampNeg 0) y v) (o3 : s3 = lPush s2 w) : lRun st wi nm len n (p + 1) s3 = R := by
  subst hm
  unfold lRun at h
  rw [if_pos hp, if_neg h0, if_neg h1, if_neg h2, if_neg h3, if_neg h4, if_neg h5, ← o] at h
  dsimp only at h
  rw [← o2] at h
  rw [o3, hw]
  exact h
end LR
theorem kL_cast {l l1 : List Int32} {j : Nat} {c : Int} (e : l1 = l) (h : (l1.getD j 0).toInt = c) : (l.getD j 0).toInt = c := by subst e; exact h
theorem kL_castn {l l1 : List Int32} {j : Nat} {c : Int} (e : l1 = l) (h : (l1.getD j 0).toInt ≠ c) : (l.getD j 0).toInt ≠ c := by subst e; exact h
theorem kj_left {x x1 : Int} (h : x < 121) (e : x1 = x + 1) : (121 - x).toNat = (121 - x1).toNat + 1 := by omega
theorem kj_left2 {x : Int} (h : x < 121) : (121 - x).toNat = (120 - x).toNat + 1 := by omega
theorem kj_none {x : Int} (h : 121 ≤ x) : (121 - x).toNat = 0 := by omega
def cBuyV (told : Int32) (st wi stk : List Int32) (len w pu h c o d : Int32) : Int32 := sMx 0 (sMn 99 (if told.toInt = 0 then 5 * w + h - 2 * o else lRun st wi [w, pu, h, c, o, d] len 121 0 (stk, 0)))
theorem kNames {l : List Int32} {a b c d e f : Int32} (h : l.length = 6) : ((((((l.set (0 : Int32).toNatClampNeg a).set (1 : Int32).toNatClampNeg b).set (2 : Int32).toNatClampNeg c).set (3 : Int32).toNatClampNeg d).set (4 : Int32).toNatClampNeg e).set (5 : Int32).toNatClampNeg f) = [a, b, c, d, e, f] := by
  match l, h with
  | [_, _, _, _, _, _], _ => rfl
