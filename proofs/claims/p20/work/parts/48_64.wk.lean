/-! THE LAW OF THE REFERENCE AT WORK, PURELY -/
def rBoth (k x y : Int32) : Int32 :=
  if k.toInt = 6 then (if x.toInt ≠ 0 ∨ y.toInt ≠ 0 then 1 else 0)
  else if k.toInt = 7 then (if x.toInt ≠ 0 ∧ y.toInt ≠ 0 then 1 else 0)
  else if k.toInt = 8 then (if x.toInt < y.toInt then 1 else 0)
  else if k.toInt = 9 then (if x.toInt = y.toInt then 1 else 0)
  else if k.toInt = 10 then (if y.toInt < x.toInt then 1 else 0)
  else if k.toInt = 11 then x + y
  else if k.toInt = 12 then x - y
  else if k.toInt = 13 then x * y
  else if k.toInt = 14 then (if y.toInt = 0 then 0 else x / y)
  else (if y.toInt = 0 then 0 else x - x / y * y)
def wOp (nm : List Int32) (c : Int32) (s : List Int32) : List Int32 :=
  if 18 ≤ c.toInt ∨ c.toInt ≤ 5 then s ++ [if 18 ≤ c.toInt then c - 18 else nm.getD c.toNatClampNeg 0]
  else if c.toInt = 16 ∨ c.toInt = 17 then s.set (s.length - 1) (if c.toInt = 17 then -(s.getD (s.length - 1) 0) else if (s.getD (s.length - 1) 0).toInt = 0 then 1 else 0)
  else (s.set (s.length - 2) (rBoth c (s.getD (s.length - 2) 0) (s.getD (s.length - 1) 0))).take (s.length - 1)
/-- the stack behind n steps from f on -/
def wRun (L nm : List Int32) (f : Nat) : Nat → List Int32
  | 0 => []
  | n + 1 => wOp nm (L.getD (f + n) 0) (wRun L nm f n)
def wVal (L nm : List Int32) (x y : Int32) : Int32 := (wRun L nm x.toInt.toNat (y.toInt - x.toInt).toNat).getD 0 0
/-- what the lines from j on say -/
def wLaw (as sy en L nm : List Int32) : Nat → Nat → Int32
  | 0, _ => 0
  | n + 1, j => if (as.getD j 0).toInt < (sy.getD j 0).toInt ∧ (wVal L nm (as.getD j 0) (sy.getD j 0)).toInt = 0 then wLaw as sy en L nm n (j + 1) else wVal L nm (sy.getD j 0) (en.getD j 0)
def rBuyV (told lv w h o : Int32) : Int32 := sMx 0 (sMn 99 (if told.toInt = 0 then 5 * w + h - 2 * o else lv))
theorem wS_start {st L nm : List Int32} {x : Int32} {z : Int32} (hz : z.toInt = 0) : st.take z.toInt.toNat = wRun L nm x.toInt.toNat (x.toInt - x.toInt).toNat := by
  rw [hz, Int.sub_self]
  rfl
theorem wTake {st : List Int32} {k : Nat} {v : Int32} (h : k < st.length) : (st.set k v).take (k + 1) = st.take k ++ [v] := by
  rw [List.take_succ, List.take_set, List.getElem?_set_self h, List.set_eq_of_length_le (by rw [List.length_take]; omega)]
  rfl
theorem wGet {st : List Int32} {k n : Nat} (h : k < n) : (st.take n).getD k 0 = st.getD k 0 := by
  rw [List.getD_eq_getElem?_getD, List.getElem?_take_of_lt h, ← List.getD_eq_getElem?_getD]
section WS
variable {st st1 L nm : List Int32} {f : Int32} {x x1 top top1 c v : Int32}
theorem wS_push (h : st.take top.toInt.toNat = wRun L nm f.toInt.toNat (x.toInt - f.toInt).toNat) (hl : st.length = 200) (h0 : 0 ≤ top.toInt) (h1 : top.toInt < 200) (hf : 0 ≤ f.toInt) (hx : f.toInt ≤ x.toInt) (hc : c = L.getD x.toNatClampNeg 0) (hk : 18 ≤ c.toInt ∨ c.toInt ≤ 5) (hv : v = if 18 ≤ c.toInt then c - 18 else nm.getD c.toNatClampNeg 0) (e : st1 = st.set top.toNatClampNeg v) (ht : top1.toInt = top.toInt + 1) (hx1 : x1.toInt = x.toInt + 1) : st1.take top1.toInt.toNat = wRun L nm f.toInt.toNat (x1.toInt - f.toInt).toNat := by
  have tt := Int32.toNat_toInt top
  have tx := Int32.toNat_toInt x
  rw [show (x1.toInt - f.toInt).toNat = (x.toInt - f.toInt).toNat + 1 by omega]
  unfold wRun
  rw [show f.toInt.toNat + (x.toInt - f.toInt).toNat = x.toNatClampNeg by omega, ← hc, ← h]
  unfold wOp
  rw [if_pos hk, ← hv, e, show top1.toInt.toNat = top.toNatClampNeg + 1 by omega, wTake (by omega), tt]
theorem wS_un {y : Int32} (h : st.take top.toInt.toNat = wRun L nm f.toInt.toNat (x.toInt - f.toInt).toNat) (hl : st.length = 200) (h0 : 1 ≤ top.toInt) (h1 : top.toInt ≤ 200) (hf : 0 ≤ f.toInt) (hx : f.toInt ≤ x.toInt) (hc : c = L.getD x.toNatClampNeg 0) (hk : c.toInt = 16 ∨ c.toInt = 17) (hy : y.toInt = top.toInt - 1) (hv : v = if c.toInt = 17 then -(st.getD y.toNatClampNeg 0) else if (st.getD y.toNatClampNeg 0).toInt = 0 then 1 else 0) (e : st1 = st.set y.toNatClampNeg v) (ht : top1.toInt = top.toInt) (hx1 : x1.toInt = x.toInt + 1) : st1.take top1.toInt.toNat = wRun L nm f.toInt.toNat (x1.toInt - f.toInt).toNat := by
  have tt := Int32.toNat_toInt top
  have tx := Int32.toNat_toInt x
  have ty := Int32.toNat_toInt y
  have hlen : (st.take top.toInt.toNat).length = top.toInt.toNat := by rw [List.length_take]; omega
  rw [show (x1.toInt - f.toInt).toNat = (x.toInt - f.toInt).toNat + 1 by omega]
  unfold wRun
  rw [show f.toInt.toNat + (x.toInt - f.toInt).toNat = x.toNatClampNeg by omega, ← hc, ← h]
  unfold wOp
  rw [if_neg (by omega), if_pos hk, hlen, show top.toInt.toNat - 1 = y.toNatClampNeg by omega, wGet (by omega), ← hv, e, ht, List.take_set]
theorem wS_bin {y z : Int32} (h : st.take top.toInt.toNat = wRun L nm f.toInt.toNat (x.toInt - f.toInt).toNat) (hl : st.length = 200) (h0 : 2 ≤ top.toInt) (h1 : top.toInt ≤ 200) (hf : 0 ≤ f.toInt) (hx : f.toInt ≤ x.toInt) (hc : c = L.getD x.toNatClampNeg 0) (hk : 6 ≤ c.toInt) (hk2 : c.toInt ≤ 15) (hy : y.toInt = top.toInt - 2) (hz : z.toInt = top.toInt - 1) (hv : v = rBoth c (st.getD y.toNatClampNeg 0) (st.getD z.toNatClampNeg 0)) (e : st1 = st.set y.toNatClampNeg v) (ht : top1.toInt = top.toInt - 1) (hx1 : x1.toInt = x.toInt + 1) : st1.take top1.toInt.toNat = wRun L nm f.toInt.toNat (x1.toInt - f.toInt).toNat := by
  have tt := Int32.toNat_toInt top
  have tx := Int32.toNat_toInt x
  have ty := Int32.toNat_toInt y
  have tz := Int32.toNat_toInt z
  have hlen : (st.take top.toInt.toNat).length = top.toInt.toNat := by rw [List.length_take]; omega
  rw [show (x1.toInt - f.toInt).toNat = (x.toInt - f.toInt).toNat + 1 by omega]
  unfold wRun
  rw [show f.toInt.toNat + (x.toInt - f.toInt).toNat = x.toNatClampNeg by omega, ← hc, ← h]
  unfold wOp
  rw [if_neg (by omega), if_neg (by omega), hlen, show top.toInt.toNat - 2 = y.toNatClampNeg by omega, show top.toInt.toNat - 1 = z.toNatClampNeg by omega, wGet (by omega), wGet (by omega), ← hv, ← List.take_set, List.take_take, e, show min z.toNatClampNeg top.toInt.toNat = top1.toInt.toNat by omega]
theorem wS_end {y : Int32} (h : st.take top.toInt.toNat = wRun L nm f.toInt.toNat (x.toInt - f.toInt).toNat) (h1 : 1 ≤ top.toInt) (hy : y.toInt = x.toInt) : st.getD 0 0 = wVal L nm f y := by
  unfold wVal
  rw [hy, ← h, wGet (by omega)]
end WS
theorem kWk_end {L : List Int32} {f t i top : Int} (hs : kSeg L f t) (hw : kWk L f i top) (hi : i = t) : top = 1 := by
  subst hi
  have a := hs.2.2.2
  have b := hw.2.2
  rw [a] at b
  have := Option.some.inj b
  have := hw.1
  omega
theorem wLaw_skip {as sy en L nm : List Int32} {n m : Nat} {j : Nat} {R : Int32} (h : wLaw as sy en L nm m j = R) (hm : m = n + 1) (h1 : (as.getD j 0).toInt < (sy.getD j 0).toInt) (h2 : (wVal L nm (as.getD j 0) (sy.getD j 0)).toInt = 0) : wLaw as sy en L nm n (j + 1) = R := by
  subst hm
  unfold wLaw at h
  rw [if_pos ⟨h1, h2⟩] at h
  exact h
theorem wLaw_say {as sy en L nm : List Int32} {n m : Nat} {j : Nat} {R : Int32} (h : wLaw as sy en L nm m j = R) (hm : m = n + 1) (h1 : ¬ ((as.getD j 0).toInt < (sy.getD j 0).toInt ∧ (wVal L nm (as.getD j 0) (sy.getD j 0)).toInt = 0)) : wVal L nm (sy.getD j 0) (en.getD j 0) = R := by
  subst hm
  unfold wLaw at h
  rw [if_neg h1] at h
  exact h
theorem kNam5 {l : List Int32} {a c d e f : Int32} (h : l.length = 6) : (((((l.set (0 : Int32).toNatClampNeg a).set (2 : Int32).toNatClampNeg c).set (3 : Int32).toNatClampNeg d).set (4 : Int32).toNatClampNeg e).set (5 : Int32).toNatClampNeg f) = [a, l.getD 1 0, c, d, e, f] := by
  match l, h with
  | [_, _, _, _, _, _], _ => rfl
theorem kj_lines {n x : Int} (h : x < n) (h0 : 0 ≤ x) : (n - x).toNat = (n - (x + 1)).toNat + 1 := by omega
section BLN
variable {as as1 sy sy1 sy2 en en1 L nm : List Int32} {x x1 v v0 n R : Int32}
theorem bl_next (h : wLaw as sy en L nm (n.toInt - x.toInt).toNat x.toInt.toNat = R) (hm : (n.toInt - x.toInt).toNat = (n.toInt - (x.toInt + 1)).toNat + 1) (h0 : 0 ≤ x.toInt) (h1 : x1.toInt = x.toInt + 1) (ea : as1 = as) (es : sy1 = sy) (hlt : (as1.getD x.toNatClampNeg 0).toInt < (sy1.getD x.toNatClampNeg 0).toInt) (hv : v = wVal L nm (as1.getD x.toNatClampNeg 0) (sy1.getD x.toNatClampNeg 0)) (hz : v.toInt = 0) (_ : True = True) : wLaw as sy en L nm (n.toInt - x1.toInt).toNat x1.toInt.toNat = R := by
  have tx := Int32.toNat_toInt x
  subst ea
  subst es
  subst hv
  rw [h1, show (x.toInt + 1).toNat = x.toInt.toNat + 1 by omega]
  exact wLaw_skip h hm (by rw [tx]; exact hlt) (by rw [tx]; exact hz)
theorem bl_none (h : wLaw as sy en L nm (n.toInt - x.toInt).toNat x.toInt.toNat = R) (hx : n.toInt ≤ x.toInt) : R = 0 := by
  rw [show (n.toInt - x.toInt).toNat = 0 by omega] at h
  exact h.symm
theorem bl_say0 (h : wLaw as sy en L nm (n.toInt - x.toInt).toNat x.toInt.toNat = R) (hm : (n.toInt - x.toInt).toNat = (n.toInt - (x.toInt + 1)).toNat + 1) (h0 : 0 ≤ x.toInt) (ea : as1 = as) (es : sy1 = sy) (hge : (sy1.getD x.toNatClampNeg 0).toInt ≤ (as1.getD x.toNatClampNeg 0).toInt) (es2 : sy2 = sy) (ee : en1 = en) (hv : v = wVal L nm (sy2.getD x.toNatClampNeg 0) (en1.getD x.toNatClampNeg 0)) : R = v := by
  have tx := Int32.toNat_toInt x
  subst ea
  subst es
  subst es2
  subst ee
  rw [hv, ← tx]
  exact (wLaw_say h hm (by rw [tx]; omega)).symm
theorem bl_say1 (h : wLaw as sy en L nm (n.toInt - x.toInt).toNat x.toInt.toNat = R) (hm : (n.toInt - x.toInt).toNat = (n.toInt - (x.toInt + 1)).toNat + 1) (h0 : 0 ≤ x.toInt) (ea : as1 = as) (es : sy1 = sy) (hv0 : v0 = wVal L nm (as1.getD x.toNatClampNeg 0) (sy1.getD x.toNatClampNeg 0)) (hz : v0.toInt ≠ 0) (es2 : sy2 = sy) (ee : en1 = en) (hv : v = wVal L nm (sy2.getD x.toNatClampNeg 0) (en1.getD x.toNatClampNeg 0)) : R = v := by
  have tx := Int32.toNat_toInt x
  subst ea
  subst es
  subst es2
  subst ee
  subst hv0
  rw [hv, ← tx]
  exact (wLaw_say h hm (by rw [tx]; exact fun z => hz z.2)).symm
end BLN
theorem kSet1 {l : List Int32} {x : Int32} (h : l.length = 6) : (l.set (1 : Int32).toNatClampNeg x).getD 1 0 = x := by
  match l, h with
  | [_, _, _, _, _, _], _ => rfl
