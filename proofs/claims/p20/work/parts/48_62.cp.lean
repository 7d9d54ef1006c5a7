/-! LISTS COPIED ONE BY ONE -/
def kCopd (L S : List Int32) (b : Nat) (x : Int) : Prop := ∀ j : Nat, (j : Int) < x → L.getD (b + j) 0 = S.getD j 0
def kCopb (L S : List Int32) (b : Nat) (x : Int) : Prop := ∀ j : Nat, (j : Int) < x → L.getD j 0 = S.getD (b + j) 0
theorem kCopd_zero {L S : List Int32} {b : Nat} {z : Int32} (h : z.toInt = 0) : kCopd L S b z.toInt := fun j hj => by omega
theorem kCopb_zero {L S : List Int32} {b : Nat} {z : Int32} (h : z.toInt = 0) : kCopb L S b z.toInt := fun j hj => by omega
theorem kCopd_step {L0 L1 L2 S S1 : List Int32} {b n : Nat} {x x1 y z : Int32} (h : kCopd L0 S b x.toInt) (hl : L0.length = n) (h0 : 0 ≤ x.toInt) (h31 : x.toInt < 31) (hy : y.toInt = ((b : Nat) : Int) + x.toInt) (hz : z.toInt = x.toInt) (hn : y.toInt < (n : Int)) (h1 : x1.toInt = x.toInt + 1) (es : S1 = S) (e : L1 = L0.set y.toNatClampNeg (S1.getD z.toNatClampNeg 0)) (e2 : L2 = L1) : kCopd L2 S b x1.toInt := by
  have ty := Int32.toNat_toInt y
  have tz := Int32.toNat_toInt z
  subst e2
  subst es
  subst e
  intro j hj
  rw [kset_gI (by omega)]
  by_cases c : b + j = y.toNatClampNeg
  · rw [if_pos c, show z.toNatClampNeg = j by omega]
  · rw [if_neg c]; exact h j (by omega)
theorem kCopb_step {L0 L1 L2 S S1 : List Int32} {b n : Nat} {x x1 y z : Int32} (h : kCopb L0 S b x.toInt) (hl : L0.length = n) (h0 : 0 ≤ x.toInt) (h31 : x.toInt < 31) (hy : y.toInt = ((b : Nat) : Int) + x.toInt) (hz : z.toInt = x.toInt) (hn : z.toInt < (n : Int)) (h1 : x1.toInt = x.toInt + 1) (es : S1 = S) (e : L1 = L0.set z.toNatClampNeg (S1.getD y.toNatClampNeg 0)) (e2 : L2 = L1) : kCopb L2 S b x1.toInt := by
  have ty := Int32.toNat_toInt y
  have tz := Int32.toNat_toInt z
  subst e2
  subst es
  subst e
  intro j hj
  rw [kset_gI (by omega)]
  by_cases c : j = z.toNatClampNeg
  · rw [if_pos c, show y.toNatClampNeg = b + j by omega]
  · rw [if_neg c]; exact h j (by omega)
theorem kList31 {l m : List Int32} (hl : l.length = 31) (hm : m.length = 31) (h : ∀ j : Nat, j < 31 → l.getD j 0 = m.getD j 0) : l = m := by
  refine List.ext_getElem (hl.trans hm.symm) (fun j h1 h2 => ?_)
  have := h j (by omega)
  rw [List.getD_eq_getElem?_getD, List.getD_eq_getElem?_getD, List.getElem?_eq_getElem h1, List.getElem?_eq_getElem h2] at this
  exact this
theorem kCopd_end {L S : List Int32} {x : Int} (h : kCopd L S 0 x) (hl : L.length = 31) (hs : S.length = 31) (hx : 31 ≤ x) : L = S := kList31 hl hs (fun j hj => by have := h j (by omega); rw [Nat.zero_add] at this; exact this)
theorem kCopb_end {L S : List Int32} {x : Int} (h : kCopb L S 0 x) (hl : L.length = 31) (hs : S.length = 31) (hx : 31 ≤ x) : L = S := kList31 hl hs (fun j hj => by have := h j (by omega); rw [Nat.zero_add] at this; exact this)
