/-! AN EVENING, PURELY -/
def sZ : Nat → List Int32 → List Int32
  | 0, M => M
  | n + 1, M => (sZ n M).set (9 + n) 0
def sEnds (N : List Int32) : List Int32 := sZ 9 (N.set (8 : Int32).toNatClampNeg (sMn 99 (N.getD (8 : Int32).toNatClampNeg 0 + 1)))
theorem sZ_zero {z : Int32} (B : List Int32) (h : z.toInt = 9) : B = sZ (z.toInt - 9).toNat B := by rw [h]; rfl
theorem sZ_step {M M1 B : List Int32} {x x1 : Int32} (h : M = sZ (x.toInt - 9).toNat B) (h9 : 9 ≤ x.toInt) (h1 : x1.toInt = x.toInt + 1) (e : M1 = M.set x.toNatClampNeg 0) : M1 = sZ (x1.toInt - 9).toNat B := by
  have tx := Int32.toNat_toInt x
  rw [show (x1.toInt - 9).toNat = (x.toInt - 9).toNat + 1 by omega]
  unfold sZ
  rw [← h, e, show x.toNatClampNeg = 9 + (x.toInt - 9).toNat by omega]
theorem sZ_end {M B : List Int32} {x : Int32} (h : M = sZ (x.toInt - 9).toNat B) (hx : x.toInt = 18) : M = sZ 9 B := by rw [hx] at h; exact h
def kZr (l : List Int32) (x : Int) : Prop := ∀ j : Nat, (j : Int) < x → l.getD j 0 = 0
theorem kZr_zero {l : List Int32} {z : Int32} (h : z.toInt = 0) : kZr l z.toInt := fun j hj => by omega
theorem kZr_step {l l1 : List Int32} {x x1 : Int32} {n : Nat} (h : kZr l x.toInt) (hl : l.length = n) (h0 : 0 ≤ x.toInt) (hn : x.toInt < (n : Int)) (h1 : x1.toInt = x.toInt + 1) (e : l1 = l.set x.toNatClampNeg 0) : kZr l1 x1.toInt := by
  have tx := Int32.toNat_toInt x
  subst e
  intro j hj
  rw [kset_gI (by omega)]
  by_cases c : j = x.toNatClampNeg
  · rw [if_pos c]
  · rw [if_neg c]; exact h j (by omega)
theorem kZr_end {l : List Int32} {x : Int} {n : Nat} (h : kZr l x) (hl : l.length = n) (hx : (n : Int) ≤ x) : l = List.replicate n 0 := by
  refine List.ext_getElem (by rw [hl, List.length_replicate]) (fun j h1 h2 => ?_)
  have := h j (by omega)
  rw [List.getD_eq_getElem?_getD, List.getElem?_eq_getElem h1] at this
  rw [List.getElem_replicate]
  exact this
