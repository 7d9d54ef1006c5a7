/-! THE SMALLEST RING: rows of steps of the class, the reference's flat row; who gains most -/
def kWr (p : Nat) (a : Nat → List Int32) (n : Int) (f : Nat → Nat → Int) : Prop := ∀ r c : Nat, r < 8 → c < 8 → 8 * (r : Int) + c < n → ((a (p + r)).getD c 0).toInt = f r c
def kWz (p : Nat) (a : Nat → List Int32) (n : Int) (f g : Nat → Nat → Int) : Prop := ∀ r c : Nat, r < 8 → c < 8 → ((a (p + r)).getD c 0).toInt = if 8 * (r : Int) + c < n then f r c else g r c
def kVr (L : List Int32) (n : Int) (f : Nat → Nat → Int) : Prop := ∀ r c : Nat, r < 8 → c < 8 → 8 * (r : Int) + c < n → (L.getD (8 * r + c) 0).toInt = f r c
def kVs (L : List Int32) (n : Int) (f g : Nat → Nat → Int) : Prop := ∀ r c : Nat, r < 8 → c < 8 → (L.getD (8 * r + c) 0).toInt = if 8 * (r : Int) + c < n then f r c else g r c
def rLst (F : Int) (D : Nat → Nat → Int) : Nat → Int
  | 0 => F
  | c + 1 => if D c c < rLst F D c then D c c else rLst F D c
def eF (Z : List Int32) (a b : Nat) : Bool := decide (a ≠ b ∧ 0 < (Z.getD (8 * a + b) 0).toInt)
def fRg (Z : List Int32) (v : Int32) : Prop := ∃ F : Int, 30 ≤ F ∧ v.toInt = if rLst F (wAll F (eF Z) 8) 8 < F then rLst F (wAll F (eF Z) 8) 8 else -2
def gGn (D : Nat → Int) : Nat → Nat
  | 0 => 0
  | n + 1 => if n = 0 ∨ D (gGn D n) < D n then n else gGn D n
def dGn (P N : List Int32) (j : Nat) : Int := (P.getD j 0 - N.getD j 0).toInt
section FX
variable {p m : Nat} {a a1 : Nat → List Int32} {n n1 : Int} {f f1 g d : Nat → Nat → Int} {L L1 Z : List Int32} {x x1 y y1 z s v w : Int32} {k : Nat} {F : Int}
theorem kWr_le (h : kWr p a n f) (e : n1 ≤ n) : kWr p a n1 f := fun r c hr hc hp => h r c hr hc (by omega)
theorem kWr_0 (h : n ≤ 0) : kWr p a n f := fun r c _ _ hp => by omega
theorem kWr_set (h : kWr p a (8 * x.toInt + y.toInt) f) (hx : x.toInt = (m : Int)) (m8 : m < 8) (y0 : 0 ≤ y.toInt) (y8 : y.toInt < 8) (l : (a (p + m)).length = 8) (e : a1 (p + m) = (a (p + m)).set y.toNatClampNeg v) (o : ∀ k, k ≠ p + m → a1 k = a k) (hv : v.toInt = f m y.toInt.toNat) (hy : y1.toInt = y.toInt + 1) : kWr p a1 (8 * x.toInt + y1.toInt) f := by
  have ty := Int32.toNat_toInt y
  intro r c hr hc hp
  by_cases q : r = m
  · subst q
    rw [e, kset_gI (by omega)]
    by_cases z : c = y.toNatClampNeg
    · rw [if_pos z, hv, show y.toInt.toNat = c by omega]
    · rw [if_neg z]
      exact h r c hr hc (by omega)
  · rw [o (p + r) (by omega)]
    exact h r c hr hc (by omega)
theorem kWz_of (h : kWr p a n g) (hn : 64 ≤ n) (e : n1 = 0) : kWz p a n1 f g := fun r c hr hc => by
  rw [if_neg (by omega)]
  exact h r c hr hc (by omega)
theorem kWz_eq (h : kWz p a n f g) (e : n1 = n) : kWz p a n1 f g := by
  subst e
  exact h
theorem kWz_nx (h : kWz p a n f g) (hn : 64 ≤ n) (e : n1 = 0) : kWz p a n1 f1 f := fun r c hr hc => by
  rw [if_neg (by omega), h r c hr hc, if_pos (by omega)]
theorem kWz_x (h : kWz p a n f g) {r c : Nat} (hr : r < 8) (hc : c < 8) (q : n ≤ 8 * (r : Int) + c) : ((a (p + r)).getD c 0).toInt = g r c := by
  rw [h r c hr hc, if_neg (by omega)]
theorem kWz_k (h : kWz p a n f g) {r c : Nat} (hr : r < 8) (hc : c < 8) (q : f r c = g r c) : ((a (p + r)).getD c 0).toInt = g r c := by
  rw [h r c hr hc, q]
  by_cases z : 8 * (r : Int) + c < n
  · rw [if_pos z]
  · rw [if_neg z]
theorem kWz_set (h : kWz p a (8 * x.toInt + y.toInt) f g) (hx : x.toInt = (m : Int)) (m8 : m < 8) (y0 : 0 ≤ y.toInt) (y8 : y.toInt < 8) (l : (a (p + m)).length = 8) (e : a1 (p + m) = (a (p + m)).set y.toNatClampNeg v) (o : ∀ k, k ≠ p + m → a1 k = a k) (hv : v.toInt = f m y.toInt.toNat) (hy : y1.toInt = y.toInt + 1) : kWz p a1 (8 * x.toInt + y1.toInt) f g := by
  have ty := Int32.toNat_toInt y
  intro r c hr hc
  by_cases q : r = m
  · subst q
    rw [e, kset_gI (by omega)]
    by_cases z : c = y.toNatClampNeg
    · rw [if_pos z, if_pos (by omega), hv, show y.toInt.toNat = c by omega]
    · rw [if_neg z, h r c hr hc]
      by_cases t : 8 * (r : Int) + c < 8 * x.toInt + y.toInt
      · rw [if_pos t, if_pos (by omega)]
      · rw [if_neg t, if_neg (by omega)]
  · rw [o (p + r) (by omega), h r c hr hc]
    by_cases t : 8 * (r : Int) + c < 8 * x.toInt + y.toInt
    · rw [if_pos t, if_pos (by omega)]
    · rw [if_neg t, if_neg (by omega)]
theorem kVr_0 (h : n ≤ 0) : kVr L n f := fun r c _ _ hp => by omega
theorem kVr_set (h : kVr L y.toInt f) (l : L.length = 64) (y0 : 0 ≤ y.toInt) (y8 : y.toInt < 64) (e : L1 = L.set y.toNatClampNeg v) (hv : v.toInt = f (y.toInt.toNat / 8) (y.toInt.toNat % 8)) (hy : y1.toInt = y.toInt + 1) : kVr L1 y1.toInt f := by
  have ty := Int32.toNat_toInt y
  subst e
  intro r c hr hc hp
  rw [kset_gI (by omega)]
  by_cases z : 8 * r + c = y.toNatClampNeg
  · rw [if_pos z, hv, show y.toInt.toNat / 8 = r by omega, show y.toInt.toNat % 8 = c by omega]
  · rw [if_neg z]
    exact h r c hr hc (by omega)
theorem kVs_of (h : kVr L n g) (hn : 64 ≤ n) (e : n1 = 0) : kVs L n1 f g := fun r c hr hc => by
  rw [if_neg (by omega)]
  exact h r c hr hc (by omega)
theorem kVs_nx (h : kVs L n f g) (hn : 64 ≤ n) (e : n1 = 0) : kVs L n1 f1 f := fun r c hr hc => by
  rw [if_neg (by omega), h r c hr hc, if_pos (by omega)]
theorem kVs_c (h : kVs L n f g) (e : L1 = L) (e1 : n1 = n) : kVs L1 n1 f g := by
  subst e
  subst e1
  exact h
theorem kVs_x (h : kVs L n f g) {r c : Nat} (hr : r < 8) (hc : c < 8) (q : n ≤ 8 * (r : Int) + c) : (L.getD (8 * r + c) 0).toInt = g r c := by
  rw [h r c hr hc, if_neg (by omega)]
theorem kVs_k (h : kVs L n f g) {r c : Nat} (hr : r < 8) (hc : c < 8) (q : f r c = g r c) : (L.getD (8 * r + c) 0).toInt = g r c := by
  rw [h r c hr hc, q]
  by_cases z : 8 * (r : Int) + c < n
  · rw [if_pos z]
  · rw [if_neg z]
theorem kVs_set (h : kVs L y.toInt f g) (l : L.length = 64) (y0 : 0 ≤ y.toInt) (y8 : y.toInt < 64) (e : L1 = L.set y.toNatClampNeg v) (hv : v.toInt = f (y.toInt.toNat / 8) (y.toInt.toNat % 8)) (hy : y1.toInt = y.toInt + 1) : kVs L1 y1.toInt f g := by
  have ty := Int32.toNat_toInt y
  subst e
  intro r c hr hc
  rw [kset_gI (by omega)]
  by_cases z : 8 * r + c = y.toNatClampNeg
  · rw [if_pos z, if_pos (by omega), hv, show y.toInt.toNat / 8 = r by omega, show y.toInt.toNat % 8 = c by omega]
  · rw [if_neg z, h r c hr hc]
    by_cases t : 8 * (r : Int) + c < y.toInt
    · rw [if_pos t, if_pos (by omega)]
    · rw [if_neg t, if_neg (by omega)]
/-- the lesser of the way as it is and the way over k -/
theorem wSt_v {A B : Nat} (ex : x.toInt = d A B) (ey : y.toInt = d A k) (ez : z.toInt = d k B) (es : s.toInt = y.toInt + z.toInt) (hv : (v.toInt ≤ x.toInt ∧ v.toInt ≤ s.toInt) ∧ (v.toInt = x.toInt ∨ v.toInt = s.toInt)) : v.toInt = wSt k d A B := by
  rcases wSt_cases d k A B with q | q <;> omega
theorem rLst_up {D : Nat → Nat → Int} {c c1 : Int32} (h : v.toInt = rLst F D c.toInt.toNat) (h0 : 0 ≤ c.toInt) (h1 : c1.toInt = c.toInt + 1) (ew : w.toInt = D c.toInt.toNat c.toInt.toNat) (hz : (z.toInt ≤ v.toInt ∧ z.toInt ≤ w.toInt) ∧ (z.toInt = v.toInt ∨ z.toInt = w.toInt)) : z.toInt = rLst F D c1.toInt.toNat := by
  rw [show c1.toInt.toNat = c.toInt.toNat + 1 by omega]
  show z.toInt = if D c.toInt.toNat c.toInt.toNat < rLst F D c.toInt.toNat then D c.toInt.toNat c.toInt.toNat else rLst F D c.toInt.toNat
  by_cases q : D c.toInt.toNat c.toInt.toNat < rLst F D c.toInt.toNat
  · rw [if_pos q]
    omega
  · rw [if_neg q]
    omega
theorem rLst_two {F1 : Int} {E : Nat → Nat → Bool} (hF : 30 ≤ F) (hF1 : 30 ≤ F1) : ∀ c : Nat, (rLst F (wAll F E 8) c = rLst F1 (wAll F1 E 8) c ∧ rLst F (wAll F E 8) c ≤ 9) ∨ (rLst F (wAll F E 8) c = F ∧ rLst F1 (wAll F1 E 8) c = F1)
  | 0 => Or.inr ⟨rfl, rfl⟩
  | c + 1 => by
    have i1 := rLst_two hF hF1 c (E := E)
    have i2 := wTwo (E := E) hF hF1 8 (Nat.le_refl _) c c
    show ((if wAll F E 8 c c < rLst F (wAll F E 8) c then wAll F E 8 c c else rLst F (wAll F E 8) c) = (if wAll F1 E 8 c c < rLst F1 (wAll F1 E 8) c then wAll F1 E 8 c c else rLst F1 (wAll F1 E 8) c) ∧ (if wAll F E 8 c c < rLst F (wAll F E 8) c then wAll F E 8 c c else rLst F (wAll F E 8) c) ≤ 9) ∨ ((if wAll F E 8 c c < rLst F (wAll F E 8) c then wAll F E 8 c c else rLst F (wAll F E 8) c) = F ∧ (if wAll F1 E 8 c c < rLst F1 (wAll F1 E 8) c then wAll F1 E 8 c c else rLst F1 (wAll F1 E 8) c) = F1)
    by_cases q : wAll F E 8 c c < rLst F (wAll F E 8) c
    · by_cases q1 : wAll F1 E 8 c c < rLst F1 (wAll F1 E 8) c
      · rw [if_pos q, if_pos q1]
        omega
      · rw [if_pos q, if_neg q1]
        omega
    · by_cases q1 : wAll F1 E 8 c c < rLst F1 (wAll F1 E 8) c
      · rw [if_neg q, if_pos q1]
        omega
      · rw [if_neg q, if_neg q1]
        omega
theorem fRg_same {u1 u2 : Int32} (h : fRg Z u1) (h1 : fRg Z u2) : u1 = u2 := by
  obtain ⟨F, f0, e⟩ := h
  obtain ⟨F1, f1, e1⟩ := h1
  refine kj_v ?_
  rw [e, e1]
  rcases rLst_two (E := eF Z) f0 f1 8 with ⟨q, q1⟩ | ⟨q, q1⟩
  · rw [if_pos (by omega), if_pos (by omega), q]
  · rw [if_neg (by omega), if_neg (by omega)]
theorem gGn_up {D : Nat → Int} {c c1 w1 : Int32} (h : w.toInt = ((gGn D c.toInt.toNat : Nat) : Int)) (h0 : 0 ≤ c.toInt) (h1 : c1.toInt = c.toInt + 1) (hz : c.toInt = 0 ∨ D (gGn D c.toInt.toNat) < D c.toInt.toNat) (e : w1.toInt = c.toInt) : w1.toInt = ((gGn D c1.toInt.toNat : Nat) : Int) := by
  rw [show c1.toInt.toNat = c.toInt.toNat + 1 by omega]
  unfold gGn
  rw [if_pos (by omega)]
  omega
theorem gGn_no {D : Nat → Int} {c c1 w1 : Int32} (h : w.toInt = ((gGn D c.toInt.toNat : Nat) : Int)) (h0 : 1 ≤ c.toInt) (h1 : c1.toInt = c.toInt + 1) (hz : D c.toInt.toNat ≤ D (gGn D c.toInt.toNat)) (e : w1.toInt = w.toInt) : w1.toInt = ((gGn D c1.toInt.toNat : Nat) : Int) := by
  rw [show c1.toInt.toNat = c.toInt.toNat + 1 by omega]
  unfold gGn
  rw [if_neg (by omega)]
  omega
end FX

