/-! ELEMENTS MOVED, LATCHES TOLD -/
def kMov (L0 L : List Int64) (bs bd lo hi : Int) : Prop := ∀ j : Nat, L.getD j 0 = if bd + lo ≤ (j : Int) ∧ (j : Int) < bd + hi then L0.getD ((j : Int) - bd + bs).toNat 0 else L0.getD j 0
theorem kMov_start {L0 L : List Int64} {bs bd lo hi : Int} (e : L = L0) (h : hi ≤ lo) : kMov L0 L bs bd lo hi := by
  subst e
  intro j
  rw [if_neg (by omega)]
theorem kMov_cast {L0 L L1 : List Int64} {bs bd lo hi hi1 : Int} (h : kMov L0 L bs bd lo hi) (e : L1 = L) (x : hi = hi1) : kMov L0 L1 bs bd lo hi1 := by
  subst e; subst x; exact h
theorem kMov_cast0 {L0 L L1 : List Int64} {bs bd lo lo1 hi : Int} (h : kMov L0 L bs bd lo hi) (e : L1 = L) (x : lo = lo1) : kMov L0 L1 bs bd lo1 hi := by
  subst e; subst x; exact h
theorem kMov_up {L0 L L1 : List Int64} {bs bd : Int} {k k1 y z : Int32} (h : kMov L0 L bs bd 0 k.toInt) (hl : L.length = 360) (hy : y.toInt = bd + k.toInt) (hz : z.toInt = bs + k.toInt) (y0 : 0 ≤ y.toInt) (y1 : y.toInt < 360) (z0 : 0 ≤ z.toInt) (ap : z.toInt < bd ∨ bd + k.toInt ≤ z.toInt) (hk : 0 ≤ k.toInt) (h1 : k1.toInt = k.toInt + 1) (e : L1 = L.set y.toNatClampNeg (L.getD z.toNatClampNeg 0)) : kMov L0 L1 bs bd 0 k1.toInt := by
  have ty := Int32.toNat_toInt y
  have tz := Int32.toNat_toInt z
  subst e
  intro j
  rw [kset_getL (by omega)]
  by_cases a : j = y.toNatClampNeg
  · rw [if_pos a, if_pos (by omega), h z.toNatClampNeg, if_neg (by omega)]
    have e2 : z.toNatClampNeg = ((j : Int) - bd + bs).toNat := by omega
    rw [e2]
  · rw [if_neg a, h j]
    by_cases b : bd + 0 ≤ (j : Int) ∧ (j : Int) < bd + k.toInt
    · rw [if_pos b, if_pos (by omega)]
    · rw [if_neg b, if_neg (by omega)]
theorem kMov_down {L0 L L1 : List Int64} {bs bd n : Int} {k k1 y z : Int32} (h : kMov L0 L bs bd (k.toInt + 1) n) (hl : L.length = 360) (hy : y.toInt = bd + k.toInt) (hz : z.toInt = bs + k.toInt) (y0 : 0 ≤ y.toInt) (y1 : y.toInt < 360) (z0 : 0 ≤ z.toInt) (ap : z.toInt < bd + k.toInt + 1) (hk : k.toInt < n) (h1 : k1.toInt = k.toInt - 1) (e : L1 = L.set y.toNatClampNeg (L.getD z.toNatClampNeg 0)) : kMov L0 L1 bs bd (k1.toInt + 1) n := by
  have ty := Int32.toNat_toInt y
  have tz := Int32.toNat_toInt z
  subst e
  intro j
  rw [kset_getL (by omega)]
  by_cases a : j = y.toNatClampNeg
  · rw [if_pos a, if_pos (by omega), h z.toNatClampNeg, if_neg (by omega)]
    have e2 : z.toNatClampNeg = ((j : Int) - bd + bs).toNat := by omega
    rw [e2]
  · rw [if_neg a, h j]
    by_cases b : bd + (k.toInt + 1) ≤ (j : Int) ∧ (j : Int) < bd + n
    · rw [if_pos b, if_pos (by omega)]
    · rw [if_neg b, if_neg (by omega)]
theorem kcpy_at {l g : List Int64} {sp dp n : Nat} (j : Nat) (h1 : sp + n ≤ l.length) (h2 : dp + n ≤ g.length) : (mi_cpy l g sp dp n).getD j 0 = if dp ≤ j ∧ j < dp + n then l.getD (sp + (j - dp)) 0 else g.getD j 0 :=
  congrFun (mi_cpy_get (0 : Int64) h1 h2) j
/-- what shift() answers: of the class's SHELVES, of the reference's -/
def kSfV (h1 h3 s1 s3 n1 n3 x2 x4 x5 v : Int32) : Prop := (v.toInt = -11 ∧ (h1.toInt = 0 ∨ h3.toInt = 0)) ∨ (v.toInt = -12 ∧ ¬ (h1.toInt = 0 ∨ h3.toInt = 0) ∧ ¬ (h1.toInt = 2 ∧ h3.toInt = 2 ∧ s1.toInt = s3.toInt)) ∨ (v.toInt = -13 ∧ (h1.toInt = 2 ∧ h3.toInt = 2 ∧ s1.toInt = s3.toInt) ∧ ¬ (0 ≤ x2.toInt ∧ 0 ≤ x4.toInt ∧ 0 ≤ x5.toInt ∧ x2.toInt + x5.toInt ≤ n1.toInt ∧ x4.toInt + x5.toInt ≤ n3.toInt)) ∨ (v = x5 ∧ (h1.toInt = 2 ∧ h3.toInt = 2 ∧ s1.toInt = s3.toInt) ∧ (0 ≤ x2.toInt ∧ 0 ≤ x4.toInt ∧ 0 ≤ x5.toInt ∧ x2.toInt + x5.toInt ≤ n1.toInt ∧ x4.toInt + x5.toInt ≤ n3.toInt))
def kSfR (a b n1 n3 x2 x4 x5 v : Int32) : Prop := (v.toInt = -11 ∧ (a.toInt = -1 ∨ b.toInt = -1)) ∨ (v.toInt = -12 ∧ ¬ (a.toInt = -1 ∨ b.toInt = -1) ∧ ¬ (0 ≤ a.toInt ∧ a.toInt ≤ 4 ∧ 0 ≤ b.toInt ∧ b.toInt ≤ 4 ∧ a.toInt = b.toInt)) ∨ (v.toInt = -13 ∧ (0 ≤ a.toInt ∧ a.toInt ≤ 4 ∧ 0 ≤ b.toInt ∧ b.toInt ≤ 4 ∧ a.toInt = b.toInt) ∧ ¬ (0 ≤ x2.toInt ∧ 0 ≤ x4.toInt ∧ 0 ≤ x5.toInt ∧ x2.toInt + x5.toInt ≤ n1.toInt ∧ x4.toInt + x5.toInt ≤ n3.toInt)) ∨ (v = x5 ∧ (0 ≤ a.toInt ∧ a.toInt ≤ 4 ∧ 0 ≤ b.toInt ∧ b.toInt ≤ 4 ∧ a.toInt = b.toInt) ∧ (0 ≤ x2.toInt ∧ 0 ≤ x4.toInt ∧ 0 ≤ x5.toInt ∧ x2.toInt + x5.toInt ≤ n1.toInt ∧ x4.toInt + x5.toInt ≤ n3.toInt))
theorem kj_no {s t : Nat} {x y : Int} (h : x < 0 ∨ 5 < x ∨ y < 0 ∨ 5 < y) (e1 : (s : Int) = x) (e3 : (t : Int) = y) (hs : s < 6) (ht : t < 6) : False := by omega
theorem kj_neg {v : Int32} {c : Int} (h : v.toInt = c) (hc : c < 0) : ¬ (0 ≤ v.toInt) := by omega
