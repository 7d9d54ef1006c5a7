/-! WHAT IS ASKED OF A ROW IN THOUGHT -/
def fMk (K : gK) (S : gS) (x2 x3 v : Int32) (n : Int) (L : List Int32) : Prop := (x3.toInt = 0 → v.toInt = n) ∧ (x3.toInt = 1 → v = (gAt K L S n.toNat).2.2.2.2.1) ∧ (x3.toInt = 2 → v = (gAt K L S n.toNat).1.getD 18 0) ∧ (x3.toInt = 3 → v = (gAt K L S n.toNat).1.getD x2.toNatClampNeg 0)
def fCo (K : gK) (S : gS) (x2 x3 v : Int32) (n : Int) (L : List Int32) : Prop := (n ≤ x2.toInt → v = -2) ∧ (x2.toInt < n → (x3.toInt = 0 → v = (gAt K L S (x2.toInt.toNat + 1)).2.1) ∧ (x3.toInt = 1 → v = (gAt K L S (x2.toInt.toNat + 1)).2.2.1) ∧ (x3.toInt = 2 → v = (gAt K L S (x2.toInt.toNat + 1)).2.2.2.1))
def fFl (K : gK) (S : gS) (x2 v : Int32) (n : Int) (L : List Int32) : Prop := v = (gAt K L S n.toNat).2.2.2.2.2.getD (8 * (x2 / 10) + (x2 - x2 / 10 * 10)).toNatClampNeg 0
/-- n days of the same ROW -/
def gDay (K : gK) (L : List Int32) (m : Nat) (S : gS) : Nat → gS
  | 0 => S
  | k + 1 => gAt K L (if k = 0 then gDay K L m S k else gEve (gDay K L m S k)) m
def fLa (K : gK) (S : gS) (x2 x3 v : Int32) (n : Int) (L : List Int32) : Prop := (x3.toInt = -1 → v = (gDay K L n.toNat S x2.toInt.toNat).2.2.2.2.1) ∧ (x3.toInt ≠ -1 → v = (gDay K L n.toNat S x2.toInt.toNat).1.getD x3.toNatClampNeg 0)
section TV
variable {K : gK} {S S1 : gS} {L L1 A B C : List Int32} {x2 x3 v w : Int32} {n : Int}
theorem gOp_at {m : Int32} (h : gOp K L S m.toInt A B C) (h0 : 0 ≤ x2.toInt) (hm : x2.toInt < m.toInt) : A.getD x2.toNatClampNeg 0 = (gAt K L S (x2.toInt.toNat + 1)).2.1 ∧ B.getD x2.toNatClampNeg 0 = (gAt K L S (x2.toInt.toNat + 1)).2.2.1 ∧ C.getD x2.toNatClampNeg 0 = (gAt K L S (x2.toInt.toNat + 1)).2.2.2.1 := h x2.toInt.toNat (by omega)
theorem fMk_same (hS : gEq S S1) (hn : 0 ≤ n) (hL : ∀ j : Nat, (j : Int) < n → L.getD j 0 = L1.getD j 0) (ok : 0 ≤ x3.toInt ∧ x3.toInt ≤ 3) (h : fMk K S x2 x3 v n L) (h1 : fMk K S1 x2 x3 w n L1) : v = w := by
  obtain ⟨a0, a1, a2, a3⟩ := h
  obtain ⟨b0, b1, b2, b3⟩ := h1
  have e1 := gAt_row (K := K) (S := S1) hL n.toNat (by omega)
  obtain ⟨⟨e2, e3⟩, _⟩ := gAt_eq (K := K) (L := L) hS n.toNat
  have hx : x3.toInt = 0 ∨ x3.toInt = 1 ∨ x3.toInt = 2 ∨ x3.toInt = 3 := by omega
  rcases hx with h | h | h | h
  · exact kj_v ((a0 h).trans (b0 h).symm)
  · rw [a1 h, b1 h, ← e1, e3]
  · rw [a2 h, b2 h, ← e1, e2]
  · rw [a3 h, b3 h, ← e1, e2]
theorem fCo_same (hS : gEq S S1) (hn : 0 ≤ n) (hL : ∀ j : Nat, (j : Int) < n → L.getD j 0 = L1.getD j 0) (h2 : 0 ≤ x2.toInt) (ok : 0 ≤ x3.toInt ∧ x3.toInt ≤ 2) (h : fCo K S x2 x3 v n L) (h1 : fCo K S1 x2 x3 w n L1) : v = w := by
  by_cases c : n ≤ x2.toInt
  · rw [h.1 c, h1.1 c]
  · obtain ⟨a0, a1, a2⟩ := h.2 (by omega)
    obtain ⟨b0, b1, b2⟩ := h1.2 (by omega)
    have e1 := gAt_row (K := K) (S := S1) hL (x2.toInt.toNat + 1) (by omega)
    have e2 := (gAt_eq (K := K) (L := L) hS (x2.toInt.toNat + 1)).2 (by omega)
    have hx : x3.toInt = 0 ∨ x3.toInt = 1 ∨ x3.toInt = 2 := by omega
    rcases hx with h | h | h
    · rw [a0 h, b0 h, ← e1, e2]
    · rw [a1 h, b1 h, ← e1, e2]
    · rw [a2 h, b2 h, ← e1, e2]
theorem fFl_same (hS : gEq S S1) (hn : 0 ≤ n) (hL : ∀ j : Nat, (j : Int) < n → L.getD j 0 = L1.getD j 0) (h : fFl K S x2 v n L) (h1 : fFl K S1 x2 w n L1) : v = w := by
  have e1 := gAt_row (K := K) (S := S1) hL n.toNat (by omega)
  obtain ⟨⟨_, e3⟩, _⟩ := gAt_eq (K := K) (L := L) hS n.toNat
  unfold fFl at h h1
  rw [h, h1, ← e1, e3]
theorem gEve_eq (h : gEq S S1) : gEq (gEve S) (gEve S1) := ⟨congrArg sEnds h.1, h.2⟩
theorem gDay_same (hS : gEq S S1) (hn : 0 ≤ n) (hL : ∀ j : Nat, (j : Int) < n → L.getD j 0 = L1.getD j 0) : ∀ k : Nat, gEq (gDay K L n.toNat S k) (gDay K L1 n.toNat S1 k)
  | 0 => hS
  | k + 1 => by
    unfold gDay
    rw [← gAt_row (K := K) hL n.toNat (by omega)]
    by_cases c : k = 0
    · rw [if_pos c, if_pos c]
      exact (gAt_eq (gDay_same hS hn hL k) n.toNat).1
    · rw [if_neg c, if_neg c]
      exact (gAt_eq (gEve_eq (gDay_same hS hn hL k)) n.toNat).1
theorem fLa_same (hS : gEq S S1) (hn : 0 ≤ n) (hL : ∀ j : Nat, (j : Int) < n → L.getD j 0 = L1.getD j 0) (h : fLa K S x2 x3 v n L) (h1 : fLa K S1 x2 x3 w n L1) : v = w := by
  obtain ⟨e2, e3⟩ := gDay_same (K := K) hS hn hL x2.toInt.toNat
  by_cases c : x3.toInt = -1
  · rw [h.1 c, h1.1 c, e3]
  · rw [h.2 c, h1.2 c, e2]
theorem gDay_0 {k : Int32} {m : Nat} (h : k.toInt = 0) : gDay K L m S k.toInt.toNat = S := by
  rw [h]
  rfl
/-- a day more: the first without an evening ahead -/
theorem gDay_one {T : gS} {k k1 : Int32} {m : Nat} (h : T = gAt K L (gDay K L m S k.toInt.toNat) m) (h0 : k.toInt = 0) (h1 : k1.toInt = k.toInt + 1) : T = gDay K L m S k1.toInt.toNat := by
  rw [h, show k1.toInt.toNat = k.toInt.toNat + 1 by omega]
  conv => rhs; unfold gDay
  rw [if_pos (by omega)]
theorem gDay_more {T : gS} {k k1 : Int32} {m : Nat} (h : T = gAt K L (gEve (gDay K L m S k.toInt.toNat)) m) (h0 : 1 ≤ k.toInt) (h1 : k1.toInt = k.toInt + 1) : T = gDay K L m S k1.toInt.toNat := by
  rw [h, show k1.toInt.toNat = k.toInt.toNat + 1 by omega]
  conv => rhs; unfold gDay
  rw [if_neg (by omega)]
theorem gDay_len {k n : Int32} {m : Nat} (h : k.toInt = n.toInt) : gDay K L m S n.toInt.toNat = gDay K L m S k.toInt.toNat := by rw [h]
end TV
