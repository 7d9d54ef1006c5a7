/-! DRAWN, PURELY: the draws, a market drawn, all of them; as the class sums, as the reference does -/
section DW
variable {K : gK} {n n1 dk one x1 x3 z z1 s v w L T k k1 u1 u2 cm : Int32} {m : Nat} {P P1 : Int32 × gS} {B R S S1 : gS} {N : List Int32} {A : Int32}
/-! both alike: what lacks is one sum, or each one's -/
def dRl (A : Int32) (S S1 : kSt) : Prop := S.1 = S1.1 ∧ S.2.2.2.1 = S1.2.2.2.1 + A
def dRg (A : Int32) (S S1 : gS) : Prop := S.1 = S1.1 ∧ S.2.2.2.2.1 = S1.2.2.2.2.1 + A
theorem dR_ac (a b c : Int32) : a + b + c = a + c + b := by rw [Int32.add_assoc, Int32.add_comm b c, ← Int32.add_assoc]
theorem sPay_rl {c : Int32} {S S1 : kSt} (h : dRl A S S1) : dRl A (sPay c S) (sPay c S1) := by
  obtain ⟨M, p, d, la, F⟩ := S
  obtain ⟨M1, p1, d1, la1, F1⟩ := S1
  obtain ⟨h1, h2⟩ := h
  dsimp only at h1 h2
  subst h1
  subst h2
  unfold sPay dRl
  dsimp only
  by_cases e : (M.getD 19 0).toInt = c.toInt
  · rw [if_pos e, if_pos e]
    exact ⟨rfl, rfl⟩
  · rw [if_neg e, if_neg e]
    exact ⟨rfl, dR_ac _ _ _⟩
theorem sPaid_rl {t3 c : Int32} : ∀ (n : Nat) {S S1 : kSt}, dRl A S S1 → dRl A (sPaid t3 c n S) (sPaid t3 c n S1)
  | 0, _, _, h => h
  | n + 1, S, S1, h => by
    unfold sPaid
    rw [show S.1 = S1.1 from h.1]
    by_cases e : t3.toInt ≤ (S1.1.getD 18 0).toInt
    · rw [if_pos e, if_pos e]
      exact sPaid_rl n (sPay_rl h)
    · rw [if_neg e, if_neg e]
      exact h
theorem gCo_rl {c : Int32} {Q Q1 : kSt} (h : dRl A Q Q1) : dRg A (gCo K c N Q) (gCo K c N Q1) := by
  refine ⟨?_, h.2⟩
  show sCome c (gBy K N Q.1 c) Q.1 = sCome c (gBy K N Q1.1 c) Q1.1
  rw [h.1]
theorem gIn_rl {c : Int32} (h : dRg A S S1) : dRg A (gIn K c S) (gIn K c S1) := by
  obtain ⟨M, p, d, b, la, F⟩ := S
  obtain ⟨M1, p1, d1, b1, la1, F1⟩ := S1
  obtain ⟨h1, h2⟩ := h
  dsimp only at h1 h2
  subst h1
  have e : dRl A (gPaid K.1 c M la F) (gPaid K.1 c M la1 F1) := sPaid_rl (t3 := K.1) (c := c) (M.getD 18 0).toInt.toNat (S := (M, 8, 0, la, F)) (S1 := (M, 8, 0, la1, F1)) ⟨rfl, h2⟩
  unfold gIn
  dsimp only
  by_cases g : (K.2.2.2.2.getD (16 + c).toNatClampNeg 0).toInt = 1 ∧ K.2.1.toInt = 0
  · rw [if_pos g, if_pos g]
    exact ⟨rfl, h2⟩
  · rw [if_neg g, if_neg g]
    exact gCo_rl e
end DW

