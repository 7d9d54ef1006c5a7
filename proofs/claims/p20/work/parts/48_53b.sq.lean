/-! what is said of payments of the class, by parts -/
theorem cY_pos {y d : Int32} (h : y.toInt = 8) : d = (if y.toInt = 8 then d else y) := (if_pos h).symm
theorem cY_neg {y d : Int32} (h : ¬ (y.toInt = 8)) : y = (if y.toInt = 8 then d else y) := (if_neg h).symm
theorem cG_t {c : Int32} {T : kCt} {u : Nat} (h : (T.2.1.getD 0 0).toInt = (u : Int)) : (T.2.2.2.2.2.2.2 u).set c.toNatClampNeg ((T.2.2.2.2.2.2.2 u).getD c.toNatClampNeg 0 + cCoin T) = (cGive c T).2.2.2.2.2.2.2 u := by
  have t := Int32.toNat_toInt (T.2.1.getD 0 0)
  unfold cGive
  dsimp only
  rw [show Nat.beq u (T.2.1.getD 0 0).toNatClampNeg = true from (show (T.2.1.getD 0 0).toNatClampNeg = u by omega) ▸ Nat.beq_refl _]
  rfl
theorem cG_f {c : Int32} {T : kCt} {u : Nat} (h0 : 0 ≤ (T.2.1.getD 0 0).toInt) (h : (T.2.1.getD 0 0).toInt ≠ (u : Int)) : T.2.2.2.2.2.2.2 u = (cGive c T).2.2.2.2.2.2.2 u := by
  have t := Int32.toNat_toInt (T.2.1.getD 0 0)
  unfold cGive
  dsimp only
  cases eb : Nat.beq u (T.2.1.getD 0 0).toNatClampNeg with
  | true => exact absurd (Nat.eq_of_beq_eq_true eb) (by omega)
  | false => rfl
theorem kj_big {u : Nat} {x : Int} (hu : 8 ≤ u) (h : x < 8) : x ≠ (u : Int) := by omega
theorem cT_1 {p : Nat} {i : Nat → Int32} {a : Nat → List Int32} {T : kCt} (h : cT p i a = T) : i (64 * (p + 6) + 2) = T.1 ∧ a (p + 7) = T.2.1 ∧ a (p + 8) = T.2.2.1 ∧ a (p + 1) = T.2.2.2.1 ∧ i (64 * p + 14) = T.2.2.2.2.1 ∧ i (64 * p + 15) = T.2.2.2.2.2.1 ∧ a (p + 13) = T.2.2.2.2.2.2.1 ∧ ∀ u : Nat, u < 8 → a (p + 15 + u) = T.2.2.2.2.2.2.2 u := by
  subst h
  exact ⟨rfl, rfl, rfl, rfl, rfl, rfl, rfl, fun u hu => (cRow_lt hu).symm⟩
