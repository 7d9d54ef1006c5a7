/-! lists copied, moved, laid back -/
theorem kShf_eq {l0 l : List Int32} {x : Int32} (h : kShf l0 l x.toInt.toNat) (hx : x.toInt = 156) (h0 : l0.length = 160) (hl : l.length = 160) : l = rShf l0 := by
  have hr := (rShf_g h0 0 (by omega)).2
  refine List.ext_getElem (hl.trans hr.symm) (fun j h1 h2 => ?_)
  have e : l.getD j 0 = (rShf l0).getD j 0 := by
    rw [show x.toInt.toNat = 156 by omega] at h
    by_cases c : j < 156
    · rw [h.1 j c, (rShf_g h0 j c).1]
    · rw [h.2 j (by omega)]
      unfold rShf
      rw [List.getD_eq_getElem?_getD, List.getD_eq_getElem?_getD, List.getElem?_append_right (by rw [List.length_drop]; omega), List.getElem?_drop, List.length_drop, show 156 + (j - (l0.length - 4)) = j by omega]
  rw [List.getD_eq_getElem?_getD, List.getD_eq_getElem?_getD, List.getElem?_eq_getElem h1, List.getElem?_eq_getElem h2] at e
  exact e
theorem kListn {l m : List Int32} {n : Nat} (hl : l.length = n) (hm : m.length = n) (h : ∀ j : Nat, j < n → l.getD j 0 = m.getD j 0) : l = m := by
  refine List.ext_getElem (hl.trans hm.symm) (fun j h1 h2 => ?_)
  have := h j (by omega)
  rw [List.getD_eq_getElem?_getD, List.getD_eq_getElem?_getD, List.getElem?_eq_getElem h1, List.getElem?_eq_getElem h2] at this
  exact this
def kPre (L S : List Int32) (x : Int) : Prop := ∀ j : Nat, (j : Int) < x → L.getD j 0 = S.getD j 0
theorem kPre_zero {L S : List Int32} {z : Int32} (h : z.toInt = 0) : kPre L S z.toInt := fun j hj => by omega
theorem kPre_step {L0 L1 S S1 : List Int32} {n : Nat} {x x1 : Int32} (h : kPre L0 S x.toInt) (hl : L0.length = n) (h0 : 0 ≤ x.toInt) (hn : x.toInt < (n : Int)) (h1 : x1.toInt = x.toInt + 1) (es : S1 = S) (e : L1 = L0.set x.toNatClampNeg (S1.getD x.toNatClampNeg 0)) : kPre L1 S x1.toInt := by
  have tx := Int32.toNat_toInt x
  subst es
  subst e
  intro j hj
  rw [kset_gI (by omega)]
  by_cases c : j = x.toNatClampNeg
  · rw [if_pos c, c]
  · rw [if_neg c]; exact h j (by omega)
theorem kPre_end {L S : List Int32} {x : Int} {n : Nat} (h : kPre L S x) (hl : L.length = n) (hs : S.length = n) (hx : (n : Int) ≤ x) : L = S := kListn hl hs (fun j hj => h j (by omega))
/-- laid back: all but what came since b buyers -/
def rSince (b : Int32) (j : Nat) : Prop := ((j : Int) < 8 ∧ b.toInt ≤ (j : Int)) ∨ (10 + b.toInt ≤ (j : Int) ∧ (j : Int) < 18)
def kBk (b : Int32) (L N S : List Int32) (x : Int) : Prop := ∀ j : Nat, L.getD j 0 = (bif (decide ((j : Int) < x) && !(decide ((j : Int) < 8 ∧ b.toInt ≤ (j : Int)) || decide (10 + b.toInt ≤ (j : Int) ∧ (j : Int) < 18))) then S.getD j 0 else N.getD j 0)
theorem kBk_no {b : Int32} {L N S : List Int32} {x : Int} (h : kBk b L N S x) (j : Nat) (hj : x ≤ (j : Int) ∨ rSince b j) : L.getD j 0 = N.getD j 0 := by
  rw [h j]
  have e : (decide ((j : Int) < x) && !(decide ((j : Int) < 8 ∧ b.toInt ≤ (j : Int)) || decide (10 + b.toInt ≤ (j : Int) ∧ (j : Int) < 18))) = false := by
    rcases hj with hj | hj | hj
    · rw [decide_eq_false (by omega)]; rfl
    · rw [decide_eq_true hj, Bool.true_or, Bool.not_true, Bool.and_false]
    · rw [decide_eq_true hj, Bool.or_true, Bool.not_true, Bool.and_false]
  rw [e]
  rfl
theorem kBk_yes {b : Int32} {L N S : List Int32} {x : Int} (h : kBk b L N S x) (j : Nat) (hj : (j : Int) < x) (hs : ¬ rSince b j) : L.getD j 0 = S.getD j 0 := by
  rw [h j]
  unfold rSince at hs
  rw [decide_eq_true hj, decide_eq_false (fun z => hs (Or.inl z)), decide_eq_false (fun z => hs (Or.inr z))]
  rfl
theorem kBk_of {b : Int32} {L N S : List Int32} {x : Int} (h1 : ∀ j : Nat, (x ≤ (j : Int) ∨ rSince b j) → L.getD j 0 = N.getD j 0) (h2 : ∀ j : Nat, (j : Int) < x → ¬ rSince b j → L.getD j 0 = S.getD j 0) : kBk b L N S x := by
  intro j
  by_cases c1 : (j : Int) < x
  · by_cases c2 : (j : Int) < 8 ∧ b.toInt ≤ (j : Int)
    · rw [h1 j (Or.inr (Or.inl c2)), decide_eq_true c2, Bool.true_or, Bool.not_true, Bool.and_false]
      rfl
    · by_cases c3 : 10 + b.toInt ≤ (j : Int) ∧ (j : Int) < 18
      · rw [h1 j (Or.inr (Or.inr c3)), decide_eq_true c3, Bool.or_true, Bool.not_true, Bool.and_false]
        rfl
      · rw [h2 j c1 (fun z => by rcases z with z | z; exact c2 z; exact c3 z), decide_eq_true c1, decide_eq_false c2, decide_eq_false c3]
        rfl
  · rw [h1 j (Or.inl (by omega)), decide_eq_false c1]
    rfl
theorem kBk_zero {b : Int32} {L N S : List Int32} {z : Int32} (e : L = N) (h : z.toInt = 0) : kBk b L N S z.toInt := kBk_of (fun j _ => by rw [e]) (fun j hj => by omega)
theorem kBk_skip {b : Int32} {L0 L1 N S : List Int32} {x x1 : Int32} (h : kBk b L0 N S x.toInt) (h0 : 0 ≤ x.toInt) (hs : (x.toInt < 8 ∧ b.toInt ≤ x.toInt) ∨ (10 + b.toInt ≤ x.toInt ∧ x.toInt < 18)) (h1 : x1.toInt = x.toInt + 1) (e : L1 = L0) : kBk b L1 N S x1.toInt := by
  subst e
  refine kBk_of (fun j hj => kBk_no h j (hj.imp (fun z => by omega) (fun z => z))) (fun j hj hn => ?_)
  by_cases c : (j : Int) < x.toInt
  · exact kBk_yes h j c hn
  · refine absurd ?_ hn
    unfold rSince
    rw [show (j : Int) = x.toInt by omega]
    exact hs
theorem kBk_step {b : Int32} {L0 L1 N S S1 : List Int32} {x x1 : Int32} (h : kBk b L0 N S x.toInt) (hl : L0.length = 31) (h0 : 0 ≤ x.toInt) (hn : x.toInt < 31) (hs : ¬ ((x.toInt < 8 ∧ b.toInt ≤ x.toInt) ∨ (10 + b.toInt ≤ x.toInt ∧ x.toInt < 18))) (h1 : x1.toInt = x.toInt + 1) (es : S1 = S) (e : L1 = L0.set x.toNatClampNeg (S1.getD x.toNatClampNeg 0)) : kBk b L1 N S x1.toInt := by
  have tx := Int32.toNat_toInt x
  subst es
  subst e
  refine kBk_of (fun j hj => ?_) (fun j hj hm => ?_)
  · rw [kset_gI (by omega), if_neg (fun z => ?_)]
    · exact kBk_no h j (hj.imp (fun z => by omega) (fun z => z))
    · rcases hj with hj | hj
      · omega
      · unfold rSince at hj
        rw [show (j : Int) = x.toInt by omega] at hj
        exact hs hj
  · rw [kset_gI (by omega)]
    by_cases c : j = x.toNatClampNeg
    · rw [if_pos c, c]
    · rw [if_neg c]; exact kBk_yes h j (by omega) hm
def rBk (b : Int32) (N S : List Int32) : List Int32 := (List.range 31).map (fun j : Nat => bif (decide ((j : Int) < 8 ∧ b.toInt ≤ (j : Int)) || decide (10 + b.toInt ≤ (j : Int) ∧ (j : Int) < 18)) then N.getD j 0 else S.getD j 0)
theorem rBk_len {b : Int32} {N S : List Int32} : (rBk b N S).length = 31 := by unfold rBk; rw [List.length_map, List.length_range]
theorem rBk_g {b : Int32} {N S : List Int32} {j : Nat} (hj : j < 31) : (rSince b j → (rBk b N S).getD j 0 = N.getD j 0) ∧ (¬ rSince b j → (rBk b N S).getD j 0 = S.getD j 0) := by
  have e : (rBk b N S).getD j 0 = bif (decide ((j : Int) < 8 ∧ b.toInt ≤ (j : Int)) || decide (10 + b.toInt ≤ (j : Int) ∧ (j : Int) < 18)) then N.getD j 0 else S.getD j 0 := by
    unfold rBk
    rw [List.getD_eq_getElem?_getD, List.getElem?_map, List.getElem?_range hj]
    rfl
  rw [e]
  constructor
  · rintro (h | h)
    · rw [decide_eq_true h, Bool.true_or]; rfl
    · rw [decide_eq_true h, Bool.or_true]; rfl
  · intro h
    unfold rSince at h
    rw [decide_eq_false (fun z => h (Or.inl z)), decide_eq_false (fun z => h (Or.inr z))]
    rfl
theorem kBk_end {b : Int32} {L N S : List Int32} {x : Int} (h : kBk b L N S x) (hl : L.length = 31) (hx : 31 ≤ x) : L = rBk b N S := kListn hl rBk_len (fun j hj => by
  by_cases c : rSince b j
  · rw [kBk_no h j (Or.inr c), (rBk_g hj).1 c]
  · rw [kBk_yes h j (by omega) c, (rBk_g hj).2 c])
