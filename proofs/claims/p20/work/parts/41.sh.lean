/-! THE SHELVES: what the class and the reference hold -/
def kVw (i : Nat → Int32) (q : Nat → List Int64) (t : Nat) : Int32 × Int32 × Int32 × Int32 × List Int64 := (i (6656 + 128 * t), i (6657 + 128 * t), i (6658 + 128 * t), i (6659 + 128 * t), q (105 + 2 * t))
theorem kVw_eq {i i1 : Nat → Int32} {q q1 : Nat → List Int64} {t : Nat} (a : i1 (6656 + 128 * t) = i (6656 + 128 * t)) (b : i1 (6657 + 128 * t) = i (6657 + 128 * t)) (c : i1 (6658 + 128 * t) = i (6658 + 128 * t)) (d : i1 (6659 + 128 * t) = i (6659 + 128 * t)) (e : q1 (105 + 2 * t) = q (105 + 2 * t)) : kVw i1 q1 t = kVw i q t := by
  unfold kVw
  rw [a, b, c, d, e]
def kOth (i : Nat → Int32) (q : Nat → List Int64) (i1 : Nat → Int32) (q1 : Nat → List Int64) (s : Int) : Prop := ∀ t : Nat, t < 6 → (t : Int) ≠ s → kVw i1 q1 t = kVw i q t
def kNar (sort : Int32) (v : Int64) : Int64 := if sort.toInt = 0 then v.toInt32.toInt8.toInt32.toInt64 else if sort.toInt = 1 then v.toInt32.toInt16.toInt32.toInt64 else if sort.toInt = 2 then v.toInt32.toInt64 else if sort.toInt = 3 then v else if v.toInt = 0 then 0 else 1
/-- one SHELF of the class beside one of the reference -/
def kSh1 (t : Nat) (i : Nat → Int32) (a : Nat → List Int32) (q : Nat → List Int64) : Prop :=
  ((i (6656 + 128 * t)).toInt = 0 → ((a 136).getD t 0).toInt = -1) ∧ ((i (6656 + 128 * t)).toInt = 1 → ((a 136).getD t 0).toInt = 10 + (i (6657 + 128 * t)).toInt ∧ 0 ≤ (i (6657 + 128 * t)).toInt) ∧ ((i (6656 + 128 * t)).toInt = 2 → ((a 136).getD t 0).toInt = (i (6658 + 128 * t)).toInt ∧ ((a 137).getD t 0).toInt = (i (6659 + 128 * t)).toInt ∧ ∀ j : Nat, (j : Int) < (i (6659 + 128 * t)).toInt → (q (105 + 2 * t)).getD j 0 = (q 138).getD (60 * t + j) 0)
def kShel (i : Nat → Int32) (a : Nat → List Int32) (q : Nat → List Int64) : Prop := ∀ t : Nat, t < 6 → kSh1 t i a q
theorem kSh1_of {t : Nat} {i i1 : Nat → Int32} {a a1 : Nat → List Int32} {q q1 : Nat → List Int64} (h : kSh1 t i a q) (e : kVw i1 q1 t = kVw i q t) (e1 : (a1 136).getD t 0 = (a 136).getD t 0) (e2 : (a1 137).getD t 0 = (a 137).getD t 0) (e3 : ∀ j : Nat, j < 60 → (q1 138).getD (60 * t + j) 0 = (q 138).getD (60 * t + j) 0) (hl : (i (6659 + 128 * t)).toInt ≤ 60) : kSh1 t i1 a1 q1 := by
  unfold kVw at e
  have f1 := congrArg (fun z => z.1) e
  have f2 := congrArg (fun z => z.2.1) e
  have f3 := congrArg (fun z => z.2.2.1) e
  have f4 := congrArg (fun z => z.2.2.2.1) e
  have f5 := congrArg (fun z => z.2.2.2.2) e
  dsimp only at f1 f2 f3 f4 f5
  unfold kSh1
  rw [f1, f2, f3, f4, f5, e1, e2]
  refine ⟨h.1, h.2.1, fun z => ?_⟩
  obtain ⟨x, y, w⟩ := h.2.2 z
  refine ⟨x, y, fun j hj => ?_⟩
  rw [e3 j (by omega)]
  exact w j hj
/-- noughts, from the place b on, n of them -/
def kZer (l : List Int64) (b n : Nat) : Prop := ∀ j : Nat, j < n → l.getD (b + j) 0 = 0
theorem kset_getL {l : List Int64} {j m : Nat} {x : Int64} (h : j < l.length) : (l.set j x).getD m 0 = if m = j then x else l.getD m 0 := by
  by_cases e : m = j
  · subst e
    rw [if_pos rfl, List.getD_eq_getElem?_getD, List.getElem?_set_self h]
    rfl
  · rw [if_neg e, List.getD_eq_getElem?_getD, List.getElem?_set_ne (fun z => e z.symm), ← List.getD_eq_getElem?_getD]
theorem kZer_start {l : List Int64} {b : Nat} {z : Int32} (hz : z.toInt = 0) : kZer l b z.toInt.toNat := by
  rw [hz]
  exact fun j h => absurd h (Nat.not_lt_zero _)
theorem kZer_step {l l1 : List Int64} {b n : Nat} {x x1 y : Int32} (h : kZer l b x.toInt.toNat) (hl : l.length = n) (h0 : 0 ≤ x.toInt) (hy : y.toInt = (b : Int) + x.toInt) (hn : y.toInt < (n : Int)) (hx : x1.toInt = x.toInt + 1) (e : l1 = l.set y.toNatClampNeg 0) : kZer l1 b x1.toInt.toNat := by
  have t := Int32.toNat_toInt y
  subst e
  intro j hj
  rw [kset_getL (by omega)]
  by_cases z : b + j = y.toNatClampNeg
  · rw [if_pos z]
  · rw [if_neg z]; exact h j (by omega)
theorem kZer_cast {l l1 : List Int64} {b n n1 : Nat} (h : kZer l b n) (e : l1 = l) (hn : n1 ≤ n) : kZer l1 b n1 := by subst e; exact fun j hj => h j (by omega)
/-- but for those from b on, m of them, all as before -/
def kFar (l0 l : List Int64) (b m : Nat) : Prop := ∀ j : Nat, ¬ (b ≤ j ∧ j < b + m) → l.getD j 0 = l0.getD j 0
theorem kFar_start {l0 l : List Int64} {b m : Nat} (e : l = l0) : kFar l0 l b m := by subst e; exact fun _ _ => rfl
theorem kFar_step {l0 l l1 : List Int64} {b m n : Nat} {y : Int32} {v : Int64} (h : kFar l0 l b m) (hl : l.length = n) (h0 : (b : Int) ≤ y.toInt) (h1 : y.toInt < (b : Int) + (m : Int)) (hn : y.toInt < (n : Int)) (e : l1 = l.set y.toNatClampNeg v) : kFar l0 l1 b m := by
  have t := Int32.toNat_toInt y
  subst e
  intro j hj
  rw [kset_getL (by omega), if_neg (by omega)]
  exact h j hj
theorem kNar_0 {s : Int32} {v : Int64} (h : s.toInt = 0) : kNar s v = v.toInt32.toInt8.toInt32.toInt64 := if_pos h
theorem kNar_1 {s : Int32} {v : Int64} (h : s.toInt = 1) : kNar s v = v.toInt32.toInt16.toInt32.toInt64 := by unfold kNar; rw [if_neg (by omega), if_pos h]
theorem kNar_2 {s : Int32} {v : Int64} (h : s.toInt = 2) : kNar s v = v.toInt32.toInt64 := by unfold kNar; rw [if_neg (by omega), if_neg (by omega), if_pos h]
theorem kNar_3 {s : Int32} {v : Int64} (h : s.toInt = 3) : kNar s v = v := by unfold kNar; rw [if_neg (by omega), if_neg (by omega), if_neg (by omega), if_pos h]
theorem kNar_n {s : Int32} {v : Int64} (h0 : s.toInt ≠ 0) (h1 : s.toInt ≠ 1) (h2 : s.toInt ≠ 2) (h3 : s.toInt ≠ 3) (hv : v.toInt = 0) : kNar s v = 0 := by unfold kNar; rw [if_neg h0, if_neg h1, if_neg h2, if_neg h3, if_pos hv]
theorem kNar_p {s : Int32} {v : Int64} (h0 : s.toInt ≠ 0) (h1 : s.toInt ≠ 1) (h2 : s.toInt ≠ 2) (h3 : s.toInt ≠ 3) (hv : v.toInt ≠ 0) : kNar s v = 1 := by unfold kNar; rw [if_neg h0, if_neg h1, if_neg h2, if_neg h3, if_neg hv]
theorem kj_at {t s : Nat} {x : Int} (ht : (t : Int) = x) (hx : x = (s : Int)) : t = s := by omega
theorem kset_o {l l1 o : List Int32} {j : Nat} {v : Int32} (e : l1 = l.set j v) (eo : l = o) : l1 = o.set j v := by subst eo; exact e
theorem kj_60 {x : Int} (h : 60 ≤ x) : 60 ≤ x.toNat := by omega

